-- X8_between
def e_X8_between_105 (f_groups : (Nat → Int64)) (f_found : Int32) : Option ((Nat → Int64) × Int32) :=
  some (f_groups, f_found)
def e_X8_between_99 (x1 : Int32) (x4 : Int32) (f_groups : (Nat → Int64)) (f_found : Int32) : Option ((Int32 × (Nat → Int64) × Int32) ⊕ (((Nat → Int64) × Int32))) :=
  some (Sum.inl ((x4 + (1 : Int32)), f_groups, f_found))
def s_X8_between_27 (x1 : Int32) (x4 : Int32) (x5 : Int32) (f_groups : (Nat → Int64)) (f_found : Int32) : Option ((Int32 × (Nat → Int64) × Int32) ⊕ (((Nat → Int64) × Int32))) :=
  (if x1 ≤ x5 then some (Sum.inr (f_groups, f_found)) else ((p_X8_isRest x1 x5).bind fun v36 => (if v36 = 0 then some (Sum.inl ((x5 + (1 : Int32)), f_groups, f_found)) else (if ainB x4 128 = true then ((p_X8_with x1 (f_groups (x4).toNatClampNeg) x5).bind fun v55 => ((p_X8_isFound f_groups f_found v55).bind fun v63 => (if v63 = 0 then (if ainB f_found 128 = true then some (Sum.inl ((x5 + (1 : Int32)), (vp_updL f_groups (f_found).toNatClampNeg v55), (f_found + (1 : Int32)))) else none) else some (Sum.inl ((x5 + (1 : Int32)), f_groups, f_found))))) else none))))
def a_X8_between_27 (x1 : Int32) (x4 : Int32) (b : ((Nat → Int64) × Int32)) : Option ((Int32 × (Nat → Int64) × Int32) ⊕ (((Nat → Int64) × Int32))) := (fun q : ((Nat → Int64) × Int32) => e_X8_between_99 x1 x4 q.1 q.2) b
def g_X8_between_27 (x1 : Int32) (x4 : Int32) (x5 : Int32) (f_groups : (Nat → Int64)) (f_found : Int32) : Option ((Int32 × (Nat → Int64) × Int32) ⊕ (((Nat → Int64) × Int32))) := (lpF (fun q : (Int32 × (Nat → Int64) × Int32) => s_X8_between_27 x1 x4 q.1 q.2.1 q.2.2) pfFU (x5, f_groups, f_found)).bind (a_X8_between_27 x1 x4)
def s_X8_between_15 (x1 : Int32) (x4 : Int32) (f_groups : (Nat → Int64)) (f_found : Int32) : Option ((Int32 × (Nat → Int64) × Int32) ⊕ (((Nat → Int64) × Int32))) :=
  (if f_found ≤ x4 then some (Sum.inr (f_groups, f_found)) else g_X8_between_27 x1 x4 (0 : Int32) f_groups f_found)
def a_X8_between_15  (b : ((Nat → Int64) × Int32)) : Option ((Nat → Int64) × Int32) := (fun q : ((Nat → Int64) × Int32) => e_X8_between_105 q.1 q.2) b
def g_X8_between_15 (x1 : Int32) (x4 : Int32) (f_groups : (Nat → Int64)) (f_found : Int32) : Option ((Nat → Int64) × Int32) := (lpF (fun q : (Int32 × (Nat → Int64) × Int32) => s_X8_between_15 x1 q.1 q.2.1 q.2.2) pfFU (x4, f_groups, f_found)).bind (a_X8_between_15 )
def p_X8_between (f_groups : (Nat → Int64)) (f_found : Int32) (y1 : Int32) (y2 : Int64) : Option ((Nat → Int64) × Int32) :=
  g_X8_between_15 y1 (0 : Int32) (vp_updL f_groups ((0 : Int32)).toNatClampNeg y2) (1 : Int32)
theorem in_X8_between_X8 : ∀ w ∈ u_ws RX8 TX8 10, w ∈ wsX8_between := fun w h => List.mem_cons_of_mem _ (List.mem_append_right _ h)
theorem kv_X8_between : yX8_between.cls = RX8 ∧ yX8_between.cls ≠ "java/lang/invoke/MethodHandle" ∧ yX8_between.cls ≠ "java/lang/invoke/VarHandle" ∧ (parseMethodDescriptor yX8_between.desc).map (fun d => d.parameters.length) = some 2 := by decide +kernel
set_option maxHeartbeats 4000000 in
set_option maxRecDepth 100000 in
theorem c_X8_between (l : Launch) (G : va_G) (cI cJ cZ cS : ClassId) (q q_bar q_bits q_made q_has q_groups q_sums q_numbers : Nat) (sz : Nat) (f_bar : (Nat → Int32)) (f_bits : (Nat → Int64)) (f_made : (Nat → Int32)) (f_has : (Nat → Int32)) (f_groups : (Nat → Int64)) (f_found : Int32) (f_passed : Int32) (f_looked : Int64) (f_sums : (Nat → Int64)) (f_numbers : (Nat → Int64)) (y1 : Int32) (y2 : Int64) (r : ((Nat → Int64) × Int32)) (h : p_X8_between f_groups f_found y1 y2 = some r) : Met l yX8_between wsX8_between { frames := 2, cells := 0, slots := 0, locals := 53 } (hb_pre G (hbT cI cJ cZ cS) [.ref q, .int y1, .long y2] sz [(q, .inr (6, [.ref q_bar, .ref q_bits, .ref q_made, .ref q_has, .ref q_groups, .int f_found, .int f_passed, .long f_looked, .ref q_sums, .ref q_numbers])), (q_bar, .inl (cI, 160, .inl f_bar)), (q_bits, .inl (cJ, 160, .inr (.inl f_bits))), (q_made, .inl (cI, 4, .inl f_made)), (q_has, .inl (cZ, 3, .inl f_has)), (q_groups, .inl (cJ, 128, .inr (.inl f_groups))), (q_sums, .inl (cJ, 8, .inr (.inl f_sums))), (q_numbers, .inl (cJ, 9, .inr (.inl f_numbers)))]) (hb_Qv G [(q, .inr (6, [.ref q_bar, .ref q_bits, .ref q_made, .ref q_has, .ref q_groups, .int r.2, .int f_passed, .long f_looked, .ref q_sums, .ref q_numbers])), (q_bar, .inl (cI, 160, .inl f_bar)), (q_bits, .inl (cJ, 160, .inr (.inl f_bits))), (q_made, .inl (cI, 4, .inl f_made)), (q_has, .inl (cZ, 3, .inl f_has)), (q_groups, .inl (cJ, 128, .inr (.inl r.1))), (q_sums, .inl (cJ, 8, .inr (.inl f_sums))), (q_numbers, .inl (cJ, 9, .inr (.inl f_numbers)))] (va_A [(q, .inr (6, [.ref q_bar, .ref q_bits, .ref q_made, .ref q_has, .ref q_groups, .int f_found, .int f_passed, .long f_looked, .ref q_sums, .ref q_numbers])), (q_bar, .inl (cI, 160, .inl f_bar)), (q_bits, .inl (cJ, 160, .inr (.inl f_bits))), (q_made, .inl (cI, 4, .inl f_made)), (q_has, .inl (cZ, 3, .inl f_has)), (q_groups, .inl (cJ, 128, .inr (.inl f_groups))), (q_sums, .inl (cJ, 8, .inr (.inl f_sums))), (q_numbers, .inl (cJ, 9, .inr (.inl f_numbers)))] sz)) 0 0 (va_A [(q, .inr (6, [.ref q_bar, .ref q_bits, .ref q_made, .ref q_has, .ref q_groups, .int f_found, .int f_passed, .long f_looked, .ref q_sums, .ref q_numbers])), (q_bar, .inl (cI, 160, .inl f_bar)), (q_bits, .inl (cJ, 160, .inr (.inl f_bits))), (q_made, .inl (cI, 4, .inl f_made)), (q_has, .inl (cZ, 3, .inl f_has)), (q_groups, .inl (cJ, 128, .inr (.inl f_groups))), (q_sums, .inl (cJ, 8, .inr (.inl f_sums))), (q_numbers, .inl (cJ, 9, .inr (.inl f_numbers)))] sz) := by
  refine hb_met (Qc := fun A => hb_Qv G [(q, .inr (6, [.ref q_bar, .ref q_bits, .ref q_made, .ref q_has, .ref q_groups, .int r.2, .int f_passed, .long f_looked, .ref q_sums, .ref q_numbers])), (q_bar, .inl (cI, 160, .inl f_bar)), (q_bits, .inl (cJ, 160, .inr (.inl f_bits))), (q_made, .inl (cI, 4, .inl f_made)), (q_has, .inl (cZ, 3, .inl f_has)), (q_groups, .inl (cJ, 128, .inr (.inl r.1))), (q_sums, .inl (cJ, 8, .inr (.inl f_sums))), (q_numbers, .inl (cJ, 9, .inr (.inl f_numbers)))] A) (cc := cX8_between) (maxL := 8) (ret := none) (by decide) rfl (Nat.le_of_ble_eq_true rfl) ?_
  intro p e s m below meth c A hx hb hr hts hown hlocks hml hin hK hA hP hD hS ls hl
  have hown : s.vm.findClass RX8 = some m.cls := hown
  have S0 : CallFix p m c cX8_between 8 s ([.ref q, .int y1, .long y2] : List Value).toArray wsX8_between RX8 := ⟨hx, hb, hml, hown, hts⟩
  have hl : lv_has ls 8 [(0, .ref q), (1, .int y1), (2, .long y2)] := hl
  have K105 : ∀ (f_groups : (Nat → Int64)) (f_found : Int32), e_X8_between_105 f_groups f_found = some r → ∀ (H : Heap) (locs : List Loc), va_P G vwCl [(q, .inr (6, [.ref q_bar, .ref q_bits, .ref q_made, .ref q_has, .ref q_groups, .int f_found, .int f_passed, .long f_looked, .ref q_sums, .ref q_numbers])), (q_bar, .inl (cI, 160, .inl f_bar)), (q_bits, .inl (cJ, 160, .inr (.inl f_bits))), (q_made, .inl (cI, 4, .inl f_made)), (q_has, .inl (cZ, 3, .inl f_has)), (q_groups, .inl (cJ, 128, .inr (.inl f_groups))), (q_sums, .inl (cJ, 8, .inr (.inl f_sums))), (q_numbers, .inl (cJ, 9, .inr (.inl f_numbers)))] H → va_D A [(q, .inr (6, [.ref q_bar, .ref q_bits, .ref q_made, .ref q_has, .ref q_groups, .int f_found, .int f_passed, .long f_looked, .ref q_sums, .ref q_numbers])), (q_bar, .inl (cI, 160, .inl f_bar)), (q_bits, .inl (cJ, 160, .inr (.inl f_bits))), (q_made, .inl (cI, 4, .inl f_made)), (q_has, .inl (cZ, 3, .inl f_has)), (q_groups, .inl (cJ, 128, .inr (.inl f_groups))), (q_sums, .inl (cJ, 8, .inr (.inl f_sums))), (q_numbers, .inl (cJ, 9, .inr (.inl f_numbers)))] → va_S A s.heap H locs → ∀ ls, lv_has ls 8 [] → W p l e (headSpec wsX8_between { frames := 2, cells := 0, slots := 0, locals := 53 }).room s m ([.ref q, .int y1, .long y2] : List Value).toArray below meth c H locs 0 0 (MQ below (hb_Qv G [(q, .inr (6, [.ref q_bar, .ref q_bits, .ref q_made, .ref q_has, .ref q_groups, .int r.2, .int f_passed, .long f_looked, .ref q_sums, .ref q_numbers])), (q_bar, .inl (cI, 160, .inl f_bar)), (q_bits, .inl (cJ, 160, .inr (.inl f_bits))), (q_made, .inl (cI, 4, .inl f_made)), (q_has, .inl (cZ, 3, .inl f_has)), (q_groups, .inl (cJ, 128, .inr (.inl r.1))), (q_sums, .inl (cJ, 8, .inr (.inl f_sums))), (q_numbers, .inl (cJ, 9, .inr (.inl f_numbers)))] A) ([.ref q, .int y1, .long y2] : List Value).toArray s 0 0 A) (F0 m 105 ls []) := by
    intro f_groups f_found h H locs hP hD hS ls hl
    unfold e_X8_between_105 at h
    cases h
    exact hb_vret hx hb hr hlocks hP hD hS dX8_between_105
  have L15 : ∀ (n : Nat) (x1 : Int32) (x4 : Int32) (f_groups : (Nat → Int64)) (f_found : Int32) (b : ((Nat → Int64) × Int32)), lpF (fun q : (Int32 × (Nat → Int64) × Int32) => s_X8_between_15 x1 q.1 q.2.1 q.2.2) n (x4, f_groups, f_found) = some b → a_X8_between_15 b = some r → ∀ (H : Heap) (locs : List Loc), va_P G vwCl [(q, .inr (6, [.ref q_bar, .ref q_bits, .ref q_made, .ref q_has, .ref q_groups, .int f_found, .int f_passed, .long f_looked, .ref q_sums, .ref q_numbers])), (q_bar, .inl (cI, 160, .inl f_bar)), (q_bits, .inl (cJ, 160, .inr (.inl f_bits))), (q_made, .inl (cI, 4, .inl f_made)), (q_has, .inl (cZ, 3, .inl f_has)), (q_groups, .inl (cJ, 128, .inr (.inl f_groups))), (q_sums, .inl (cJ, 8, .inr (.inl f_sums))), (q_numbers, .inl (cJ, 9, .inr (.inl f_numbers)))] H → va_D A [(q, .inr (6, [.ref q_bar, .ref q_bits, .ref q_made, .ref q_has, .ref q_groups, .int f_found, .int f_passed, .long f_looked, .ref q_sums, .ref q_numbers])), (q_bar, .inl (cI, 160, .inl f_bar)), (q_bits, .inl (cJ, 160, .inr (.inl f_bits))), (q_made, .inl (cI, 4, .inl f_made)), (q_has, .inl (cZ, 3, .inl f_has)), (q_groups, .inl (cJ, 128, .inr (.inl f_groups))), (q_sums, .inl (cJ, 8, .inr (.inl f_sums))), (q_numbers, .inl (cJ, 9, .inr (.inl f_numbers)))] → va_S A s.heap H locs → ∀ ls, lv_has ls 8 [(0, .ref q), (1, .int x1), (4, .int x4)] → W p l e (headSpec wsX8_between { frames := 2, cells := 0, slots := 0, locals := 53 }).room s m ([.ref q, .int y1, .long y2] : List Value).toArray below meth c H locs 0 0 (MQ below (hb_Qv G [(q, .inr (6, [.ref q_bar, .ref q_bits, .ref q_made, .ref q_has, .ref q_groups, .int r.2, .int f_passed, .long f_looked, .ref q_sums, .ref q_numbers])), (q_bar, .inl (cI, 160, .inl f_bar)), (q_bits, .inl (cJ, 160, .inr (.inl f_bits))), (q_made, .inl (cI, 4, .inl f_made)), (q_has, .inl (cZ, 3, .inl f_has)), (q_groups, .inl (cJ, 128, .inr (.inl r.1))), (q_sums, .inl (cJ, 8, .inr (.inl f_sums))), (q_numbers, .inl (cJ, 9, .inr (.inl f_numbers)))] A) ([.ref q, .int y1, .long y2] : List Value).toArray s 0 0 A) (F0 m 15 ls []) := by
    intro n
    induction n with
    | zero => intro x1 x4 f_groups f_found b h; exact lp_zero h
    | succ n ih =>
      intro x1 x4 f_groups f_found b h ha H locs hP hD hS ls hl
      obtain ⟨z15, h, hz⟩ := lp_open h
      have h : s_X8_between_15 x1 x4 f_groups f_found = some z15 := h
      have K99 : ∀ (x4 : Int32) (f_groups : (Nat → Int64)) (f_found : Int32), e_X8_between_99 x1 x4 f_groups f_found = some z15 → ∀ (H : Heap) (locs : List Loc), va_P G vwCl [(q, .inr (6, [.ref q_bar, .ref q_bits, .ref q_made, .ref q_has, .ref q_groups, .int f_found, .int f_passed, .long f_looked, .ref q_sums, .ref q_numbers])), (q_bar, .inl (cI, 160, .inl f_bar)), (q_bits, .inl (cJ, 160, .inr (.inl f_bits))), (q_made, .inl (cI, 4, .inl f_made)), (q_has, .inl (cZ, 3, .inl f_has)), (q_groups, .inl (cJ, 128, .inr (.inl f_groups))), (q_sums, .inl (cJ, 8, .inr (.inl f_sums))), (q_numbers, .inl (cJ, 9, .inr (.inl f_numbers)))] H → va_D A [(q, .inr (6, [.ref q_bar, .ref q_bits, .ref q_made, .ref q_has, .ref q_groups, .int f_found, .int f_passed, .long f_looked, .ref q_sums, .ref q_numbers])), (q_bar, .inl (cI, 160, .inl f_bar)), (q_bits, .inl (cJ, 160, .inr (.inl f_bits))), (q_made, .inl (cI, 4, .inl f_made)), (q_has, .inl (cZ, 3, .inl f_has)), (q_groups, .inl (cJ, 128, .inr (.inl f_groups))), (q_sums, .inl (cJ, 8, .inr (.inl f_sums))), (q_numbers, .inl (cJ, 9, .inr (.inl f_numbers)))] → va_S A s.heap H locs → ∀ ls, lv_has ls 8 [(0, .ref q), (1, .int x1), (4, .int x4)] → W p l e (headSpec wsX8_between { frames := 2, cells := 0, slots := 0, locals := 53 }).room s m ([.ref q, .int y1, .long y2] : List Value).toArray below meth c H locs 0 0 (MQ below (hb_Qv G [(q, .inr (6, [.ref q_bar, .ref q_bits, .ref q_made, .ref q_has, .ref q_groups, .int r.2, .int f_passed, .long f_looked, .ref q_sums, .ref q_numbers])), (q_bar, .inl (cI, 160, .inl f_bar)), (q_bits, .inl (cJ, 160, .inr (.inl f_bits))), (q_made, .inl (cI, 4, .inl f_made)), (q_has, .inl (cZ, 3, .inl f_has)), (q_groups, .inl (cJ, 128, .inr (.inl r.1))), (q_sums, .inl (cJ, 8, .inr (.inl f_sums))), (q_numbers, .inl (cJ, 9, .inr (.inl f_numbers)))] A) ([.ref q, .int y1, .long y2] : List Value).toArray s 0 0 A) (F0 m 99 ls []) := by
        intro x4 f_groups f_found h H locs hP hD hS ls hl
        unfold e_X8_between_99 at h
        refine lv_iinc (v := (x4 + (1 : Int32))) (lv' := [(4, .int (x4 + (1 : Int32))), (0, .ref q), (1, .int x1)]) hx hb dX8_between_99 hl (k := 2) rfl rfl (by decide) rfl (fun ls hl => ?_)
        refine lv_goto (tgt := 15) hx hb dX8_between_102 (by decide) ?_
        exact ih x1 (x4 + (1 : Int32)) f_groups f_found b (lp_cont h hz) ha H locs hP hD hS ls (lv_sub hl [1, 2, 0] rfl)
      have L27 : ∀ (n : Nat) (x4 : Int32) (x5 : Int32) (f_groups : (Nat → Int64)) (f_found : Int32) (b : ((Nat → Int64) × Int32)), lpF (fun q : (Int32 × (Nat → Int64) × Int32) => s_X8_between_27 x1 x4 q.1 q.2.1 q.2.2) n (x5, f_groups, f_found) = some b → a_X8_between_27 x1 x4 b = some z15 → ∀ (H : Heap) (locs : List Loc), va_P G vwCl [(q, .inr (6, [.ref q_bar, .ref q_bits, .ref q_made, .ref q_has, .ref q_groups, .int f_found, .int f_passed, .long f_looked, .ref q_sums, .ref q_numbers])), (q_bar, .inl (cI, 160, .inl f_bar)), (q_bits, .inl (cJ, 160, .inr (.inl f_bits))), (q_made, .inl (cI, 4, .inl f_made)), (q_has, .inl (cZ, 3, .inl f_has)), (q_groups, .inl (cJ, 128, .inr (.inl f_groups))), (q_sums, .inl (cJ, 8, .inr (.inl f_sums))), (q_numbers, .inl (cJ, 9, .inr (.inl f_numbers)))] H → va_D A [(q, .inr (6, [.ref q_bar, .ref q_bits, .ref q_made, .ref q_has, .ref q_groups, .int f_found, .int f_passed, .long f_looked, .ref q_sums, .ref q_numbers])), (q_bar, .inl (cI, 160, .inl f_bar)), (q_bits, .inl (cJ, 160, .inr (.inl f_bits))), (q_made, .inl (cI, 4, .inl f_made)), (q_has, .inl (cZ, 3, .inl f_has)), (q_groups, .inl (cJ, 128, .inr (.inl f_groups))), (q_sums, .inl (cJ, 8, .inr (.inl f_sums))), (q_numbers, .inl (cJ, 9, .inr (.inl f_numbers)))] → va_S A s.heap H locs → ∀ ls, lv_has ls 8 [(0, .ref q), (1, .int x1), (4, .int x4), (5, .int x5)] → W p l e (headSpec wsX8_between { frames := 2, cells := 0, slots := 0, locals := 53 }).room s m ([.ref q, .int y1, .long y2] : List Value).toArray below meth c H locs 0 0 (MQ below (hb_Qv G [(q, .inr (6, [.ref q_bar, .ref q_bits, .ref q_made, .ref q_has, .ref q_groups, .int r.2, .int f_passed, .long f_looked, .ref q_sums, .ref q_numbers])), (q_bar, .inl (cI, 160, .inl f_bar)), (q_bits, .inl (cJ, 160, .inr (.inl f_bits))), (q_made, .inl (cI, 4, .inl f_made)), (q_has, .inl (cZ, 3, .inl f_has)), (q_groups, .inl (cJ, 128, .inr (.inl r.1))), (q_sums, .inl (cJ, 8, .inr (.inl f_sums))), (q_numbers, .inl (cJ, 9, .inr (.inl f_numbers)))] A) ([.ref q, .int y1, .long y2] : List Value).toArray s 0 0 A) (F0 m 27 ls []) := by
        intro n
        induction n with
        | zero => intro x4 x5 f_groups f_found b h; exact lp_zero h
        | succ n ih =>
          intro x4 x5 f_groups f_found b h ha H locs hP hD hS ls hl
          obtain ⟨z27, h, hz⟩ := lp_open h
          have h : s_X8_between_27 x1 x4 x5 f_groups f_found = some z27 := h
          unfold s_X8_between_27 at h
          refine lv_iload hx hb dX8_between_27 (lv_at hl 3 rfl) ?_
          refine lv_iload_n hx hb dX8_between_29 rfl (lv_at hl 1 rfl) ?_
          refine lv_icmp_ge (tgt := 99) hx hb dX8_between_30 (by decide) (fun c30 => ?_) (fun c30 => ?_)
          · have h := pf_pos h c30
            have ha := pf_aft ha (lp_exit h hz)
            exact K99 x4 f_groups f_found ha H locs hP hD hS ls (lv_sub hl [0, 1, 2] rfl)
          · have h := pf_neg h c30
            refine lv_iload_n hx hb dX8_between_33 rfl (lv_at hl 1 rfl) ?_
            refine lv_iload hx hb dX8_between_34 (lv_at hl 3 rfl) ?_
            obtain ⟨v36, hv36, h⟩ := pf_bind h
            refine pf_call (As := [.int x1, .int x5]) (rest := []) S0 (c_X8_isRest l x1 x5 v36 hv36) (va_cwS 2 hts gX8_between_X8_isRest rfl rfl rfl kd_X8_isRest ⟨Nat.le_of_ble_eq_true rfl, Nat.le_of_ble_eq_true rfl⟩) rfl hl.1 rfl (Nat.le_of_ble_eq_true rfl) dX8_between_36 ⟨Nat.zero_le _, Nat.zero_le _⟩ ?_
            refine lv_if_ne (tgt := 45) hx hb dX8_between_39 (by decide) (fun c39 => ?_) (fun c39 => ?_)
            · have h := pf_neg h c39
              refine lv_iload_n hx hb dX8_between_45 rfl (lv_at hl 1 rfl) ?_
              refine lv_aload_n hx hb dX8_between_46 rfl (lv_at hl 0 rfl) ?_
              refine va_get (D := G) (ci := 6) (v := .ref q_groups) (C := RX8) (T := TX8) (N := 10) hx hb hts in_X8_between_X8 hown hK.1 hP 0 rfl rfl 4 (by decide) (hts (.fieldLink RX8 24 "FieldsByClassesModel" "groups" "[J") (by decide +kernel)) (fun _ h9 => h9) rfl dX8_between_47 ?_
              refine lv_iload hx hb dX8_between_50 (lv_at hl 2 rfl) ?_
              obtain ⟨hi52, h⟩ := pf_need h
              refine va_lald hx hb hK.1 hP 5 1 rfl rfl (ain_of hi52) dX8_between_52 ?_
              refine lv_iload hx hb dX8_between_53 (lv_at hl 3 rfl) ?_
              obtain ⟨v55, hv55, h⟩ := pf_bind h
              refine pf_call (As := [.int x1, .long (f_groups (x4).toNatClampNeg), .int x5]) (rest := []) S0 (c_X8_with l x1 (f_groups (x4).toNatClampNeg) x5 v55 hv55) (va_cwS 3 hts gX8_between_X8_with rfl rfl rfl kd_X8_with ⟨Nat.le_of_ble_eq_true rfl, Nat.le_of_ble_eq_true rfl⟩) rfl hl.1 rfl (Nat.le_of_ble_eq_true rfl) dX8_between_55 ⟨Nat.zero_le _, Nat.zero_le _⟩ ?_
              refine lv_lstore (lv' := [(6, .long v55), (0, .ref q), (1, .int x1), (4, .int x4), (5, .int x5)]) hx hb dX8_between_58 hl (by decide) rfl (fun ls hl => ?_)
              refine lv_aload_n hx hb dX8_between_60 rfl (lv_at hl 1 rfl) ?_
              refine lv_lload hx hb dX8_between_61 (lv_at hl 0 rfl) ?_
              obtain ⟨v63, hv63, h⟩ := pf_bind h
              refine hb_calli (hb_runV (G := G) (T := hbT cI cJ cZ cS) (As := [.long v55]) (rest := []) S0 (c_X8_isFound l G cI cJ cZ cS q q_bar q_bits q_made q_has q_groups q_sums q_numbers H.size f_bar f_bits f_made f_has f_groups f_found f_passed f_looked f_sums f_numbers v55 v63 hv63) (cwV 1 hts gX8_between_X8_isFound rfl rfl rfl kv_X8_isFound ⟨Nat.le_of_ble_eq_true rfl, Nat.le_of_ble_eq_true rfl⟩) hK (hP.sub [0, 1, 2, 3, 4, 5, 6, 7] rfl) (hD.sub [0, 1, 2, 3, 4, 5, 6, 7] (by decide) rfl) rfl rfl rfl hl.1 rfl (Nat.le_of_ble_eq_true rfl) dX8_between_63 ⟨Nat.zero_le _, Nat.zero_le _⟩) hP hD hS hA [0, 1, 2, 3, 4, 5, 6, 7] [] [0, 1, 2, 3, 4, 5, 6, 7] rfl (wr := []) rfl (by decide) (by decide) (w2 := [(q, .inr (6, [.ref q_bar, .ref q_bits, .ref q_made, .ref q_has, .ref q_groups, .int f_found, .int f_passed, .long f_looked, .ref q_sums, .ref q_numbers])), (q_bar, .inl (cI, 160, .inl f_bar)), (q_bits, .inl (cJ, 160, .inr (.inl f_bits))), (q_made, .inl (cI, 4, .inl f_made)), (q_has, .inl (cZ, 3, .inl f_has)), (q_groups, .inl (cJ, 128, .inr (.inl f_groups))), (q_sums, .inl (cJ, 8, .inr (.inl f_sums))), (q_numbers, .inl (cJ, 9, .inr (.inl f_numbers)))]) (by decide) rfl rfl (fun H locs hP hD hS => ?_)
              refine lv_if_eq (tgt := 72) hx hb dX8_between_66 (by decide) (fun c66 => ?_) (fun c66 => ?_)
              · have h := pf_pos h c66
                refine lv_aload_n hx hb dX8_between_72 rfl (lv_at hl 1 rfl) ?_
                refine va_get (D := G) (ci := 6) (v := .ref q_groups) (C := RX8) (T := TX8) (N := 10) hx hb hts in_X8_between_X8 hown hK.1 hP 0 rfl rfl 4 (by decide) (hts (.fieldLink RX8 24 "FieldsByClassesModel" "groups" "[J") (by decide +kernel)) (fun _ h9 => h9) rfl dX8_between_73 ?_
                refine lv_aload_n hx hb dX8_between_76 rfl (lv_at hl 1 rfl) ?_
                refine va_get (D := G) (ci := 6) (v := .int f_found) (C := RX8) (T := TX8) (N := 10) hx hb hts in_X8_between_X8 hown hK.1 hP 0 rfl rfl 5 (by decide) (hts (.fieldLink RX8 109 "FieldsByClassesModel" "found" "I") (by decide +kernel)) (fun _ h9 => h9) rfl dX8_between_77 ?_
                refine lv_lload hx hb dX8_between_80 (lv_at hl 0 rfl) ?_
                obtain ⟨hi82, h⟩ := pf_need h
                refine va_last hx hb hK.1 hP hD hS 5 1 rfl rfl (ain_of hi82) dX8_between_82 (fun H locs hP hD hS => ?_)
                have hP : va_P G vwCl [(q, .inr (6, [.ref q_bar, .ref q_bits, .ref q_made, .ref q_has, .ref q_groups, .int f_found, .int f_passed, .long f_looked, .ref q_sums, .ref q_numbers])), (q_bar, .inl (cI, 160, .inl f_bar)), (q_bits, .inl (cJ, 160, .inr (.inl f_bits))), (q_made, .inl (cI, 4, .inl f_made)), (q_has, .inl (cZ, 3, .inl f_has)), (q_groups, .inl (cJ, 128, .inr (.inl (vp_updL f_groups (f_found).toNatClampNeg v55)))), (q_sums, .inl (cJ, 8, .inr (.inl f_sums))), (q_numbers, .inl (cJ, 9, .inr (.inl f_numbers)))] H := hP
                have hD : va_D A [(q, .inr (6, [.ref q_bar, .ref q_bits, .ref q_made, .ref q_has, .ref q_groups, .int f_found, .int f_passed, .long f_looked, .ref q_sums, .ref q_numbers])), (q_bar, .inl (cI, 160, .inl f_bar)), (q_bits, .inl (cJ, 160, .inr (.inl f_bits))), (q_made, .inl (cI, 4, .inl f_made)), (q_has, .inl (cZ, 3, .inl f_has)), (q_groups, .inl (cJ, 128, .inr (.inl (vp_updL f_groups (f_found).toNatClampNeg v55)))), (q_sums, .inl (cJ, 8, .inr (.inl f_sums))), (q_numbers, .inl (cJ, 9, .inr (.inl f_numbers)))] := hD
                refine lv_aload_n hx hb dX8_between_83 rfl (lv_at hl 1 rfl) ?_
                refine lv_dup hx hb dX8_between_84 rfl ?_
                refine va_get (D := G) (ci := 6) (v := .int f_found) (C := RX8) (T := TX8) (N := 10) hx hb hts in_X8_between_X8 hown hK.1 hP 0 rfl rfl 5 (by decide) (hts (.fieldLink RX8 109 "FieldsByClassesModel" "found" "I") (by decide +kernel)) (fun _ h9 => h9) rfl dX8_between_85 ?_
                refine lv_iconst (v := 1) hx hb dX8_between_88 (by decide) ?_
                refine lv_iadd hx hb dX8_between_89 ?_
                refine va_put (D := G) (ci := 6) (v := .int (f_found + (1 : Int32))) (ty := .int) (C := RX8) (T := TX8) (N := 10) hx hb hts in_X8_between_X8 tyX8 tyX8_ok nmX8 hown hK.1 hP hD hS 0 rfl rfl 5 (by decide) (hts (.fieldLink RX8 109 "FieldsByClassesModel" "found" "I") (by decide +kernel)) (fun _ h9 => h9) rfl (tyX8_ok 5 (by decide)) rfl rfl (Nat.le_of_ble_eq_true rfl) dX8_between_90 (fun H locs hP hD hS => ?_)
                have hP : va_P G vwCl [(q, .inr (6, [.ref q_bar, .ref q_bits, .ref q_made, .ref q_has, .ref q_groups, .int (f_found + (1 : Int32)), .int f_passed, .long f_looked, .ref q_sums, .ref q_numbers])), (q_bar, .inl (cI, 160, .inl f_bar)), (q_bits, .inl (cJ, 160, .inr (.inl f_bits))), (q_made, .inl (cI, 4, .inl f_made)), (q_has, .inl (cZ, 3, .inl f_has)), (q_groups, .inl (cJ, 128, .inr (.inl (vp_updL f_groups (f_found).toNatClampNeg v55)))), (q_sums, .inl (cJ, 8, .inr (.inl f_sums))), (q_numbers, .inl (cJ, 9, .inr (.inl f_numbers)))] H := hP
                have hD : va_D A [(q, .inr (6, [.ref q_bar, .ref q_bits, .ref q_made, .ref q_has, .ref q_groups, .int (f_found + (1 : Int32)), .int f_passed, .long f_looked, .ref q_sums, .ref q_numbers])), (q_bar, .inl (cI, 160, .inl f_bar)), (q_bits, .inl (cJ, 160, .inr (.inl f_bits))), (q_made, .inl (cI, 4, .inl f_made)), (q_has, .inl (cZ, 3, .inl f_has)), (q_groups, .inl (cJ, 128, .inr (.inl (vp_updL f_groups (f_found).toNatClampNeg v55)))), (q_sums, .inl (cJ, 8, .inr (.inl f_sums))), (q_numbers, .inl (cJ, 9, .inr (.inl f_numbers)))] := hD
                refine lv_iinc (v := (x5 + (1 : Int32))) (lv' := [(5, .int (x5 + (1 : Int32))), (6, .long v55), (0, .ref q), (1, .int x1), (4, .int x4)]) hx hb dX8_between_93 hl (k := 4) rfl rfl (by decide) rfl (fun ls hl => ?_)
                refine lv_goto (tgt := 27) hx hb dX8_between_96 (by decide) ?_
                exact ih x4 (x5 + (1 : Int32)) (vp_updL f_groups (f_found).toNatClampNeg v55) (f_found + (1 : Int32)) b (lp_cont h hz) ha H locs hP hD hS ls (lv_sub hl [2, 3, 4, 0] rfl)
              · have h := pf_neg h c66
                refine lv_goto (tgt := 93) hx hb dX8_between_69 (by decide) ?_
                refine lv_iinc (v := (x5 + (1 : Int32))) (lv' := [(5, .int (x5 + (1 : Int32))), (6, .long v55), (0, .ref q), (1, .int x1), (4, .int x4)]) hx hb dX8_between_93 hl (k := 4) rfl rfl (by decide) rfl (fun ls hl => ?_)
                refine lv_goto (tgt := 27) hx hb dX8_between_96 (by decide) ?_
                exact ih x4 (x5 + (1 : Int32)) f_groups f_found b (lp_cont h hz) ha H locs hP hD hS ls (lv_sub hl [2, 3, 4, 0] rfl)
            · have h := pf_pos h c39
              refine lv_goto (tgt := 93) hx hb dX8_between_42 (by decide) ?_
              refine lv_iinc (v := (x5 + (1 : Int32))) (lv' := [(5, .int (x5 + (1 : Int32))), (0, .ref q), (1, .int x1), (4, .int x4)]) hx hb dX8_between_93 hl (k := 3) rfl rfl (by decide) rfl (fun ls hl => ?_)
              refine lv_goto (tgt := 27) hx hb dX8_between_96 (by decide) ?_
              exact ih x4 (x5 + (1 : Int32)) f_groups f_found b (lp_cont h hz) ha H locs hP hD hS ls (lv_sub hl [1, 2, 3, 0] rfl)
      have G27 : ∀ (x4 : Int32) (x5 : Int32) (f_groups : (Nat → Int64)) (f_found : Int32), g_X8_between_27 x1 x4 x5 f_groups f_found = some z15 → ∀ (H : Heap) (locs : List Loc), va_P G vwCl [(q, .inr (6, [.ref q_bar, .ref q_bits, .ref q_made, .ref q_has, .ref q_groups, .int f_found, .int f_passed, .long f_looked, .ref q_sums, .ref q_numbers])), (q_bar, .inl (cI, 160, .inl f_bar)), (q_bits, .inl (cJ, 160, .inr (.inl f_bits))), (q_made, .inl (cI, 4, .inl f_made)), (q_has, .inl (cZ, 3, .inl f_has)), (q_groups, .inl (cJ, 128, .inr (.inl f_groups))), (q_sums, .inl (cJ, 8, .inr (.inl f_sums))), (q_numbers, .inl (cJ, 9, .inr (.inl f_numbers)))] H → va_D A [(q, .inr (6, [.ref q_bar, .ref q_bits, .ref q_made, .ref q_has, .ref q_groups, .int f_found, .int f_passed, .long f_looked, .ref q_sums, .ref q_numbers])), (q_bar, .inl (cI, 160, .inl f_bar)), (q_bits, .inl (cJ, 160, .inr (.inl f_bits))), (q_made, .inl (cI, 4, .inl f_made)), (q_has, .inl (cZ, 3, .inl f_has)), (q_groups, .inl (cJ, 128, .inr (.inl f_groups))), (q_sums, .inl (cJ, 8, .inr (.inl f_sums))), (q_numbers, .inl (cJ, 9, .inr (.inl f_numbers)))] → va_S A s.heap H locs → ∀ ls, lv_has ls 8 [(0, .ref q), (1, .int x1), (4, .int x4), (5, .int x5)] → W p l e (headSpec wsX8_between { frames := 2, cells := 0, slots := 0, locals := 53 }).room s m ([.ref q, .int y1, .long y2] : List Value).toArray below meth c H locs 0 0 (MQ below (hb_Qv G [(q, .inr (6, [.ref q_bar, .ref q_bits, .ref q_made, .ref q_has, .ref q_groups, .int r.2, .int f_passed, .long f_looked, .ref q_sums, .ref q_numbers])), (q_bar, .inl (cI, 160, .inl f_bar)), (q_bits, .inl (cJ, 160, .inr (.inl f_bits))), (q_made, .inl (cI, 4, .inl f_made)), (q_has, .inl (cZ, 3, .inl f_has)), (q_groups, .inl (cJ, 128, .inr (.inl r.1))), (q_sums, .inl (cJ, 8, .inr (.inl f_sums))), (q_numbers, .inl (cJ, 9, .inr (.inl f_numbers)))] A) ([.ref q, .int y1, .long y2] : List Value).toArray s 0 0 A) (F0 m 27 ls []) := by
        intro x4 x5 f_groups f_found h
        unfold g_X8_between_27 at h
        obtain ⟨b, h, ha⟩ := pf_bind h
        exact L27 pfFU x4 x5 f_groups f_found b h ha
      unfold s_X8_between_15 at h
      refine lv_iload hx hb dX8_between_15 (lv_at hl 2 rfl) ?_
      refine lv_aload_n hx hb dX8_between_17 rfl (lv_at hl 0 rfl) ?_
      refine va_get (D := G) (ci := 6) (v := .int f_found) (C := RX8) (T := TX8) (N := 10) hx hb hts in_X8_between_X8 hown hK.1 hP 0 rfl rfl 5 (by decide) (hts (.fieldLink RX8 109 "FieldsByClassesModel" "found" "I") (by decide +kernel)) (fun _ h9 => h9) rfl dX8_between_18 ?_
      refine lv_icmp_ge (tgt := 105) hx hb dX8_between_21 (by decide) (fun c21 => ?_) (fun c21 => ?_)
      · have h := pf_pos h c21
        have ha := pf_aft ha (lp_exit h hz)
        exact K105 f_groups f_found ha H locs hP hD hS ls (lv_sub hl [] rfl)
      · have h := pf_neg h c21
        refine lv_iconst (v := 0) hx hb dX8_between_24 (by decide) ?_
        refine lv_istore (lv' := [(5, .int (0 : Int32)), (0, .ref q), (1, .int x1), (4, .int x4)]) hx hb dX8_between_25 hl (by decide) rfl (fun ls hl => ?_)
        exact G27 x4 (0 : Int32) f_groups f_found h H locs hP hD hS ls (lv_sub hl [1, 2, 3, 0] rfl)
  have G15 : ∀ (x1 : Int32) (x4 : Int32) (f_groups : (Nat → Int64)) (f_found : Int32), g_X8_between_15 x1 x4 f_groups f_found = some r → ∀ (H : Heap) (locs : List Loc), va_P G vwCl [(q, .inr (6, [.ref q_bar, .ref q_bits, .ref q_made, .ref q_has, .ref q_groups, .int f_found, .int f_passed, .long f_looked, .ref q_sums, .ref q_numbers])), (q_bar, .inl (cI, 160, .inl f_bar)), (q_bits, .inl (cJ, 160, .inr (.inl f_bits))), (q_made, .inl (cI, 4, .inl f_made)), (q_has, .inl (cZ, 3, .inl f_has)), (q_groups, .inl (cJ, 128, .inr (.inl f_groups))), (q_sums, .inl (cJ, 8, .inr (.inl f_sums))), (q_numbers, .inl (cJ, 9, .inr (.inl f_numbers)))] H → va_D A [(q, .inr (6, [.ref q_bar, .ref q_bits, .ref q_made, .ref q_has, .ref q_groups, .int f_found, .int f_passed, .long f_looked, .ref q_sums, .ref q_numbers])), (q_bar, .inl (cI, 160, .inl f_bar)), (q_bits, .inl (cJ, 160, .inr (.inl f_bits))), (q_made, .inl (cI, 4, .inl f_made)), (q_has, .inl (cZ, 3, .inl f_has)), (q_groups, .inl (cJ, 128, .inr (.inl f_groups))), (q_sums, .inl (cJ, 8, .inr (.inl f_sums))), (q_numbers, .inl (cJ, 9, .inr (.inl f_numbers)))] → va_S A s.heap H locs → ∀ ls, lv_has ls 8 [(0, .ref q), (1, .int x1), (4, .int x4)] → W p l e (headSpec wsX8_between { frames := 2, cells := 0, slots := 0, locals := 53 }).room s m ([.ref q, .int y1, .long y2] : List Value).toArray below meth c H locs 0 0 (MQ below (hb_Qv G [(q, .inr (6, [.ref q_bar, .ref q_bits, .ref q_made, .ref q_has, .ref q_groups, .int r.2, .int f_passed, .long f_looked, .ref q_sums, .ref q_numbers])), (q_bar, .inl (cI, 160, .inl f_bar)), (q_bits, .inl (cJ, 160, .inr (.inl f_bits))), (q_made, .inl (cI, 4, .inl f_made)), (q_has, .inl (cZ, 3, .inl f_has)), (q_groups, .inl (cJ, 128, .inr (.inl r.1))), (q_sums, .inl (cJ, 8, .inr (.inl f_sums))), (q_numbers, .inl (cJ, 9, .inr (.inl f_numbers)))] A) ([.ref q, .int y1, .long y2] : List Value).toArray s 0 0 A) (F0 m 15 ls []) := by
    intro x1 x4 f_groups f_found h
    unfold g_X8_between_15 at h
    obtain ⟨b, h, ha⟩ := pf_bind h
    exact L15 pfFU x1 x4 f_groups f_found b h ha
  suffices hh : ∀ (H : Heap) (locs : List Loc), va_P G vwCl [(q, .inr (6, [.ref q_bar, .ref q_bits, .ref q_made, .ref q_has, .ref q_groups, .int f_found, .int f_passed, .long f_looked, .ref q_sums, .ref q_numbers])), (q_bar, .inl (cI, 160, .inl f_bar)), (q_bits, .inl (cJ, 160, .inr (.inl f_bits))), (q_made, .inl (cI, 4, .inl f_made)), (q_has, .inl (cZ, 3, .inl f_has)), (q_groups, .inl (cJ, 128, .inr (.inl f_groups))), (q_sums, .inl (cJ, 8, .inr (.inl f_sums))), (q_numbers, .inl (cJ, 9, .inr (.inl f_numbers)))] H → va_D A [(q, .inr (6, [.ref q_bar, .ref q_bits, .ref q_made, .ref q_has, .ref q_groups, .int f_found, .int f_passed, .long f_looked, .ref q_sums, .ref q_numbers])), (q_bar, .inl (cI, 160, .inl f_bar)), (q_bits, .inl (cJ, 160, .inr (.inl f_bits))), (q_made, .inl (cI, 4, .inl f_made)), (q_has, .inl (cZ, 3, .inl f_has)), (q_groups, .inl (cJ, 128, .inr (.inl f_groups))), (q_sums, .inl (cJ, 8, .inr (.inl f_sums))), (q_numbers, .inl (cJ, 9, .inr (.inl f_numbers)))] → va_S A s.heap H locs → W p l e (headSpec wsX8_between { frames := 2, cells := 0, slots := 0, locals := 53 }).room s m ([.ref q, .int y1, .long y2] : List Value).toArray below meth c H locs 0 0 (MQ below (hb_Qv G [(q, .inr (6, [.ref q_bar, .ref q_bits, .ref q_made, .ref q_has, .ref q_groups, .int r.2, .int f_passed, .long f_looked, .ref q_sums, .ref q_numbers])), (q_bar, .inl (cI, 160, .inl f_bar)), (q_bits, .inl (cJ, 160, .inr (.inl f_bits))), (q_made, .inl (cI, 4, .inl f_made)), (q_has, .inl (cZ, 3, .inl f_has)), (q_groups, .inl (cJ, 128, .inr (.inl r.1))), (q_sums, .inl (cJ, 8, .inr (.inl f_sums))), (q_numbers, .inl (cJ, 9, .inr (.inl f_numbers)))] A) ([.ref q, .int y1, .long y2] : List Value).toArray s 0 0 A) (F0 m 0 ls []) from hh s.heap [] hP hD hS
  intro H locs hP hD hS
  unfold p_X8_between at h
  refine lv_aload_n hx hb dX8_between_0 rfl (lv_at hl 0 rfl) ?_
  refine va_get (D := G) (ci := 6) (v := .ref q_groups) (C := RX8) (T := TX8) (N := 10) hx hb hts in_X8_between_X8 hown hK.1 hP 0 rfl rfl 4 (by decide) (hts (.fieldLink RX8 24 "FieldsByClassesModel" "groups" "[J") (by decide +kernel)) (fun _ h9 => h9) rfl dX8_between_1 ?_
  refine lv_iconst (v := 0) hx hb dX8_between_4 (by decide) ?_
  refine lv_lload_n hx hb dX8_between_5 rfl (lv_at hl 2 rfl) ?_
  refine va_last hx hb hK.1 hP hD hS 5 1 rfl rfl (ain_of (by decide)) dX8_between_6 (fun H locs hP hD hS => ?_)
  have hP : va_P G vwCl [(q, .inr (6, [.ref q_bar, .ref q_bits, .ref q_made, .ref q_has, .ref q_groups, .int f_found, .int f_passed, .long f_looked, .ref q_sums, .ref q_numbers])), (q_bar, .inl (cI, 160, .inl f_bar)), (q_bits, .inl (cJ, 160, .inr (.inl f_bits))), (q_made, .inl (cI, 4, .inl f_made)), (q_has, .inl (cZ, 3, .inl f_has)), (q_groups, .inl (cJ, 128, .inr (.inl (vp_updL f_groups ((0 : Int32)).toNatClampNeg y2)))), (q_sums, .inl (cJ, 8, .inr (.inl f_sums))), (q_numbers, .inl (cJ, 9, .inr (.inl f_numbers)))] H := hP
  have hD : va_D A [(q, .inr (6, [.ref q_bar, .ref q_bits, .ref q_made, .ref q_has, .ref q_groups, .int f_found, .int f_passed, .long f_looked, .ref q_sums, .ref q_numbers])), (q_bar, .inl (cI, 160, .inl f_bar)), (q_bits, .inl (cJ, 160, .inr (.inl f_bits))), (q_made, .inl (cI, 4, .inl f_made)), (q_has, .inl (cZ, 3, .inl f_has)), (q_groups, .inl (cJ, 128, .inr (.inl (vp_updL f_groups ((0 : Int32)).toNatClampNeg y2)))), (q_sums, .inl (cJ, 8, .inr (.inl f_sums))), (q_numbers, .inl (cJ, 9, .inr (.inl f_numbers)))] := hD
  refine lv_aload_n hx hb dX8_between_7 rfl (lv_at hl 0 rfl) ?_
  refine lv_iconst (v := 1) hx hb dX8_between_8 (by decide) ?_
  refine va_put (D := G) (ci := 6) (v := .int (1 : Int32)) (ty := .int) (C := RX8) (T := TX8) (N := 10) hx hb hts in_X8_between_X8 tyX8 tyX8_ok nmX8 hown hK.1 hP hD hS 0 rfl rfl 5 (by decide) (hts (.fieldLink RX8 109 "FieldsByClassesModel" "found" "I") (by decide +kernel)) (fun _ h9 => h9) rfl (tyX8_ok 5 (by decide)) rfl rfl (Nat.le_of_ble_eq_true rfl) dX8_between_9 (fun H locs hP hD hS => ?_)
  have hP : va_P G vwCl [(q, .inr (6, [.ref q_bar, .ref q_bits, .ref q_made, .ref q_has, .ref q_groups, .int (1 : Int32), .int f_passed, .long f_looked, .ref q_sums, .ref q_numbers])), (q_bar, .inl (cI, 160, .inl f_bar)), (q_bits, .inl (cJ, 160, .inr (.inl f_bits))), (q_made, .inl (cI, 4, .inl f_made)), (q_has, .inl (cZ, 3, .inl f_has)), (q_groups, .inl (cJ, 128, .inr (.inl (vp_updL f_groups ((0 : Int32)).toNatClampNeg y2)))), (q_sums, .inl (cJ, 8, .inr (.inl f_sums))), (q_numbers, .inl (cJ, 9, .inr (.inl f_numbers)))] H := hP
  have hD : va_D A [(q, .inr (6, [.ref q_bar, .ref q_bits, .ref q_made, .ref q_has, .ref q_groups, .int (1 : Int32), .int f_passed, .long f_looked, .ref q_sums, .ref q_numbers])), (q_bar, .inl (cI, 160, .inl f_bar)), (q_bits, .inl (cJ, 160, .inr (.inl f_bits))), (q_made, .inl (cI, 4, .inl f_made)), (q_has, .inl (cZ, 3, .inl f_has)), (q_groups, .inl (cJ, 128, .inr (.inl (vp_updL f_groups ((0 : Int32)).toNatClampNeg y2)))), (q_sums, .inl (cJ, 8, .inr (.inl f_sums))), (q_numbers, .inl (cJ, 9, .inr (.inl f_numbers)))] := hD
  refine lv_iconst (v := 0) hx hb dX8_between_12 (by decide) ?_
  refine lv_istore (lv' := [(4, .int (0 : Int32)), (0, .ref q), (1, .int y1), (2, .long y2)]) hx hb dX8_between_13 hl (by decide) rfl (fun ls hl => ?_)
  exact G15 y1 (0 : Int32) (vp_updL f_groups ((0 : Int32)).toNatClampNeg y2) (1 : Int32) h H locs hP hD hS ls (lv_sub hl [1, 2, 0] rfl)
-- X8_tell
def p_X8_tell (f_bar : (Nat → Int32)) (f_bits : (Nat → Int64)) (f_made : (Nat → Int32)) (f_groups : (Nat → Int64)) (f_found : Int32) (y1 : Int32) (y2 : Int32) : Option (Int32 × (Nat → Int64) × Int32) :=
  ((p_X8_isField f_made y1).bind fun v2 => (if v2 = 0 then some ((-9 : Int32), f_groups, f_found) else (if ainB y1 160 = true then (if ainB y1 160 = true then (if y2 = (0 : Int32) then some ((f_bar (y1).toNatClampNeg), f_groups, f_found) else (if y2 = (1 : Int32) then ((p_X8_degree (f_bar (y1).toNatClampNeg) (f_bits (y1).toNatClampNeg)).bind fun v69 => some (v69, f_groups, f_found)) else (if y2 = (2 : Int32) then ((p_X8_isReal (f_bar (y1).toNatClampNeg) (f_bits (y1).toNatClampNeg)).bind fun v76 => (if v76 = 0 then some ((0 : Int32), f_groups, f_found) else some ((1 : Int32), f_groups, f_found))) else (if y2 = (3 : Int32) then ((p_X8_isCyclic (f_bar (y1).toNatClampNeg) (f_bits (y1).toNatClampNeg)).bind fun v91 => (if v91 = 0 then some ((0 : Int32), f_groups, f_found) else some ((1 : Int32), f_groups, f_found))) else (if y2 = (4 : Int32) then ((p_X8_isReal (f_bar (y1).toNatClampNeg) (f_bits (y1).toNatClampNeg)).bind fun v106 => (if v106 = 0 then ((p_X8_degree (f_bar (y1).toNatClampNeg) (f_bits (y1).toNatClampNeg)).bind fun v115 => (if (jrem (v115 / (2 : Int32)) (2 : Int32)) = (1 : Int32) then some ((-1 : Int32), f_groups, f_found) else some ((1 : Int32), f_groups, f_found))) else some ((1 : Int32), f_groups, f_found))) else (if y2 = (5 : Int32) then ((p_X8_between f_groups f_found (f_bar (y1).toNatClampNeg) (f_bits (y1).toNatClampNeg)).bind fun v136 => some (v136.2, v136.1, v136.2)) else some ((-9 : Int32), f_groups, f_found))))))) else none) else none)))
theorem in_X8_tell_X8 : ∀ w ∈ u_ws RX8 TX8 10, w ∈ wsX8_tell := fun w h => List.mem_cons_of_mem _ (List.mem_append_right _ h)
theorem kv_X8_tell : yX8_tell.cls = RX8 ∧ yX8_tell.cls ≠ "java/lang/invoke/MethodHandle" ∧ yX8_tell.cls ≠ "java/lang/invoke/VarHandle" ∧ (parseMethodDescriptor yX8_tell.desc).map (fun d => d.parameters.length) = some 2 := by decide +kernel
set_option maxHeartbeats 4000000 in
set_option maxRecDepth 100000 in
theorem c_X8_tell (l : Launch) (G : va_G) (cI cJ cZ cS : ClassId) (q q_bar q_bits q_made q_has q_groups q_sums q_numbers : Nat) (sz : Nat) (f_bar : (Nat → Int32)) (f_bits : (Nat → Int64)) (f_made : (Nat → Int32)) (f_has : (Nat → Int32)) (f_groups : (Nat → Int64)) (f_found : Int32) (f_passed : Int32) (f_looked : Int64) (f_sums : (Nat → Int64)) (f_numbers : (Nat → Int64)) (y1 : Int32) (y2 : Int32) (r : (Int32 × (Nat → Int64) × Int32)) (h : p_X8_tell f_bar f_bits f_made f_groups f_found y1 y2 = some r) : Met l yX8_tell wsX8_tell { frames := 4, cells := 0, slots := 0, locals := 92 } (hb_pre G (hbT cI cJ cZ cS) [.ref q, .int y1, .int y2] sz [(q, .inr (6, [.ref q_bar, .ref q_bits, .ref q_made, .ref q_has, .ref q_groups, .int f_found, .int f_passed, .long f_looked, .ref q_sums, .ref q_numbers])), (q_bar, .inl (cI, 160, .inl f_bar)), (q_bits, .inl (cJ, 160, .inr (.inl f_bits))), (q_made, .inl (cI, 4, .inl f_made)), (q_has, .inl (cZ, 3, .inl f_has)), (q_groups, .inl (cJ, 128, .inr (.inl f_groups))), (q_sums, .inl (cJ, 8, .inr (.inl f_sums))), (q_numbers, .inl (cJ, 9, .inr (.inl f_numbers)))]) (hb_Qi G r.1 [(q, .inr (6, [.ref q_bar, .ref q_bits, .ref q_made, .ref q_has, .ref q_groups, .int r.2.2, .int f_passed, .long f_looked, .ref q_sums, .ref q_numbers])), (q_bar, .inl (cI, 160, .inl f_bar)), (q_bits, .inl (cJ, 160, .inr (.inl f_bits))), (q_made, .inl (cI, 4, .inl f_made)), (q_has, .inl (cZ, 3, .inl f_has)), (q_groups, .inl (cJ, 128, .inr (.inl r.2.1))), (q_sums, .inl (cJ, 8, .inr (.inl f_sums))), (q_numbers, .inl (cJ, 9, .inr (.inl f_numbers)))] (va_A [(q, .inr (6, [.ref q_bar, .ref q_bits, .ref q_made, .ref q_has, .ref q_groups, .int f_found, .int f_passed, .long f_looked, .ref q_sums, .ref q_numbers])), (q_bar, .inl (cI, 160, .inl f_bar)), (q_bits, .inl (cJ, 160, .inr (.inl f_bits))), (q_made, .inl (cI, 4, .inl f_made)), (q_has, .inl (cZ, 3, .inl f_has)), (q_groups, .inl (cJ, 128, .inr (.inl f_groups))), (q_sums, .inl (cJ, 8, .inr (.inl f_sums))), (q_numbers, .inl (cJ, 9, .inr (.inl f_numbers)))] sz)) 0 0 (va_A [(q, .inr (6, [.ref q_bar, .ref q_bits, .ref q_made, .ref q_has, .ref q_groups, .int f_found, .int f_passed, .long f_looked, .ref q_sums, .ref q_numbers])), (q_bar, .inl (cI, 160, .inl f_bar)), (q_bits, .inl (cJ, 160, .inr (.inl f_bits))), (q_made, .inl (cI, 4, .inl f_made)), (q_has, .inl (cZ, 3, .inl f_has)), (q_groups, .inl (cJ, 128, .inr (.inl f_groups))), (q_sums, .inl (cJ, 8, .inr (.inl f_sums))), (q_numbers, .inl (cJ, 9, .inr (.inl f_numbers)))] sz) := by
  refine hb_met (Qc := fun A => hb_Qi G r.1 [(q, .inr (6, [.ref q_bar, .ref q_bits, .ref q_made, .ref q_has, .ref q_groups, .int r.2.2, .int f_passed, .long f_looked, .ref q_sums, .ref q_numbers])), (q_bar, .inl (cI, 160, .inl f_bar)), (q_bits, .inl (cJ, 160, .inr (.inl f_bits))), (q_made, .inl (cI, 4, .inl f_made)), (q_has, .inl (cZ, 3, .inl f_has)), (q_groups, .inl (cJ, 128, .inr (.inl r.2.1))), (q_sums, .inl (cJ, 8, .inr (.inl f_sums))), (q_numbers, .inl (cJ, 9, .inr (.inl f_numbers)))] A) (cc := cX8_tell) (maxL := 6) (ret := some .int) (by decide) rfl (Nat.le_of_ble_eq_true rfl) ?_
  intro p e s m below meth c A hx hb hr hts hown hlocks hml hin hK hA hP hD hS ls hl
  have hown : s.vm.findClass RX8 = some m.cls := hown
  have S0 : CallFix p m c cX8_tell 6 s ([.ref q, .int y1, .int y2] : List Value).toArray wsX8_tell RX8 := ⟨hx, hb, hml, hown, hts⟩
  have hl : lv_has ls 6 [(0, .ref q), (1, .int y1), (2, .int y2)] := hl
  suffices hh : ∀ (H : Heap) (locs : List Loc), va_P G vwCl [(q, .inr (6, [.ref q_bar, .ref q_bits, .ref q_made, .ref q_has, .ref q_groups, .int f_found, .int f_passed, .long f_looked, .ref q_sums, .ref q_numbers])), (q_bar, .inl (cI, 160, .inl f_bar)), (q_bits, .inl (cJ, 160, .inr (.inl f_bits))), (q_made, .inl (cI, 4, .inl f_made)), (q_has, .inl (cZ, 3, .inl f_has)), (q_groups, .inl (cJ, 128, .inr (.inl f_groups))), (q_sums, .inl (cJ, 8, .inr (.inl f_sums))), (q_numbers, .inl (cJ, 9, .inr (.inl f_numbers)))] H → va_D A [(q, .inr (6, [.ref q_bar, .ref q_bits, .ref q_made, .ref q_has, .ref q_groups, .int f_found, .int f_passed, .long f_looked, .ref q_sums, .ref q_numbers])), (q_bar, .inl (cI, 160, .inl f_bar)), (q_bits, .inl (cJ, 160, .inr (.inl f_bits))), (q_made, .inl (cI, 4, .inl f_made)), (q_has, .inl (cZ, 3, .inl f_has)), (q_groups, .inl (cJ, 128, .inr (.inl f_groups))), (q_sums, .inl (cJ, 8, .inr (.inl f_sums))), (q_numbers, .inl (cJ, 9, .inr (.inl f_numbers)))] → va_S A s.heap H locs → W p l e (headSpec wsX8_tell { frames := 4, cells := 0, slots := 0, locals := 92 }).room s m ([.ref q, .int y1, .int y2] : List Value).toArray below meth c H locs 0 0 (MQ below (hb_Qi G r.1 [(q, .inr (6, [.ref q_bar, .ref q_bits, .ref q_made, .ref q_has, .ref q_groups, .int r.2.2, .int f_passed, .long f_looked, .ref q_sums, .ref q_numbers])), (q_bar, .inl (cI, 160, .inl f_bar)), (q_bits, .inl (cJ, 160, .inr (.inl f_bits))), (q_made, .inl (cI, 4, .inl f_made)), (q_has, .inl (cZ, 3, .inl f_has)), (q_groups, .inl (cJ, 128, .inr (.inl r.2.1))), (q_sums, .inl (cJ, 8, .inr (.inl f_sums))), (q_numbers, .inl (cJ, 9, .inr (.inl f_numbers)))] A) ([.ref q, .int y1, .int y2] : List Value).toArray s 0 0 A) (F0 m 0 ls []) from hh s.heap [] hP hD hS
  intro H locs hP hD hS
  unfold p_X8_tell at h
  refine lv_aload_n hx hb dX8_tell_0 rfl (lv_at hl 0 rfl) ?_
  refine lv_iload_n hx hb dX8_tell_1 rfl (lv_at hl 1 rfl) ?_
  obtain ⟨v2, hv2, h⟩ := pf_bind h
  refine hb_calli (hb_runV (G := G) (T := hbT cI cJ cZ cS) (As := [.int y1]) (rest := []) S0 (c_X8_isField l G cI cJ cZ cS q q_bar q_bits q_made q_has q_groups q_sums q_numbers H.size f_bar f_bits f_made f_has f_groups f_found f_passed f_looked f_sums f_numbers y1 v2 hv2) (cwV 1 hts gX8_tell_X8_isField rfl rfl rfl kv_X8_isField ⟨Nat.le_of_ble_eq_true rfl, Nat.le_of_ble_eq_true rfl⟩) hK (hP.sub [0, 1, 2, 3, 4, 5, 6, 7] rfl) (hD.sub [0, 1, 2, 3, 4, 5, 6, 7] (by decide) rfl) rfl rfl rfl hl.1 rfl (Nat.le_of_ble_eq_true rfl) dX8_tell_2 ⟨Nat.zero_le _, Nat.zero_le _⟩) hP hD hS hA [0, 1, 2, 3, 4, 5, 6, 7] [] [0, 1, 2, 3, 4, 5, 6, 7] rfl (wr := []) rfl (by decide) (by decide) (w2 := [(q, .inr (6, [.ref q_bar, .ref q_bits, .ref q_made, .ref q_has, .ref q_groups, .int f_found, .int f_passed, .long f_looked, .ref q_sums, .ref q_numbers])), (q_bar, .inl (cI, 160, .inl f_bar)), (q_bits, .inl (cJ, 160, .inr (.inl f_bits))), (q_made, .inl (cI, 4, .inl f_made)), (q_has, .inl (cZ, 3, .inl f_has)), (q_groups, .inl (cJ, 128, .inr (.inl f_groups))), (q_sums, .inl (cJ, 8, .inr (.inl f_sums))), (q_numbers, .inl (cJ, 9, .inr (.inl f_numbers)))]) (by decide) rfl rfl (fun H locs hP hD hS => ?_)
  refine lv_if_ne (tgt := 11) hx hb dX8_tell_5 (by decide) (fun c5 => ?_) (fun c5 => ?_)
  · have h := pf_neg h c5
    refine lv_aload_n hx hb dX8_tell_11 rfl (lv_at hl 0 rfl) ?_
    refine va_get (D := G) (ci := 6) (v := .ref q_bar) (C := RX8) (T := TX8) (N := 10) hx hb hts in_X8_tell_X8 hown hK.1 hP 0 rfl rfl 0 (by decide) (hts (.fieldLink RX8 7 "FieldsByClassesModel" "bar" "[I") (by decide +kernel)) (fun _ h9 => h9) rfl dX8_tell_12 ?_
    refine lv_iload_n hx hb dX8_tell_15 rfl (lv_at hl 1 rfl) ?_
    obtain ⟨hi16, h⟩ := pf_need h
    refine va_iald hx hb hK.1 hP 1 0 rfl rfl (ain_of hi16) dX8_tell_16 ?_
    refine lv_istore_n (lv' := [(3, .int (f_bar (y1).toNatClampNeg)), (0, .ref q), (1, .int y1), (2, .int y2)]) hx hb dX8_tell_17 rfl hl (by decide) rfl (fun ls hl => ?_)
    refine lv_aload_n hx hb dX8_tell_18 rfl (lv_at hl 1 rfl) ?_
    refine va_get (D := G) (ci := 6) (v := .ref q_bits) (C := RX8) (T := TX8) (N := 10) hx hb hts in_X8_tell_X8 hown hK.1 hP 0 rfl rfl 1 (by decide) (hts (.fieldLink RX8 13 "FieldsByClassesModel" "bits" "[J") (by decide +kernel)) (fun _ h9 => h9) rfl dX8_tell_19 ?_
    refine lv_iload_n hx hb dX8_tell_22 rfl (lv_at hl 2 rfl) ?_
    obtain ⟨hi23, h⟩ := pf_need h
    refine va_lald hx hb hK.1 hP 2 1 rfl rfl (ain_of hi23) dX8_tell_23 ?_
    refine lv_lstore (lv' := [(4, .long (f_bits (y1).toNatClampNeg)), (3, .int (f_bar (y1).toNatClampNeg)), (0, .ref q), (1, .int y1), (2, .int y2)]) hx hb dX8_tell_24 hl (by decide) rfl (fun ls hl => ?_)
    refine lv_iload_n hx hb dX8_tell_26 rfl (lv_at hl 4 rfl) ?_
    by_cases c27_0 : y2 = (0 : Int32)
    · have h := pf_pos h c27_0
      refine pf_eqi c27_0 ?_
      refine lv_tableIn (tgt := 64) hx hb dX8_tell_27 (by decide) (by decide) rfl (by decide) ?_
      refine lv_iload_n hx hb dX8_tell_64 rfl (lv_at hl 1 rfl) ?_
      cases h
      exact hb_iret hx hb hr hlocks hP hD hS dX8_tell_65
    have h := pf_neg h c27_0
    by_cases c27_1 : y2 = (1 : Int32)
    · have h := pf_pos h c27_1
      refine pf_eqi c27_1 ?_
      refine lv_tableIn (tgt := 66) hx hb dX8_tell_27 (by decide) (by decide) rfl (by decide) ?_
      refine lv_iload_n hx hb dX8_tell_66 rfl (lv_at hl 1 rfl) ?_
      refine lv_lload hx hb dX8_tell_67 (lv_at hl 0 rfl) ?_
      obtain ⟨v69, hv69, h⟩ := pf_bind h
      refine pf_call (As := [.int (f_bar (y1).toNatClampNeg), .long (f_bits (y1).toNatClampNeg)]) (rest := []) S0 (c_X8_degree l (f_bar (y1).toNatClampNeg) (f_bits (y1).toNatClampNeg) v69 hv69) (va_cwS 2 hts gX8_tell_X8_degree rfl rfl rfl kd_X8_degree ⟨Nat.le_of_ble_eq_true rfl, Nat.le_of_ble_eq_true rfl⟩) rfl hl.1 rfl (Nat.le_of_ble_eq_true rfl) dX8_tell_69 ⟨Nat.zero_le _, Nat.zero_le _⟩ ?_
      cases h
      exact hb_iret hx hb hr hlocks hP hD hS dX8_tell_72
    have h := pf_neg h c27_1
    by_cases c27_2 : y2 = (2 : Int32)
    · have h := pf_pos h c27_2
      refine pf_eqi c27_2 ?_
      refine lv_tableIn (tgt := 73) hx hb dX8_tell_27 (by decide) (by decide) rfl (by decide) ?_
      refine lv_iload_n hx hb dX8_tell_73 rfl (lv_at hl 1 rfl) ?_
      refine lv_lload hx hb dX8_tell_74 (lv_at hl 0 rfl) ?_
      obtain ⟨v76, hv76, h⟩ := pf_bind h
      refine pf_call (As := [.int (f_bar (y1).toNatClampNeg), .long (f_bits (y1).toNatClampNeg)]) (rest := []) S0 (c_X8_isReal l (f_bar (y1).toNatClampNeg) (f_bits (y1).toNatClampNeg) v76 hv76) (va_cwS 2 hts gX8_tell_X8_isReal rfl rfl rfl kd_X8_isReal ⟨Nat.le_of_ble_eq_true rfl, Nat.le_of_ble_eq_true rfl⟩) rfl hl.1 rfl (Nat.le_of_ble_eq_true rfl) dX8_tell_76 ⟨Nat.zero_le _, Nat.zero_le _⟩ ?_
      refine lv_if_eq (tgt := 86) hx hb dX8_tell_79 (by decide) (fun c79 => ?_) (fun c79 => ?_)
      · have h := pf_pos h c79
        refine lv_iconst (v := 0) hx hb dX8_tell_86 (by decide) ?_
        cases h
        exact hb_iret hx hb hr hlocks hP hD hS dX8_tell_87
      · have h := pf_neg h c79
        refine lv_iconst (v := 1) hx hb dX8_tell_82 (by decide) ?_
        refine lv_goto (tgt := 87) hx hb dX8_tell_83 (by decide) ?_
        cases h
        exact hb_iret hx hb hr hlocks hP hD hS dX8_tell_87
    have h := pf_neg h c27_2
    by_cases c27_3 : y2 = (3 : Int32)
    · have h := pf_pos h c27_3
      refine pf_eqi c27_3 ?_
      refine lv_tableIn (tgt := 88) hx hb dX8_tell_27 (by decide) (by decide) rfl (by decide) ?_
      refine lv_iload_n hx hb dX8_tell_88 rfl (lv_at hl 1 rfl) ?_
      refine lv_lload hx hb dX8_tell_89 (lv_at hl 0 rfl) ?_
      obtain ⟨v91, hv91, h⟩ := pf_bind h
      refine pf_call (As := [.int (f_bar (y1).toNatClampNeg), .long (f_bits (y1).toNatClampNeg)]) (rest := []) S0 (c_X8_isCyclic l (f_bar (y1).toNatClampNeg) (f_bits (y1).toNatClampNeg) v91 hv91) (va_cwS 2 hts gX8_tell_X8_isCyclic rfl rfl rfl kd_X8_isCyclic ⟨Nat.le_of_ble_eq_true rfl, Nat.le_of_ble_eq_true rfl⟩) rfl hl.1 rfl (Nat.le_of_ble_eq_true rfl) dX8_tell_91 ⟨Nat.zero_le _, Nat.zero_le _⟩ ?_
      refine lv_if_eq (tgt := 101) hx hb dX8_tell_94 (by decide) (fun c94 => ?_) (fun c94 => ?_)
      · have h := pf_pos h c94
        refine lv_iconst (v := 0) hx hb dX8_tell_101 (by decide) ?_
        cases h
        exact hb_iret hx hb hr hlocks hP hD hS dX8_tell_102
      · have h := pf_neg h c94
        refine lv_iconst (v := 1) hx hb dX8_tell_97 (by decide) ?_
        refine lv_goto (tgt := 102) hx hb dX8_tell_98 (by decide) ?_
        cases h
        exact hb_iret hx hb hr hlocks hP hD hS dX8_tell_102
    have h := pf_neg h c27_3
    by_cases c27_4 : y2 = (4 : Int32)
    · have h := pf_pos h c27_4
      refine pf_eqi c27_4 ?_
      refine lv_tableIn (tgt := 103) hx hb dX8_tell_27 (by decide) (by decide) rfl (by decide) ?_
      refine lv_iload_n hx hb dX8_tell_103 rfl (lv_at hl 1 rfl) ?_
      refine lv_lload hx hb dX8_tell_104 (lv_at hl 0 rfl) ?_
      obtain ⟨v106, hv106, h⟩ := pf_bind h
      refine pf_call (As := [.int (f_bar (y1).toNatClampNeg), .long (f_bits (y1).toNatClampNeg)]) (rest := []) S0 (c_X8_isReal l (f_bar (y1).toNatClampNeg) (f_bits (y1).toNatClampNeg) v106 hv106) (va_cwS 2 hts gX8_tell_X8_isReal rfl rfl rfl kd_X8_isReal ⟨Nat.le_of_ble_eq_true rfl, Nat.le_of_ble_eq_true rfl⟩) rfl hl.1 rfl (Nat.le_of_ble_eq_true rfl) dX8_tell_106 ⟨Nat.zero_le _, Nat.zero_le _⟩ ?_
      refine lv_if_ne (tgt := 130) hx hb dX8_tell_109 (by decide) (fun c109 => ?_) (fun c109 => ?_)
      · have h := pf_neg h c109
        refine lv_iconst (v := 1) hx hb dX8_tell_130 (by decide) ?_
        cases h
        exact hb_iret hx hb hr hlocks hP hD hS dX8_tell_131
      · have h := pf_pos h c109
        refine lv_iload_n hx hb dX8_tell_112 rfl (lv_at hl 1 rfl) ?_
        refine lv_lload hx hb dX8_tell_113 (lv_at hl 0 rfl) ?_
        obtain ⟨v115, hv115, h⟩ := pf_bind h
        refine pf_call (As := [.int (f_bar (y1).toNatClampNeg), .long (f_bits (y1).toNatClampNeg)]) (rest := []) S0 (c_X8_degree l (f_bar (y1).toNatClampNeg) (f_bits (y1).toNatClampNeg) v115 hv115) (va_cwS 2 hts gX8_tell_X8_degree rfl rfl rfl kd_X8_degree ⟨Nat.le_of_ble_eq_true rfl, Nat.le_of_ble_eq_true rfl⟩) rfl hl.1 rfl (Nat.le_of_ble_eq_true rfl) dX8_tell_115 ⟨Nat.zero_le _, Nat.zero_le _⟩ ?_
        refine lv_iconst (v := 2) hx hb dX8_tell_118 (by decide) ?_
        refine lv_idiv hx hb dX8_tell_119 (by decide) ?_
        refine lv_iconst (v := 2) hx hb dX8_tell_120 (by decide) ?_
        refine pf_irem hx hb dX8_tell_121 (by decide) ?_
        refine lv_iconst (v := 1) hx hb dX8_tell_122 (by decide) ?_
        refine lv_icmp_ne (tgt := 130) hx hb dX8_tell_123 (by decide) (fun c123 => ?_) (fun c123 => ?_)
        · have h := pf_neg h c123
          refine lv_iconst (v := 1) hx hb dX8_tell_130 (by decide) ?_
          cases h
          exact hb_iret hx hb hr hlocks hP hD hS dX8_tell_131
        · have h := pf_pos h c123
          refine lv_iconst (v := -1) hx hb dX8_tell_126 (by decide) ?_
          refine lv_goto (tgt := 131) hx hb dX8_tell_127 (by decide) ?_
          cases h
          exact hb_iret hx hb hr hlocks hP hD hS dX8_tell_131
    have h := pf_neg h c27_4
    by_cases c27_5 : y2 = (5 : Int32)
    · have h := pf_pos h c27_5
      refine pf_eqi c27_5 ?_
      refine lv_tableIn (tgt := 132) hx hb dX8_tell_27 (by decide) (by decide) rfl (by decide) ?_
      refine lv_aload_n hx hb dX8_tell_132 rfl (lv_at hl 2 rfl) ?_
      refine lv_iload_n hx hb dX8_tell_133 rfl (lv_at hl 1 rfl) ?_
      refine lv_lload hx hb dX8_tell_134 (lv_at hl 0 rfl) ?_
      obtain ⟨v136, hv136, h⟩ := pf_bind h
      refine hb_callv (hb_runV (G := G) (T := hbT cI cJ cZ cS) (As := [.int (f_bar (y1).toNatClampNeg), .long (f_bits (y1).toNatClampNeg)]) (rest := []) S0 (c_X8_between l G cI cJ cZ cS q q_bar q_bits q_made q_has q_groups q_sums q_numbers H.size f_bar f_bits f_made f_has f_groups f_found f_passed f_looked f_sums f_numbers (f_bar (y1).toNatClampNeg) (f_bits (y1).toNatClampNeg) v136 hv136) (cwV 2 hts gX8_tell_X8_between rfl rfl rfl kv_X8_between ⟨Nat.le_of_ble_eq_true rfl, Nat.le_of_ble_eq_true rfl⟩) hK (hP.sub [0, 1, 2, 3, 4, 5, 6, 7] rfl) (hD.sub [0, 1, 2, 3, 4, 5, 6, 7] (by decide) rfl) rfl rfl rfl hl.1 rfl (Nat.le_of_ble_eq_true rfl) dX8_tell_136 ⟨Nat.zero_le _, Nat.zero_le _⟩) hP hD hS hA [0, 1, 2, 3, 4, 5, 6, 7] [] [0, 1, 2, 3, 4, 5, 6, 7] rfl (wr := []) rfl (by decide) (by decide) (w2 := [(q, .inr (6, [.ref q_bar, .ref q_bits, .ref q_made, .ref q_has, .ref q_groups, .int v136.2, .int f_passed, .long f_looked, .ref q_sums, .ref q_numbers])), (q_bar, .inl (cI, 160, .inl f_bar)), (q_bits, .inl (cJ, 160, .inr (.inl f_bits))), (q_made, .inl (cI, 4, .inl f_made)), (q_has, .inl (cZ, 3, .inl f_has)), (q_groups, .inl (cJ, 128, .inr (.inl v136.1))), (q_sums, .inl (cJ, 8, .inr (.inl f_sums))), (q_numbers, .inl (cJ, 9, .inr (.inl f_numbers)))]) (by decide) rfl rfl (fun H locs hP hD hS => ?_)
      refine lv_aload_n hx hb dX8_tell_139 rfl (lv_at hl 2 rfl) ?_
      refine va_get (D := G) (ci := 6) (v := .int v136.2) (C := RX8) (T := TX8) (N := 10) hx hb hts in_X8_tell_X8 hown hK.1 hP 0 rfl rfl 5 (by decide) (hts (.fieldLink RX8 109 "FieldsByClassesModel" "found" "I") (by decide +kernel)) (fun _ h9 => h9) rfl dX8_tell_140 ?_
      cases h
      exact hb_iret hx hb hr hlocks hP hD hS dX8_tell_143
    have h := pf_neg h c27_5
    refine lv_tableOut (tgt := 144) hx hb dX8_tell_27 (pf_sw6 c27_0 c27_1 c27_2 c27_3 c27_4 c27_5) (by decide) ?_
    refine lv_bipush (v := -9) hx hb dX8_tell_144 (by decide) ?_
    cases h
    exact hb_iret hx hb hr hlocks hP hD hS dX8_tell_146
  · have h := pf_pos h c5
    refine lv_bipush (v := -9) hx hb dX8_tell_8 (by decide) ?_
    cases h
    exact hb_iret hx hb hr hlocks hP hD hS dX8_tell_10
-- X8_group
def p_X8_group (f_bits : (Nat → Int64)) (f_made : (Nat → Int32)) (y1 : Int32) : Option Int64 :=
  ((p_X8_isField f_made y1).bind fun v2 => (if v2 = 0 then some (-1 : Int64) else (if ainB y1 160 = true then some (f_bits (y1).toNatClampNeg) else none)))
theorem in_X8_group_X8 : ∀ w ∈ u_ws RX8 TX8 10, w ∈ wsX8_group := fun w h => List.mem_cons_of_mem _ (List.mem_append_right _ h)
theorem kv_X8_group : yX8_group.cls = RX8 ∧ yX8_group.cls ≠ "java/lang/invoke/MethodHandle" ∧ yX8_group.cls ≠ "java/lang/invoke/VarHandle" ∧ (parseMethodDescriptor yX8_group.desc).map (fun d => d.parameters.length) = some 1 := by decide +kernel
set_option maxHeartbeats 4000000 in
set_option maxRecDepth 100000 in
theorem c_X8_group (l : Launch) (G : va_G) (cI cJ cZ cS : ClassId) (q q_bar q_bits q_made q_has q_groups q_sums q_numbers : Nat) (sz : Nat) (f_bar : (Nat → Int32)) (f_bits : (Nat → Int64)) (f_made : (Nat → Int32)) (f_has : (Nat → Int32)) (f_groups : (Nat → Int64)) (f_found : Int32) (f_passed : Int32) (f_looked : Int64) (f_sums : (Nat → Int64)) (f_numbers : (Nat → Int64)) (y1 : Int32) (r : Int64) (h : p_X8_group f_bits f_made y1 = some r) : Met l yX8_group wsX8_group { frames := 2, cells := 0, slots := 0, locals := 43 } (hb_pre G (hbT cI cJ cZ cS) [.ref q, .int y1] sz [(q, .inr (6, [.ref q_bar, .ref q_bits, .ref q_made, .ref q_has, .ref q_groups, .int f_found, .int f_passed, .long f_looked, .ref q_sums, .ref q_numbers])), (q_bar, .inl (cI, 160, .inl f_bar)), (q_bits, .inl (cJ, 160, .inr (.inl f_bits))), (q_made, .inl (cI, 4, .inl f_made)), (q_has, .inl (cZ, 3, .inl f_has)), (q_groups, .inl (cJ, 128, .inr (.inl f_groups))), (q_sums, .inl (cJ, 8, .inr (.inl f_sums))), (q_numbers, .inl (cJ, 9, .inr (.inl f_numbers)))]) (hb_Ql G r [(q, .inr (6, [.ref q_bar, .ref q_bits, .ref q_made, .ref q_has, .ref q_groups, .int f_found, .int f_passed, .long f_looked, .ref q_sums, .ref q_numbers])), (q_bar, .inl (cI, 160, .inl f_bar)), (q_bits, .inl (cJ, 160, .inr (.inl f_bits))), (q_made, .inl (cI, 4, .inl f_made)), (q_has, .inl (cZ, 3, .inl f_has)), (q_groups, .inl (cJ, 128, .inr (.inl f_groups))), (q_sums, .inl (cJ, 8, .inr (.inl f_sums))), (q_numbers, .inl (cJ, 9, .inr (.inl f_numbers)))] (va_A [(q, .inr (6, [.ref q_bar, .ref q_bits, .ref q_made, .ref q_has, .ref q_groups, .int f_found, .int f_passed, .long f_looked, .ref q_sums, .ref q_numbers])), (q_bar, .inl (cI, 160, .inl f_bar)), (q_bits, .inl (cJ, 160, .inr (.inl f_bits))), (q_made, .inl (cI, 4, .inl f_made)), (q_has, .inl (cZ, 3, .inl f_has)), (q_groups, .inl (cJ, 128, .inr (.inl f_groups))), (q_sums, .inl (cJ, 8, .inr (.inl f_sums))), (q_numbers, .inl (cJ, 9, .inr (.inl f_numbers)))] sz)) 0 0 (va_A [(q, .inr (6, [.ref q_bar, .ref q_bits, .ref q_made, .ref q_has, .ref q_groups, .int f_found, .int f_passed, .long f_looked, .ref q_sums, .ref q_numbers])), (q_bar, .inl (cI, 160, .inl f_bar)), (q_bits, .inl (cJ, 160, .inr (.inl f_bits))), (q_made, .inl (cI, 4, .inl f_made)), (q_has, .inl (cZ, 3, .inl f_has)), (q_groups, .inl (cJ, 128, .inr (.inl f_groups))), (q_sums, .inl (cJ, 8, .inr (.inl f_sums))), (q_numbers, .inl (cJ, 9, .inr (.inl f_numbers)))] sz) := by
  refine hb_met (Qc := fun A => hb_Ql G r [(q, .inr (6, [.ref q_bar, .ref q_bits, .ref q_made, .ref q_has, .ref q_groups, .int f_found, .int f_passed, .long f_looked, .ref q_sums, .ref q_numbers])), (q_bar, .inl (cI, 160, .inl f_bar)), (q_bits, .inl (cJ, 160, .inr (.inl f_bits))), (q_made, .inl (cI, 4, .inl f_made)), (q_has, .inl (cZ, 3, .inl f_has)), (q_groups, .inl (cJ, 128, .inr (.inl f_groups))), (q_sums, .inl (cJ, 8, .inr (.inl f_sums))), (q_numbers, .inl (cJ, 9, .inr (.inl f_numbers)))] A) (cc := cX8_group) (maxL := 2) (ret := some .long) (by decide) rfl (Nat.le_of_ble_eq_true rfl) ?_
  intro p e s m below meth c A hx hb hr hts hown hlocks hml hin hK hA hP hD hS ls hl
  have hown : s.vm.findClass RX8 = some m.cls := hown
  have S0 : CallFix p m c cX8_group 2 s ([.ref q, .int y1] : List Value).toArray wsX8_group RX8 := ⟨hx, hb, hml, hown, hts⟩
  have hl : lv_has ls 2 [(0, .ref q), (1, .int y1)] := hl
  suffices hh : ∀ (H : Heap) (locs : List Loc), va_P G vwCl [(q, .inr (6, [.ref q_bar, .ref q_bits, .ref q_made, .ref q_has, .ref q_groups, .int f_found, .int f_passed, .long f_looked, .ref q_sums, .ref q_numbers])), (q_bar, .inl (cI, 160, .inl f_bar)), (q_bits, .inl (cJ, 160, .inr (.inl f_bits))), (q_made, .inl (cI, 4, .inl f_made)), (q_has, .inl (cZ, 3, .inl f_has)), (q_groups, .inl (cJ, 128, .inr (.inl f_groups))), (q_sums, .inl (cJ, 8, .inr (.inl f_sums))), (q_numbers, .inl (cJ, 9, .inr (.inl f_numbers)))] H → va_D A [(q, .inr (6, [.ref q_bar, .ref q_bits, .ref q_made, .ref q_has, .ref q_groups, .int f_found, .int f_passed, .long f_looked, .ref q_sums, .ref q_numbers])), (q_bar, .inl (cI, 160, .inl f_bar)), (q_bits, .inl (cJ, 160, .inr (.inl f_bits))), (q_made, .inl (cI, 4, .inl f_made)), (q_has, .inl (cZ, 3, .inl f_has)), (q_groups, .inl (cJ, 128, .inr (.inl f_groups))), (q_sums, .inl (cJ, 8, .inr (.inl f_sums))), (q_numbers, .inl (cJ, 9, .inr (.inl f_numbers)))] → va_S A s.heap H locs → W p l e (headSpec wsX8_group { frames := 2, cells := 0, slots := 0, locals := 43 }).room s m ([.ref q, .int y1] : List Value).toArray below meth c H locs 0 0 (MQ below (hb_Ql G r [(q, .inr (6, [.ref q_bar, .ref q_bits, .ref q_made, .ref q_has, .ref q_groups, .int f_found, .int f_passed, .long f_looked, .ref q_sums, .ref q_numbers])), (q_bar, .inl (cI, 160, .inl f_bar)), (q_bits, .inl (cJ, 160, .inr (.inl f_bits))), (q_made, .inl (cI, 4, .inl f_made)), (q_has, .inl (cZ, 3, .inl f_has)), (q_groups, .inl (cJ, 128, .inr (.inl f_groups))), (q_sums, .inl (cJ, 8, .inr (.inl f_sums))), (q_numbers, .inl (cJ, 9, .inr (.inl f_numbers)))] A) ([.ref q, .int y1] : List Value).toArray s 0 0 A) (F0 m 0 ls []) from hh s.heap [] hP hD hS
  intro H locs hP hD hS
  unfold p_X8_group at h
  refine lv_aload_n hx hb dX8_group_0 rfl (lv_at hl 0 rfl) ?_
  refine lv_iload_n hx hb dX8_group_1 rfl (lv_at hl 1 rfl) ?_
  obtain ⟨v2, hv2, h⟩ := pf_bind h
  refine hb_calli (hb_runV (G := G) (T := hbT cI cJ cZ cS) (As := [.int y1]) (rest := []) S0 (c_X8_isField l G cI cJ cZ cS q q_bar q_bits q_made q_has q_groups q_sums q_numbers H.size f_bar f_bits f_made f_has f_groups f_found f_passed f_looked f_sums f_numbers y1 v2 hv2) (cwV 1 hts gX8_group_X8_isField rfl rfl rfl kv_X8_isField ⟨Nat.le_of_ble_eq_true rfl, Nat.le_of_ble_eq_true rfl⟩) hK (hP.sub [0, 1, 2, 3, 4, 5, 6, 7] rfl) (hD.sub [0, 1, 2, 3, 4, 5, 6, 7] (by decide) rfl) rfl rfl rfl hl.1 rfl (Nat.le_of_ble_eq_true rfl) dX8_group_2 ⟨Nat.zero_le _, Nat.zero_le _⟩) hP hD hS hA [0, 1, 2, 3, 4, 5, 6, 7] [] [0, 1, 2, 3, 4, 5, 6, 7] rfl (wr := []) rfl (by decide) (by decide) (w2 := [(q, .inr (6, [.ref q_bar, .ref q_bits, .ref q_made, .ref q_has, .ref q_groups, .int f_found, .int f_passed, .long f_looked, .ref q_sums, .ref q_numbers])), (q_bar, .inl (cI, 160, .inl f_bar)), (q_bits, .inl (cJ, 160, .inr (.inl f_bits))), (q_made, .inl (cI, 4, .inl f_made)), (q_has, .inl (cZ, 3, .inl f_has)), (q_groups, .inl (cJ, 128, .inr (.inl f_groups))), (q_sums, .inl (cJ, 8, .inr (.inl f_sums))), (q_numbers, .inl (cJ, 9, .inr (.inl f_numbers)))]) (by decide) rfl rfl (fun H locs hP hD hS => ?_)
  refine lv_if_eq (tgt := 17) hx hb dX8_group_5 (by decide) (fun c5 => ?_) (fun c5 => ?_)
  · have h := pf_pos h c5
    refine lv_ldc2 (v := -1) hx hb hown (hts (.constantLong RX8 88 (-1)) (by decide +kernel)) dX8_group_17 ?_
    cases h
    exact hb_lret hx hb hr hlocks hP hD hS dX8_group_20
  · have h := pf_neg h c5
    refine lv_aload_n hx hb dX8_group_8 rfl (lv_at hl 0 rfl) ?_
    refine va_get (D := G) (ci := 6) (v := .ref q_bits) (C := RX8) (T := TX8) (N := 10) hx hb hts in_X8_group_X8 hown hK.1 hP 0 rfl rfl 1 (by decide) (hts (.fieldLink RX8 13 "FieldsByClassesModel" "bits" "[J") (by decide +kernel)) (fun _ h9 => h9) rfl dX8_group_9 ?_
    refine lv_iload_n hx hb dX8_group_12 rfl (lv_at hl 1 rfl) ?_
    obtain ⟨hi13, h⟩ := pf_need h
    refine va_lald hx hb hK.1 hP 2 1 rfl rfl (ain_of hi13) dX8_group_13 ?_
    refine lv_goto (tgt := 20) hx hb dX8_group_14 (by decide) ?_
    cases h
    exact hb_lret hx hb hr hlocks hP hD hS dX8_group_20
-- X8_parts
def e_X8_parts_132 (x1 : Int32) (x3 : Int32) (x4 : Int32) (x8 : Int32) (x9 : Int32) (f_bits : (Nat → Int64)) : Option Int32 :=
  (if x3 = 0 then some x8 else (if x3 = (1 : Int32) then some x9 else (if ainB x1 160 = true then ((p_X8_degree x4 (f_bits (x1).toNatClampNeg)).bind fun v159 => (if (x8 * x9) = 0 then none else some (v159 / (x8 * x9)))) else none)))
def s_X8_parts_100 (x1 : Int32) (x2 : Int32) (x3 : Int32) (x4 : Int32) (x5 : Int32) (x6 : Int64) (x8 : Int32) (x9 : Int32) (x10 : Int32) (f_bits : (Nat → Int64)) : Option ((Int32 × Int32) ⊕ (Int32)) :=
  ((p_X8_isAmong x4 x5 x10 x6).bind fun v108 => (if v108 = 0 then (if x5 = 0 then none else (if x5 = 0 then none else some (Sum.inl ((x9 + (1 : Int32)), (jrem (x10 * (jrem x2 x5)) x5))))) else some (Sum.inr x9)))
def a_X8_parts_100 (x1 : Int32) (x3 : Int32) (x4 : Int32) (x8 : Int32) (f_bits : (Nat → Int64)) (b : Int32) : Option Int32 := (fun q : Int32 => e_X8_parts_132 x1 x3 x4 x8 q f_bits) b
def g_X8_parts_100 (x1 : Int32) (x2 : Int32) (x3 : Int32) (x4 : Int32) (x5 : Int32) (x6 : Int64) (x8 : Int32) (x9 : Int32) (x10 : Int32) (f_bits : (Nat → Int64)) : Option Int32 := (lpF (fun q : (Int32 × Int32) => s_X8_parts_100 x1 x2 x3 x4 x5 x6 x8 q.1 q.2 f_bits) pfFU (x9, x10)).bind (a_X8_parts_100 x1 x3 x4 x8 f_bits)
def e_X8_parts_54 (x1 : Int32) (x2 : Int32) (x3 : Int32) (x4 : Int32) (x5 : Int32) (f_bits : (Nat → Int64)) : Option Int32 :=
  (if ainB x1 160 = true then ((p_X8_onesBy x4 x5).bind fun v66 => ((p_X8_product x4 (f_bits (x1).toNatClampNeg) v66).bind fun v69 => ((p_X8_many v69).bind fun v76 => (if ainB x1 160 = true then ((p_X8_many (f_bits (x1).toNatClampNeg)).bind fun v85 => (if v85 = 0 then none else (if x5 = 0 then none else g_X8_parts_100 x1 x2 x3 x4 x5 v69 (v76 / v85) (1 : Int32) (jrem x2 x5) f_bits))) else none)))) else none)
def s_X8_parts_38 (x1 : Int32) (x2 : Int32) (x3 : Int32) (x4 : Int32) (x5 : Int32) (f_bits : (Nat → Int64)) : Option (Int32 ⊕ (Int32)) :=
  (if x2 = 0 then none else (if (jrem x5 x2) = 0 then (if x2 = 0 then none else some (Sum.inl (x5 / x2))) else some (Sum.inr x5)))
def a_X8_parts_38 (x1 : Int32) (x2 : Int32) (x3 : Int32) (x4 : Int32) (f_bits : (Nat → Int64)) (b : Int32) : Option Int32 := (fun q : Int32 => e_X8_parts_54 x1 x2 x3 x4 q f_bits) b
def g_X8_parts_38 (x1 : Int32) (x2 : Int32) (x3 : Int32) (x4 : Int32) (x5 : Int32) (f_bits : (Nat → Int64)) : Option Int32 := (lpF (fun q : Int32 => s_X8_parts_38 x1 x2 x3 x4 q f_bits) pfFU x5).bind (a_X8_parts_38 x1 x2 x3 x4 f_bits)
def p_X8_parts (f_bar : (Nat → Int32)) (f_bits : (Nat → Int64)) (f_made : (Nat → Int32)) (y1 : Int32) (y2 : Int32) (y3 : Int32) : Option Int32 :=
  ((p_X8_isField f_made y1).bind fun v2 => (if v2 = 0 then some (-1 : Int32) else ((p_X8_isAsked y2).bind fun v9 => (if v9 = 0 then some (-1 : Int32) else ((p_X8_isIn y3 (0 : Int32) (2 : Int32)).bind fun v18 => (if v18 = 0 then some (-1 : Int32) else (if ainB y1 160 = true then g_X8_parts_38 y1 y2 y3 (f_bar (y1).toNatClampNeg) (f_bar (y1).toNatClampNeg) f_bits else none)))))))
theorem in_X8_parts_X8 : ∀ w ∈ u_ws RX8 TX8 10, w ∈ wsX8_parts := fun w h => List.mem_cons_of_mem _ (List.mem_append_right _ h)
theorem kv_X8_parts : yX8_parts.cls = RX8 ∧ yX8_parts.cls ≠ "java/lang/invoke/MethodHandle" ∧ yX8_parts.cls ≠ "java/lang/invoke/VarHandle" ∧ (parseMethodDescriptor yX8_parts.desc).map (fun d => d.parameters.length) = some 3 := by decide +kernel
set_option maxHeartbeats 4000000 in
set_option maxRecDepth 100000 in
theorem c_X8_parts (l : Launch) (G : va_G) (cI cJ cZ cS : ClassId) (q q_bar q_bits q_made q_has q_groups q_sums q_numbers : Nat) (sz : Nat) (f_bar : (Nat → Int32)) (f_bits : (Nat → Int64)) (f_made : (Nat → Int32)) (f_has : (Nat → Int32)) (f_groups : (Nat → Int64)) (f_found : Int32) (f_passed : Int32) (f_looked : Int64) (f_sums : (Nat → Int64)) (f_numbers : (Nat → Int64)) (y1 : Int32) (y2 : Int32) (y3 : Int32) (r : Int32) (h : p_X8_parts f_bar f_bits f_made y1 y2 y3 = some r) : Met l yX8_parts wsX8_parts { frames := 4, cells := 0, slots := 0, locals := 90 } (hb_pre G (hbT cI cJ cZ cS) [.ref q, .int y1, .int y2, .int y3] sz [(q, .inr (6, [.ref q_bar, .ref q_bits, .ref q_made, .ref q_has, .ref q_groups, .int f_found, .int f_passed, .long f_looked, .ref q_sums, .ref q_numbers])), (q_bar, .inl (cI, 160, .inl f_bar)), (q_bits, .inl (cJ, 160, .inr (.inl f_bits))), (q_made, .inl (cI, 4, .inl f_made)), (q_has, .inl (cZ, 3, .inl f_has)), (q_groups, .inl (cJ, 128, .inr (.inl f_groups))), (q_sums, .inl (cJ, 8, .inr (.inl f_sums))), (q_numbers, .inl (cJ, 9, .inr (.inl f_numbers)))]) (hb_Qi G r [(q, .inr (6, [.ref q_bar, .ref q_bits, .ref q_made, .ref q_has, .ref q_groups, .int f_found, .int f_passed, .long f_looked, .ref q_sums, .ref q_numbers])), (q_bar, .inl (cI, 160, .inl f_bar)), (q_bits, .inl (cJ, 160, .inr (.inl f_bits))), (q_made, .inl (cI, 4, .inl f_made)), (q_has, .inl (cZ, 3, .inl f_has)), (q_groups, .inl (cJ, 128, .inr (.inl f_groups))), (q_sums, .inl (cJ, 8, .inr (.inl f_sums))), (q_numbers, .inl (cJ, 9, .inr (.inl f_numbers)))] (va_A [(q, .inr (6, [.ref q_bar, .ref q_bits, .ref q_made, .ref q_has, .ref q_groups, .int f_found, .int f_passed, .long f_looked, .ref q_sums, .ref q_numbers])), (q_bar, .inl (cI, 160, .inl f_bar)), (q_bits, .inl (cJ, 160, .inr (.inl f_bits))), (q_made, .inl (cI, 4, .inl f_made)), (q_has, .inl (cZ, 3, .inl f_has)), (q_groups, .inl (cJ, 128, .inr (.inl f_groups))), (q_sums, .inl (cJ, 8, .inr (.inl f_sums))), (q_numbers, .inl (cJ, 9, .inr (.inl f_numbers)))] sz)) 0 0 (va_A [(q, .inr (6, [.ref q_bar, .ref q_bits, .ref q_made, .ref q_has, .ref q_groups, .int f_found, .int f_passed, .long f_looked, .ref q_sums, .ref q_numbers])), (q_bar, .inl (cI, 160, .inl f_bar)), (q_bits, .inl (cJ, 160, .inr (.inl f_bits))), (q_made, .inl (cI, 4, .inl f_made)), (q_has, .inl (cZ, 3, .inl f_has)), (q_groups, .inl (cJ, 128, .inr (.inl f_groups))), (q_sums, .inl (cJ, 8, .inr (.inl f_sums))), (q_numbers, .inl (cJ, 9, .inr (.inl f_numbers)))] sz) := by
  refine hb_met (Qc := fun A => hb_Qi G r [(q, .inr (6, [.ref q_bar, .ref q_bits, .ref q_made, .ref q_has, .ref q_groups, .int f_found, .int f_passed, .long f_looked, .ref q_sums, .ref q_numbers])), (q_bar, .inl (cI, 160, .inl f_bar)), (q_bits, .inl (cJ, 160, .inr (.inl f_bits))), (q_made, .inl (cI, 4, .inl f_made)), (q_has, .inl (cZ, 3, .inl f_has)), (q_groups, .inl (cJ, 128, .inr (.inl f_groups))), (q_sums, .inl (cJ, 8, .inr (.inl f_sums))), (q_numbers, .inl (cJ, 9, .inr (.inl f_numbers)))] A) (cc := cX8_parts) (maxL := 11) (ret := some .int) (by decide) rfl (Nat.le_of_ble_eq_true rfl) ?_
  intro p e s m below meth c A hx hb hr hts hown hlocks hml hin hK hA hP hD hS ls hl
  have hown : s.vm.findClass RX8 = some m.cls := hown
  have S0 : CallFix p m c cX8_parts 11 s ([.ref q, .int y1, .int y2, .int y3] : List Value).toArray wsX8_parts RX8 := ⟨hx, hb, hml, hown, hts⟩
  have hl : lv_has ls 11 [(0, .ref q), (1, .int y1), (2, .int y2), (3, .int y3)] := hl
  have K132 : ∀ (x1 : Int32) (x3 : Int32) (x4 : Int32) (x8 : Int32) (x9 : Int32), e_X8_parts_132 x1 x3 x4 x8 x9 f_bits = some r → ∀ (H : Heap) (locs : List Loc), va_P G vwCl [(q, .inr (6, [.ref q_bar, .ref q_bits, .ref q_made, .ref q_has, .ref q_groups, .int f_found, .int f_passed, .long f_looked, .ref q_sums, .ref q_numbers])), (q_bar, .inl (cI, 160, .inl f_bar)), (q_bits, .inl (cJ, 160, .inr (.inl f_bits))), (q_made, .inl (cI, 4, .inl f_made)), (q_has, .inl (cZ, 3, .inl f_has)), (q_groups, .inl (cJ, 128, .inr (.inl f_groups))), (q_sums, .inl (cJ, 8, .inr (.inl f_sums))), (q_numbers, .inl (cJ, 9, .inr (.inl f_numbers)))] H → va_D A [(q, .inr (6, [.ref q_bar, .ref q_bits, .ref q_made, .ref q_has, .ref q_groups, .int f_found, .int f_passed, .long f_looked, .ref q_sums, .ref q_numbers])), (q_bar, .inl (cI, 160, .inl f_bar)), (q_bits, .inl (cJ, 160, .inr (.inl f_bits))), (q_made, .inl (cI, 4, .inl f_made)), (q_has, .inl (cZ, 3, .inl f_has)), (q_groups, .inl (cJ, 128, .inr (.inl f_groups))), (q_sums, .inl (cJ, 8, .inr (.inl f_sums))), (q_numbers, .inl (cJ, 9, .inr (.inl f_numbers)))] → va_S A s.heap H locs → ∀ ls, lv_has ls 11 [(0, .ref q), (1, .int x1), (3, .int x3), (4, .int x4), (8, .int x8), (9, .int x9)] → W p l e (headSpec wsX8_parts { frames := 4, cells := 0, slots := 0, locals := 90 }).room s m ([.ref q, .int y1, .int y2, .int y3] : List Value).toArray below meth c H locs 0 0 (MQ below (hb_Qi G r [(q, .inr (6, [.ref q_bar, .ref q_bits, .ref q_made, .ref q_has, .ref q_groups, .int f_found, .int f_passed, .long f_looked, .ref q_sums, .ref q_numbers])), (q_bar, .inl (cI, 160, .inl f_bar)), (q_bits, .inl (cJ, 160, .inr (.inl f_bits))), (q_made, .inl (cI, 4, .inl f_made)), (q_has, .inl (cZ, 3, .inl f_has)), (q_groups, .inl (cJ, 128, .inr (.inl f_groups))), (q_sums, .inl (cJ, 8, .inr (.inl f_sums))), (q_numbers, .inl (cJ, 9, .inr (.inl f_numbers)))] A) ([.ref q, .int y1, .int y2, .int y3] : List Value).toArray s 0 0 A) (F0 m 132 ls []) := by
    intro x1 x3 x4 x8 x9 h H locs hP hD hS ls hl
    unfold e_X8_parts_132 at h
    refine lv_iload_n hx hb dX8_parts_132 rfl (lv_at hl 2 rfl) ?_
    refine lv_if_ne (tgt := 141) hx hb dX8_parts_133 (by decide) (fun c133 => ?_) (fun c133 => ?_)
    · have h := pf_neg h c133
      refine lv_iload_n hx hb dX8_parts_141 rfl (lv_at hl 2 rfl) ?_
      refine lv_iconst (v := 1) hx hb dX8_parts_142 (by decide) ?_
      refine lv_icmp_ne (tgt := 151) hx hb dX8_parts_143 (by decide) (fun c143 => ?_) (fun c143 => ?_)
      · have h := pf_neg h c143
        refine lv_iload hx hb dX8_parts_151 (lv_at hl 3 rfl) ?_
        refine lv_aload_n hx hb dX8_parts_153 rfl (lv_at hl 0 rfl) ?_
        refine va_get (D := G) (ci := 6) (v := .ref q_bits) (C := RX8) (T := TX8) (N := 10) hx hb hts in_X8_parts_X8 hown hK.1 hP 0 rfl rfl 1 (by decide) (hts (.fieldLink RX8 13 "FieldsByClassesModel" "bits" "[J") (by decide +kernel)) (fun _ h9 => h9) rfl dX8_parts_154 ?_
        refine lv_iload_n hx hb dX8_parts_157 rfl (lv_at hl 1 rfl) ?_
        obtain ⟨hi158, h⟩ := pf_need h
        refine va_lald hx hb hK.1 hP 2 1 rfl rfl (ain_of hi158) dX8_parts_158 ?_
        obtain ⟨v159, hv159, h⟩ := pf_bind h
        refine pf_call (As := [.int x4, .long (f_bits (x1).toNatClampNeg)]) (rest := []) S0 (c_X8_degree l x4 (f_bits (x1).toNatClampNeg) v159 hv159) (va_cwS 2 hts gX8_parts_X8_degree rfl rfl rfl kd_X8_degree ⟨Nat.le_of_ble_eq_true rfl, Nat.le_of_ble_eq_true rfl⟩) rfl hl.1 rfl (Nat.le_of_ble_eq_true rfl) dX8_parts_159 ⟨Nat.zero_le _, Nat.zero_le _⟩ ?_
        refine lv_iload hx hb dX8_parts_162 (lv_at hl 4 rfl) ?_
        refine lv_iload hx hb dX8_parts_164 (lv_at hl 5 rfl) ?_
        refine lv_imul hx hb dX8_parts_166 ?_
        obtain ⟨hd167, h⟩ := pf_guard h
        refine lv_idiv hx hb dX8_parts_167 hd167 ?_
        cases h
        exact hb_iret hx hb hr hlocks hP hD hS dX8_parts_168
      · have h := pf_pos h c143
        refine lv_iload hx hb dX8_parts_146 (lv_at hl 5 rfl) ?_
        refine lv_goto (tgt := 168) hx hb dX8_parts_148 (by decide) ?_
        cases h
        exact hb_iret hx hb hr hlocks hP hD hS dX8_parts_168
    · have h := pf_pos h c133
      refine lv_iload hx hb dX8_parts_136 (lv_at hl 4 rfl) ?_
      refine lv_goto (tgt := 168) hx hb dX8_parts_138 (by decide) ?_
      cases h
      exact hb_iret hx hb hr hlocks hP hD hS dX8_parts_168
  have L100 : ∀ (n : Nat) (x1 : Int32) (x2 : Int32) (x3 : Int32) (x4 : Int32) (x5 : Int32) (x6 : Int64) (x8 : Int32) (x9 : Int32) (x10 : Int32) (b : Int32), lpF (fun q : (Int32 × Int32) => s_X8_parts_100 x1 x2 x3 x4 x5 x6 x8 q.1 q.2 f_bits) n (x9, x10) = some b → a_X8_parts_100 x1 x3 x4 x8 f_bits b = some r → ∀ (H : Heap) (locs : List Loc), va_P G vwCl [(q, .inr (6, [.ref q_bar, .ref q_bits, .ref q_made, .ref q_has, .ref q_groups, .int f_found, .int f_passed, .long f_looked, .ref q_sums, .ref q_numbers])), (q_bar, .inl (cI, 160, .inl f_bar)), (q_bits, .inl (cJ, 160, .inr (.inl f_bits))), (q_made, .inl (cI, 4, .inl f_made)), (q_has, .inl (cZ, 3, .inl f_has)), (q_groups, .inl (cJ, 128, .inr (.inl f_groups))), (q_sums, .inl (cJ, 8, .inr (.inl f_sums))), (q_numbers, .inl (cJ, 9, .inr (.inl f_numbers)))] H → va_D A [(q, .inr (6, [.ref q_bar, .ref q_bits, .ref q_made, .ref q_has, .ref q_groups, .int f_found, .int f_passed, .long f_looked, .ref q_sums, .ref q_numbers])), (q_bar, .inl (cI, 160, .inl f_bar)), (q_bits, .inl (cJ, 160, .inr (.inl f_bits))), (q_made, .inl (cI, 4, .inl f_made)), (q_has, .inl (cZ, 3, .inl f_has)), (q_groups, .inl (cJ, 128, .inr (.inl f_groups))), (q_sums, .inl (cJ, 8, .inr (.inl f_sums))), (q_numbers, .inl (cJ, 9, .inr (.inl f_numbers)))] → va_S A s.heap H locs → ∀ ls, lv_has ls 11 [(0, .ref q), (1, .int x1), (2, .int x2), (3, .int x3), (4, .int x4), (5, .int x5), (6, .long x6), (8, .int x8), (9, .int x9), (10, .int x10)] → W p l e (headSpec wsX8_parts { frames := 4, cells := 0, slots := 0, locals := 90 }).room s m ([.ref q, .int y1, .int y2, .int y3] : List Value).toArray below meth c H locs 0 0 (MQ below (hb_Qi G r [(q, .inr (6, [.ref q_bar, .ref q_bits, .ref q_made, .ref q_has, .ref q_groups, .int f_found, .int f_passed, .long f_looked, .ref q_sums, .ref q_numbers])), (q_bar, .inl (cI, 160, .inl f_bar)), (q_bits, .inl (cJ, 160, .inr (.inl f_bits))), (q_made, .inl (cI, 4, .inl f_made)), (q_has, .inl (cZ, 3, .inl f_has)), (q_groups, .inl (cJ, 128, .inr (.inl f_groups))), (q_sums, .inl (cJ, 8, .inr (.inl f_sums))), (q_numbers, .inl (cJ, 9, .inr (.inl f_numbers)))] A) ([.ref q, .int y1, .int y2, .int y3] : List Value).toArray s 0 0 A) (F0 m 100 ls []) := by
    intro n
    induction n with
    | zero => intro x1 x2 x3 x4 x5 x6 x8 x9 x10 b h; exact lp_zero h
    | succ n ih =>
      intro x1 x2 x3 x4 x5 x6 x8 x9 x10 b h ha H locs hP hD hS ls hl
      obtain ⟨z100, h, hz⟩ := lp_open h
      have h : s_X8_parts_100 x1 x2 x3 x4 x5 x6 x8 x9 x10 f_bits = some z100 := h
      unfold s_X8_parts_100 at h
      refine lv_iload hx hb dX8_parts_100 (lv_at hl 4 rfl) ?_
      refine lv_iload hx hb dX8_parts_102 (lv_at hl 5 rfl) ?_
      refine lv_iload hx hb dX8_parts_104 (lv_at hl 9 rfl) ?_
      refine lv_lload hx hb dX8_parts_106 (lv_at hl 6 rfl) ?_
      obtain ⟨v108, hv108, h⟩ := pf_bind h
      refine pf_call (As := [.int x4, .int x5, .int x10, .long x6]) (rest := []) S0 (c_X8_isAmong l x4 x5 x10 x6 v108 hv108) (va_cwS 4 hts gX8_parts_X8_isAmong rfl rfl rfl kd_X8_isAmong ⟨Nat.le_of_ble_eq_true rfl, Nat.le_of_ble_eq_true rfl⟩) rfl hl.1 rfl (Nat.le_of_ble_eq_true rfl) dX8_parts_108 ⟨Nat.zero_le _, Nat.zero_le _⟩ ?_
      refine lv_if_ne (tgt := 132) hx hb dX8_parts_111 (by decide) (fun c111 => ?_) (fun c111 => ?_)
      · have h := pf_neg h c111
        have ha := pf_aft ha (lp_exit h hz)
        exact K132 x1 x3 x4 x8 x9 ha H locs hP hD hS ls (lv_sub hl [0, 1, 3, 4, 7, 8] rfl)
      · have h := pf_pos h c111
        refine lv_iload hx hb dX8_parts_114 (lv_at hl 9 rfl) ?_
        refine lv_iload_n hx hb dX8_parts_116 rfl (lv_at hl 2 rfl) ?_
        refine lv_iload hx hb dX8_parts_117 (lv_at hl 5 rfl) ?_
        obtain ⟨hd119, h⟩ := pf_guard h
        refine pf_irem hx hb dX8_parts_119 hd119 ?_
        refine lv_imul hx hb dX8_parts_120 ?_
        refine lv_iload hx hb dX8_parts_121 (lv_at hl 5 rfl) ?_
        obtain ⟨hd123, h⟩ := pf_guard h
        refine pf_irem hx hb dX8_parts_123 hd123 ?_
        refine lv_istore (lv' := [(10, .int (jrem (x10 * (jrem x2 x5)) x5)), (0, .ref q), (1, .int x1), (2, .int x2), (3, .int x3), (4, .int x4), (5, .int x5), (6, .long x6), (8, .int x8), (9, .int x9)]) hx hb dX8_parts_124 hl (by decide) rfl (fun ls hl => ?_)
        refine lv_iinc (v := (x9 + (1 : Int32))) (lv' := [(9, .int (x9 + (1 : Int32))), (10, .int (jrem (x10 * (jrem x2 x5)) x5)), (0, .ref q), (1, .int x1), (2, .int x2), (3, .int x3), (4, .int x4), (5, .int x5), (6, .long x6), (8, .int x8)]) hx hb dX8_parts_126 hl (k := 9) rfl rfl (by decide) rfl (fun ls hl => ?_)
        refine lv_goto (tgt := 100) hx hb dX8_parts_129 (by decide) ?_
        exact ih x1 x2 x3 x4 x5 x6 x8 (x9 + (1 : Int32)) (jrem (x10 * (jrem x2 x5)) x5) b (lp_cont h hz) ha H locs hP hD hS ls (lv_sub hl [2, 3, 4, 5, 6, 7, 8, 9, 0, 1] rfl)
  have G100 : ∀ (x1 : Int32) (x2 : Int32) (x3 : Int32) (x4 : Int32) (x5 : Int32) (x6 : Int64) (x8 : Int32) (x9 : Int32) (x10 : Int32), g_X8_parts_100 x1 x2 x3 x4 x5 x6 x8 x9 x10 f_bits = some r → ∀ (H : Heap) (locs : List Loc), va_P G vwCl [(q, .inr (6, [.ref q_bar, .ref q_bits, .ref q_made, .ref q_has, .ref q_groups, .int f_found, .int f_passed, .long f_looked, .ref q_sums, .ref q_numbers])), (q_bar, .inl (cI, 160, .inl f_bar)), (q_bits, .inl (cJ, 160, .inr (.inl f_bits))), (q_made, .inl (cI, 4, .inl f_made)), (q_has, .inl (cZ, 3, .inl f_has)), (q_groups, .inl (cJ, 128, .inr (.inl f_groups))), (q_sums, .inl (cJ, 8, .inr (.inl f_sums))), (q_numbers, .inl (cJ, 9, .inr (.inl f_numbers)))] H → va_D A [(q, .inr (6, [.ref q_bar, .ref q_bits, .ref q_made, .ref q_has, .ref q_groups, .int f_found, .int f_passed, .long f_looked, .ref q_sums, .ref q_numbers])), (q_bar, .inl (cI, 160, .inl f_bar)), (q_bits, .inl (cJ, 160, .inr (.inl f_bits))), (q_made, .inl (cI, 4, .inl f_made)), (q_has, .inl (cZ, 3, .inl f_has)), (q_groups, .inl (cJ, 128, .inr (.inl f_groups))), (q_sums, .inl (cJ, 8, .inr (.inl f_sums))), (q_numbers, .inl (cJ, 9, .inr (.inl f_numbers)))] → va_S A s.heap H locs → ∀ ls, lv_has ls 11 [(0, .ref q), (1, .int x1), (2, .int x2), (3, .int x3), (4, .int x4), (5, .int x5), (6, .long x6), (8, .int x8), (9, .int x9), (10, .int x10)] → W p l e (headSpec wsX8_parts { frames := 4, cells := 0, slots := 0, locals := 90 }).room s m ([.ref q, .int y1, .int y2, .int y3] : List Value).toArray below meth c H locs 0 0 (MQ below (hb_Qi G r [(q, .inr (6, [.ref q_bar, .ref q_bits, .ref q_made, .ref q_has, .ref q_groups, .int f_found, .int f_passed, .long f_looked, .ref q_sums, .ref q_numbers])), (q_bar, .inl (cI, 160, .inl f_bar)), (q_bits, .inl (cJ, 160, .inr (.inl f_bits))), (q_made, .inl (cI, 4, .inl f_made)), (q_has, .inl (cZ, 3, .inl f_has)), (q_groups, .inl (cJ, 128, .inr (.inl f_groups))), (q_sums, .inl (cJ, 8, .inr (.inl f_sums))), (q_numbers, .inl (cJ, 9, .inr (.inl f_numbers)))] A) ([.ref q, .int y1, .int y2, .int y3] : List Value).toArray s 0 0 A) (F0 m 100 ls []) := by
    intro x1 x2 x3 x4 x5 x6 x8 x9 x10 h
    unfold g_X8_parts_100 at h
    obtain ⟨b, h, ha⟩ := pf_bind h
    exact L100 pfFU x1 x2 x3 x4 x5 x6 x8 x9 x10 b h ha
  have K54 : ∀ (x1 : Int32) (x2 : Int32) (x3 : Int32) (x4 : Int32) (x5 : Int32), e_X8_parts_54 x1 x2 x3 x4 x5 f_bits = some r → ∀ (H : Heap) (locs : List Loc), va_P G vwCl [(q, .inr (6, [.ref q_bar, .ref q_bits, .ref q_made, .ref q_has, .ref q_groups, .int f_found, .int f_passed, .long f_looked, .ref q_sums, .ref q_numbers])), (q_bar, .inl (cI, 160, .inl f_bar)), (q_bits, .inl (cJ, 160, .inr (.inl f_bits))), (q_made, .inl (cI, 4, .inl f_made)), (q_has, .inl (cZ, 3, .inl f_has)), (q_groups, .inl (cJ, 128, .inr (.inl f_groups))), (q_sums, .inl (cJ, 8, .inr (.inl f_sums))), (q_numbers, .inl (cJ, 9, .inr (.inl f_numbers)))] H → va_D A [(q, .inr (6, [.ref q_bar, .ref q_bits, .ref q_made, .ref q_has, .ref q_groups, .int f_found, .int f_passed, .long f_looked, .ref q_sums, .ref q_numbers])), (q_bar, .inl (cI, 160, .inl f_bar)), (q_bits, .inl (cJ, 160, .inr (.inl f_bits))), (q_made, .inl (cI, 4, .inl f_made)), (q_has, .inl (cZ, 3, .inl f_has)), (q_groups, .inl (cJ, 128, .inr (.inl f_groups))), (q_sums, .inl (cJ, 8, .inr (.inl f_sums))), (q_numbers, .inl (cJ, 9, .inr (.inl f_numbers)))] → va_S A s.heap H locs → ∀ ls, lv_has ls 11 [(0, .ref q), (1, .int x1), (2, .int x2), (3, .int x3), (4, .int x4), (5, .int x5)] → W p l e (headSpec wsX8_parts { frames := 4, cells := 0, slots := 0, locals := 90 }).room s m ([.ref q, .int y1, .int y2, .int y3] : List Value).toArray below meth c H locs 0 0 (MQ below (hb_Qi G r [(q, .inr (6, [.ref q_bar, .ref q_bits, .ref q_made, .ref q_has, .ref q_groups, .int f_found, .int f_passed, .long f_looked, .ref q_sums, .ref q_numbers])), (q_bar, .inl (cI, 160, .inl f_bar)), (q_bits, .inl (cJ, 160, .inr (.inl f_bits))), (q_made, .inl (cI, 4, .inl f_made)), (q_has, .inl (cZ, 3, .inl f_has)), (q_groups, .inl (cJ, 128, .inr (.inl f_groups))), (q_sums, .inl (cJ, 8, .inr (.inl f_sums))), (q_numbers, .inl (cJ, 9, .inr (.inl f_numbers)))] A) ([.ref q, .int y1, .int y2, .int y3] : List Value).toArray s 0 0 A) (F0 m 54 ls []) := by
    intro x1 x2 x3 x4 x5 h H locs hP hD hS ls hl
    unfold e_X8_parts_54 at h
    refine lv_iload hx hb dX8_parts_54 (lv_at hl 4 rfl) ?_
    refine lv_aload_n hx hb dX8_parts_56 rfl (lv_at hl 0 rfl) ?_
    refine va_get (D := G) (ci := 6) (v := .ref q_bits) (C := RX8) (T := TX8) (N := 10) hx hb hts in_X8_parts_X8 hown hK.1 hP 0 rfl rfl 1 (by decide) (hts (.fieldLink RX8 13 "FieldsByClassesModel" "bits" "[J") (by decide +kernel)) (fun _ h9 => h9) rfl dX8_parts_57 ?_
    refine lv_iload_n hx hb dX8_parts_60 rfl (lv_at hl 1 rfl) ?_
    obtain ⟨hi61, h⟩ := pf_need h
    refine va_lald hx hb hK.1 hP 2 1 rfl rfl (ain_of hi61) dX8_parts_61 ?_
    refine lv_iload hx hb dX8_parts_62 (lv_at hl 4 rfl) ?_
    refine lv_iload hx hb dX8_parts_64 (lv_at hl 5 rfl) ?_
    obtain ⟨v66, hv66, h⟩ := pf_bind h
    refine pf_call (As := [.int x4, .int x5]) (rest := [.long (f_bits (x1).toNatClampNeg), .int x4]) S0 (c_X8_onesBy l x4 x5 v66 hv66) (va_cwS 2 hts gX8_parts_X8_onesBy rfl rfl rfl kd_X8_onesBy ⟨Nat.le_of_ble_eq_true rfl, Nat.le_of_ble_eq_true rfl⟩) rfl hl.1 rfl (Nat.le_of_ble_eq_true rfl) dX8_parts_66 ⟨Nat.zero_le _, Nat.zero_le _⟩ ?_
    obtain ⟨v69, hv69, h⟩ := pf_bind h
    refine pf_call (As := [.int x4, .long (f_bits (x1).toNatClampNeg), .long v66]) (rest := []) S0 (c_X8_product l x4 (f_bits (x1).toNatClampNeg) v66 v69 hv69) (va_cwS 3 hts gX8_parts_X8_product rfl rfl rfl kd_X8_product ⟨Nat.le_of_ble_eq_true rfl, Nat.le_of_ble_eq_true rfl⟩) rfl hl.1 rfl (Nat.le_of_ble_eq_true rfl) dX8_parts_69 ⟨Nat.zero_le _, Nat.zero_le _⟩ ?_
    refine lv_lstore (lv' := [(6, .long v69), (0, .ref q), (1, .int x1), (2, .int x2), (3, .int x3), (4, .int x4), (5, .int x5)]) hx hb dX8_parts_72 hl (by decide) rfl (fun ls hl => ?_)
    refine lv_lload hx hb dX8_parts_74 (lv_at hl 0 rfl) ?_
    obtain ⟨v76, hv76, h⟩ := pf_bind h
    refine pf_call (As := [.long v69]) (rest := []) S0 (c_X8_many l v69 v76 hv76) (va_cwS 1 hts gX8_parts_X8_many rfl rfl rfl kd_X8_many ⟨Nat.le_of_ble_eq_true rfl, Nat.le_of_ble_eq_true rfl⟩) rfl hl.1 rfl (Nat.le_of_ble_eq_true rfl) dX8_parts_76 ⟨Nat.zero_le _, Nat.zero_le _⟩ ?_
    refine lv_aload_n hx hb dX8_parts_79 rfl (lv_at hl 1 rfl) ?_
    refine va_get (D := G) (ci := 6) (v := .ref q_bits) (C := RX8) (T := TX8) (N := 10) hx hb hts in_X8_parts_X8 hown hK.1 hP 0 rfl rfl 1 (by decide) (hts (.fieldLink RX8 13 "FieldsByClassesModel" "bits" "[J") (by decide +kernel)) (fun _ h9 => h9) rfl dX8_parts_80 ?_
    refine lv_iload_n hx hb dX8_parts_83 rfl (lv_at hl 2 rfl) ?_
    obtain ⟨hi84, h⟩ := pf_need h
    refine va_lald hx hb hK.1 hP 2 1 rfl rfl (ain_of hi84) dX8_parts_84 ?_
    obtain ⟨v85, hv85, h⟩ := pf_bind h
    refine pf_call (As := [.long (f_bits (x1).toNatClampNeg)]) (rest := [.int v76]) S0 (c_X8_many l (f_bits (x1).toNatClampNeg) v85 hv85) (va_cwS 1 hts gX8_parts_X8_many rfl rfl rfl kd_X8_many ⟨Nat.le_of_ble_eq_true rfl, Nat.le_of_ble_eq_true rfl⟩) rfl hl.1 rfl (Nat.le_of_ble_eq_true rfl) dX8_parts_85 ⟨Nat.zero_le _, Nat.zero_le _⟩ ?_
    obtain ⟨hd88, h⟩ := pf_guard h
    refine lv_idiv hx hb dX8_parts_88 hd88 ?_
    refine lv_istore (lv' := [(8, .int (v76 / v85)), (6, .long v69), (0, .ref q), (1, .int x1), (2, .int x2), (3, .int x3), (4, .int x4), (5, .int x5)]) hx hb dX8_parts_89 hl (by decide) rfl (fun ls hl => ?_)
    refine lv_iconst (v := 1) hx hb dX8_parts_91 (by decide) ?_
    refine lv_istore (lv' := [(9, .int (1 : Int32)), (8, .int (v76 / v85)), (6, .long v69), (0, .ref q), (1, .int x1), (2, .int x2), (3, .int x3), (4, .int x4), (5, .int x5)]) hx hb dX8_parts_92 hl (by decide) rfl (fun ls hl => ?_)
    refine lv_iload_n hx hb dX8_parts_94 rfl (lv_at hl 5 rfl) ?_
    refine lv_iload hx hb dX8_parts_95 (lv_at hl 8 rfl) ?_
    obtain ⟨hd97, h⟩ := pf_guard h
    refine pf_irem hx hb dX8_parts_97 hd97 ?_
    refine lv_istore (lv' := [(10, .int (jrem x2 x5)), (9, .int (1 : Int32)), (8, .int (v76 / v85)), (6, .long v69), (0, .ref q), (1, .int x1), (2, .int x2), (3, .int x3), (4, .int x4), (5, .int x5)]) hx hb dX8_parts_98 hl (by decide) rfl (fun ls hl => ?_)
    exact G100 x1 x2 x3 x4 x5 v69 (v76 / v85) (1 : Int32) (jrem x2 x5) h H locs hP hD hS ls (lv_sub hl [4, 5, 6, 7, 8, 9, 3, 2, 1, 0] rfl)
  have L38 : ∀ (n : Nat) (x1 : Int32) (x2 : Int32) (x3 : Int32) (x4 : Int32) (x5 : Int32) (b : Int32), lpF (fun q : Int32 => s_X8_parts_38 x1 x2 x3 x4 q f_bits) n x5 = some b → a_X8_parts_38 x1 x2 x3 x4 f_bits b = some r → ∀ (H : Heap) (locs : List Loc), va_P G vwCl [(q, .inr (6, [.ref q_bar, .ref q_bits, .ref q_made, .ref q_has, .ref q_groups, .int f_found, .int f_passed, .long f_looked, .ref q_sums, .ref q_numbers])), (q_bar, .inl (cI, 160, .inl f_bar)), (q_bits, .inl (cJ, 160, .inr (.inl f_bits))), (q_made, .inl (cI, 4, .inl f_made)), (q_has, .inl (cZ, 3, .inl f_has)), (q_groups, .inl (cJ, 128, .inr (.inl f_groups))), (q_sums, .inl (cJ, 8, .inr (.inl f_sums))), (q_numbers, .inl (cJ, 9, .inr (.inl f_numbers)))] H → va_D A [(q, .inr (6, [.ref q_bar, .ref q_bits, .ref q_made, .ref q_has, .ref q_groups, .int f_found, .int f_passed, .long f_looked, .ref q_sums, .ref q_numbers])), (q_bar, .inl (cI, 160, .inl f_bar)), (q_bits, .inl (cJ, 160, .inr (.inl f_bits))), (q_made, .inl (cI, 4, .inl f_made)), (q_has, .inl (cZ, 3, .inl f_has)), (q_groups, .inl (cJ, 128, .inr (.inl f_groups))), (q_sums, .inl (cJ, 8, .inr (.inl f_sums))), (q_numbers, .inl (cJ, 9, .inr (.inl f_numbers)))] → va_S A s.heap H locs → ∀ ls, lv_has ls 11 [(0, .ref q), (1, .int x1), (2, .int x2), (3, .int x3), (4, .int x4), (5, .int x5)] → W p l e (headSpec wsX8_parts { frames := 4, cells := 0, slots := 0, locals := 90 }).room s m ([.ref q, .int y1, .int y2, .int y3] : List Value).toArray below meth c H locs 0 0 (MQ below (hb_Qi G r [(q, .inr (6, [.ref q_bar, .ref q_bits, .ref q_made, .ref q_has, .ref q_groups, .int f_found, .int f_passed, .long f_looked, .ref q_sums, .ref q_numbers])), (q_bar, .inl (cI, 160, .inl f_bar)), (q_bits, .inl (cJ, 160, .inr (.inl f_bits))), (q_made, .inl (cI, 4, .inl f_made)), (q_has, .inl (cZ, 3, .inl f_has)), (q_groups, .inl (cJ, 128, .inr (.inl f_groups))), (q_sums, .inl (cJ, 8, .inr (.inl f_sums))), (q_numbers, .inl (cJ, 9, .inr (.inl f_numbers)))] A) ([.ref q, .int y1, .int y2, .int y3] : List Value).toArray s 0 0 A) (F0 m 38 ls []) := by
    intro n
    induction n with
    | zero => intro x1 x2 x3 x4 x5 b h; exact lp_zero h
    | succ n ih =>
      intro x1 x2 x3 x4 x5 b h ha H locs hP hD hS ls hl
      obtain ⟨z38, h, hz⟩ := lp_open h
      have h : s_X8_parts_38 x1 x2 x3 x4 x5 f_bits = some z38 := h
      unfold s_X8_parts_38 at h
      refine lv_iload hx hb dX8_parts_38 (lv_at hl 5 rfl) ?_
      refine lv_iload_n hx hb dX8_parts_40 rfl (lv_at hl 2 rfl) ?_
      obtain ⟨hd41, h⟩ := pf_guard h
      refine pf_irem hx hb dX8_parts_41 hd41 ?_
      refine lv_if_ne (tgt := 54) hx hb dX8_parts_42 (by decide) (fun c42 => ?_) (fun c42 => ?_)
      · have h := pf_neg h c42
        have ha := pf_aft ha (lp_exit h hz)
        exact K54 x1 x2 x3 x4 x5 ha H locs hP hD hS ls (lv_sub hl [0, 1, 2, 3, 4, 5] rfl)
      · have h := pf_pos h c42
        refine lv_iload hx hb dX8_parts_45 (lv_at hl 5 rfl) ?_
        refine lv_iload_n hx hb dX8_parts_47 rfl (lv_at hl 2 rfl) ?_
        obtain ⟨hd48, h⟩ := pf_guard h
        refine lv_idiv hx hb dX8_parts_48 hd48 ?_
        refine lv_istore (lv' := [(5, .int (x5 / x2)), (0, .ref q), (1, .int x1), (2, .int x2), (3, .int x3), (4, .int x4)]) hx hb dX8_parts_49 hl (by decide) rfl (fun ls hl => ?_)
        refine lv_goto (tgt := 38) hx hb dX8_parts_51 (by decide) ?_
        exact ih x1 x2 x3 x4 (x5 / x2) b (lp_cont h hz) ha H locs hP hD hS ls (lv_sub hl [1, 2, 3, 4, 5, 0] rfl)
  have G38 : ∀ (x1 : Int32) (x2 : Int32) (x3 : Int32) (x4 : Int32) (x5 : Int32), g_X8_parts_38 x1 x2 x3 x4 x5 f_bits = some r → ∀ (H : Heap) (locs : List Loc), va_P G vwCl [(q, .inr (6, [.ref q_bar, .ref q_bits, .ref q_made, .ref q_has, .ref q_groups, .int f_found, .int f_passed, .long f_looked, .ref q_sums, .ref q_numbers])), (q_bar, .inl (cI, 160, .inl f_bar)), (q_bits, .inl (cJ, 160, .inr (.inl f_bits))), (q_made, .inl (cI, 4, .inl f_made)), (q_has, .inl (cZ, 3, .inl f_has)), (q_groups, .inl (cJ, 128, .inr (.inl f_groups))), (q_sums, .inl (cJ, 8, .inr (.inl f_sums))), (q_numbers, .inl (cJ, 9, .inr (.inl f_numbers)))] H → va_D A [(q, .inr (6, [.ref q_bar, .ref q_bits, .ref q_made, .ref q_has, .ref q_groups, .int f_found, .int f_passed, .long f_looked, .ref q_sums, .ref q_numbers])), (q_bar, .inl (cI, 160, .inl f_bar)), (q_bits, .inl (cJ, 160, .inr (.inl f_bits))), (q_made, .inl (cI, 4, .inl f_made)), (q_has, .inl (cZ, 3, .inl f_has)), (q_groups, .inl (cJ, 128, .inr (.inl f_groups))), (q_sums, .inl (cJ, 8, .inr (.inl f_sums))), (q_numbers, .inl (cJ, 9, .inr (.inl f_numbers)))] → va_S A s.heap H locs → ∀ ls, lv_has ls 11 [(0, .ref q), (1, .int x1), (2, .int x2), (3, .int x3), (4, .int x4), (5, .int x5)] → W p l e (headSpec wsX8_parts { frames := 4, cells := 0, slots := 0, locals := 90 }).room s m ([.ref q, .int y1, .int y2, .int y3] : List Value).toArray below meth c H locs 0 0 (MQ below (hb_Qi G r [(q, .inr (6, [.ref q_bar, .ref q_bits, .ref q_made, .ref q_has, .ref q_groups, .int f_found, .int f_passed, .long f_looked, .ref q_sums, .ref q_numbers])), (q_bar, .inl (cI, 160, .inl f_bar)), (q_bits, .inl (cJ, 160, .inr (.inl f_bits))), (q_made, .inl (cI, 4, .inl f_made)), (q_has, .inl (cZ, 3, .inl f_has)), (q_groups, .inl (cJ, 128, .inr (.inl f_groups))), (q_sums, .inl (cJ, 8, .inr (.inl f_sums))), (q_numbers, .inl (cJ, 9, .inr (.inl f_numbers)))] A) ([.ref q, .int y1, .int y2, .int y3] : List Value).toArray s 0 0 A) (F0 m 38 ls []) := by
    intro x1 x2 x3 x4 x5 h
    unfold g_X8_parts_38 at h
    obtain ⟨b, h, ha⟩ := pf_bind h
    exact L38 pfFU x1 x2 x3 x4 x5 b h ha
  suffices hh : ∀ (H : Heap) (locs : List Loc), va_P G vwCl [(q, .inr (6, [.ref q_bar, .ref q_bits, .ref q_made, .ref q_has, .ref q_groups, .int f_found, .int f_passed, .long f_looked, .ref q_sums, .ref q_numbers])), (q_bar, .inl (cI, 160, .inl f_bar)), (q_bits, .inl (cJ, 160, .inr (.inl f_bits))), (q_made, .inl (cI, 4, .inl f_made)), (q_has, .inl (cZ, 3, .inl f_has)), (q_groups, .inl (cJ, 128, .inr (.inl f_groups))), (q_sums, .inl (cJ, 8, .inr (.inl f_sums))), (q_numbers, .inl (cJ, 9, .inr (.inl f_numbers)))] H → va_D A [(q, .inr (6, [.ref q_bar, .ref q_bits, .ref q_made, .ref q_has, .ref q_groups, .int f_found, .int f_passed, .long f_looked, .ref q_sums, .ref q_numbers])), (q_bar, .inl (cI, 160, .inl f_bar)), (q_bits, .inl (cJ, 160, .inr (.inl f_bits))), (q_made, .inl (cI, 4, .inl f_made)), (q_has, .inl (cZ, 3, .inl f_has)), (q_groups, .inl (cJ, 128, .inr (.inl f_groups))), (q_sums, .inl (cJ, 8, .inr (.inl f_sums))), (q_numbers, .inl (cJ, 9, .inr (.inl f_numbers)))] → va_S A s.heap H locs → W p l e (headSpec wsX8_parts { frames := 4, cells := 0, slots := 0, locals := 90 }).room s m ([.ref q, .int y1, .int y2, .int y3] : List Value).toArray below meth c H locs 0 0 (MQ below (hb_Qi G r [(q, .inr (6, [.ref q_bar, .ref q_bits, .ref q_made, .ref q_has, .ref q_groups, .int f_found, .int f_passed, .long f_looked, .ref q_sums, .ref q_numbers])), (q_bar, .inl (cI, 160, .inl f_bar)), (q_bits, .inl (cJ, 160, .inr (.inl f_bits))), (q_made, .inl (cI, 4, .inl f_made)), (q_has, .inl (cZ, 3, .inl f_has)), (q_groups, .inl (cJ, 128, .inr (.inl f_groups))), (q_sums, .inl (cJ, 8, .inr (.inl f_sums))), (q_numbers, .inl (cJ, 9, .inr (.inl f_numbers)))] A) ([.ref q, .int y1, .int y2, .int y3] : List Value).toArray s 0 0 A) (F0 m 0 ls []) from hh s.heap [] hP hD hS
  intro H locs hP hD hS
  unfold p_X8_parts at h
  refine lv_aload_n hx hb dX8_parts_0 rfl (lv_at hl 0 rfl) ?_
  refine lv_iload_n hx hb dX8_parts_1 rfl (lv_at hl 1 rfl) ?_
  obtain ⟨v2, hv2, h⟩ := pf_bind h
  refine hb_calli (hb_runV (G := G) (T := hbT cI cJ cZ cS) (As := [.int y1]) (rest := []) S0 (c_X8_isField l G cI cJ cZ cS q q_bar q_bits q_made q_has q_groups q_sums q_numbers H.size f_bar f_bits f_made f_has f_groups f_found f_passed f_looked f_sums f_numbers y1 v2 hv2) (cwV 1 hts gX8_parts_X8_isField rfl rfl rfl kv_X8_isField ⟨Nat.le_of_ble_eq_true rfl, Nat.le_of_ble_eq_true rfl⟩) hK (hP.sub [0, 1, 2, 3, 4, 5, 6, 7] rfl) (hD.sub [0, 1, 2, 3, 4, 5, 6, 7] (by decide) rfl) rfl rfl rfl hl.1 rfl (Nat.le_of_ble_eq_true rfl) dX8_parts_2 ⟨Nat.zero_le _, Nat.zero_le _⟩) hP hD hS hA [0, 1, 2, 3, 4, 5, 6, 7] [] [0, 1, 2, 3, 4, 5, 6, 7] rfl (wr := []) rfl (by decide) (by decide) (w2 := [(q, .inr (6, [.ref q_bar, .ref q_bits, .ref q_made, .ref q_has, .ref q_groups, .int f_found, .int f_passed, .long f_looked, .ref q_sums, .ref q_numbers])), (q_bar, .inl (cI, 160, .inl f_bar)), (q_bits, .inl (cJ, 160, .inr (.inl f_bits))), (q_made, .inl (cI, 4, .inl f_made)), (q_has, .inl (cZ, 3, .inl f_has)), (q_groups, .inl (cJ, 128, .inr (.inl f_groups))), (q_sums, .inl (cJ, 8, .inr (.inl f_sums))), (q_numbers, .inl (cJ, 9, .inr (.inl f_numbers)))]) (by decide) rfl rfl (fun H locs hP hD hS => ?_)
  refine lv_if_eq (tgt := 24) hx hb dX8_parts_5 (by decide) (fun c5 => ?_) (fun c5 => ?_)
  · have h := pf_pos h c5
    refine lv_iconst (v := -1) hx hb dX8_parts_24 (by decide) ?_
    cases h
    exact hb_iret hx hb hr hlocks hP hD hS dX8_parts_25
  · have h := pf_neg h c5
    refine lv_iload_n hx hb dX8_parts_8 rfl (lv_at hl 2 rfl) ?_
    obtain ⟨v9, hv9, h⟩ := pf_bind h
    refine pf_call (As := [.int y2]) (rest := []) S0 (c_X8_isAsked l y2 v9 hv9) (va_cwS 1 hts gX8_parts_X8_isAsked rfl rfl rfl kd_X8_isAsked ⟨Nat.le_of_ble_eq_true rfl, Nat.le_of_ble_eq_true rfl⟩) rfl hl.1 rfl (Nat.le_of_ble_eq_true rfl) dX8_parts_9 ⟨Nat.zero_le _, Nat.zero_le _⟩ ?_
    refine lv_if_eq (tgt := 24) hx hb dX8_parts_12 (by decide) (fun c12 => ?_) (fun c12 => ?_)
    · have h := pf_pos h c12
      refine lv_iconst (v := -1) hx hb dX8_parts_24 (by decide) ?_
      cases h
      exact hb_iret hx hb hr hlocks hP hD hS dX8_parts_25
    · have h := pf_neg h c12
      refine lv_iload_n hx hb dX8_parts_15 rfl (lv_at hl 3 rfl) ?_
      refine lv_iconst (v := 0) hx hb dX8_parts_16 (by decide) ?_
      refine lv_iconst (v := 2) hx hb dX8_parts_17 (by decide) ?_
      obtain ⟨v18, hv18, h⟩ := pf_bind h
      refine pf_call (As := [.int y3, .int (0 : Int32), .int (2 : Int32)]) (rest := []) S0 (c_X8_isIn l y3 (0 : Int32) (2 : Int32) v18 hv18) (va_cwS 3 hts gX8_parts_X8_isIn rfl rfl rfl kd_X8_isIn ⟨Nat.le_of_ble_eq_true rfl, Nat.le_of_ble_eq_true rfl⟩) rfl hl.1 rfl (Nat.le_of_ble_eq_true rfl) dX8_parts_18 ⟨Nat.zero_le _, Nat.zero_le _⟩ ?_
      refine lv_if_ne (tgt := 26) hx hb dX8_parts_21 (by decide) (fun c21 => ?_) (fun c21 => ?_)
      · have h := pf_neg h c21
        refine lv_aload_n hx hb dX8_parts_26 rfl (lv_at hl 0 rfl) ?_
        refine va_get (D := G) (ci := 6) (v := .ref q_bar) (C := RX8) (T := TX8) (N := 10) hx hb hts in_X8_parts_X8 hown hK.1 hP 0 rfl rfl 0 (by decide) (hts (.fieldLink RX8 7 "FieldsByClassesModel" "bar" "[I") (by decide +kernel)) (fun _ h9 => h9) rfl dX8_parts_27 ?_
        refine lv_iload_n hx hb dX8_parts_30 rfl (lv_at hl 1 rfl) ?_
        obtain ⟨hi31, h⟩ := pf_need h
        refine va_iald hx hb hK.1 hP 1 0 rfl rfl (ain_of hi31) dX8_parts_31 ?_
        refine lv_istore (lv' := [(4, .int (f_bar (y1).toNatClampNeg)), (0, .ref q), (1, .int y1), (2, .int y2), (3, .int y3)]) hx hb dX8_parts_32 hl (by decide) rfl (fun ls hl => ?_)
        refine lv_iload hx hb dX8_parts_34 (lv_at hl 0 rfl) ?_
        refine lv_istore (lv' := [(5, .int (f_bar (y1).toNatClampNeg)), (4, .int (f_bar (y1).toNatClampNeg)), (0, .ref q), (1, .int y1), (2, .int y2), (3, .int y3)]) hx hb dX8_parts_36 hl (by decide) rfl (fun ls hl => ?_)
        exact G38 y1 y2 y3 (f_bar (y1).toNatClampNeg) (f_bar (y1).toNatClampNeg) h H locs hP hD hS ls (lv_sub hl [2, 3, 4, 5, 1, 0] rfl)
      · have h := pf_pos h c21
        refine lv_iconst (v := -1) hx hb dX8_parts_24 (by decide) ?_
        cases h
        exact hb_iret hx hb hr hlocks hP hD hS dX8_parts_25
