theorem ain3 {y : Int32} (h : ¬ y < 0 ∧ y < 3) : ainB y 3 = true := by
  obtain ⟨j, hj, rfl⟩ := nI_of h.1
  have h2 : j < 3 := (nI_ltI hj (by decide)).mp (show nI j < nI 3 from h.2)
  have : ∀ j, j < 3 → ainB (nI j) 3 = true := by decide +kernel
  exact this j h2
section PQ
variable {p : Program} {l : Launch} {e : Env} {R : Room} {s : State} {m : MethodId} {args : Array Value} {below : List Frame} {meth : Method} {c : Code} {H : Heap} {locs : List Loc} {cells slots : Nat} {Q : State → Prop}
variable {pc : Nat} {ls : Array Slot} {rest : List Value}
theorem pf_eqv {v v2 : Value} (h : v = v2) (k : W p l e R s m args below meth c H locs cells slots Q (F0 m pc ls (v2 :: rest))) : W p l e R s m args below meth c H locs cells slots Q (F0 m pc ls (v :: rest)) := by
  rw [h]; exact k
end PQ
theorem in_X7_image_X7 : ∀ w ∈ u_ws RX7 TX7 6, w ∈ wsX7_image := fun w h => List.mem_cons_of_mem _ (List.mem_append_left _ (List.mem_append_right _ h))
theorem in_X7_image_X4 : ∀ w ∈ u_ws RX4 TX4 3, w ∈ wsX7_image := fun w h => List.mem_cons_of_mem _ (List.mem_append_right _ h)
theorem kv_X7_image : yX7_image.cls = RX7 ∧ yX7_image.cls ≠ "java/lang/invoke/MethodHandle" ∧ yX7_image.cls ≠ "java/lang/invoke/VarHandle" ∧ (parseMethodDescriptor yX7_image.desc).map (fun d => d.parameters.length) = some 1 := by decide +kernel
theorem in_X7_again_X7 : ∀ w ∈ u_ws RX7 TX7 6, w ∈ wsX7_again := fun w h => List.mem_cons_of_mem _ (List.mem_append_left _ (List.mem_append_right _ h))
theorem in_X7_again_X4 : ∀ w ∈ u_ws RX4 TX4 3, w ∈ wsX7_again := fun w h => List.mem_cons_of_mem _ (List.mem_append_right _ h)
theorem kv_X7_again : yX7_again.cls = RX7 ∧ yX7_again.cls ≠ "java/lang/invoke/MethodHandle" ∧ yX7_again.cls ≠ "java/lang/invoke/VarHandle" ∧ (parseMethodDescriptor yX7_again.desc).map (fun d => d.parameters.length) = some 1 := by decide +kernel
set_option maxHeartbeats 4000000 in
set_option maxRecDepth 100000 in
theorem c_X7_image_out (l : Launch) (G : va_G) (cI cJ cZ cS : ClassId) (q q_shelf q_images q_cycles q_above q_book q_sums sz : Nat) (f : Nat → Option Nat) (y1 : Int32) (hk : ¬ y1 < 0 → ¬ y1 < 3) : Met l yX7_image wsX7_image { frames := 2, cells := 0, slots := 0, locals := 34 } (hb_pre G (hbT cI cJ cZ cS) [.ref q, .int y1] sz [(q, .inr (5, [.ref q_shelf, .ref q_images, .ref q_cycles, .ref q_above, .ref q_book, .ref q_sums])), (q_images, .inl (cS, 3, .inr (.inr (.inr (.inr f)))))]) (hb_Qi G 0 [(q, .inr (5, [.ref q_shelf, .ref q_images, .ref q_cycles, .ref q_above, .ref q_book, .ref q_sums])), (q_images, .inl (cS, 3, .inr (.inr (.inr (.inr f)))))] (va_A [(q, .inr (5, [.ref q_shelf, .ref q_images, .ref q_cycles, .ref q_above, .ref q_book, .ref q_sums])), (q_images, .inl (cS, 3, .inr (.inr (.inr (.inr f)))))] sz)) 0 0 (va_A [(q, .inr (5, [.ref q_shelf, .ref q_images, .ref q_cycles, .ref q_above, .ref q_book, .ref q_sums])), (q_images, .inl (cS, 3, .inr (.inr (.inr (.inr f)))))] sz) := by
  refine hb_met (Qc := fun A => hb_Qi G 0 [(q, .inr (5, [.ref q_shelf, .ref q_images, .ref q_cycles, .ref q_above, .ref q_book, .ref q_sums])), (q_images, .inl (cS, 3, .inr (.inr (.inr (.inr f)))))] A) (cc := cX7_image) (maxL := 3) (ret := some .boolean) (by decide) rfl (Nat.le_of_ble_eq_true rfl) ?_
  intro p e s m below meth c A hx hb hr hts hown hlocks hml hin hK hA hP hD hS ls hl
  have hown : s.vm.findClass RX7 = some m.cls := hown
  have S0 : CallFix p m c cX7_image 3 s ([.ref q, .int y1] : List Value).toArray wsX7_image RX7 := ⟨hx, hb, hml, hown, hts⟩
  have hl : lv_has ls 3 [(0, .ref q), (1, .int y1)] := hl
  obtain ⟨H, hH⟩ : ∃ H, H = s.heap := ⟨_, rfl⟩
  rw [← hH] at hP ⊢
  have hS : va_S A s.heap H [] := by rw [hH]; exact hS
  refine lv_iload_n hx hb dX7_image_0 rfl (lv_at hl 1 rfl) ?_
  refine lv_if_lt (tgt := 13) hx hb dX7_image_1 (by decide) (fun c1 => ?_) (fun c1 => ?_)
  · refine lv_iconst (v := 0) hx hb dX7_image_13 (by decide) ?_
    exact hb_zret hx hb hr hlocks pf_b0 hP hD hS dX7_image_14
  · refine lv_iload_n hx hb dX7_image_4 rfl (lv_at hl 1 rfl) ?_
    refine lv_aload_n hx hb dX7_image_5 rfl (lv_at hl 0 rfl) ?_
    refine va_get (D := G) (ci := 5) (v := .ref q_images) (C := RX7) (T := TX7) (N := 6) hx hb hts in_X7_image_X7 hown hK.1 hP 0 rfl rfl 1 (by decide) (hts (.fieldLink RX7 16 "FieldsByClasses" "images" "[LFieldsByClasses$Shelf;") (by decide +kernel)) (fun _ h9 => h9) rfl dX7_image_6 ?_
    refine va_alen (v := 3) hx hb hK.1 hP 1 3 rfl rfl rfl dX7_image_9 ?_
    refine lv_icmp_lt (tgt := 15) hx hb dX7_image_10 (by decide) (fun c10 => ?_) (fun c10 => ?_)
    · exact absurd c10 (hk c1)
    · refine lv_iconst (v := 0) hx hb dX7_image_13 (by decide) ?_
      exact hb_zret hx hb hr hlocks pf_b0 hP hD hS dX7_image_14
set_option maxHeartbeats 4000000 in
set_option maxRecDepth 100000 in
theorem c_X7_again_out (l : Launch) (G : va_G) (cI cJ cZ cS : ClassId) (q q_shelf q_images q_cycles q_above q_book q_sums sz : Nat) (f : Nat → Option Nat) (y1 : Int32) (hk : ¬ y1 < 0 → ¬ y1 < 3) : Met l yX7_again wsX7_again { frames := 2, cells := 0, slots := 0, locals := 34 } (hb_pre G (hbT cI cJ cZ cS) [.ref q, .int y1] sz [(q, .inr (5, [.ref q_shelf, .ref q_images, .ref q_cycles, .ref q_above, .ref q_book, .ref q_sums])), (q_images, .inl (cS, 3, .inr (.inr (.inr (.inr f)))))]) (hb_Qi G 0 [(q, .inr (5, [.ref q_shelf, .ref q_images, .ref q_cycles, .ref q_above, .ref q_book, .ref q_sums])), (q_images, .inl (cS, 3, .inr (.inr (.inr (.inr f)))))] (va_A [(q, .inr (5, [.ref q_shelf, .ref q_images, .ref q_cycles, .ref q_above, .ref q_book, .ref q_sums])), (q_images, .inl (cS, 3, .inr (.inr (.inr (.inr f)))))] sz)) 0 0 (va_A [(q, .inr (5, [.ref q_shelf, .ref q_images, .ref q_cycles, .ref q_above, .ref q_book, .ref q_sums])), (q_images, .inl (cS, 3, .inr (.inr (.inr (.inr f)))))] sz) := by
  refine hb_met (Qc := fun A => hb_Qi G 0 [(q, .inr (5, [.ref q_shelf, .ref q_images, .ref q_cycles, .ref q_above, .ref q_book, .ref q_sums])), (q_images, .inl (cS, 3, .inr (.inr (.inr (.inr f)))))] A) (cc := cX7_again) (maxL := 3) (ret := some .boolean) (by decide) rfl (Nat.le_of_ble_eq_true rfl) ?_
  intro p e s m below meth c A hx hb hr hts hown hlocks hml hin hK hA hP hD hS ls hl
  have hown : s.vm.findClass RX7 = some m.cls := hown
  have S0 : CallFix p m c cX7_again 3 s ([.ref q, .int y1] : List Value).toArray wsX7_again RX7 := ⟨hx, hb, hml, hown, hts⟩
  have hl : lv_has ls 3 [(0, .ref q), (1, .int y1)] := hl
  obtain ⟨H, hH⟩ : ∃ H, H = s.heap := ⟨_, rfl⟩
  rw [← hH] at hP ⊢
  have hS : va_S A s.heap H [] := by rw [hH]; exact hS
  refine lv_iload_n hx hb dX7_again_0 rfl (lv_at hl 1 rfl) ?_
  refine lv_if_lt (tgt := 13) hx hb dX7_again_1 (by decide) (fun c1 => ?_) (fun c1 => ?_)
  · refine lv_iconst (v := 0) hx hb dX7_again_13 (by decide) ?_
    exact hb_zret hx hb hr hlocks pf_b0 hP hD hS dX7_again_14
  · refine lv_iload_n hx hb dX7_again_4 rfl (lv_at hl 1 rfl) ?_
    refine lv_aload_n hx hb dX7_again_5 rfl (lv_at hl 0 rfl) ?_
    refine va_get (D := G) (ci := 5) (v := .ref q_images) (C := RX7) (T := TX7) (N := 6) hx hb hts in_X7_again_X7 hown hK.1 hP 0 rfl rfl 1 (by decide) (hts (.fieldLink RX7 16 "FieldsByClasses" "images" "[LFieldsByClasses$Shelf;") (by decide +kernel)) (fun _ h9 => h9) rfl dX7_again_6 ?_
    refine va_alen (v := 3) hx hb hK.1 hP 1 3 rfl rfl rfl dX7_again_9 ?_
    refine lv_icmp_lt (tgt := 15) hx hb dX7_again_10 (by decide) (fun c10 => ?_) (fun c10 => ?_)
    · exact absurd c10 (hk c1)
    · refine lv_iconst (v := 0) hx hb dX7_again_13 (by decide) ?_
      exact hb_zret hx hb hr hlocks pf_b0 hP hD hS dX7_again_14
set_option maxHeartbeats 4000000 in
set_option maxRecDepth 100000 in
theorem c_X7_again_none (l : Launch) (G : va_G) (cI cJ cZ cS : ClassId) (q q_shelf q_images q_cycles q_above q_book q_sums sz : Nat) (f : Nat → Option Nat) (y1 : Int32) (hk : ¬ y1 < 0 ∧ y1 < 3) (hf : f y1.toNatClampNeg = none) : Met l yX7_again wsX7_again { frames := 2, cells := 0, slots := 0, locals := 34 } (hb_pre G (hbT cI cJ cZ cS) [.ref q, .int y1] sz [(q, .inr (5, [.ref q_shelf, .ref q_images, .ref q_cycles, .ref q_above, .ref q_book, .ref q_sums])), (q_images, .inl (cS, 3, .inr (.inr (.inr (.inr f)))))]) (hb_Qi G 0 [(q, .inr (5, [.ref q_shelf, .ref q_images, .ref q_cycles, .ref q_above, .ref q_book, .ref q_sums])), (q_images, .inl (cS, 3, .inr (.inr (.inr (.inr f)))))] (va_A [(q, .inr (5, [.ref q_shelf, .ref q_images, .ref q_cycles, .ref q_above, .ref q_book, .ref q_sums])), (q_images, .inl (cS, 3, .inr (.inr (.inr (.inr f)))))] sz)) 0 0 (va_A [(q, .inr (5, [.ref q_shelf, .ref q_images, .ref q_cycles, .ref q_above, .ref q_book, .ref q_sums])), (q_images, .inl (cS, 3, .inr (.inr (.inr (.inr f)))))] sz) := by
  refine hb_met (Qc := fun A => hb_Qi G 0 [(q, .inr (5, [.ref q_shelf, .ref q_images, .ref q_cycles, .ref q_above, .ref q_book, .ref q_sums])), (q_images, .inl (cS, 3, .inr (.inr (.inr (.inr f)))))] A) (cc := cX7_again) (maxL := 3) (ret := some .boolean) (by decide) rfl (Nat.le_of_ble_eq_true rfl) ?_
  intro p e s m below meth c A hx hb hr hts hown hlocks hml hin hK hA hP hD hS ls hl
  have hown : s.vm.findClass RX7 = some m.cls := hown
  have S0 : CallFix p m c cX7_again 3 s ([.ref q, .int y1] : List Value).toArray wsX7_again RX7 := ⟨hx, hb, hml, hown, hts⟩
  have hl : lv_has ls 3 [(0, .ref q), (1, .int y1)] := hl
  obtain ⟨H, hH⟩ : ∃ H, H = s.heap := ⟨_, rfl⟩
  rw [← hH] at hP ⊢
  have hS : va_S A s.heap H [] := by rw [hH]; exact hS
  refine lv_iload_n hx hb dX7_again_0 rfl (lv_at hl 1 rfl) ?_
  refine lv_if_lt (tgt := 13) hx hb dX7_again_1 (by decide) (fun c1 => ?_) (fun c1 => ?_)
  · exact absurd c1 hk.1
  · refine lv_iload_n hx hb dX7_again_4 rfl (lv_at hl 1 rfl) ?_
    refine lv_aload_n hx hb dX7_again_5 rfl (lv_at hl 0 rfl) ?_
    refine va_get (D := G) (ci := 5) (v := .ref q_images) (C := RX7) (T := TX7) (N := 6) hx hb hts in_X7_again_X7 hown hK.1 hP 0 rfl rfl 1 (by decide) (hts (.fieldLink RX7 16 "FieldsByClasses" "images" "[LFieldsByClasses$Shelf;") (by decide +kernel)) (fun _ h9 => h9) rfl dX7_again_6 ?_
    refine va_alen (v := 3) hx hb hK.1 hP 1 3 rfl rfl rfl dX7_again_9 ?_
    refine lv_icmp_lt (tgt := 15) hx hb dX7_again_10 (by decide) (fun c10 => ?_) (fun c10 => ?_)
    · skip
      refine lv_aload_n hx hb dX7_again_15 rfl (lv_at hl 0 rfl) ?_
      refine va_get (D := G) (ci := 5) (v := .ref q_images) (C := RX7) (T := TX7) (N := 6) hx hb hts in_X7_again_X7 hown hK.1 hP 0 rfl rfl 1 (by decide) (hts (.fieldLink RX7 16 "FieldsByClasses" "images" "[LFieldsByClasses$Shelf;") (by decide +kernel)) (fun _ h9 => h9) rfl dX7_again_16 ?_
      refine lv_iload_n hx hb dX7_again_19 rfl (lv_at hl 1 rfl) ?_
      refine va_aldq hx hb hK.1 hP 1 3 rfl rfl (ain_of (ain3 hk)) dX7_again_20 ?_
      refine pf_eqv (v2 := .null) (by rw [hf]; rfl) ?_
      refine lv_astore_nN (lv' := [(2, .null), (0, .ref q), (1, .int y1)]) hx hb dX7_again_21 rfl hl (by decide) rfl (fun ls hl => ?_)
      refine lv_aload_nN hx hb dX7_again_22 rfl (lv_at hl 0 rfl) ?_
      refine lv_ifnonnullN hx hb dX7_again_23 ?_
      refine lv_iconst (v := 0) hx hb dX7_again_26 (by decide) ?_
      exact hb_zret hx hb hr hlocks pf_b0 hP hD hS dX7_again_27
    · exact absurd hk.2 c10
set_option maxHeartbeats 4000000 in
set_option maxRecDepth 100000 in
theorem c_X7_again_some (l : Launch) (G : va_G) (cI cJ cZ cS : ClassId) (q q_shelf q_images q_cycles q_above q_book q_sums q_shelf_bars q_shelf_groups q_o q_o_bars q_o_groups sz : Nat) (f : Nat → Option Nat) (f_bars : Nat → Int32) (f_groups : Nat → Int64) (f_size : Int32) (o_bars : Nat → Int32) (o_groups : Nat → Int64) (o_size : Int32) (y1 : Int32) (r : (Nat → Int32) × (Nat → Int64) × Int32) (hk : ¬ y1 < 0 ∧ y1 < 3) (hf : f y1.toNatClampNeg = some q_o) (h : p_X4_copyFrom f_bars f_groups f_size o_bars o_groups o_size = some r) : Met l yX7_again wsX7_again { frames := 2, cells := 0, slots := 0, locals := 34 } (hb_pre G (hbT cI cJ cZ cS) [.ref q, .int y1] sz [(q, .inr (5, [.ref q_shelf, .ref q_images, .ref q_cycles, .ref q_above, .ref q_book, .ref q_sums])), (q_shelf, .inr (3, [.ref q_shelf_bars, .ref q_shelf_groups, .int f_size])), (q_shelf_bars, .inl (cI, 40, .inl f_bars)), (q_shelf_groups, .inl (cJ, 40, .inr (.inl f_groups))), (q_images, .inl (cS, 3, .inr (.inr (.inr (.inr f))))), (q_o, .inr (3, [.ref q_o_bars, .ref q_o_groups, .int o_size])), (q_o_bars, .inl (cI, 40, .inl o_bars)), (q_o_groups, .inl (cJ, 40, .inr (.inl o_groups)))]) (hb_Qi G 1 [(q, .inr (5, [.ref q_shelf, .ref q_images, .ref q_cycles, .ref q_above, .ref q_book, .ref q_sums])), (q_shelf, .inr (3, [.ref q_shelf_bars, .ref q_shelf_groups, .int r.2.2])), (q_shelf_bars, .inl (cI, 40, .inl r.1)), (q_shelf_groups, .inl (cJ, 40, .inr (.inl r.2.1))), (q_images, .inl (cS, 3, .inr (.inr (.inr (.inr f))))), (q_o, .inr (3, [.ref q_o_bars, .ref q_o_groups, .int o_size])), (q_o_bars, .inl (cI, 40, .inl o_bars)), (q_o_groups, .inl (cJ, 40, .inr (.inl o_groups)))] (va_A [(q, .inr (5, [.ref q_shelf, .ref q_images, .ref q_cycles, .ref q_above, .ref q_book, .ref q_sums])), (q_shelf, .inr (3, [.ref q_shelf_bars, .ref q_shelf_groups, .int f_size])), (q_shelf_bars, .inl (cI, 40, .inl f_bars)), (q_shelf_groups, .inl (cJ, 40, .inr (.inl f_groups))), (q_images, .inl (cS, 3, .inr (.inr (.inr (.inr f))))), (q_o, .inr (3, [.ref q_o_bars, .ref q_o_groups, .int o_size])), (q_o_bars, .inl (cI, 40, .inl o_bars)), (q_o_groups, .inl (cJ, 40, .inr (.inl o_groups)))] sz)) 0 0 (va_A [(q, .inr (5, [.ref q_shelf, .ref q_images, .ref q_cycles, .ref q_above, .ref q_book, .ref q_sums])), (q_shelf, .inr (3, [.ref q_shelf_bars, .ref q_shelf_groups, .int f_size])), (q_shelf_bars, .inl (cI, 40, .inl f_bars)), (q_shelf_groups, .inl (cJ, 40, .inr (.inl f_groups))), (q_images, .inl (cS, 3, .inr (.inr (.inr (.inr f))))), (q_o, .inr (3, [.ref q_o_bars, .ref q_o_groups, .int o_size])), (q_o_bars, .inl (cI, 40, .inl o_bars)), (q_o_groups, .inl (cJ, 40, .inr (.inl o_groups)))] sz) := by
  refine hb_met (Qc := fun A => hb_Qi G 1 [(q, .inr (5, [.ref q_shelf, .ref q_images, .ref q_cycles, .ref q_above, .ref q_book, .ref q_sums])), (q_shelf, .inr (3, [.ref q_shelf_bars, .ref q_shelf_groups, .int r.2.2])), (q_shelf_bars, .inl (cI, 40, .inl r.1)), (q_shelf_groups, .inl (cJ, 40, .inr (.inl r.2.1))), (q_images, .inl (cS, 3, .inr (.inr (.inr (.inr f))))), (q_o, .inr (3, [.ref q_o_bars, .ref q_o_groups, .int o_size])), (q_o_bars, .inl (cI, 40, .inl o_bars)), (q_o_groups, .inl (cJ, 40, .inr (.inl o_groups)))] A) (cc := cX7_again) (maxL := 3) (ret := some .boolean) (by decide) rfl (Nat.le_of_ble_eq_true rfl) ?_
  intro p e s m below meth c A hx hb hr hts hown hlocks hml hin hK hA hP hD hS ls hl
  have hown : s.vm.findClass RX7 = some m.cls := hown
  have S0 : CallFix p m c cX7_again 3 s ([.ref q, .int y1] : List Value).toArray wsX7_again RX7 := ⟨hx, hb, hml, hown, hts⟩
  have hl : lv_has ls 3 [(0, .ref q), (1, .int y1)] := hl
  obtain ⟨H, hH⟩ : ∃ H, H = s.heap := ⟨_, rfl⟩
  rw [← hH] at hP ⊢
  have hS : va_S A s.heap H [] := by rw [hH]; exact hS
  refine lv_iload_n hx hb dX7_again_0 rfl (lv_at hl 1 rfl) ?_
  refine lv_if_lt (tgt := 13) hx hb dX7_again_1 (by decide) (fun c1 => ?_) (fun c1 => ?_)
  · exact absurd c1 hk.1
  · refine lv_iload_n hx hb dX7_again_4 rfl (lv_at hl 1 rfl) ?_
    refine lv_aload_n hx hb dX7_again_5 rfl (lv_at hl 0 rfl) ?_
    refine va_get (D := G) (ci := 5) (v := .ref q_images) (C := RX7) (T := TX7) (N := 6) hx hb hts in_X7_again_X7 hown hK.1 hP 0 rfl rfl 1 (by decide) (hts (.fieldLink RX7 16 "FieldsByClasses" "images" "[LFieldsByClasses$Shelf;") (by decide +kernel)) (fun _ h9 => h9) rfl dX7_again_6 ?_
    refine va_alen (v := 3) hx hb hK.1 hP 4 3 rfl rfl rfl dX7_again_9 ?_
    refine lv_icmp_lt (tgt := 15) hx hb dX7_again_10 (by decide) (fun c10 => ?_) (fun c10 => ?_)
    · skip
      refine lv_aload_n hx hb dX7_again_15 rfl (lv_at hl 0 rfl) ?_
      refine va_get (D := G) (ci := 5) (v := .ref q_images) (C := RX7) (T := TX7) (N := 6) hx hb hts in_X7_again_X7 hown hK.1 hP 0 rfl rfl 1 (by decide) (hts (.fieldLink RX7 16 "FieldsByClasses" "images" "[LFieldsByClasses$Shelf;") (by decide +kernel)) (fun _ h9 => h9) rfl dX7_again_16 ?_
      refine lv_iload_n hx hb dX7_again_19 rfl (lv_at hl 1 rfl) ?_
      refine va_aldq hx hb hK.1 hP 4 3 rfl rfl (ain_of (ain3 hk)) dX7_again_20 ?_
      refine pf_eqv (v2 := .ref q_o) (by rw [hf]; rfl) ?_
      refine lv_astore_n (lv' := [(2, .ref q_o), (0, .ref q), (1, .int y1)]) hx hb dX7_again_21 rfl hl (by decide) rfl (fun ls hl => ?_)
      refine lv_aload_n hx hb dX7_again_22 rfl (lv_at hl 0 rfl) ?_
      refine lv_ifnonnull (tgt := 28) hx hb dX7_again_23 (by decide) ?_
      refine lv_aload_n hx hb dX7_again_28 rfl (lv_at hl 1 rfl) ?_
      refine va_get (D := G) (ci := 5) (v := .ref q_shelf) (C := RX7) (T := TX7) (N := 6) hx hb hts in_X7_again_X7 hown hK.1 hP 0 rfl rfl 0 (by decide) (hts (.fieldLink RX7 10 "FieldsByClasses" "shelf" "LFieldsByClasses$Shelf;") (by decide +kernel)) (fun _ h9 => h9) rfl dX7_again_29 ?_
      refine lv_aload_n hx hb dX7_again_32 rfl (lv_at hl 0 rfl) ?_
      refine hb_callv (hb_runV (G := G) (T := hbT cI cJ cZ cS) (As := [.ref q_o]) (rest := []) S0 (c_X4_copyFrom l G cI cJ cZ cS q_shelf q_shelf_bars q_shelf_groups q_o q_o_bars q_o_groups H.size f_bars f_groups f_size o_bars o_groups o_size r h) (cwV 1 hts gX7_again_X4_copyFrom rfl rfl rfl kv_X4_copyFrom ⟨Nat.le_of_ble_eq_true rfl, Nat.le_of_ble_eq_true rfl⟩) hK (hP.sub [1, 2, 3, 5, 6, 7] rfl) (hD.sub [1, 2, 3, 5, 6, 7] (by decide) rfl) rfl rfl rfl hl.1 rfl (Nat.le_of_ble_eq_true rfl) dX7_again_33 ⟨Nat.zero_le _, Nat.zero_le _⟩) hP hD hS hA [1, 2, 3, 5, 6, 7] [0, 4] [0, 2, 3, 4, 1, 5, 6, 7] rfl (wr := [(q, .inr (5, [.ref q_shelf, .ref q_images, .ref q_cycles, .ref q_above, .ref q_book, .ref q_sums])), (q_images, .inl (cS, 3, .inr (.inr (.inr (.inr f)))))]) rfl (by decide) (by decide) (w2 := [(q, .inr (5, [.ref q_shelf, .ref q_images, .ref q_cycles, .ref q_above, .ref q_book, .ref q_sums])), (q_shelf, .inr (3, [.ref q_shelf_bars, .ref q_shelf_groups, .int r.2.2])), (q_shelf_bars, .inl (cI, 40, .inl r.1)), (q_shelf_groups, .inl (cJ, 40, .inr (.inl r.2.1))), (q_images, .inl (cS, 3, .inr (.inr (.inr (.inr f))))), (q_o, .inr (3, [.ref q_o_bars, .ref q_o_groups, .int o_size])), (q_o_bars, .inl (cI, 40, .inl o_bars)), (q_o_groups, .inl (cJ, 40, .inr (.inl o_groups)))]) (by decide) rfl rfl (fun H locs hP hD hS => ?_)
      refine lv_iconst (v := 1) hx hb dX7_again_36 (by decide) ?_
      exact hb_zret hx hb hr hlocks pf_b1 hP hD hS dX7_again_37
    · exact absurd hk.2 c10
set_option maxHeartbeats 4000000 in
set_option maxRecDepth 100000 in
theorem c_X7_image_old (l : Launch) (G : va_G) (cI cJ cZ cS : ClassId) (q q_shelf q_images q_cycles q_above q_book q_sums q_shelf_bars q_shelf_groups q_o q_o_bars q_o_groups sz : Nat) (f : Nat → Option Nat) (f_bars : Nat → Int32) (f_groups : Nat → Int64) (f_size : Int32) (o_bars : Nat → Int32) (o_groups : Nat → Int64) (o_size : Int32) (y1 : Int32) (r : (Nat → Int32) × (Nat → Int64) × Int32) (hk : ¬ y1 < 0 ∧ y1 < 3) (hf : f y1.toNatClampNeg = some q_o) (h : p_X4_copyFrom o_bars o_groups o_size f_bars f_groups f_size = some r) : Met l yX7_image wsX7_image { frames := 2, cells := 0, slots := 0, locals := 34 } (hb_pre G (hbT cI cJ cZ cS) [.ref q, .int y1] sz [(q, .inr (5, [.ref q_shelf, .ref q_images, .ref q_cycles, .ref q_above, .ref q_book, .ref q_sums])), (q_shelf, .inr (3, [.ref q_shelf_bars, .ref q_shelf_groups, .int f_size])), (q_shelf_bars, .inl (cI, 40, .inl f_bars)), (q_shelf_groups, .inl (cJ, 40, .inr (.inl f_groups))), (q_images, .inl (cS, 3, .inr (.inr (.inr (.inr f))))), (q_o, .inr (3, [.ref q_o_bars, .ref q_o_groups, .int o_size])), (q_o_bars, .inl (cI, 40, .inl o_bars)), (q_o_groups, .inl (cJ, 40, .inr (.inl o_groups)))]) (hb_Qi G 1 [(q, .inr (5, [.ref q_shelf, .ref q_images, .ref q_cycles, .ref q_above, .ref q_book, .ref q_sums])), (q_shelf, .inr (3, [.ref q_shelf_bars, .ref q_shelf_groups, .int f_size])), (q_shelf_bars, .inl (cI, 40, .inl f_bars)), (q_shelf_groups, .inl (cJ, 40, .inr (.inl f_groups))), (q_images, .inl (cS, 3, .inr (.inr (.inr (.inr f))))), (q_o, .inr (3, [.ref q_o_bars, .ref q_o_groups, .int r.2.2])), (q_o_bars, .inl (cI, 40, .inl r.1)), (q_o_groups, .inl (cJ, 40, .inr (.inl r.2.1)))] (va_A [(q, .inr (5, [.ref q_shelf, .ref q_images, .ref q_cycles, .ref q_above, .ref q_book, .ref q_sums])), (q_shelf, .inr (3, [.ref q_shelf_bars, .ref q_shelf_groups, .int f_size])), (q_shelf_bars, .inl (cI, 40, .inl f_bars)), (q_shelf_groups, .inl (cJ, 40, .inr (.inl f_groups))), (q_images, .inl (cS, 3, .inr (.inr (.inr (.inr f))))), (q_o, .inr (3, [.ref q_o_bars, .ref q_o_groups, .int o_size])), (q_o_bars, .inl (cI, 40, .inl o_bars)), (q_o_groups, .inl (cJ, 40, .inr (.inl o_groups)))] sz)) 0 0 (va_A [(q, .inr (5, [.ref q_shelf, .ref q_images, .ref q_cycles, .ref q_above, .ref q_book, .ref q_sums])), (q_shelf, .inr (3, [.ref q_shelf_bars, .ref q_shelf_groups, .int f_size])), (q_shelf_bars, .inl (cI, 40, .inl f_bars)), (q_shelf_groups, .inl (cJ, 40, .inr (.inl f_groups))), (q_images, .inl (cS, 3, .inr (.inr (.inr (.inr f))))), (q_o, .inr (3, [.ref q_o_bars, .ref q_o_groups, .int o_size])), (q_o_bars, .inl (cI, 40, .inl o_bars)), (q_o_groups, .inl (cJ, 40, .inr (.inl o_groups)))] sz) := by
  refine hb_met (Qc := fun A => hb_Qi G 1 [(q, .inr (5, [.ref q_shelf, .ref q_images, .ref q_cycles, .ref q_above, .ref q_book, .ref q_sums])), (q_shelf, .inr (3, [.ref q_shelf_bars, .ref q_shelf_groups, .int f_size])), (q_shelf_bars, .inl (cI, 40, .inl f_bars)), (q_shelf_groups, .inl (cJ, 40, .inr (.inl f_groups))), (q_images, .inl (cS, 3, .inr (.inr (.inr (.inr f))))), (q_o, .inr (3, [.ref q_o_bars, .ref q_o_groups, .int r.2.2])), (q_o_bars, .inl (cI, 40, .inl r.1)), (q_o_groups, .inl (cJ, 40, .inr (.inl r.2.1)))] A) (cc := cX7_image) (maxL := 3) (ret := some .boolean) (by decide) rfl (Nat.le_of_ble_eq_true rfl) ?_
  intro p e s m below meth c A hx hb hr hts hown hlocks hml hin hK hA hP hD hS ls hl
  have hown : s.vm.findClass RX7 = some m.cls := hown
  have S0 : CallFix p m c cX7_image 3 s ([.ref q, .int y1] : List Value).toArray wsX7_image RX7 := ⟨hx, hb, hml, hown, hts⟩
  have hl : lv_has ls 3 [(0, .ref q), (1, .int y1)] := hl
  obtain ⟨H, hH⟩ : ∃ H, H = s.heap := ⟨_, rfl⟩
  rw [← hH] at hP ⊢
  have hS : va_S A s.heap H [] := by rw [hH]; exact hS
  refine lv_iload_n hx hb dX7_image_0 rfl (lv_at hl 1 rfl) ?_
  refine lv_if_lt (tgt := 13) hx hb dX7_image_1 (by decide) (fun c1 => ?_) (fun c1 => ?_)
  · exact absurd c1 hk.1
  · refine lv_iload_n hx hb dX7_image_4 rfl (lv_at hl 1 rfl) ?_
    refine lv_aload_n hx hb dX7_image_5 rfl (lv_at hl 0 rfl) ?_
    refine va_get (D := G) (ci := 5) (v := .ref q_images) (C := RX7) (T := TX7) (N := 6) hx hb hts in_X7_image_X7 hown hK.1 hP 0 rfl rfl 1 (by decide) (hts (.fieldLink RX7 16 "FieldsByClasses" "images" "[LFieldsByClasses$Shelf;") (by decide +kernel)) (fun _ h9 => h9) rfl dX7_image_6 ?_
    refine va_alen (v := 3) hx hb hK.1 hP 4 3 rfl rfl rfl dX7_image_9 ?_
    refine lv_icmp_lt (tgt := 15) hx hb dX7_image_10 (by decide) (fun c10 => ?_) (fun c10 => ?_)
    · skip
      refine lv_aload_n hx hb dX7_image_15 rfl (lv_at hl 0 rfl) ?_
      refine va_get (D := G) (ci := 5) (v := .ref q_images) (C := RX7) (T := TX7) (N := 6) hx hb hts in_X7_image_X7 hown hK.1 hP 0 rfl rfl 1 (by decide) (hts (.fieldLink RX7 16 "FieldsByClasses" "images" "[LFieldsByClasses$Shelf;") (by decide +kernel)) (fun _ h9 => h9) rfl dX7_image_16 ?_
      refine lv_iload_n hx hb dX7_image_19 rfl (lv_at hl 1 rfl) ?_
      refine va_aldq hx hb hK.1 hP 4 3 rfl rfl (ain_of (ain3 hk)) dX7_image_20 ?_
      refine pf_eqv (v2 := .ref q_o) (by rw [hf]; rfl) ?_
      refine lv_astore_n (lv' := [(2, .ref q_o), (0, .ref q), (1, .int y1)]) hx hb dX7_image_21 rfl hl (by decide) rfl (fun ls hl => ?_)
      refine lv_aload_n hx hb dX7_image_22 rfl (lv_at hl 0 rfl) ?_
      refine lv_ifnonnull (tgt := 41) hx hb dX7_image_23 (by decide) ?_
      refine lv_aload_n hx hb dX7_image_41 rfl (lv_at hl 0 rfl) ?_
      refine lv_aload_n hx hb dX7_image_42 rfl (lv_at hl 1 rfl) ?_
      refine va_get (D := G) (ci := 5) (v := .ref q_shelf) (C := RX7) (T := TX7) (N := 6) hx hb hts in_X7_image_X7 hown hK.1 hP 0 rfl rfl 0 (by decide) (hts (.fieldLink RX7 10 "FieldsByClasses" "shelf" "LFieldsByClasses$Shelf;") (by decide +kernel)) (fun _ h9 => h9) rfl dX7_image_43 ?_
      refine hb_callv (hb_runV (G := G) (T := hbT cI cJ cZ cS) (As := [.ref q_shelf]) (rest := []) S0 (c_X4_copyFrom l G cI cJ cZ cS q_o q_o_bars q_o_groups q_shelf q_shelf_bars q_shelf_groups H.size o_bars o_groups o_size f_bars f_groups f_size r h) (cwV 1 hts gX7_image_X4_copyFrom rfl rfl rfl kv_X4_copyFrom ⟨Nat.le_of_ble_eq_true rfl, Nat.le_of_ble_eq_true rfl⟩) hK (hP.sub [5, 6, 7, 1, 2, 3] rfl) (hD.sub [5, 6, 7, 1, 2, 3] (by decide) rfl) rfl rfl rfl hl.1 rfl (Nat.le_of_ble_eq_true rfl) dX7_image_46 ⟨Nat.zero_le _, Nat.zero_le _⟩) hP hD hS hA [5, 6, 7, 1, 2, 3] [0, 4] [0, 5, 6, 7, 1, 2, 3, 4] rfl (wr := [(q, .inr (5, [.ref q_shelf, .ref q_images, .ref q_cycles, .ref q_above, .ref q_book, .ref q_sums])), (q_images, .inl (cS, 3, .inr (.inr (.inr (.inr f)))))]) rfl (by decide) (by decide) (w2 := [(q, .inr (5, [.ref q_shelf, .ref q_images, .ref q_cycles, .ref q_above, .ref q_book, .ref q_sums])), (q_shelf, .inr (3, [.ref q_shelf_bars, .ref q_shelf_groups, .int f_size])), (q_shelf_bars, .inl (cI, 40, .inl f_bars)), (q_shelf_groups, .inl (cJ, 40, .inr (.inl f_groups))), (q_images, .inl (cS, 3, .inr (.inr (.inr (.inr f))))), (q_o, .inr (3, [.ref q_o_bars, .ref q_o_groups, .int r.2.2])), (q_o_bars, .inl (cI, 40, .inl r.1)), (q_o_groups, .inl (cJ, 40, .inr (.inl r.2.1)))]) (by decide) rfl rfl (fun H locs hP hD hS => ?_)
      refine lv_iconst (v := 1) hx hb dX7_image_49 (by decide) ?_
      exact hb_zret hx hb hr hlocks pf_b1 hP hD hS dX7_image_50
    · exact absurd hk.2 c10
set_option maxHeartbeats 4000000 in
set_option maxRecDepth 100000 in
theorem c_X7_image_new (l : Launch) (G : va_G) (cI cJ cZ cS : ClassId) (q q_shelf q_images q_cycles q_above q_book q_sums q_shelf_bars q_shelf_groups sz : Nat) (f : Nat → Option Nat) (f_bars : Nat → Int32) (f_groups : Nat → Int64) (f_size : Int32) (y1 : Int32) (r : (Nat → Int32) × (Nat → Int64) × Int32) (hk : ¬ y1 < 0 ∧ y1 < 3) (hf : f y1.toNatClampNeg = none) (h : p_X4_copyFrom (fun _ => (0 : Int32)) (fun _ => (0 : Int64)) 0 f_bars f_groups f_size = some r) : Met l yX7_image wsX7_image { frames := 2, cells := 3, slots := 83, locals := 34 } (hb_pre G (hbT cI cJ cZ cS) [.ref q, .int y1] sz [(q, .inr (5, [.ref q_shelf, .ref q_images, .ref q_cycles, .ref q_above, .ref q_book, .ref q_sums])), (q_shelf, .inr (3, [.ref q_shelf_bars, .ref q_shelf_groups, .int f_size])), (q_shelf_bars, .inl (cI, 40, .inl f_bars)), (q_shelf_groups, .inl (cJ, 40, .inr (.inl f_groups))), (q_images, .inl (cS, 3, .inr (.inr (.inr (.inr f)))))]) (va_Qi (fun v (_ : Nat × Nat × Nat) => v = 1) (fun u t => va_P G vwCl [(q, .inr (5, [.ref q_shelf, .ref q_images, .ref q_cycles, .ref q_above, .ref q_book, .ref q_sums])), (q_shelf, .inr (3, [.ref q_shelf_bars, .ref q_shelf_groups, .int f_size])), (q_shelf_bars, .inl (cI, 40, .inl f_bars)), (q_shelf_groups, .inl (cJ, 40, .inr (.inl f_groups))), (q_images, .inl (cS, 3, .inr (.inr (.inr (.inr (va_up f (y1).toNatClampNeg (some u.1))))))), (u.1, .inr (3, [.ref u.2.1, .ref u.2.2, .int r.2.2])), (u.2.1, .inl (cI, 40, .inl r.1)), (u.2.2, .inl (cJ, 40, .inr (.inl r.2.1)))] t.heap ∧ va_D (va_A [(q, .inr (5, [.ref q_shelf, .ref q_images, .ref q_cycles, .ref q_above, .ref q_book, .ref q_sums])), (q_shelf, .inr (3, [.ref q_shelf_bars, .ref q_shelf_groups, .int f_size])), (q_shelf_bars, .inl (cI, 40, .inl f_bars)), (q_shelf_groups, .inl (cJ, 40, .inr (.inl f_groups))), (q_images, .inl (cS, 3, .inr (.inr (.inr (.inr f)))))] sz) [(q, .inr (5, [.ref q_shelf, .ref q_images, .ref q_cycles, .ref q_above, .ref q_book, .ref q_sums])), (q_shelf, .inr (3, [.ref q_shelf_bars, .ref q_shelf_groups, .int f_size])), (q_shelf_bars, .inl (cI, 40, .inl f_bars)), (q_shelf_groups, .inl (cJ, 40, .inr (.inl f_groups))), (q_images, .inl (cS, 3, .inr (.inr (.inr (.inr (va_up f (y1).toNatClampNeg (some u.1))))))), (u.1, .inr (3, [.ref u.2.1, .ref u.2.2, .int r.2.2])), (u.2.1, .inl (cI, 40, .inl r.1)), (u.2.2, .inl (cJ, 40, .inr (.inl r.2.1)))]) (va_A [(q, .inr (5, [.ref q_shelf, .ref q_images, .ref q_cycles, .ref q_above, .ref q_book, .ref q_sums])), (q_shelf, .inr (3, [.ref q_shelf_bars, .ref q_shelf_groups, .int f_size])), (q_shelf_bars, .inl (cI, 40, .inl f_bars)), (q_shelf_groups, .inl (cJ, 40, .inr (.inl f_groups))), (q_images, .inl (cS, 3, .inr (.inr (.inr (.inr f)))))] sz)) 3 83 (va_A [(q, .inr (5, [.ref q_shelf, .ref q_images, .ref q_cycles, .ref q_above, .ref q_book, .ref q_sums])), (q_shelf, .inr (3, [.ref q_shelf_bars, .ref q_shelf_groups, .int f_size])), (q_shelf_bars, .inl (cI, 40, .inl f_bars)), (q_shelf_groups, .inl (cJ, 40, .inr (.inl f_groups))), (q_images, .inl (cS, 3, .inr (.inr (.inr (.inr f)))))] sz) := by
  refine hb_met (Qc := fun A => va_Qi (fun v (_ : Nat × Nat × Nat) => v = 1) (fun u t => va_P G vwCl [(q, .inr (5, [.ref q_shelf, .ref q_images, .ref q_cycles, .ref q_above, .ref q_book, .ref q_sums])), (q_shelf, .inr (3, [.ref q_shelf_bars, .ref q_shelf_groups, .int f_size])), (q_shelf_bars, .inl (cI, 40, .inl f_bars)), (q_shelf_groups, .inl (cJ, 40, .inr (.inl f_groups))), (q_images, .inl (cS, 3, .inr (.inr (.inr (.inr (va_up f (y1).toNatClampNeg (some u.1))))))), (u.1, .inr (3, [.ref u.2.1, .ref u.2.2, .int r.2.2])), (u.2.1, .inl (cI, 40, .inl r.1)), (u.2.2, .inl (cJ, 40, .inr (.inl r.2.1)))] t.heap ∧ va_D A [(q, .inr (5, [.ref q_shelf, .ref q_images, .ref q_cycles, .ref q_above, .ref q_book, .ref q_sums])), (q_shelf, .inr (3, [.ref q_shelf_bars, .ref q_shelf_groups, .int f_size])), (q_shelf_bars, .inl (cI, 40, .inl f_bars)), (q_shelf_groups, .inl (cJ, 40, .inr (.inl f_groups))), (q_images, .inl (cS, 3, .inr (.inr (.inr (.inr (va_up f (y1).toNatClampNeg (some u.1))))))), (u.1, .inr (3, [.ref u.2.1, .ref u.2.2, .int r.2.2])), (u.2.1, .inl (cI, 40, .inl r.1)), (u.2.2, .inl (cJ, 40, .inr (.inl r.2.1)))]) A) (cc := cX7_image) (maxL := 3) (ret := some .boolean) (by decide) rfl (Nat.le_of_ble_eq_true rfl) ?_
  intro p e s m below meth c A hx hb hr hts hown hlocks hml hin hK hA hP hD hS ls hl
  have hown : s.vm.findClass RX7 = some m.cls := hown
  have S0 : CallFix p m c cX7_image 3 s ([.ref q, .int y1] : List Value).toArray wsX7_image RX7 := ⟨hx, hb, hml, hown, hts⟩
  have hl : lv_has ls 3 [(0, .ref q), (1, .int y1)] := hl
  obtain ⟨H, hH⟩ : ∃ H, H = s.heap := ⟨_, rfl⟩
  rw [← hH] at hP ⊢
  have hS : va_S A s.heap H [] := by rw [hH]; exact hS
  refine lv_iload_n hx hb dX7_image_0 rfl (lv_at hl 1 rfl) ?_
  refine lv_if_lt (tgt := 13) hx hb dX7_image_1 (by decide) (fun c1 => ?_) (fun c1 => ?_)
  · exact absurd c1 hk.1
  · refine lv_iload_n hx hb dX7_image_4 rfl (lv_at hl 1 rfl) ?_
    refine lv_aload_n hx hb dX7_image_5 rfl (lv_at hl 0 rfl) ?_
    refine va_get (D := G) (ci := 5) (v := .ref q_images) (C := RX7) (T := TX7) (N := 6) hx hb hts in_X7_image_X7 hown hK.1 hP 0 rfl rfl 1 (by decide) (hts (.fieldLink RX7 16 "FieldsByClasses" "images" "[LFieldsByClasses$Shelf;") (by decide +kernel)) (fun _ h9 => h9) rfl dX7_image_6 ?_
    refine va_alen (v := 3) hx hb hK.1 hP 4 3 rfl rfl rfl dX7_image_9 ?_
    refine lv_icmp_lt (tgt := 15) hx hb dX7_image_10 (by decide) (fun c10 => ?_) (fun c10 => ?_)
    · skip
      refine lv_aload_n hx hb dX7_image_15 rfl (lv_at hl 0 rfl) ?_
      refine va_get (D := G) (ci := 5) (v := .ref q_images) (C := RX7) (T := TX7) (N := 6) hx hb hts in_X7_image_X7 hown hK.1 hP 0 rfl rfl 1 (by decide) (hts (.fieldLink RX7 16 "FieldsByClasses" "images" "[LFieldsByClasses$Shelf;") (by decide +kernel)) (fun _ h9 => h9) rfl dX7_image_16 ?_
      refine lv_iload_n hx hb dX7_image_19 rfl (lv_at hl 1 rfl) ?_
      refine va_aldq hx hb hK.1 hP 4 3 rfl rfl (ain_of (ain3 hk)) dX7_image_20 ?_
      refine pf_eqv (v2 := .null) (by rw [hf]; rfl) ?_
      refine lv_astore_nN (lv' := [(2, .null), (0, .ref q), (1, .int y1)]) hx hb dX7_image_21 rfl hl (by decide) rfl (fun ls hl => ?_)
      refine lv_aload_nN hx hb dX7_image_22 rfl (lv_at hl 0 rfl) ?_
      refine lv_ifnonnullN hx hb dX7_image_23 ?_
      refine va_new (ci := 3) (fs := [.null, .null, .int 0]) (C := RX4) (T := TX4) (N := 3) hx hb hts in_X7_image_X4 tyX4 tyX4_ok hown (hts (.classLink RX7 7 RX4) (by decide +kernel)) (hts (.instantiable RX4 3) (by decide +kernel)) (hts (.initialized RX4) (by decide +kernel)) hK.1 hP hD hS hA rfl (fun j hj => by rcases (show j = 0 ∨ j = 1 ∨ j = 2 by omega) with rfl | rfl | rfl <;> rfl) (Nat.le_of_ble_eq_true rfl) (Nat.le_of_ble_eq_true rfl) dX7_image_26 (fun r26 H hP hD hS => ?_)
      have hP : va_P G vwCl [(q, .inr (5, [.ref q_shelf, .ref q_images, .ref q_cycles, .ref q_above, .ref q_book, .ref q_sums])), (q_shelf, .inr (3, [.ref q_shelf_bars, .ref q_shelf_groups, .int f_size])), (q_shelf_bars, .inl (cI, 40, .inl f_bars)), (q_shelf_groups, .inl (cJ, 40, .inr (.inl f_groups))), (q_images, .inl (cS, 3, .inr (.inr (.inr (.inr f))))), (r26, .inr (3, [.null, .null, .int 0]))] H := hP
      have hD : va_D A [(q, .inr (5, [.ref q_shelf, .ref q_images, .ref q_cycles, .ref q_above, .ref q_book, .ref q_sums])), (q_shelf, .inr (3, [.ref q_shelf_bars, .ref q_shelf_groups, .int f_size])), (q_shelf_bars, .inl (cI, 40, .inl f_bars)), (q_shelf_groups, .inl (cJ, 40, .inr (.inl f_groups))), (q_images, .inl (cS, 3, .inr (.inr (.inr (.inr f))))), (r26, .inr (3, [.null, .null, .int 0]))] := hD
      refine lv_dup hx hb dX7_image_29 rfl ?_
      refine hb_callI (hb_runIN (G := G) (T := hbT cI cJ cZ cS) (As := []) (rest := [.ref r26]) S0 (c_X4_init l G cI cJ cZ cS r26 H.size) ⟨va_cnB (host := "FieldsByClasses") 0 hts gX7_image_X4_init_n9 rfl rfl rfl (hK.2.1 _ (List.mem_of_getElem? (i := 0) rfl)) (hts (.initialized RX4) (by decide +kernel)) kd_X4_init ⟨Nat.le_of_ble_eq_true rfl, Nat.le_of_ble_eq_true rfl⟩, rfl, hts (.instanceMethod yX4_init) (by decide +kernel)⟩ hK (hP.sub [5] rfl) (hD.sub [5] (by decide) rfl) rfl hl.1 rfl (Nat.le_of_ble_eq_true rfl) dX7_image_30 ⟨Nat.le_of_ble_eq_true rfl, Nat.le_of_ble_eq_true rfl⟩) hP hD hS hA [5] [0, 1, 2, 3, 4] rfl (wr := [(q, .inr (5, [.ref q_shelf, .ref q_images, .ref q_cycles, .ref q_above, .ref q_book, .ref q_sums])), (q_shelf, .inr (3, [.ref q_shelf_bars, .ref q_shelf_groups, .int f_size])), (q_shelf_bars, .inl (cI, 40, .inl f_bars)), (q_shelf_groups, .inl (cJ, 40, .inr (.inl f_groups))), (q_images, .inl (cS, 3, .inr (.inr (.inr (.inr f)))))]) rfl (by decide) (by decide) (fun u30 H locs hP hD hS => ?_)
      have hP : va_P G vwCl [(q, .inr (5, [.ref q_shelf, .ref q_images, .ref q_cycles, .ref q_above, .ref q_book, .ref q_sums])), (q_shelf, .inr (3, [.ref q_shelf_bars, .ref q_shelf_groups, .int f_size])), (q_shelf_bars, .inl (cI, 40, .inl f_bars)), (q_shelf_groups, .inl (cJ, 40, .inr (.inl f_groups))), (q_images, .inl (cS, 3, .inr (.inr (.inr (.inr f))))), (r26, .inr (3, [.ref u30.1, .ref u30.2, .int 0])), (u30.1, .inl (cI, 40, .inl (fun _ => (0 : Int32)))), (u30.2, .inl (cJ, 40, .inr (.inl (fun _ => (0 : Int64)))))] H := hP
      have hD : va_D A [(q, .inr (5, [.ref q_shelf, .ref q_images, .ref q_cycles, .ref q_above, .ref q_book, .ref q_sums])), (q_shelf, .inr (3, [.ref q_shelf_bars, .ref q_shelf_groups, .int f_size])), (q_shelf_bars, .inl (cI, 40, .inl f_bars)), (q_shelf_groups, .inl (cJ, 40, .inr (.inl f_groups))), (q_images, .inl (cS, 3, .inr (.inr (.inr (.inr f))))), (r26, .inr (3, [.ref u30.1, .ref u30.2, .int 0])), (u30.1, .inl (cI, 40, .inl (fun _ => (0 : Int32)))), (u30.2, .inl (cJ, 40, .inr (.inl (fun _ => (0 : Int64)))))] := hD
      refine lv_astore_n (lv' := [(2, .ref r26), (0, .ref q), (1, .int y1)]) hx hb dX7_image_33 rfl hl (by decide) rfl (fun ls hl => ?_)
      refine lv_aload_n hx hb dX7_image_34 rfl (lv_at hl 1 rfl) ?_
      refine va_get (D := G) (ci := 5) (v := .ref q_images) (C := RX7) (T := TX7) (N := 6) hx hb hts in_X7_image_X7 hown hK.1 hP 0 rfl rfl 1 (by decide) (hts (.fieldLink RX7 16 "FieldsByClasses" "images" "[LFieldsByClasses$Shelf;") (by decide +kernel)) (fun _ h9 => h9) rfl dX7_image_35 ?_
      refine lv_iload_n hx hb dX7_image_38 rfl (lv_at hl 2 rfl) ?_
      refine lv_aload_n hx hb dX7_image_39 rfl (lv_at hl 0 rfl) ?_
      refine va_astq hx hb hK.1 hP hD hS 4 3 5 3 rfl rfl rfl rfl (ain_of (ain3 hk)) dX7_image_40 (fun H locs hP hD hS => ?_)
      have hP : va_P G vwCl [(q, .inr (5, [.ref q_shelf, .ref q_images, .ref q_cycles, .ref q_above, .ref q_book, .ref q_sums])), (q_shelf, .inr (3, [.ref q_shelf_bars, .ref q_shelf_groups, .int f_size])), (q_shelf_bars, .inl (cI, 40, .inl f_bars)), (q_shelf_groups, .inl (cJ, 40, .inr (.inl f_groups))), (q_images, .inl (cS, 3, .inr (.inr (.inr (.inr (va_up f (y1).toNatClampNeg (some r26))))))), (r26, .inr (3, [.ref u30.1, .ref u30.2, .int 0])), (u30.1, .inl (cI, 40, .inl (fun _ => (0 : Int32)))), (u30.2, .inl (cJ, 40, .inr (.inl (fun _ => (0 : Int64)))))] H := hP
      have hD : va_D A [(q, .inr (5, [.ref q_shelf, .ref q_images, .ref q_cycles, .ref q_above, .ref q_book, .ref q_sums])), (q_shelf, .inr (3, [.ref q_shelf_bars, .ref q_shelf_groups, .int f_size])), (q_shelf_bars, .inl (cI, 40, .inl f_bars)), (q_shelf_groups, .inl (cJ, 40, .inr (.inl f_groups))), (q_images, .inl (cS, 3, .inr (.inr (.inr (.inr (va_up f (y1).toNatClampNeg (some r26))))))), (r26, .inr (3, [.ref u30.1, .ref u30.2, .int 0])), (u30.1, .inl (cI, 40, .inl (fun _ => (0 : Int32)))), (u30.2, .inl (cJ, 40, .inr (.inl (fun _ => (0 : Int64)))))] := hD
      refine lv_aload_n hx hb dX7_image_41 rfl (lv_at hl 0 rfl) ?_
      refine lv_aload_n hx hb dX7_image_42 rfl (lv_at hl 1 rfl) ?_
      refine va_get (D := G) (ci := 5) (v := .ref q_shelf) (C := RX7) (T := TX7) (N := 6) hx hb hts in_X7_image_X7 hown hK.1 hP 0 rfl rfl 0 (by decide) (hts (.fieldLink RX7 10 "FieldsByClasses" "shelf" "LFieldsByClasses$Shelf;") (by decide +kernel)) (fun _ h9 => h9) rfl dX7_image_43 ?_
      refine hb_callv (hb_runV (G := G) (T := hbT cI cJ cZ cS) (As := [.ref q_shelf]) (rest := []) S0 (c_X4_copyFrom l G cI cJ cZ cS r26 u30.1 u30.2 q_shelf q_shelf_bars q_shelf_groups H.size (fun _ => (0 : Int32)) (fun _ => (0 : Int64)) 0 f_bars f_groups f_size r h) (cwV 1 hts gX7_image_X4_copyFrom rfl rfl rfl kv_X4_copyFrom ⟨Nat.le_of_ble_eq_true rfl, Nat.le_of_ble_eq_true rfl⟩) hK (hP.sub [5, 6, 7, 1, 2, 3] rfl) (hD.sub [5, 6, 7, 1, 2, 3] (by decide) rfl) rfl rfl rfl hl.1 rfl (Nat.le_of_ble_eq_true rfl) dX7_image_46 ⟨Nat.le_of_ble_eq_true rfl, Nat.le_of_ble_eq_true rfl⟩) hP hD hS hA [5, 6, 7, 1, 2, 3] [0, 4] [0, 5, 6, 7, 1, 2, 3, 4] rfl (wr := [(q, .inr (5, [.ref q_shelf, .ref q_images, .ref q_cycles, .ref q_above, .ref q_book, .ref q_sums])), (q_images, .inl (cS, 3, .inr (.inr (.inr (.inr (va_up f (y1).toNatClampNeg (some r26)))))))]) rfl (by decide) (by decide) (w2 := [(q, .inr (5, [.ref q_shelf, .ref q_images, .ref q_cycles, .ref q_above, .ref q_book, .ref q_sums])), (q_shelf, .inr (3, [.ref q_shelf_bars, .ref q_shelf_groups, .int f_size])), (q_shelf_bars, .inl (cI, 40, .inl f_bars)), (q_shelf_groups, .inl (cJ, 40, .inr (.inl f_groups))), (q_images, .inl (cS, 3, .inr (.inr (.inr (.inr (va_up f (y1).toNatClampNeg (some r26))))))), (r26, .inr (3, [.ref u30.1, .ref u30.2, .int r.2.2])), (u30.1, .inl (cI, 40, .inl r.1)), (u30.2, .inl (cJ, 40, .inr (.inl r.2.1)))]) (by decide) rfl rfl (fun H locs hP hD hS => ?_)
      refine lv_iconst (v := 1) hx hb dX7_image_49 (by decide) ?_
      exact W.zret (v := 1) hx hb hr rfl (fun t ht _ => ⟨⟨1, (r26, u30.1, u30.2), rfl, rfl, by rw [ht]; exact hP, hD⟩, hS.F ht⟩) hS.2.2 dX7_image_50 hlocks
    · exact absurd hk.2 c10
