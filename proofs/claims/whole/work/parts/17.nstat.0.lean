def ALLL : List Nat := [0, 1, 2, 6, 10, 30, 34, 126, 170, 438, 650, 2046, 2210, 8190, 10794, 27030, 43690, 131070, 141474, 524286, 666250, 1781046, 2794154, 8388606, 9054370, 32472030, 44731050, 115043766, 176859690, 536870910, 545925250, 2147483646, 2863311530, 7358604726, 11453115050, 32980810590, 37086701730, 137438953470, 183251413674, 471152151990, 698614426250, 2199023255550, 2339189172258, 8796093022206, 11719534092970, 29024127248790, 46912487729834, 140737488355326, 151907130288290, 558517276622718, 715381172480650, 1930096946015670, 3001849995758250, 9007199254740990, 9722056338450594, 34848976980112350, 47475411710028330, 123527029186588086, 192153583564270250, 576460752303423486, 586182774248581250, 2305843009213693950, 3074457343470774954, 7833126881541696822]
def ALLT (m : Nat) : Nat := ALLL.getD m 0
noncomputable def popN (g n : Nat) : Nat := Nat.rec (motive := fun _ => Nat) 0 (fun s v => Nat.add v (Nat.land (Nat.shiftRight g s) 1)) n
theorem popN_it (g : Nat) : ∀ k, itF (fun s v => v + ((g >>> s) &&& 1)) 0 k 0 = popN g k := by
  intro k
  induction k with
  | zero => rfl
  | succ k ih => rw [itF_snoc, ih, Nat.zero_add]; rfl
theorem powN_it (m r : Nat) : ∀ k, itF (fun _ v => v * r % m) 0 k (1 % m) = r ^ k % m := by
  intro k
  induction k with
  | zero => rfl
  | succ k ih => rw [itF_snoc, ih, Nat.mod_mul_mod, Nat.pow_succ]
theorem nltJ_t {a b : Nat} (h : a < b) (hb : b < 9223372036854775808) : nltJ a b = true := by
  unfold nltJ
  rw [show Nat.ble a 9223372036854775807 = true from Nat.ble_eq.mpr (by omega), show Nat.ble b 9223372036854775807 = true from Nat.ble_eq.mpr (by omega)]
  exact Nat.blt_eq.mpr h
theorem nltJ_f {a b : Nat} (h : b ≤ a) (ha : a < 9223372036854775808) : nltJ a b = false := by
  unfold nltJ
  rw [show Nat.ble a 9223372036854775807 = true from Nat.ble_eq.mpr (by omega), show Nat.ble b 9223372036854775807 = true from Nat.ble_eq.mpr (by omega)]
  show Nat.blt a b = false
  rw [Bool.eq_false_iff]; intro q; have := Nat.blt_eq.mp q; omega
theorem njremL_n {a b : Nat} (ha : a < 9223372036854775808) (h0 : 0 < b) (hb : b < 9223372036854775808) : njremL a b = a % b := by
  unfold njremL
  rw [show Nat.ble a 9223372036854775807 = true from Nat.ble_eq.mpr (by omega), show Nat.ble b 9223372036854775807 = true from Nat.ble_eq.mpr (by omega), show Nat.ble 1 b = true from Nat.ble_eq.mpr (by omega)]; rfl
noncomputable def gpR (p k : Nat) : Nat → Bool := Nat.rec (motive := fun _ => Nat → Bool) (fun lo => cond (Nat.blt p (Nat.mul lo lo)) true (cond (Nat.beq (Nat.mod p lo) 0) false true)) (fun k ih lo => cond (Nat.blt p (Nat.mul lo lo)) true (cond (ih lo) (ih (Nat.add lo (Nat.pow 2 k))) false)) k
theorem gpR_spec (p : Nat) : ∀ (k lo : Nat), gpR p k lo = true ↔ ∀ e, lo ≤ e → e < lo + 2 ^ k → e * e ≤ p → p % e ≠ 0 := by
  intro k
  induction k with
  | zero =>
    intro lo
    show cond (Nat.blt p (lo * lo)) true (cond (Nat.beq (p % lo) 0) false true) = true ↔ _
    by_cases h : p < lo * lo
    · rw [show Nat.blt p (lo * lo) = true from Nat.blt_eq.mpr h]
      refine ⟨fun _ e h1 h2 h3 => ?_, fun _ => rfl⟩
      have : e = lo := by simp at h2; omega
      subst this; omega
    · rw [show Nat.blt p (lo * lo) = false from by rw [Bool.eq_false_iff]; intro q; exact h (Nat.blt_eq.mp q)]
      by_cases h0 : p % lo = 0
      · rw [h0]
        refine ⟨fun q => by simp at q, fun q => absurd h0 (q lo (Nat.le_refl _) (by simp) (by omega))⟩
      · rw [beq_f h0]
        refine ⟨fun _ e h1 h2 h3 => ?_, fun _ => rfl⟩
        have : e = lo := by simp at h2; omega
        subst this; exact h0
  | succ k ih =>
    intro lo
    show cond (Nat.blt p (lo * lo)) true (cond (gpR p k lo) (gpR p k (lo + 2 ^ k)) false) = true ↔ _
    by_cases h : p < lo * lo
    · rw [show Nat.blt p (lo * lo) = true from Nat.blt_eq.mpr h]
      refine ⟨fun _ e h1 h2 h3 => ?_, fun _ => rfl⟩
      have := Nat.mul_le_mul h1 h1
      omega
    · rw [show Nat.blt p (lo * lo) = false from by rw [Bool.eq_false_iff]; intro q; exact h (Nat.blt_eq.mp q)]
      have e2 : 2 ^ (k + 1) = 2 ^ k + 2 ^ k := by rw [Nat.pow_succ]; omega
      constructor
      · intro q e h1 h2 h3
        cases hc : gpR p k lo with
        | false => rw [hc] at q; simp at q
        | true =>
          rw [hc] at q
          rcases Nat.lt_or_ge e (lo + 2 ^ k) with h4 | h4
          · exact (ih lo).mp hc e h1 h4 h3
          · exact (ih (lo + 2 ^ k)).mp q e h4 (by omega) h3
      · intro q
        rw [(ih lo).mpr (fun e h1 h2 h3 => q e h1 (by omega) h3)]
        exact (ih (lo + 2 ^ k)).mpr (fun e h1 h2 h3 => q e (by omega) (by omega) h3)
noncomputable def amongN (n v g k : Nat) : Nat := Nat.rec (motive := fun _ => Nat) 0 (fun r b => cond (Nat.beq b 0) (cond (Nat.beq (Nat.land (Nat.shiftRight g r) 1) 1) (cond (Nat.beq (Nat.mod r n) v) 1 0) 0) 1) k
theorem amongN_it (n v g : Nat) : ∀ k, itF (fun r b => cond (Nat.beq b 0) (cond (Nat.beq ((g >>> r) &&& 1) 1) (cond (Nat.beq (r % n) v) 1 0) 0) 1) 0 k 0 = amongN n v g k := by
  intro k
  induction k with
  | zero => rfl
  | succ k ih => rw [itF_snoc, ih, Nat.zero_add]; rfl

noncomputable def np_X3_bit (y0 : Nat) : Option Nat :=
  (bif nltI y0 0 then some 0 else (bif nltI y0 63 then some (njshl 1 y0) else some 0))
theorem h_p_X3_bit (y0 : Nat) : p_X3_bit (nI y0) = Option.map lN (np_X3_bit y0) := by
  unfold p_X3_bit np_X3_bit
  exact (hm_if (hc_ltI rfl rfl) rfl (hm_if (hc_ltI rfl rfl) (congrArg some (ho_jshl rfl rfl)) rfl))
noncomputable def np_X3_has (y0 : Nat) (y2 : Nat) : Option Nat :=
  (bif nltI y2 0 then some 0 else (bif nleI 63 y2 then some 0 else (bif neqJ ((njshr y0 y2) &&& 1) 0 then some 0 else some 1)))
theorem h_p_X3_has (y0 : Nat) (y2 : Nat) : p_X3_has (lN y0) (nI y2) = Option.map nI (np_X3_has y0 y2) := by
  unfold p_X3_has np_X3_has
  exact (hm_if (hc_ltI rfl rfl) rfl (hm_if (hc_leI rfl rfl) rfl (hm_if (hc_eqJ (ho_andJ (ho_jshr rfl rfl) rfl) rfl) rfl rfl)))
noncomputable def np_J13_bitCount_95d88 (y0 : Nat) : Option Nat :=
  ((some (((nsubJ y0 ((njushr y0 1) &&& 6148914691236517205)) &&& 3689348814741910323) + ((njushr (nsubJ y0 ((njushr y0 1) &&& 6148914691236517205)) 2) &&& 3689348814741910323))).bind fun w23 => ((some (((w23 + (njushr w23 4)) &&& 1085102592571150095) + (njushr ((w23 + (njushr w23 4)) &&& 1085102592571150095) 8))).bind fun w40 => ((some ((w40 + (njushr w40 16)) + (njushr (w40 + (njushr w40 16)) 32))).bind fun w54 => some (w54 &&& 127))))
theorem h_p_J13_bitCount_95d88 (y0 : Nat) : p_J13_bitCount_95d88 (lN y0) = Option.map nI (np_J13_bitCount_95d88 y0) := by
  unfold p_J13_bitCount_95d88 np_J13_bitCount_95d88
  exact (hm_bind (show some _ = Option.map lN (some (((nsubJ y0 ((njushr y0 1) &&& 6148914691236517205)) &&& 3689348814741910323) + ((njushr (nsubJ y0 ((njushr y0 1) &&& 6148914691236517205)) 2) &&& 3689348814741910323))) from (congrArg some (ho_addJ (ho_andJ (ho_subJ rfl (ho_andJ (ho_jushr rfl rfl) rfl)) rfl) (ho_andJ (ho_jushr (ho_subJ rfl (ho_andJ (ho_jushr rfl rfl) rfl)) rfl) rfl)))) (fun w23 => (hm_bind (show some _ = Option.map lN (some (((w23 + (njushr w23 4)) &&& 1085102592571150095) + (njushr ((w23 + (njushr w23 4)) &&& 1085102592571150095) 8))) from (congrArg some (ho_addJ (ho_andJ (ho_addJ rfl (ho_jushr rfl rfl)) rfl) (ho_jushr (ho_andJ (ho_addJ rfl (ho_jushr rfl rfl)) rfl) rfl)))) (fun w40 => (hm_bind (show some _ = Option.map lN (some ((w40 + (njushr w40 16)) + (njushr (w40 + (njushr w40 16)) 32))) from (congrArg some (ho_addJ (ho_addJ rfl (ho_jushr rfl rfl)) (ho_jushr (ho_addJ rfl (ho_jushr rfl rfl)) rfl)))) (fun w54 => (congrArg some (ho_andI (ho_l2i rfl) rfl))))))))
noncomputable def np_X3_size (y0 : Nat) : Option Nat :=
  ((np_J13_bitCount_95d88 y0).bind fun v1 => some v1)
theorem h_p_X3_size (y0 : Nat) : p_X3_size (lN y0) = Option.map nI (np_X3_size y0) := by
  unfold p_X3_size np_X3_size
  exact (hm_bind (h_p_J13_bitCount_95d88 y0) (fun v1 => rfl))
noncomputable def ne_X6_greatestDivisor_34 (x2 : Nat) : Option Nat :=
  some x2
theorem h_e_X6_greatestDivisor_34 (x2 : Nat) : e_X6_greatestDivisor_34 (nI x2) = Option.map nI (ne_X6_greatestDivisor_34 x2) := by
  unfold e_X6_greatestDivisor_34 ne_X6_greatestDivisor_34
  exact rfl
noncomputable def ns_X6_greatestDivisor_7 (x2 : Nat) (x3 : Nat) (x4 : Nat) : Option ((Nat × (Nat × Nat)) ⊕ Nat) :=
  (bif nleI 63 x4 then some (Sum.inr x2) else (bif nleI x3 0 then some (Sum.inr x2) else (bif neqI x3 0 then none else some (Sum.inl (x3, ((njrem x2 x3), (x4 + 1)))))))
theorem h_s_X6_greatestDivisor_7 (x2 : Nat) (x3 : Nat) (x4 : Nat) : s_X6_greatestDivisor_7 (nI x2) (nI x3) (nI x4) = Option.map (Sum.map (cP nI (cP nI nI)) nI) (ns_X6_greatestDivisor_7 x2 x3 x4) := by
  unfold s_X6_greatestDivisor_7 ns_X6_greatestDivisor_7
  exact (hm_if (hc_leI rfl rfl) rfl (hm_if (hc_leI rfl rfl) rfl (hm_if (hc_eqI rfl rfl) rfl (congrArg some (congrArg Sum.inl (ho_pair rfl (ho_pair (ho_jrem rfl rfl) (ho_addI rfl rfl))))))))
noncomputable def na_X6_greatestDivisor_7 (b : Nat) : Option Nat := (fun q : Nat => ne_X6_greatestDivisor_34 q) b
theorem h_a_X6_greatestDivisor_7 (b : Nat) : a_X6_greatestDivisor_7 (nI b) = Option.map nI (na_X6_greatestDivisor_7 b) := h_e_X6_greatestDivisor_34 b
noncomputable def ng_X6_greatestDivisor_7 (x2 : Nat) (x3 : Nat) (x4 : Nat) : Option Nat := (lpN (fun q : (Nat × (Nat × Nat)) => ns_X6_greatestDivisor_7 q.1 q.2.1 q.2.2) pfFU (x2, x3, x4)).bind (na_X6_greatestDivisor_7 )
theorem h_g_X6_greatestDivisor_7 (x2 : Nat) (x3 : Nat) (x4 : Nat) : g_X6_greatestDivisor_7 (nI x2) (nI x3) (nI x4) = Option.map nI (ng_X6_greatestDivisor_7 x2 x3 x4) := by
  unfold g_X6_greatestDivisor_7 ng_X6_greatestDivisor_7
  exact hm_bind (lp_hom (cP nI (cP nI nI)) nI (fun q => h_s_X6_greatestDivisor_7 q.1 q.2.1 q.2.2) pfFU (x2, x3, x4)) (fun b => h_a_X6_greatestDivisor_7  b)
noncomputable def n0p_X6_greatestDivisor (y0 : Nat) (y1 : Nat) : Option Nat :=
  ng_X6_greatestDivisor_7 y0 y1 0
theorem h0_p_X6_greatestDivisor (y0 : Nat) (y1 : Nat) : p_X6_greatestDivisor (nI y0) (nI y1) = Option.map nI (n0p_X6_greatestDivisor y0 y1) := by
  unfold p_X6_greatestDivisor n0p_X6_greatestDivisor
  exact (h_g_X6_greatestDivisor_7 y0 y1 0)
theorem z_p_X6_greatestDivisor (y0 : Nat) (y1 : Nat) (hd : (Nat.ble y0 2147483647 && Nat.ble y1 63) = true) : n0p_X6_greatestDivisor y0 y1 = some (Nat.gcd y0 y1) := by
  obtain ⟨q1, q2⟩ := nf_and hd
  have q1 := nf_le q1
  have q2 := nf_le q2
  have key : ∀ (n k y x : Nat), k + y ≤ 63 → 63 < k + n → x < 2147483648 → lpN (fun q : (Nat × (Nat × Nat)) => ns_X6_greatestDivisor_7 q.1 q.2.1 q.2.2) n (x, y, k) = some (Nat.gcd x y) := by
    intro n
    induction n with
    | zero => intro k y x h1 h2; omega
    | succ n ih =>
      intro k y x h1 h2 hx
      rcases Nat.eq_zero_or_pos y with h0 | h0
      · subst h0
        rw [lpN_inr (b := x)]
        · rw [Nat.gcd_zero_right]
        · show ns_X6_greatestDivisor_7 x 0 k = _
          unfold ns_X6_greatestDivisor_7
          rcases Nat.lt_or_ge k 63 with hk | hk
          · rw [nleI_f hk (by decide), nleI_t (Nat.le_refl 0) (by decide)]; rfl
          · rw [nleI_t hk (by omega)]; rfl
      · have hm := Nat.mod_lt x h0
        rw [lpN_inl (s' := (y, x % y, k + 1))]
        · rw [ih (k + 1) (x % y) y (by omega) (by omega) (by omega), Nat.gcd_comm x y, Nat.gcd_rec y x, Nat.gcd_comm (x % y) y]
        · show ns_X6_greatestDivisor_7 x y k = _
          unfold ns_X6_greatestDivisor_7
          rw [nleI_f (by omega) (by decide), nleI_f h0 (by omega), neqI_f (by omega) (by omega) (by decide), njrem_n hx h0 (by omega)]; rfl
  show (lpN _ pfFU (y0, y1, 0)).bind _ = _
  rw [key pfFU 0 y1 y0 (by omega) (by have := pf_FU; omega) (by omega)]
  rfl
noncomputable def np_X6_greatestDivisor (y0 : Nat) (y1 : Nat) : Option Nat := bif Nat.ble y0 2147483647 && Nat.ble y1 63 then some (Nat.gcd y0 y1) else n0p_X6_greatestDivisor y0 y1
theorem h_p_X6_greatestDivisor (y0 : Nat) (y1 : Nat) : p_X6_greatestDivisor (nI y0) (nI y1) = Option.map nI (np_X6_greatestDivisor y0 y1) := by
  rw [h0_p_X6_greatestDivisor]
  unfold np_X6_greatestDivisor
  exact congrArg _ (nf_fast (fun h => z_p_X6_greatestDivisor y0 y1 h) rfl)
noncomputable def ne_X3_all_37 (x1 : Nat) : Option Nat :=
  some x1
theorem h_e_X3_all_37 (x1 : Nat) : e_X3_all_37 (lN x1) = Option.map lN (ne_X3_all_37 x1) := by
  unfold e_X3_all_37 ne_X3_all_37
  exact rfl
noncomputable def ns_X3_all_4 (x0 : Nat) (x1 : Nat) (x3 : Nat) : Option ((Nat × Nat) ⊕ Nat) :=
  (bif nleI x0 x3 then some (Sum.inr x1) else (bif nleI 63 x3 then some (Sum.inr x1) else ((np_X6_greatestDivisor x3 x0).bind fun v17 => (bif neqI v17 1 then ((np_X3_bit x3).bind fun v26 => some (Sum.inl ((x1 ||| v26), (x3 + 1)))) else some (Sum.inl (x1, (x3 + 1)))))))
theorem h_s_X3_all_4 (x0 : Nat) (x1 : Nat) (x3 : Nat) : s_X3_all_4 (nI x0) (lN x1) (nI x3) = Option.map (Sum.map (cP lN nI) lN) (ns_X3_all_4 x0 x1 x3) := by
  unfold s_X3_all_4 ns_X3_all_4
  exact (hm_if (hc_leI rfl rfl) rfl (hm_if (hc_leI rfl rfl) rfl (hm_bind (h_p_X6_greatestDivisor x3 x0) (fun v17 => (hm_if (hc_eqI rfl rfl) (hm_bind (h_p_X3_bit x3) (fun v26 => (congrArg some (congrArg Sum.inl (ho_pair (ho_orJ rfl rfl) (ho_addI rfl rfl)))))) (congrArg some (congrArg Sum.inl (ho_pair rfl (ho_addI rfl rfl)))))))))
noncomputable def na_X3_all_4 (b : Nat) : Option Nat := (fun q : Nat => ne_X3_all_37 q) b
theorem h_a_X3_all_4 (b : Nat) : a_X3_all_4 (lN b) = Option.map lN (na_X3_all_4 b) := h_e_X3_all_37 b
noncomputable def ng_X3_all_4 (x0 : Nat) (x1 : Nat) (x3 : Nat) : Option Nat := (lpN (fun q : (Nat × Nat) => ns_X3_all_4 x0 q.1 q.2) pfFU (x1, x3)).bind (na_X3_all_4 )
theorem h_g_X3_all_4 (x0 : Nat) (x1 : Nat) (x3 : Nat) : g_X3_all_4 (nI x0) (lN x1) (nI x3) = Option.map lN (ng_X3_all_4 x0 x1 x3) := by
  unfold g_X3_all_4 ng_X3_all_4
  exact hm_bind (lp_hom (cP lN nI) lN (fun q => h_s_X3_all_4 x0 q.1 q.2) pfFU (x1, x3)) (fun b => h_a_X3_all_4  b)
noncomputable def n0p_X3_all (y0 : Nat) : Option Nat :=
  ng_X3_all_4 y0 0 0
theorem h0_p_X3_all (y0 : Nat) : p_X3_all (nI y0) = Option.map lN (n0p_X3_all y0) := by
  unfold p_X3_all n0p_X3_all
  exact (h_g_X3_all_4 y0 0 0)
theorem z_p_X3_all : (List.range 64).all (fun m => Nat.beq m 0 || decide (n0p_X3_all m = some (ALLT m))) = true := by decide +kernel
noncomputable def np_X3_all (y0 : Nat) : Option Nat := bif Nat.ble 1 y0 && Nat.ble y0 63 then some (ALLT y0) else n0p_X3_all y0
theorem h_p_X3_all (y0 : Nat) : p_X3_all (nI y0) = Option.map lN (np_X3_all y0) := by
  rw [h0_p_X3_all]
  unfold np_X3_all
  refine congrArg _ (nf_fast (fun h => ?_) rfl)
  obtain ⟨q0, q1⟩ := nf_and h
  have q0 := nf_le q0
  have q1 := nf_le q1
  have := List.all_eq_true.mp z_p_X3_all y0 (List.mem_range.mpr (by omega))
  rw [beq_f (show y0 ≠ 0 by omega)] at this
  exact of_decide_eq_true this
noncomputable def np_X6_rest (y0 : Nat) (y1 : Nat) : Option Nat :=
  (bif nleI 1 y1 then (bif neqI y1 0 then none else some (njrem y0 y1)) else some 0)
theorem h_p_X6_rest (y0 : Nat) (y1 : Nat) : p_X6_rest (nI y0) (nI y1) = Option.map nI (np_X6_rest y0 y1) := by
  unfold p_X6_rest np_X6_rest
  exact (hm_if (hc_leI rfl rfl) (hm_if (hc_eqI rfl rfl) rfl (congrArg some (ho_jrem rfl rfl))) rfl)
noncomputable def np_X3_one (y0 : Nat) : Option Nat :=
  ((np_X6_rest 1 y0).bind fun v2 => ((np_X3_bit v2).bind fun v5 => some v5))
theorem h_p_X3_one (y0 : Nat) : p_X3_one (nI y0) = Option.map lN (np_X3_one y0) := by
  unfold p_X3_one np_X3_one
  exact (hm_bind (h_p_X6_rest 1 y0) (fun v2 => (hm_bind (h_p_X3_bit v2) (fun v5 => rfl))))
noncomputable def ne_X3_times_43 (x4 : Nat) : Option Nat :=
  some x4
theorem h_e_X3_times_43 (x4 : Nat) : e_X3_times_43 (lN x4) = Option.map lN (ne_X3_times_43 x4) := by
  unfold e_X3_times_43 ne_X3_times_43
  exact rfl
noncomputable def ns_X3_times_6 (x0 : Nat) (x2 : Nat) (x3 : Nat) (x4 : Nat) (x6 : Nat) : Option ((Nat × Nat) ⊕ Nat) :=
  (bif nleI x3 x6 then some (Sum.inr x4) else ((np_X3_has x0 x6).bind fun v15 => (bif neqI v15 0 then some (Sum.inl (x4, (x6 + 1))) else ((np_X6_rest (x2 * x6) x3).bind fun v28 => ((np_X3_bit v28).bind fun v31 => some (Sum.inl ((x4 ||| v31), (x6 + 1))))))))
theorem h_s_X3_times_6 (x0 : Nat) (x2 : Nat) (x3 : Nat) (x4 : Nat) (x6 : Nat) : s_X3_times_6 (lN x0) (nI x2) (nI x3) (lN x4) (nI x6) = Option.map (Sum.map (cP lN nI) lN) (ns_X3_times_6 x0 x2 x3 x4 x6) := by
  unfold s_X3_times_6 ns_X3_times_6
  exact (hm_if (hc_leI rfl rfl) rfl (hm_bind (h_p_X3_has x0 x6) (fun v15 => (hm_if (hc_eqI rfl rfl) (congrArg some (congrArg Sum.inl (ho_pair rfl (ho_addI rfl rfl)))) (hm_bind (Eq.trans (congr (congrArg p_X6_rest (ho_mulI rfl rfl)) rfl) (h_p_X6_rest (x2 * x6) x3)) (fun v28 => (hm_bind (h_p_X3_bit v28) (fun v31 => (congrArg some (congrArg Sum.inl (ho_pair (ho_orJ rfl rfl) (ho_addI rfl rfl))))))))))))
noncomputable def na_X3_times_6 (b : Nat) : Option Nat := (fun q : Nat => ne_X3_times_43 q) b
theorem h_a_X3_times_6 (b : Nat) : a_X3_times_6 (lN b) = Option.map lN (na_X3_times_6 b) := h_e_X3_times_43 b
noncomputable def ng_X3_times_6 (x0 : Nat) (x2 : Nat) (x3 : Nat) (x4 : Nat) (x6 : Nat) : Option Nat := (lpN (fun q : (Nat × Nat) => ns_X3_times_6 x0 x2 x3 q.1 q.2) pfFU (x4, x6)).bind (na_X3_times_6 )
theorem h_g_X3_times_6 (x0 : Nat) (x2 : Nat) (x3 : Nat) (x4 : Nat) (x6 : Nat) : g_X3_times_6 (lN x0) (nI x2) (nI x3) (lN x4) (nI x6) = Option.map lN (ng_X3_times_6 x0 x2 x3 x4 x6) := by
  unfold g_X3_times_6 ng_X3_times_6
  exact hm_bind (lp_hom (cP lN nI) lN (fun q => h_s_X3_times_6 x0 x2 x3 q.1 q.2) pfFU (x4, x6)) (fun b => h_a_X3_times_6  b)
noncomputable def n0p_X3_times (y0 : Nat) (y2 : Nat) (y3 : Nat) : Option Nat :=
  ng_X3_times_6 y0 y2 y3 0 0
theorem h0_p_X3_times (y0 : Nat) (y2 : Nat) (y3 : Nat) : p_X3_times (lN y0) (nI y2) (nI y3) = Option.map lN (n0p_X3_times y0 y2 y3) := by
  unfold p_X3_times n0p_X3_times
  exact (h_g_X3_times_6 y0 y2 y3 0 0)
theorem z_p_X3_times (y0 : Nat) (y2 : Nat) (y3 : Nat) (hd : ((Nat.ble 1 y3 && Nat.ble y3 63) && (Nat.ble y0 9223372036854775807 && Nat.ble y2 63)) = true) : n0p_X3_times y0 y2 y3 = some (timesN y3 y0 y2) := by
  obtain ⟨q1, q2⟩ := nf_and hd
  obtain ⟨q0, q1⟩ := nf_and q1
  obtain ⟨q2, q3⟩ := nf_and q2
  have q0 := nf_le q0
  have q1 := nf_le q1
  have q2 := nf_le q2
  have q3 := nf_le q3
  have key := (ln_for (f := fun q : (Nat × Nat) => ns_X3_times_6 y0 y2 y3 q.1 q.2) (fun i t => (t, i)) (fun s v => bif Nat.beq ((y0 >>> s) &&& 1) 1 then v ||| (1 <<< (s * y2 % y3)) else v) (fun t => t) y3 (fun _ => True) ?_ ?_ y3 0 0 pfFU (by omega) (by have := pf_FU; omega) trivial).1
  · show (lpN _ pfFU (0, 0)).bind _ = _
    rw [key, timesN_it]; rfl
  · intro i t hi _
    refine ⟨?_, trivial⟩
    have hmul : i * y2 < 2147483648 := Nat.lt_of_le_of_lt (Nat.mul_le_mul (show i ≤ 63 by omega) q3) (by decide)
    have hmod := Nat.mod_lt (i * y2) (show 0 < y3 by omega)
    have hb := and1_lt (y0 >>> i)
    show ns_X3_times_6 y0 y2 y3 t i = _
    unfold ns_X3_times_6 np_X3_has np_X6_rest np_X3_bit
    rw [nleI_f hi (by omega), nltI_f (show 0 ≤ i by omega) (by omega), nleI_f (show i < 63 by omega) (by decide), njshr_n (by omega) (by omega), neqJ_n (by omega) (by decide), nleI_t q0 (by omega), neqI_f (show y3 ≠ 0 by omega) (by omega) (by decide), Nat.mul_comm y2 i, njrem_n hmul (by omega) (by omega)]
    simp only [Option.bind_some, cond_true, cond_false]
    rcases (show (y0 >>> i) &&& 1 = 0 ∨ (y0 >>> i) &&& 1 = 1 by omega) with e | e
    · rw [e]; rfl
    · rw [e]
      have h10 : neqI 1 0 = false := neqI_f (by decide) (by decide) (by decide)
      have hz1 : nltI (i * y2 % y3) 0 = false := nltI_f (Nat.zero_le _) (by omega)
      have hz2 : nltI (i * y2 % y3) 63 = true := nltI_t (by omega) (by decide)
      simp only [show Nat.beq 1 0 = false from rfl, show Nat.beq 1 1 = true from rfl, cond_false, cond_true, Option.bind_some, h10, hz1, hz2, njshl_n (show i * y2 % y3 < 64 by omega)]
  · intro t _
    show ns_X3_times_6 y0 y2 y3 t y3 = _
    unfold ns_X3_times_6
    rw [nleI_t (Nat.le_refl _) (by omega)]; rfl
noncomputable def np_X3_times (y0 : Nat) (y2 : Nat) (y3 : Nat) : Option Nat := bif (Nat.ble 1 y3 && Nat.ble y3 63) && (Nat.ble y0 9223372036854775807 && Nat.ble y2 63) then some (timesN y3 y0 y2) else n0p_X3_times y0 y2 y3
theorem h_p_X3_times (y0 : Nat) (y2 : Nat) (y3 : Nat) : p_X3_times (lN y0) (nI y2) (nI y3) = Option.map lN (np_X3_times y0 y2 y3) := by
  rw [h0_p_X3_times]
  unfold np_X3_times
  exact congrArg _ (nf_fast (fun h => z_p_X3_times y0 y2 y3 h) rfl)
noncomputable def ne_X3_product_48 (x5 : Nat) : Option Nat :=
  some x5
theorem h_e_X3_product_48 (x5 : Nat) : e_X3_product_48 (lN x5) = Option.map lN (ne_X3_product_48 x5) := by
  unfold e_X3_product_48 ne_X3_product_48
  exact rfl
noncomputable def ns_X3_product_6 (x0 : Nat) (x2 : Nat) (x4 : Nat) (x5 : Nat) (x7 : Nat) : Option ((Nat × Nat) ⊕ Nat) :=
  (bif nleI x4 x7 then some (Sum.inr x5) else ((np_X3_has (x2 &&& (x5 ^^^ 18446744073709551615)) x7).bind fun v23 => (bif neqI v23 0 then some (Sum.inl (x5, (x7 + 1))) else ((np_X3_times x0 x7 x4).bind fun v36 => some (Sum.inl ((x5 ||| v36), (x7 + 1)))))))
theorem h_s_X3_product_6 (x0 : Nat) (x2 : Nat) (x4 : Nat) (x5 : Nat) (x7 : Nat) : s_X3_product_6 (lN x0) (lN x2) (nI x4) (lN x5) (nI x7) = Option.map (Sum.map (cP lN nI) lN) (ns_X3_product_6 x0 x2 x4 x5 x7) := by
  unfold s_X3_product_6 ns_X3_product_6
  exact (hm_if (hc_leI rfl rfl) rfl (hm_bind (Eq.trans (congr (congrArg p_X3_has (ho_andJ rfl (ho_xorJ rfl rfl))) rfl) (h_p_X3_has (x2 &&& (x5 ^^^ 18446744073709551615)) x7)) (fun v23 => (hm_if (hc_eqI rfl rfl) (congrArg some (congrArg Sum.inl (ho_pair rfl (ho_addI rfl rfl)))) (hm_bind (h_p_X3_times x0 x7 x4) (fun v36 => (congrArg some (congrArg Sum.inl (ho_pair (ho_orJ rfl rfl) (ho_addI rfl rfl))))))))))
noncomputable def na_X3_product_6 (b : Nat) : Option Nat := (fun q : Nat => ne_X3_product_48 q) b
theorem h_a_X3_product_6 (b : Nat) : a_X3_product_6 (lN b) = Option.map lN (na_X3_product_6 b) := h_e_X3_product_48 b
noncomputable def ng_X3_product_6 (x0 : Nat) (x2 : Nat) (x4 : Nat) (x5 : Nat) (x7 : Nat) : Option Nat := (lpN (fun q : (Nat × Nat) => ns_X3_product_6 x0 x2 x4 q.1 q.2) pfFU (x5, x7)).bind (na_X3_product_6 )
theorem h_g_X3_product_6 (x0 : Nat) (x2 : Nat) (x4 : Nat) (x5 : Nat) (x7 : Nat) : g_X3_product_6 (lN x0) (lN x2) (nI x4) (lN x5) (nI x7) = Option.map lN (ng_X3_product_6 x0 x2 x4 x5 x7) := by
  unfold g_X3_product_6 ng_X3_product_6
  exact hm_bind (lp_hom (cP lN nI) lN (fun q => h_s_X3_product_6 x0 x2 x4 q.1 q.2) pfFU (x5, x7)) (fun b => h_a_X3_product_6  b)
noncomputable def np_X3_product (y0 : Nat) (y2 : Nat) (y4 : Nat) : Option Nat :=
  ng_X3_product_6 y0 y2 y4 y0 0
theorem h_p_X3_product (y0 : Nat) (y2 : Nat) (y4 : Nat) : p_X3_product (lN y0) (lN y2) (nI y4) = Option.map lN (np_X3_product y0 y2 y4) := by
  unfold p_X3_product np_X3_product
  exact (h_g_X3_product_6 y0 y2 y4 y0 0)
noncomputable def ne_X3_with_52 (x4 : Nat) : Option Nat :=
  some x4
theorem h_e_X3_with_52 (x4 : Nat) : e_X3_with_52 (lN x4) = Option.map lN (ne_X3_with_52 x4) := by
  unfold e_X3_with_52 ne_X3_with_52
  exact rfl
noncomputable def ns_X3_with_9 (x0 : Nat) (x2 : Nat) (x3 : Nat) (x4 : Nat) (x6 : Nat) (x7 : Nat) : Option ((Nat × (Nat × Nat)) ⊕ Nat) :=
  (bif nleI x3 x7 then some (Sum.inr x4) else ((np_X3_has x0 x6).bind fun v18 => (bif neqI v18 0 then ((np_X3_times x0 x6 x3).bind fun v30 => ((np_X6_rest (x6 * x2) x3).bind fun v41 => some (Sum.inl ((x4 ||| v30), (v41, (x7 + 1)))))) else some (Sum.inr x4))))
theorem h_s_X3_with_9 (x0 : Nat) (x2 : Nat) (x3 : Nat) (x4 : Nat) (x6 : Nat) (x7 : Nat) : s_X3_with_9 (lN x0) (nI x2) (nI x3) (lN x4) (nI x6) (nI x7) = Option.map (Sum.map (cP lN (cP nI nI)) lN) (ns_X3_with_9 x0 x2 x3 x4 x6 x7) := by
  unfold s_X3_with_9 ns_X3_with_9
  exact (hm_if (hc_leI rfl rfl) rfl (hm_bind (h_p_X3_has x0 x6) (fun v18 => (hm_if (hc_eqI rfl rfl) (hm_bind (h_p_X3_times x0 x6 x3) (fun v30 => (hm_bind (Eq.trans (congr (congrArg p_X6_rest (ho_mulI rfl rfl)) rfl) (h_p_X6_rest (x6 * x2) x3)) (fun v41 => (congrArg some (congrArg Sum.inl (ho_pair (ho_orJ rfl rfl) (ho_pair rfl (ho_addI rfl rfl))))))))) rfl))))
noncomputable def na_X3_with_9 (b : Nat) : Option Nat := (fun q : Nat => ne_X3_with_52 q) b
theorem h_a_X3_with_9 (b : Nat) : a_X3_with_9 (lN b) = Option.map lN (na_X3_with_9 b) := h_e_X3_with_52 b
noncomputable def ng_X3_with_9 (x0 : Nat) (x2 : Nat) (x3 : Nat) (x4 : Nat) (x6 : Nat) (x7 : Nat) : Option Nat := (lpN (fun q : (Nat × (Nat × Nat)) => ns_X3_with_9 x0 x2 x3 q.1 q.2.1 q.2.2) pfFU (x4, x6, x7)).bind (na_X3_with_9 )
theorem h_g_X3_with_9 (x0 : Nat) (x2 : Nat) (x3 : Nat) (x4 : Nat) (x6 : Nat) (x7 : Nat) : g_X3_with_9 (lN x0) (nI x2) (nI x3) (lN x4) (nI x6) (nI x7) = Option.map lN (ng_X3_with_9 x0 x2 x3 x4 x6 x7) := by
  unfold g_X3_with_9 ng_X3_with_9
  exact hm_bind (lp_hom (cP lN (cP nI nI)) lN (fun q => h_s_X3_with_9 x0 x2 x3 q.1 q.2.1 q.2.2) pfFU (x4, x6, x7)) (fun b => h_a_X3_with_9  b)
noncomputable def np_X3_with (y0 : Nat) (y2 : Nat) (y3 : Nat) : Option Nat :=
  ng_X3_with_9 y0 y2 y3 y0 y2 0
theorem h_p_X3_with (y0 : Nat) (y2 : Nat) (y3 : Nat) : p_X3_with (lN y0) (nI y2) (nI y3) = Option.map lN (np_X3_with y0 y2 y3) := by
  unfold p_X3_with np_X3_with
  exact (h_g_X3_with_9 y0 y2 y3 y0 y2 0)
noncomputable def ne_X3_madeOf_43 (x3 : Nat) : Option Nat :=
  some x3
theorem h_e_X3_madeOf_43 (x3 : Nat) : e_X3_madeOf_43 (lN x3) = Option.map lN (ne_X3_madeOf_43 x3) := by
  unfold e_X3_madeOf_43 ne_X3_madeOf_43
  exact rfl
noncomputable def ns_X3_madeOf_8 (x0 : Nat) (x2 : Nat) (x3 : Nat) (x5 : Nat) : Option ((Nat × Nat) ⊕ Nat) :=
  (bif nleI x2 x5 then some (Sum.inr x3) else ((np_X3_has (x0 &&& (x3 ^^^ 18446744073709551615)) x5).bind fun v23 => (bif neqI v23 0 then some (Sum.inl (x3, (x5 + 1))) else ((np_X3_with x3 x5 x2).bind fun v33 => some (Sum.inl (v33, (x5 + 1)))))))
theorem h_s_X3_madeOf_8 (x0 : Nat) (x2 : Nat) (x3 : Nat) (x5 : Nat) : s_X3_madeOf_8 (lN x0) (nI x2) (lN x3) (nI x5) = Option.map (Sum.map (cP lN nI) lN) (ns_X3_madeOf_8 x0 x2 x3 x5) := by
  unfold s_X3_madeOf_8 ns_X3_madeOf_8
  exact (hm_if (hc_leI rfl rfl) rfl (hm_bind (Eq.trans (congr (congrArg p_X3_has (ho_andJ rfl (ho_xorJ rfl rfl))) rfl) (h_p_X3_has (x0 &&& (x3 ^^^ 18446744073709551615)) x5)) (fun v23 => (hm_if (hc_eqI rfl rfl) (congrArg some (congrArg Sum.inl (ho_pair rfl (ho_addI rfl rfl)))) (hm_bind (h_p_X3_with x3 x5 x2) (fun v33 => (congrArg some (congrArg Sum.inl (ho_pair rfl (ho_addI rfl rfl))))))))))
noncomputable def na_X3_madeOf_8 (b : Nat) : Option Nat := (fun q : Nat => ne_X3_madeOf_43 q) b
theorem h_a_X3_madeOf_8 (b : Nat) : a_X3_madeOf_8 (lN b) = Option.map lN (na_X3_madeOf_8 b) := h_e_X3_madeOf_43 b
noncomputable def ng_X3_madeOf_8 (x0 : Nat) (x2 : Nat) (x3 : Nat) (x5 : Nat) : Option Nat := (lpN (fun q : (Nat × Nat) => ns_X3_madeOf_8 x0 x2 q.1 q.2) pfFU (x3, x5)).bind (na_X3_madeOf_8 )
theorem h_g_X3_madeOf_8 (x0 : Nat) (x2 : Nat) (x3 : Nat) (x5 : Nat) : g_X3_madeOf_8 (lN x0) (nI x2) (lN x3) (nI x5) = Option.map lN (ng_X3_madeOf_8 x0 x2 x3 x5) := by
  unfold g_X3_madeOf_8 ng_X3_madeOf_8
  exact hm_bind (lp_hom (cP lN nI) lN (fun q => h_s_X3_madeOf_8 x0 x2 q.1 q.2) pfFU (x3, x5)) (fun b => h_a_X3_madeOf_8  b)
noncomputable def np_X3_madeOf (y0 : Nat) (y2 : Nat) : Option Nat :=
  ((np_X3_one y2).bind fun v1 => ng_X3_madeOf_8 y0 y2 v1 0)
theorem h_p_X3_madeOf (y0 : Nat) (y2 : Nat) : p_X3_madeOf (lN y0) (nI y2) = Option.map lN (np_X3_madeOf y0 y2) := by
  unfold p_X3_madeOf np_X3_madeOf
  exact (hm_bind (h_p_X3_one y2) (fun v1 => (h_g_X3_madeOf_8 y0 y2 v1 0)))
noncomputable def ne_X3_allPowers_75 (x4 : Nat) : Option Nat :=
  some x4
theorem h_e_X3_allPowers_75 (x4 : Nat) : e_X3_allPowers_75 (lN x4) = Option.map lN (ne_X3_allPowers_75 x4) := by
  unfold e_X3_allPowers_75 ne_X3_allPowers_75
  exact rfl
noncomputable def ne_X3_allPowers_59 (x0 : Nat) (x1 : Nat) (x2 : Nat) (x4 : Nat) (x6 : Nat) (x7 : Nat) : Option ((Nat × Nat) ⊕ Nat) :=
  ((np_X3_bit x7).bind fun v63 => some (Sum.inl ((x4 ||| v63), (x6 + 1))))
theorem h_e_X3_allPowers_59 (x0 : Nat) (x1 : Nat) (x2 : Nat) (x4 : Nat) (x6 : Nat) (x7 : Nat) : e_X3_allPowers_59 (nI x0) (nI x1) (lN x2) (lN x4) (nI x6) (nI x7) = Option.map (Sum.map (cP lN nI) lN) (ne_X3_allPowers_59 x0 x1 x2 x4 x6 x7) := by
  unfold e_X3_allPowers_59 ne_X3_allPowers_59
  exact (hm_bind (h_p_X3_bit x7) (fun v63 => (congrArg some (congrArg Sum.inl (ho_pair (ho_orJ rfl rfl) (ho_addI rfl rfl))))))
noncomputable def ns_X3_allPowers_36 (x0 : Nat) (x1 : Nat) (x2 : Nat) (x4 : Nat) (x6 : Nat) (x7 : Nat) (x8 : Nat) : Option ((Nat × Nat) ⊕ Nat) :=
  (bif nleI x1 x8 then some (Sum.inr x7) else ((np_X6_rest (x7 * x6) x0).bind fun v48 => some (Sum.inl (v48, (x8 + 1)))))
theorem h_s_X3_allPowers_36 (x0 : Nat) (x1 : Nat) (x2 : Nat) (x4 : Nat) (x6 : Nat) (x7 : Nat) (x8 : Nat) : s_X3_allPowers_36 (nI x0) (nI x1) (lN x2) (lN x4) (nI x6) (nI x7) (nI x8) = Option.map (Sum.map (cP nI nI) nI) (ns_X3_allPowers_36 x0 x1 x2 x4 x6 x7 x8) := by
  unfold s_X3_allPowers_36 ns_X3_allPowers_36
  exact (hm_if (hc_leI rfl rfl) rfl (hm_bind (Eq.trans (congr (congrArg p_X6_rest (ho_mulI rfl rfl)) rfl) (h_p_X6_rest (x7 * x6) x0)) (fun v48 => (congrArg some (congrArg Sum.inl (ho_pair rfl (ho_addI rfl rfl)))))))
noncomputable def na_X3_allPowers_36 (x0 : Nat) (x1 : Nat) (x2 : Nat) (x4 : Nat) (x6 : Nat) (b : Nat) : Option ((Nat × Nat) ⊕ Nat) := (fun q : Nat => ne_X3_allPowers_59 x0 x1 x2 x4 x6 q) b
theorem h_a_X3_allPowers_36 (x0 : Nat) (x1 : Nat) (x2 : Nat) (x4 : Nat) (x6 : Nat) (b : Nat) : a_X3_allPowers_36 (nI x0) (nI x1) (lN x2) (lN x4) (nI x6) (nI b) = Option.map (Sum.map (cP lN nI) lN) (na_X3_allPowers_36 x0 x1 x2 x4 x6 b) := h_e_X3_allPowers_59 x0 x1 x2 x4 x6 b
noncomputable def n0g_X3_allPowers_36 (x0 : Nat) (x1 : Nat) (x2 : Nat) (x4 : Nat) (x6 : Nat) (x7 : Nat) (x8 : Nat) : Option ((Nat × Nat) ⊕ Nat) := (lpN (fun q : (Nat × Nat) => ns_X3_allPowers_36 x0 x1 x2 x4 x6 q.1 q.2) pfFU (x7, x8)).bind (na_X3_allPowers_36 x0 x1 x2 x4 x6)
theorem h0_g_X3_allPowers_36 (x0 : Nat) (x1 : Nat) (x2 : Nat) (x4 : Nat) (x6 : Nat) (x7 : Nat) (x8 : Nat) : g_X3_allPowers_36 (nI x0) (nI x1) (lN x2) (lN x4) (nI x6) (nI x7) (nI x8) = Option.map (Sum.map (cP lN nI) lN) (n0g_X3_allPowers_36 x0 x1 x2 x4 x6 x7 x8) := by
  unfold g_X3_allPowers_36 n0g_X3_allPowers_36
  exact hm_bind (lp_hom (cP nI nI) nI (fun q => h_s_X3_allPowers_36 x0 x1 x2 x4 x6 q.1 q.2) pfFU (x7, x8)) (fun b => h_a_X3_allPowers_36 x0 x1 x2 x4 x6 b)
theorem z_g_X3_allPowers_36 (x0 x1 x2 x4 x6 x7 x8 : Nat) (hd : ((Nat.ble 1 x0 && Nat.ble x0 63) && (Nat.ble x6 63 && (Nat.ble x1 60 && (Nat.beq x7 (Nat.mod 1 x0) && Nat.beq x8 0)))) = true) : n0g_X3_allPowers_36 x0 x1 x2 x4 x6 x7 x8 = ne_X3_allPowers_59 x0 x1 x2 x4 x6 (Nat.mod (Nat.pow x6 x1) x0) := by
  obtain ⟨q1, q2⟩ := nf_and hd
  obtain ⟨q0, q1⟩ := nf_and q1
  obtain ⟨q2, q3⟩ := nf_and q2
  obtain ⟨q3, q4⟩ := nf_and q3
  obtain ⟨q4, q5⟩ := nf_and q4
  have w0 := nf_le q0
  have w1 := nf_le q1
  have w2 := nf_le q2
  have w3 := nf_le q3
  have w4 := Nat.eq_of_beq_eq_true q4
  have w5 := Nat.eq_of_beq_eq_true q5
  clear q0 q1 q2 q3 q4 q5 hd
  subst w4 w5
  have key := (ln_for (f := fun q : (Nat × Nat) => ns_X3_allPowers_36 x0 x1 x2 x4 x6 q.1 q.2) (fun i t => (t, i)) (fun _ v => v * x6 % x0) (fun t => t) x1 (fun t => t < 63) ?_ ?_ x1 0 (1 % x0) pfFU (by omega) (by have := pf_FU; omega) (by have := Nat.mod_lt 1 (show 0 < x0 by omega); omega)).1
  · show (lpN _ pfFU (1 % x0, 0)).bind _ = _
    rw [key, powN_it]; rfl
  · intro i t hi ht
    have hmul : t * x6 < 2147483648 := Nat.lt_of_le_of_lt (Nat.mul_le_mul (show t ≤ 63 by omega) w2) (by decide)
    have hmod := Nat.mod_lt (t * x6) (show 0 < x0 by omega)
    refine ⟨?_, by show t * x6 % x0 < 63; omega⟩
    show ns_X3_allPowers_36 x0 x1 x2 x4 x6 t i = _
    unfold ns_X3_allPowers_36 np_X6_rest
    rw [nleI_f hi (by omega), nleI_t w0 (by omega), neqI_f (show x0 ≠ 0 by omega) (by omega) (by decide), njrem_n hmul (by omega) (by omega)]; rfl
  · intro t _
    show ns_X3_allPowers_36 x0 x1 x2 x4 x6 t x1 = _
    unfold ns_X3_allPowers_36
    rw [nleI_t (Nat.le_refl _) (by omega)]; rfl
noncomputable def ng_X3_allPowers_36 (x0 x1 x2 x4 x6 x7 x8 : Nat) : Option ((Nat × Nat) ⊕ Nat) := bif ((Nat.ble 1 x0 && Nat.ble x0 63) && (Nat.ble x6 63 && (Nat.ble x1 60 && (Nat.beq x7 (Nat.mod 1 x0) && Nat.beq x8 0)))) then ne_X3_allPowers_59 x0 x1 x2 x4 x6 (Nat.mod (Nat.pow x6 x1) x0) else n0g_X3_allPowers_36 x0 x1 x2 x4 x6 x7 x8
theorem h_g_X3_allPowers_36 (x0 x1 x2 x4 x6 x7 x8 : Nat) : g_X3_allPowers_36 (nI x0) (nI x1) (lN x2) (lN x4) (nI x6) (nI x7) (nI x8) = Option.map (Sum.map (cP lN nI) lN) (ng_X3_allPowers_36 x0 x1 x2 x4 x6 x7 x8) := by
  rw [h0_g_X3_allPowers_36]
  unfold ng_X3_allPowers_36
  exact congrArg _ (nf_fast (fun h => z_g_X3_allPowers_36 x0 x1 x2 x4 x6 x7 x8 h) rfl)
noncomputable def ns_X3_allPowers_11 (x0 : Nat) (x1 : Nat) (x2 : Nat) (x4 : Nat) (x6 : Nat) : Option ((Nat × Nat) ⊕ Nat) :=
  (bif nleI x0 x6 then some (Sum.inr x4) else ((np_X3_has x2 x6).bind fun v20 => (bif neqI v20 0 then some (Sum.inl (x4, (x6 + 1))) else ((np_X6_rest 1 x0).bind fun v28 => ng_X3_allPowers_36 x0 x1 x2 x4 x6 v28 0))))
theorem h_s_X3_allPowers_11 (x0 : Nat) (x1 : Nat) (x2 : Nat) (x4 : Nat) (x6 : Nat) : s_X3_allPowers_11 (nI x0) (nI x1) (lN x2) (lN x4) (nI x6) = Option.map (Sum.map (cP lN nI) lN) (ns_X3_allPowers_11 x0 x1 x2 x4 x6) := by
  unfold s_X3_allPowers_11 ns_X3_allPowers_11
  exact (hm_if (hc_leI rfl rfl) rfl (hm_bind (h_p_X3_has x2 x6) (fun v20 => (hm_if (hc_eqI rfl rfl) (congrArg some (congrArg Sum.inl (ho_pair rfl (ho_addI rfl rfl)))) (hm_bind (h_p_X6_rest 1 x0) (fun v28 => (h_g_X3_allPowers_36 x0 x1 x2 x4 x6 v28 0)))))))
noncomputable def na_X3_allPowers_11 (b : Nat) : Option Nat := (fun q : Nat => ne_X3_allPowers_75 q) b
theorem h_a_X3_allPowers_11 (b : Nat) : a_X3_allPowers_11 (lN b) = Option.map lN (na_X3_allPowers_11 b) := h_e_X3_allPowers_75 b
noncomputable def ng_X3_allPowers_11 (x0 : Nat) (x1 : Nat) (x2 : Nat) (x4 : Nat) (x6 : Nat) : Option Nat := (lpN (fun q : (Nat × Nat) => ns_X3_allPowers_11 x0 x1 x2 q.1 q.2) pfFU (x4, x6)).bind (na_X3_allPowers_11 )
theorem h_g_X3_allPowers_11 (x0 : Nat) (x1 : Nat) (x2 : Nat) (x4 : Nat) (x6 : Nat) : g_X3_allPowers_11 (nI x0) (nI x1) (lN x2) (lN x4) (nI x6) = Option.map lN (ng_X3_allPowers_11 x0 x1 x2 x4 x6) := by
  unfold g_X3_allPowers_11 ng_X3_allPowers_11
  exact hm_bind (lp_hom (cP lN nI) lN (fun q => h_s_X3_allPowers_11 x0 x1 x2 q.1 q.2) pfFU (x4, x6)) (fun b => h_a_X3_allPowers_11  b)
noncomputable def np_X3_allPowers (y0 : Nat) (y1 : Nat) : Option Nat :=
  ((np_X3_all y0).bind fun v1 => ng_X3_allPowers_11 y0 y1 v1 0 0)
theorem h_p_X3_allPowers (y0 : Nat) (y1 : Nat) : p_X3_allPowers (nI y0) (nI y1) = Option.map lN (np_X3_allPowers y0 y1) := by
  unfold p_X3_allPowers np_X3_allPowers
  exact (hm_bind (h_p_X3_all y0) (fun v1 => (h_g_X3_allPowers_11 y0 y1 v1 0 0)))
noncomputable def ne_X3_orderOver_40  : Option Nat :=
  some 1
theorem h_e_X3_orderOver_40  : e_X3_orderOver_40  = Option.map nI (ne_X3_orderOver_40 ) := by
  unfold e_X3_orderOver_40 ne_X3_orderOver_40
  exact rfl
noncomputable def ne_X3_orderOver_21 (x5 : Nat) : Option Nat :=
  some x5
theorem h_e_X3_orderOver_21 (x5 : Nat) : e_X3_orderOver_21 (nI x5) = Option.map nI (ne_X3_orderOver_21 x5) := by
  unfold e_X3_orderOver_21 ne_X3_orderOver_21
  exact rfl
noncomputable def ns_X3_orderOver_6 (x0 : Nat) (x2 : Nat) (x3 : Nat) (x4 : Nat) (x5 : Nat) : Option ((Nat × Nat) ⊕ (Nat ⊕ Unit)) :=
  (bif nleI x3 x5 then some (Sum.inr (Sum.inr ())) else ((np_X3_has x0 x4).bind fun v15 => (bif neqI v15 0 then ((np_X6_rest (x4 * x2) x3).bind fun v29 => some (Sum.inl (v29, (x5 + 1)))) else some (Sum.inr (Sum.inl x5)))))
theorem h_s_X3_orderOver_6 (x0 : Nat) (x2 : Nat) (x3 : Nat) (x4 : Nat) (x5 : Nat) : s_X3_orderOver_6 (lN x0) (nI x2) (nI x3) (nI x4) (nI x5) = Option.map (Sum.map (cP nI nI) (Sum.map nI id)) (ns_X3_orderOver_6 x0 x2 x3 x4 x5) := by
  unfold s_X3_orderOver_6 ns_X3_orderOver_6
  exact (hm_if (hc_leI rfl rfl) rfl (hm_bind (h_p_X3_has x0 x4) (fun v15 => (hm_if (hc_eqI rfl rfl) (hm_bind (Eq.trans (congr (congrArg p_X6_rest (ho_mulI rfl rfl)) rfl) (h_p_X6_rest (x4 * x2) x3)) (fun v29 => (congrArg some (congrArg Sum.inl (ho_pair rfl (ho_addI rfl rfl)))))) rfl))))
noncomputable def na_X3_orderOver_6 (b : (Nat ⊕ Unit)) : Option Nat := Sum.elim (fun q : Nat => ne_X3_orderOver_21 q) (fun q : Unit => ne_X3_orderOver_40 ) b
theorem h_a_X3_orderOver_6 (b : (Nat ⊕ Unit)) : a_X3_orderOver_6 ((Sum.map nI id) b) = Option.map nI (na_X3_orderOver_6 b) := by
  cases b with
  | inl q => exact h_e_X3_orderOver_21 q
  | inr q => exact h_e_X3_orderOver_40 
noncomputable def ng_X3_orderOver_6 (x0 : Nat) (x2 : Nat) (x3 : Nat) (x4 : Nat) (x5 : Nat) : Option Nat := (lpN (fun q : (Nat × Nat) => ns_X3_orderOver_6 x0 x2 x3 q.1 q.2) pfFU (x4, x5)).bind (na_X3_orderOver_6 )
theorem h_g_X3_orderOver_6 (x0 : Nat) (x2 : Nat) (x3 : Nat) (x4 : Nat) (x5 : Nat) : g_X3_orderOver_6 (lN x0) (nI x2) (nI x3) (nI x4) (nI x5) = Option.map nI (ng_X3_orderOver_6 x0 x2 x3 x4 x5) := by
  unfold g_X3_orderOver_6 ng_X3_orderOver_6
  exact hm_bind (lp_hom (cP nI nI) (Sum.map nI id) (fun q => h_s_X3_orderOver_6 x0 x2 x3 q.1 q.2) pfFU (x4, x5)) (fun b => h_a_X3_orderOver_6  b)
noncomputable def np_X3_orderOver (y0 : Nat) (y2 : Nat) (y3 : Nat) : Option Nat :=
  ng_X3_orderOver_6 y0 y2 y3 y2 1
theorem h_p_X3_orderOver (y0 : Nat) (y2 : Nat) (y3 : Nat) : p_X3_orderOver (lN y0) (nI y2) (nI y3) = Option.map nI (np_X3_orderOver y0 y2 y3) := by
  unfold p_X3_orderOver np_X3_orderOver
  exact (h_g_X3_orderOver_6 y0 y2 y3 y2 1)
noncomputable def ne_X3_onesBy_56 (x4 : Nat) : Option Nat :=
  some x4
theorem h_e_X3_onesBy_56 (x4 : Nat) : e_X3_onesBy_56 (lN x4) = Option.map lN (ne_X3_onesBy_56 x4) := by
  unfold e_X3_onesBy_56 ne_X3_onesBy_56
  exact rfl
noncomputable def ns_X3_onesBy_11 (x0 : Nat) (x1 : Nat) (x2 : Nat) (x4 : Nat) (x6 : Nat) : Option ((Nat × Nat) ⊕ Nat) :=
  (bif nleI x1 x6 then some (Sum.inr x4) else ((np_X3_has x2 x6).bind fun v20 => (bif neqI v20 0 then some (Sum.inl (x4, (x6 + 1))) else ((np_X6_rest x6 x0).bind fun v29 => ((np_X6_rest 1 x0).bind fun v34 => (bif neqI v29 v34 then ((np_X3_bit x6).bind fun v44 => some (Sum.inl ((x4 ||| v44), (x6 + 1)))) else some (Sum.inl (x4, (x6 + 1)))))))))
theorem h_s_X3_onesBy_11 (x0 : Nat) (x1 : Nat) (x2 : Nat) (x4 : Nat) (x6 : Nat) : s_X3_onesBy_11 (nI x0) (nI x1) (lN x2) (lN x4) (nI x6) = Option.map (Sum.map (cP lN nI) lN) (ns_X3_onesBy_11 x0 x1 x2 x4 x6) := by
  unfold s_X3_onesBy_11 ns_X3_onesBy_11
  exact (hm_if (hc_leI rfl rfl) rfl (hm_bind (h_p_X3_has x2 x6) (fun v20 => (hm_if (hc_eqI rfl rfl) (congrArg some (congrArg Sum.inl (ho_pair rfl (ho_addI rfl rfl)))) (hm_bind (h_p_X6_rest x6 x0) (fun v29 => (hm_bind (h_p_X6_rest 1 x0) (fun v34 => (hm_if (hc_eqI rfl rfl) (hm_bind (h_p_X3_bit x6) (fun v44 => (congrArg some (congrArg Sum.inl (ho_pair (ho_orJ rfl rfl) (ho_addI rfl rfl)))))) (congrArg some (congrArg Sum.inl (ho_pair rfl (ho_addI rfl rfl)))))))))))))
noncomputable def na_X3_onesBy_11 (b : Nat) : Option Nat := (fun q : Nat => ne_X3_onesBy_56 q) b
theorem h_a_X3_onesBy_11 (b : Nat) : a_X3_onesBy_11 (lN b) = Option.map lN (na_X3_onesBy_11 b) := h_e_X3_onesBy_56 b
noncomputable def ng_X3_onesBy_11 (x0 : Nat) (x1 : Nat) (x2 : Nat) (x4 : Nat) (x6 : Nat) : Option Nat := (lpN (fun q : (Nat × Nat) => ns_X3_onesBy_11 x0 x1 x2 q.1 q.2) pfFU (x4, x6)).bind (na_X3_onesBy_11 )
theorem h_g_X3_onesBy_11 (x0 : Nat) (x1 : Nat) (x2 : Nat) (x4 : Nat) (x6 : Nat) : g_X3_onesBy_11 (nI x0) (nI x1) (lN x2) (lN x4) (nI x6) = Option.map lN (ng_X3_onesBy_11 x0 x1 x2 x4 x6) := by
  unfold g_X3_onesBy_11 ng_X3_onesBy_11
  exact hm_bind (lp_hom (cP lN nI) lN (fun q => h_s_X3_onesBy_11 x0 x1 x2 q.1 q.2) pfFU (x4, x6)) (fun b => h_a_X3_onesBy_11  b)
noncomputable def np_X3_onesBy (y0 : Nat) (y1 : Nat) : Option Nat :=
  ((np_X3_all y1).bind fun v1 => ng_X3_onesBy_11 y0 y1 v1 0 0)
theorem h_p_X3_onesBy (y0 : Nat) (y1 : Nat) : p_X3_onesBy (nI y0) (nI y1) = Option.map lN (np_X3_onesBy y0 y1) := by
  unfold p_X3_onesBy np_X3_onesBy
  exact (hm_bind (h_p_X3_all y1) (fun v1 => (h_g_X3_onesBy_11 y0 y1 v1 0 0)))
noncomputable def ne_X3_lifted_57 (x6 : Nat) : Option Nat :=
  some x6
theorem h_e_X3_lifted_57 (x6 : Nat) : e_X3_lifted_57 (lN x6) = Option.map lN (ne_X3_lifted_57 x6) := by
  unfold e_X3_lifted_57 ne_X3_lifted_57
  exact rfl
noncomputable def ns_X3_lifted_12 (x0 : Nat) (x2 : Nat) (x3 : Nat) (x4 : Nat) (x6 : Nat) (x8 : Nat) : Option ((Nat × Nat) ⊕ Nat) :=
  (bif nleI x3 x8 then some (Sum.inr x6) else ((np_X3_has x4 x8).bind fun v22 => (bif neqI v22 0 then some (Sum.inl (x6, (x8 + 1))) else ((np_X6_rest x8 x2).bind fun v32 => ((np_X3_has x0 v32).bind fun v35 => (bif neqI v35 0 then some (Sum.inl (x6, (x8 + 1))) else ((np_X3_bit x8).bind fun v45 => some (Sum.inl ((x6 ||| v45), (x8 + 1))))))))))
theorem h_s_X3_lifted_12 (x0 : Nat) (x2 : Nat) (x3 : Nat) (x4 : Nat) (x6 : Nat) (x8 : Nat) : s_X3_lifted_12 (lN x0) (nI x2) (nI x3) (lN x4) (lN x6) (nI x8) = Option.map (Sum.map (cP lN nI) lN) (ns_X3_lifted_12 x0 x2 x3 x4 x6 x8) := by
  unfold s_X3_lifted_12 ns_X3_lifted_12
  exact (hm_if (hc_leI rfl rfl) rfl (hm_bind (h_p_X3_has x4 x8) (fun v22 => (hm_if (hc_eqI rfl rfl) (congrArg some (congrArg Sum.inl (ho_pair rfl (ho_addI rfl rfl)))) (hm_bind (h_p_X6_rest x8 x2) (fun v32 => (hm_bind (h_p_X3_has x0 v32) (fun v35 => (hm_if (hc_eqI rfl rfl) (congrArg some (congrArg Sum.inl (ho_pair rfl (ho_addI rfl rfl)))) (hm_bind (h_p_X3_bit x8) (fun v45 => (congrArg some (congrArg Sum.inl (ho_pair (ho_orJ rfl rfl) (ho_addI rfl rfl)))))))))))))))
noncomputable def na_X3_lifted_12 (b : Nat) : Option Nat := (fun q : Nat => ne_X3_lifted_57 q) b
theorem h_a_X3_lifted_12 (b : Nat) : a_X3_lifted_12 (lN b) = Option.map lN (na_X3_lifted_12 b) := h_e_X3_lifted_57 b
noncomputable def ng_X3_lifted_12 (x0 : Nat) (x2 : Nat) (x3 : Nat) (x4 : Nat) (x6 : Nat) (x8 : Nat) : Option Nat := (lpN (fun q : (Nat × Nat) => ns_X3_lifted_12 x0 x2 x3 x4 q.1 q.2) pfFU (x6, x8)).bind (na_X3_lifted_12 )
theorem h_g_X3_lifted_12 (x0 : Nat) (x2 : Nat) (x3 : Nat) (x4 : Nat) (x6 : Nat) (x8 : Nat) : g_X3_lifted_12 (lN x0) (nI x2) (nI x3) (lN x4) (lN x6) (nI x8) = Option.map lN (ng_X3_lifted_12 x0 x2 x3 x4 x6 x8) := by
  unfold g_X3_lifted_12 ng_X3_lifted_12
  exact hm_bind (lp_hom (cP lN nI) lN (fun q => h_s_X3_lifted_12 x0 x2 x3 x4 q.1 q.2) pfFU (x6, x8)) (fun b => h_a_X3_lifted_12  b)
noncomputable def np_X3_lifted (y0 : Nat) (y2 : Nat) (y3 : Nat) : Option Nat :=
  ((np_X3_all y3).bind fun v1 => ng_X3_lifted_12 y0 y2 y3 v1 0 0)
theorem h_p_X3_lifted (y0 : Nat) (y2 : Nat) (y3 : Nat) : p_X3_lifted (lN y0) (nI y2) (nI y3) = Option.map lN (np_X3_lifted y0 y2 y3) := by
  unfold p_X3_lifted np_X3_lifted
  exact (hm_bind (h_p_X3_all y3) (fun v1 => (h_g_X3_lifted_12 y0 y2 y3 v1 0 0)))
noncomputable def ne_X3_lowered_39 (x3 : Nat) : Option Nat :=
  some x3
theorem h_e_X3_lowered_39 (x3 : Nat) : e_X3_lowered_39 (lN x3) = Option.map lN (ne_X3_lowered_39 x3) := by
  unfold e_X3_lowered_39 ne_X3_lowered_39
  exact rfl
noncomputable def ns_X3_lowered_5 (x0 : Nat) (x2 : Nat) (x3 : Nat) (x5 : Nat) : Option ((Nat × Nat) ⊕ Nat) :=
  (bif nleI 63 x5 then some (Sum.inr x3) else ((np_X3_has x0 x5).bind fun v15 => (bif neqI v15 0 then some (Sum.inl (x3, (x5 + 1))) else ((np_X6_rest x5 x2).bind fun v25 => ((np_X3_bit v25).bind fun v28 => some (Sum.inl ((x3 ||| v28), (x5 + 1))))))))
theorem h_s_X3_lowered_5 (x0 : Nat) (x2 : Nat) (x3 : Nat) (x5 : Nat) : s_X3_lowered_5 (lN x0) (nI x2) (lN x3) (nI x5) = Option.map (Sum.map (cP lN nI) lN) (ns_X3_lowered_5 x0 x2 x3 x5) := by
  unfold s_X3_lowered_5 ns_X3_lowered_5
  exact (hm_if (hc_leI rfl rfl) rfl (hm_bind (h_p_X3_has x0 x5) (fun v15 => (hm_if (hc_eqI rfl rfl) (congrArg some (congrArg Sum.inl (ho_pair rfl (ho_addI rfl rfl)))) (hm_bind (h_p_X6_rest x5 x2) (fun v25 => (hm_bind (h_p_X3_bit v25) (fun v28 => (congrArg some (congrArg Sum.inl (ho_pair (ho_orJ rfl rfl) (ho_addI rfl rfl))))))))))))
noncomputable def na_X3_lowered_5 (b : Nat) : Option Nat := (fun q : Nat => ne_X3_lowered_39 q) b
theorem h_a_X3_lowered_5 (b : Nat) : a_X3_lowered_5 (lN b) = Option.map lN (na_X3_lowered_5 b) := h_e_X3_lowered_39 b
noncomputable def ng_X3_lowered_5 (x0 : Nat) (x2 : Nat) (x3 : Nat) (x5 : Nat) : Option Nat := (lpN (fun q : (Nat × Nat) => ns_X3_lowered_5 x0 x2 q.1 q.2) pfFU (x3, x5)).bind (na_X3_lowered_5 )
theorem h_g_X3_lowered_5 (x0 : Nat) (x2 : Nat) (x3 : Nat) (x5 : Nat) : g_X3_lowered_5 (lN x0) (nI x2) (lN x3) (nI x5) = Option.map lN (ng_X3_lowered_5 x0 x2 x3 x5) := by
  unfold g_X3_lowered_5 ng_X3_lowered_5
  exact hm_bind (lp_hom (cP lN nI) lN (fun q => h_s_X3_lowered_5 x0 x2 q.1 q.2) pfFU (x3, x5)) (fun b => h_a_X3_lowered_5  b)
noncomputable def np_X3_lowered (y0 : Nat) (y2 : Nat) : Option Nat :=
  ng_X3_lowered_5 y0 y2 0 0
theorem h_p_X3_lowered (y0 : Nat) (y2 : Nat) : p_X3_lowered (lN y0) (nI y2) = Option.map lN (np_X3_lowered y0 y2) := by
  unfold p_X3_lowered np_X3_lowered
  exact (h_g_X3_lowered_5 y0 y2 0 0)
noncomputable def np_X6_goesInto (y0 : Nat) (y1 : Nat) : Option Nat :=
  (bif nltI y0 1 then some 0 else (bif neqI y0 0 then none else (bif neqI (njrem y1 y0) 0 then some 1 else some 0)))
theorem h_p_X6_goesInto (y0 : Nat) (y1 : Nat) : p_X6_goesInto (nI y0) (nI y1) = Option.map nI (np_X6_goesInto y0 y1) := by
  unfold p_X6_goesInto np_X6_goesInto
  exact (hm_if (hc_ltI rfl rfl) rfl (hm_if (hc_eqI rfl rfl) rfl (hm_if (hc_eqI (ho_jrem rfl rfl) rfl) rfl rfl)))
noncomputable def ne_X3_hasOneBy_40  : Option Nat :=
  some 0
theorem h_e_X3_hasOneBy_40  : e_X3_hasOneBy_40  = Option.map nI (ne_X3_hasOneBy_40 ) := by
  unfold e_X3_hasOneBy_40 ne_X3_hasOneBy_40
  exact rfl
noncomputable def ne_X3_hasOneBy_32  : Option Nat :=
  some 1
theorem h_e_X3_hasOneBy_32  : e_X3_hasOneBy_32  = Option.map nI (ne_X3_hasOneBy_32 ) := by
  unfold e_X3_hasOneBy_32 ne_X3_hasOneBy_32
  exact rfl
noncomputable def ns_X3_hasOneBy_3 (x0 : Nat) (x2 : Nat) (x3 : Nat) (x4 : Nat) : Option (Nat ⊕ (Unit ⊕ Unit)) :=
  (bif nleI x3 x4 then some (Sum.inr (Sum.inr ())) else ((np_X3_has x0 x4).bind fun v12 => (bif neqI v12 0 then some (Sum.inl (x4 + 1)) else ((np_X6_rest x4 x2).bind fun v21 => ((np_X6_rest 1 x2).bind fun v26 => (bif neqI v21 v26 then some (Sum.inr (Sum.inl ())) else some (Sum.inl (x4 + 1))))))))
theorem h_s_X3_hasOneBy_3 (x0 : Nat) (x2 : Nat) (x3 : Nat) (x4 : Nat) : s_X3_hasOneBy_3 (lN x0) (nI x2) (nI x3) (nI x4) = Option.map (Sum.map nI (Sum.map id id)) (ns_X3_hasOneBy_3 x0 x2 x3 x4) := by
  unfold s_X3_hasOneBy_3 ns_X3_hasOneBy_3
  exact (hm_if (hc_leI rfl rfl) rfl (hm_bind (h_p_X3_has x0 x4) (fun v12 => (hm_if (hc_eqI rfl rfl) (congrArg some (congrArg Sum.inl (ho_addI rfl rfl))) (hm_bind (h_p_X6_rest x4 x2) (fun v21 => (hm_bind (h_p_X6_rest 1 x2) (fun v26 => (hm_if (hc_eqI rfl rfl) rfl (congrArg some (congrArg Sum.inl (ho_addI rfl rfl))))))))))))
noncomputable def na_X3_hasOneBy_3 (b : (Unit ⊕ Unit)) : Option Nat := Sum.elim (fun q : Unit => ne_X3_hasOneBy_32 ) (fun q : Unit => ne_X3_hasOneBy_40 ) b
theorem h_a_X3_hasOneBy_3 (b : (Unit ⊕ Unit)) : a_X3_hasOneBy_3 ((Sum.map id id) b) = Option.map nI (na_X3_hasOneBy_3 b) := by
  cases b with
  | inl q => exact h_e_X3_hasOneBy_32 
  | inr q => exact h_e_X3_hasOneBy_40 
noncomputable def ng_X3_hasOneBy_3 (x0 : Nat) (x2 : Nat) (x3 : Nat) (x4 : Nat) : Option Nat := (lpN (fun q : Nat => ns_X3_hasOneBy_3 x0 x2 x3 q) pfFU x4).bind (na_X3_hasOneBy_3 )
theorem h_g_X3_hasOneBy_3 (x0 : Nat) (x2 : Nat) (x3 : Nat) (x4 : Nat) : g_X3_hasOneBy_3 (lN x0) (nI x2) (nI x3) (nI x4) = Option.map nI (ng_X3_hasOneBy_3 x0 x2 x3 x4) := by
  unfold g_X3_hasOneBy_3 ng_X3_hasOneBy_3
  exact hm_bind (lp_hom nI (Sum.map id id) (fun q => h_s_X3_hasOneBy_3 x0 x2 x3 q) pfFU x4) (fun b => h_a_X3_hasOneBy_3  b)
noncomputable def np_X3_hasOneBy (y0 : Nat) (y2 : Nat) (y3 : Nat) : Option Nat :=
  ng_X3_hasOneBy_3 y0 y2 y3 0
theorem h_p_X3_hasOneBy (y0 : Nat) (y2 : Nat) (y3 : Nat) : p_X3_hasOneBy (lN y0) (nI y2) (nI y3) = Option.map nI (np_X3_hasOneBy y0 y2 y3) := by
  unfold p_X3_hasOneBy np_X3_hasOneBy
  exact (h_g_X3_hasOneBy_3 y0 y2 y3 0)
noncomputable def ne_X3_bar_48 (x2 : Nat) : Option Nat :=
  some x2
theorem h_e_X3_bar_48 (x2 : Nat) : e_X3_bar_48 (nI x2) = Option.map nI (ne_X3_bar_48 x2) := by
  unfold e_X3_bar_48 ne_X3_bar_48
  exact rfl
noncomputable def ne_X3_bar_39 (x5 : Nat) : Option Nat :=
  some x5
theorem h_e_X3_bar_39 (x5 : Nat) : e_X3_bar_39 (nI x5) = Option.map nI (ne_X3_bar_39 x5) := by
  unfold e_X3_bar_39 ne_X3_bar_39
  exact rfl
noncomputable def ns_X3_bar_14 (x2 : Nat) (x3 : Nat) (x5 : Nat) : Option (Nat ⊕ (Nat ⊕ Unit)) :=
  (bif nleI x2 x5 then some (Sum.inr (Sum.inr ())) else ((np_X6_goesInto x5 x2).bind fun v23 => (bif neqI v23 0 then some (Sum.inl (x5 + 1)) else ((np_X3_hasOneBy x3 x5 x2).bind fun v33 => (bif neqI v33 0 then some (Sum.inr (Sum.inl x5)) else some (Sum.inl (x5 + 1)))))))
theorem h_s_X3_bar_14 (x2 : Nat) (x3 : Nat) (x5 : Nat) : s_X3_bar_14 (nI x2) (lN x3) (nI x5) = Option.map (Sum.map nI (Sum.map nI id)) (ns_X3_bar_14 x2 x3 x5) := by
  unfold s_X3_bar_14 ns_X3_bar_14
  exact (hm_if (hc_leI rfl rfl) rfl (hm_bind (h_p_X6_goesInto x5 x2) (fun v23 => (hm_if (hc_eqI rfl rfl) (congrArg some (congrArg Sum.inl (ho_addI rfl rfl))) (hm_bind (h_p_X3_hasOneBy x3 x5 x2) (fun v33 => (hm_if (hc_eqI rfl rfl) rfl (congrArg some (congrArg Sum.inl (ho_addI rfl rfl))))))))))
noncomputable def na_X3_bar_14 (x2 : Nat) (b : (Nat ⊕ Unit)) : Option Nat := Sum.elim (fun q : Nat => ne_X3_bar_39 q) (fun q : Unit => ne_X3_bar_48 x2) b
theorem h_a_X3_bar_14 (x2 : Nat) (b : (Nat ⊕ Unit)) : a_X3_bar_14 (nI x2) ((Sum.map nI id) b) = Option.map nI (na_X3_bar_14 x2 b) := by
  cases b with
  | inl q => exact h_e_X3_bar_39 q
  | inr q => exact h_e_X3_bar_48 x2
noncomputable def ng_X3_bar_14 (x2 : Nat) (x3 : Nat) (x5 : Nat) : Option Nat := (lpN (fun q : Nat => ns_X3_bar_14 x2 x3 q) pfFU x5).bind (na_X3_bar_14 x2)
theorem h_g_X3_bar_14 (x2 : Nat) (x3 : Nat) (x5 : Nat) : g_X3_bar_14 (nI x2) (lN x3) (nI x5) = Option.map nI (ng_X3_bar_14 x2 x3 x5) := by
  unfold g_X3_bar_14 ng_X3_bar_14
  exact hm_bind (lp_hom nI (Sum.map nI id) (fun q => h_s_X3_bar_14 x2 x3 q) pfFU x5) (fun b => h_a_X3_bar_14 x2 b)
noncomputable def np_X3_bar (y0 : Nat) (y2 : Nat) : Option Nat :=
  ((np_X3_all y2).bind fun v1 => ng_X3_bar_14 y2 (v1 &&& (y0 ^^^ 18446744073709551615)) 1)
theorem h_p_X3_bar (y0 : Nat) (y2 : Nat) : p_X3_bar (lN y0) (nI y2) = Option.map nI (np_X3_bar y0 y2) := by
  unfold p_X3_bar np_X3_bar
  exact (hm_bind (h_p_X3_all y2) (fun v1 => (Eq.trans (congr (congr (congrArg g_X3_bar_14 rfl) (ho_andJ rfl (ho_xorJ rfl rfl))) rfl) (h_g_X3_bar_14 y2 (v1 &&& (y0 ^^^ 18446744073709551615)) 1))))
noncomputable def np_X6_quotient (y0 : Nat) (y1 : Nat) : Option Nat :=
  (bif nleI 1 y1 then (bif neqI y1 0 then none else some (ndivI y0 y1)) else some 0)
theorem h_p_X6_quotient (y0 : Nat) (y1 : Nat) : p_X6_quotient (nI y0) (nI y1) = Option.map nI (np_X6_quotient y0 y1) := by
  unfold p_X6_quotient np_X6_quotient
  exact (hm_if (hc_leI rfl rfl) (hm_if (hc_eqI rfl rfl) rfl (congrArg some (ho_divI rfl rfl))) rfl)
noncomputable def np_X3_degree (y0 : Nat) (y2 : Nat) : Option Nat :=
  ((np_X3_all y2).bind fun v1 => ((np_X3_size v1).bind fun v4 => ((np_X3_size y0).bind fun v8 => ((np_X6_quotient v4 v8).bind fun v11 => some v11))))
theorem h_p_X3_degree (y0 : Nat) (y2 : Nat) : p_X3_degree (lN y0) (nI y2) = Option.map nI (np_X3_degree y0 y2) := by
  unfold p_X3_degree np_X3_degree
  exact (hm_bind (h_p_X3_all y2) (fun v1 => (hm_bind (h_p_X3_size v1) (fun v4 => (hm_bind (h_p_X3_size y0) (fun v8 => (hm_bind (h_p_X6_quotient v4 v8) (fun v11 => rfl))))))))
noncomputable def np_X3_isReal (y0 : Nat) (y2 : Nat) : Option Nat :=
  ((np_X3_has y0 (nsubI y2 1)).bind fun v4 => (bif nbool v4 then some v4 else none))
theorem h_p_X3_isReal (y0 : Nat) (y2 : Nat) : p_X3_isReal (lN y0) (nI y2) = Option.map nI (np_X3_isReal y0 y2) := by
  unfold p_X3_isReal np_X3_isReal
  exact (hm_bind (Eq.trans (congr (congrArg p_X3_has rfl) (ho_subI rfl rfl)) (h_p_X3_has y0 (nsubI y2 1))) (fun v4 => (hm_if (hc_bool rfl) rfl rfl)))
noncomputable def ne_X3_isCyclic_50  : Option Nat :=
  some 0
theorem h_e_X3_isCyclic_50  : e_X3_isCyclic_50  = Option.map nI (ne_X3_isCyclic_50 ) := by
  unfold e_X3_isCyclic_50 ne_X3_isCyclic_50
  exact rfl
noncomputable def ne_X3_isCyclic_42  : Option Nat :=
  some 1
theorem h_e_X3_isCyclic_42  : e_X3_isCyclic_42  = Option.map nI (ne_X3_isCyclic_42 ) := by
  unfold e_X3_isCyclic_42 ne_X3_isCyclic_42
  exact rfl
noncomputable def ns_X3_isCyclic_15 (x0 : Nat) (x2 : Nat) (x3 : Nat) (x5 : Nat) (x6 : Nat) : Option (Nat ⊕ (Unit ⊕ Unit)) :=
  (bif nleI x2 x6 then some (Sum.inr (Sum.inr ())) else ((np_X3_has x3 x6).bind fun v24 => (bif neqI v24 0 then some (Sum.inl (x6 + 1)) else ((np_X3_orderOver x0 x6 x2).bind fun v34 => (bif neqI v34 x5 then some (Sum.inr (Sum.inl ())) else some (Sum.inl (x6 + 1)))))))
theorem h_s_X3_isCyclic_15 (x0 : Nat) (x2 : Nat) (x3 : Nat) (x5 : Nat) (x6 : Nat) : s_X3_isCyclic_15 (lN x0) (nI x2) (lN x3) (nI x5) (nI x6) = Option.map (Sum.map nI (Sum.map id id)) (ns_X3_isCyclic_15 x0 x2 x3 x5 x6) := by
  unfold s_X3_isCyclic_15 ns_X3_isCyclic_15
  exact (hm_if (hc_leI rfl rfl) rfl (hm_bind (h_p_X3_has x3 x6) (fun v24 => (hm_if (hc_eqI rfl rfl) (congrArg some (congrArg Sum.inl (ho_addI rfl rfl))) (hm_bind (h_p_X3_orderOver x0 x6 x2) (fun v34 => (hm_if (hc_eqI rfl rfl) rfl (congrArg some (congrArg Sum.inl (ho_addI rfl rfl))))))))))
noncomputable def na_X3_isCyclic_15 (b : (Unit ⊕ Unit)) : Option Nat := Sum.elim (fun q : Unit => ne_X3_isCyclic_42 ) (fun q : Unit => ne_X3_isCyclic_50 ) b
theorem h_a_X3_isCyclic_15 (b : (Unit ⊕ Unit)) : a_X3_isCyclic_15 ((Sum.map id id) b) = Option.map nI (na_X3_isCyclic_15 b) := by
  cases b with
  | inl q => exact h_e_X3_isCyclic_42 
  | inr q => exact h_e_X3_isCyclic_50 
noncomputable def ng_X3_isCyclic_15 (x0 : Nat) (x2 : Nat) (x3 : Nat) (x5 : Nat) (x6 : Nat) : Option Nat := (lpN (fun q : Nat => ns_X3_isCyclic_15 x0 x2 x3 x5 q) pfFU x6).bind (na_X3_isCyclic_15 )
theorem h_g_X3_isCyclic_15 (x0 : Nat) (x2 : Nat) (x3 : Nat) (x5 : Nat) (x6 : Nat) : g_X3_isCyclic_15 (lN x0) (nI x2) (lN x3) (nI x5) (nI x6) = Option.map nI (ng_X3_isCyclic_15 x0 x2 x3 x5 x6) := by
  unfold g_X3_isCyclic_15 ng_X3_isCyclic_15
  exact hm_bind (lp_hom nI (Sum.map id id) (fun q => h_s_X3_isCyclic_15 x0 x2 x3 x5 q) pfFU x6) (fun b => h_a_X3_isCyclic_15  b)
noncomputable def np_X3_isCyclic (y0 : Nat) (y2 : Nat) : Option Nat :=
  ((np_X3_all y2).bind fun v1 => ((np_X3_degree y0 y2).bind fun v7 => ng_X3_isCyclic_15 y0 y2 v1 v7 0))
theorem h_p_X3_isCyclic (y0 : Nat) (y2 : Nat) : p_X3_isCyclic (lN y0) (nI y2) = Option.map nI (np_X3_isCyclic y0 y2) := by
  unfold p_X3_isCyclic np_X3_isCyclic
  exact (hm_bind (h_p_X3_all y2) (fun v1 => (hm_bind (h_p_X3_degree y0 y2) (fun v7 => (h_g_X3_isCyclic_15 y0 y2 v1 v7 0)))))
noncomputable def np_X3_sign (y0 : Nat) (y2 : Nat) : Option Nat :=
  ((np_X3_degree y0 y2).bind fun v2 => ((np_X6_quotient v2 2).bind fun v6 => ((np_X3_isReal y0 y2).bind fun v12 => (bif neqI v12 0 then ((np_X6_goesInto 2 v6).bind fun v20 => (bif neqI v20 0 then some 4294967295 else some 1)) else some 1))))
theorem h_p_X3_sign (y0 : Nat) (y2 : Nat) : p_X3_sign (lN y0) (nI y2) = Option.map nI (np_X3_sign y0 y2) := by
  unfold p_X3_sign np_X3_sign
  exact (hm_bind (h_p_X3_degree y0 y2) (fun v2 => (hm_bind (h_p_X6_quotient v2 2) (fun v6 => (hm_bind (h_p_X3_isReal y0 y2) (fun v12 => (hm_if (hc_eqI rfl rfl) (hm_bind (h_p_X6_goesInto 2 v6) (fun v20 => (hm_if (hc_eqI rfl rfl) rfl rfl))) rfl)))))))
noncomputable def np_X3_characters (y0 : Nat) (y2 : Nat) : Option Nat :=
  ((np_X3_isCyclic y0 y2).bind fun v2 => (bif neqI v2 0 then some 0 else ((np_X3_degree y0 y2).bind fun v10 => ((np_X3_all v10).bind fun v13 => ((np_X3_size v13).bind fun v16 => some v16)))))
theorem h_p_X3_characters (y0 : Nat) (y2 : Nat) : p_X3_characters (lN y0) (nI y2) = Option.map nI (np_X3_characters y0 y2) := by
  unfold p_X3_characters np_X3_characters
  exact (hm_bind (h_p_X3_isCyclic y0 y2) (fun v2 => (hm_if (hc_eqI rfl rfl) rfl (hm_bind (h_p_X3_degree y0 y2) (fun v10 => (hm_bind (h_p_X3_all v10) (fun v13 => (hm_bind (h_p_X3_size v13) (fun v16 => rfl)))))))))
noncomputable def np_X6_leastMultiple (y0 : Nat) (y1 : Nat) : Option Nat :=
  ((np_X6_greatestDivisor y0 y1).bind fun v3 => ((np_X6_quotient y0 v3).bind fun v6 => some (v6 * y1)))
theorem h_p_X6_leastMultiple (y0 : Nat) (y1 : Nat) : p_X6_leastMultiple (nI y0) (nI y1) = Option.map nI (np_X6_leastMultiple y0 y1) := by
  unfold p_X6_leastMultiple np_X6_leastMultiple
  exact (hm_bind (h_p_X6_greatestDivisor y0 y1) (fun v3 => (hm_bind (h_p_X6_quotient y0 v3) (fun v6 => (congrArg some (ho_mulI rfl rfl))))))
noncomputable def ne_X6_isPrime_39  : Option Nat :=
  some 1
theorem h_e_X6_isPrime_39  : e_X6_isPrime_39  = Option.map nI (ne_X6_isPrime_39 ) := by
  unfold e_X6_isPrime_39 ne_X6_isPrime_39
  exact rfl
noncomputable def ne_X6_isPrime_31  : Option Nat :=
  some 0
theorem h_e_X6_isPrime_31  : e_X6_isPrime_31  = Option.map nI (ne_X6_isPrime_31 ) := by
  unfold e_X6_isPrime_31 ne_X6_isPrime_31
  exact rfl
noncomputable def ns_X6_isPrime_16 (x0 : Nat) (x1 : Nat) : Option (Nat ⊕ (Unit ⊕ Unit)) :=
  (bif nltI x0 (x1 * x1) then some (Sum.inr (Sum.inr ())) else ((np_X6_goesInto x1 x0).bind fun v25 => (bif neqI v25 0 then some (Sum.inl (x1 + 1)) else some (Sum.inr (Sum.inl ())))))
theorem h_s_X6_isPrime_16 (x0 : Nat) (x1 : Nat) : s_X6_isPrime_16 (nI x0) (nI x1) = Option.map (Sum.map nI (Sum.map id id)) (ns_X6_isPrime_16 x0 x1) := by
  unfold s_X6_isPrime_16 ns_X6_isPrime_16
  exact (hm_if (hc_ltI rfl (ho_mulI rfl rfl)) rfl (hm_bind (h_p_X6_goesInto x1 x0) (fun v25 => (hm_if (hc_eqI rfl rfl) (congrArg some (congrArg Sum.inl (ho_addI rfl rfl))) rfl))))
noncomputable def na_X6_isPrime_16 (b : (Unit ⊕ Unit)) : Option Nat := Sum.elim (fun q : Unit => ne_X6_isPrime_31 ) (fun q : Unit => ne_X6_isPrime_39 ) b
theorem h_a_X6_isPrime_16 (b : (Unit ⊕ Unit)) : a_X6_isPrime_16 ((Sum.map id id) b) = Option.map nI (na_X6_isPrime_16 b) := by
  cases b with
  | inl q => exact h_e_X6_isPrime_31 
  | inr q => exact h_e_X6_isPrime_39 
noncomputable def ng_X6_isPrime_16 (x0 : Nat) (x1 : Nat) : Option Nat := (lpN (fun q : Nat => ns_X6_isPrime_16 x0 q) pfFU x1).bind (na_X6_isPrime_16 )
theorem h_g_X6_isPrime_16 (x0 : Nat) (x1 : Nat) : g_X6_isPrime_16 (nI x0) (nI x1) = Option.map nI (ng_X6_isPrime_16 x0 x1) := by
  unfold g_X6_isPrime_16 ng_X6_isPrime_16
  exact hm_bind (lp_hom nI (Sum.map id id) (fun q => h_s_X6_isPrime_16 x0 q) pfFU x1) (fun b => h_a_X6_isPrime_16  b)
noncomputable def np_X6_isPrime (y0 : Nat) : Option Nat :=
  (bif nltI y0 2 then some 0 else (bif nleI y0 997 then ng_X6_isPrime_16 y0 2 else some 0))
theorem h_p_X6_isPrime (y0 : Nat) : p_X6_isPrime (nI y0) = Option.map nI (np_X6_isPrime y0) := by
  unfold p_X6_isPrime np_X6_isPrime
  exact (hm_if (hc_ltI rfl rfl) rfl (hm_if (hc_leI rfl rfl) (h_g_X6_isPrime_16 y0 2) rfl))
noncomputable def ne_X6_howOften_37  : Option Nat :=
  some 0
theorem h_e_X6_howOften_37  : e_X6_howOften_37  = Option.map nI (ne_X6_howOften_37 ) := by
  unfold e_X6_howOften_37 ne_X6_howOften_37
  exact rfl
noncomputable def ne_X6_howOften_23 (x3 : Nat) : Option Nat :=
  some x3
theorem h_e_X6_howOften_23 (x3 : Nat) : e_X6_howOften_23 (nI x3) = Option.map nI (ne_X6_howOften_23 x3) := by
  unfold e_X6_howOften_23 ne_X6_howOften_23
  exact rfl
noncomputable def ns_X6_howOften_4 (x0 : Nat) (x2 : Nat) (x3 : Nat) : Option ((Nat × Nat) ⊕ (Nat ⊕ Unit)) :=
  (bif nleI 63 x3 then some (Sum.inr (Sum.inr ())) else (bif nltI x2 1 then some (Sum.inr (Sum.inl x3)) else ((np_X6_goesInto x0 x2).bind fun v17 => (bif neqI v17 0 then some (Sum.inr (Sum.inl x3)) else ((np_X6_quotient x2 x0).bind fun v27 => some (Sum.inl (v27, (x3 + 1))))))))
theorem h_s_X6_howOften_4 (x0 : Nat) (x2 : Nat) (x3 : Nat) : s_X6_howOften_4 (nI x0) (nI x2) (nI x3) = Option.map (Sum.map (cP nI nI) (Sum.map nI id)) (ns_X6_howOften_4 x0 x2 x3) := by
  unfold s_X6_howOften_4 ns_X6_howOften_4
  exact (hm_if (hc_leI rfl rfl) rfl (hm_if (hc_ltI rfl rfl) rfl (hm_bind (h_p_X6_goesInto x0 x2) (fun v17 => (hm_if (hc_eqI rfl rfl) rfl (hm_bind (h_p_X6_quotient x2 x0) (fun v27 => (congrArg some (congrArg Sum.inl (ho_pair rfl (ho_addI rfl rfl)))))))))))
noncomputable def na_X6_howOften_4 (b : (Nat ⊕ Unit)) : Option Nat := Sum.elim (fun q : Nat => ne_X6_howOften_23 q) (fun q : Unit => ne_X6_howOften_37 ) b
theorem h_a_X6_howOften_4 (b : (Nat ⊕ Unit)) : a_X6_howOften_4 ((Sum.map nI id) b) = Option.map nI (na_X6_howOften_4 b) := by
  cases b with
  | inl q => exact h_e_X6_howOften_23 q
  | inr q => exact h_e_X6_howOften_37 
noncomputable def ng_X6_howOften_4 (x0 : Nat) (x2 : Nat) (x3 : Nat) : Option Nat := (lpN (fun q : (Nat × Nat) => ns_X6_howOften_4 x0 q.1 q.2) pfFU (x2, x3)).bind (na_X6_howOften_4 )
theorem h_g_X6_howOften_4 (x0 : Nat) (x2 : Nat) (x3 : Nat) : g_X6_howOften_4 (nI x0) (nI x2) (nI x3) = Option.map nI (ng_X6_howOften_4 x0 x2 x3) := by
  unfold g_X6_howOften_4 ng_X6_howOften_4
  exact hm_bind (lp_hom (cP nI nI) (Sum.map nI id) (fun q => h_s_X6_howOften_4 x0 q.1 q.2) pfFU (x2, x3)) (fun b => h_a_X6_howOften_4  b)
noncomputable def np_X6_howOften (y0 : Nat) (y1 : Nat) : Option Nat :=
  ng_X6_howOften_4 y0 y1 0
theorem h_p_X6_howOften (y0 : Nat) (y1 : Nat) : p_X6_howOften (nI y0) (nI y1) = Option.map nI (np_X6_howOften y0 y1) := by
  unfold p_X6_howOften np_X6_howOften
  exact (h_g_X6_howOften_4 y0 y1 0)
noncomputable def ne_X6_without_29 (x2 : Nat) : Option Nat :=
  some x2
theorem h_e_X6_without_29 (x2 : Nat) : e_X6_without_29 (nI x2) = Option.map nI (ne_X6_without_29 x2) := by
  unfold e_X6_without_29 ne_X6_without_29
  exact rfl
noncomputable def ns_X6_without_11 (x1 : Nat) (x2 : Nat) (x3 : Nat) (x4 : Nat) : Option ((Nat × Nat) ⊕ Nat) :=
  (bif nleI x3 x4 then some (Sum.inr x2) else ((np_X6_quotient x2 x1).bind fun v19 => some (Sum.inl (v19, (x4 + 1)))))
theorem h_s_X6_without_11 (x1 : Nat) (x2 : Nat) (x3 : Nat) (x4 : Nat) : s_X6_without_11 (nI x1) (nI x2) (nI x3) (nI x4) = Option.map (Sum.map (cP nI nI) nI) (ns_X6_without_11 x1 x2 x3 x4) := by
  unfold s_X6_without_11 ns_X6_without_11
  exact (hm_if (hc_leI rfl rfl) rfl (hm_bind (h_p_X6_quotient x2 x1) (fun v19 => (congrArg some (congrArg Sum.inl (ho_pair rfl (ho_addI rfl rfl)))))))
noncomputable def na_X6_without_11 (b : Nat) : Option Nat := (fun q : Nat => ne_X6_without_29 q) b
theorem h_a_X6_without_11 (b : Nat) : a_X6_without_11 (nI b) = Option.map nI (na_X6_without_11 b) := h_e_X6_without_29 b
noncomputable def ng_X6_without_11 (x1 : Nat) (x2 : Nat) (x3 : Nat) (x4 : Nat) : Option Nat := (lpN (fun q : (Nat × Nat) => ns_X6_without_11 x1 q.1 x3 q.2) pfFU (x2, x4)).bind (na_X6_without_11 )
theorem h_g_X6_without_11 (x1 : Nat) (x2 : Nat) (x3 : Nat) (x4 : Nat) : g_X6_without_11 (nI x1) (nI x2) (nI x3) (nI x4) = Option.map nI (ng_X6_without_11 x1 x2 x3 x4) := by
  unfold g_X6_without_11 ng_X6_without_11
  exact hm_bind (lp_hom (cP nI nI) nI (fun q => h_s_X6_without_11 x1 q.1 x3 q.2) pfFU (x2, x4)) (fun b => h_a_X6_without_11  b)
noncomputable def np_X6_without (y0 : Nat) (y1 : Nat) : Option Nat :=
  ((np_X6_howOften y1 y0).bind fun v4 => ng_X6_without_11 y1 y0 v4 0)
theorem h_p_X6_without (y0 : Nat) (y1 : Nat) : p_X6_without (nI y0) (nI y1) = Option.map nI (np_X6_without y0 y1) := by
  unfold p_X6_without np_X6_without
  exact (hm_bind (h_p_X6_howOften y1 y0) (fun v4 => (h_g_X6_without_11 y1 y0 v4 0)))
noncomputable def ne_X6_signOfPrimes_44 (x1 : Nat) : Option Nat :=
  some x1
theorem h_e_X6_signOfPrimes_44 (x1 : Nat) : e_X6_signOfPrimes_44 (nI x1) = Option.map nI (ne_X6_signOfPrimes_44 x1) := by
  unfold e_X6_signOfPrimes_44 ne_X6_signOfPrimes_44
  exact rfl
noncomputable def ne_X6_signOfPrimes_33  : Option Nat :=
  some 0
theorem h_e_X6_signOfPrimes_33  : e_X6_signOfPrimes_33  = Option.map nI (ne_X6_signOfPrimes_33 ) := by
  unfold e_X6_signOfPrimes_33 ne_X6_signOfPrimes_33
  exact rfl
noncomputable def ns_X6_signOfPrimes_4 (x0 : Nat) (x1 : Nat) (x2 : Nat) : Option ((Nat × Nat) ⊕ (Unit ⊕ Nat)) :=
  (bif nltI x0 x2 then some (Sum.inr (Sum.inr x1)) else ((np_X6_goesInto x2 x0).bind fun v11 => (bif neqI v11 0 then some (Sum.inl (x1, (x2 + 1))) else ((np_X6_isPrime x2).bind fun v18 => (bif neqI v18 0 then some (Sum.inl (x1, (x2 + 1))) else ((np_X6_howOften x2 x0).bind fun v26 => (bif nleI v26 1 then some (Sum.inl ((nnegI x1), (x2 + 1))) else some (Sum.inr (Sum.inl ())))))))))
theorem h_s_X6_signOfPrimes_4 (x0 : Nat) (x1 : Nat) (x2 : Nat) : s_X6_signOfPrimes_4 (nI x0) (nI x1) (nI x2) = Option.map (Sum.map (cP nI nI) (Sum.map id nI)) (ns_X6_signOfPrimes_4 x0 x1 x2) := by
  unfold s_X6_signOfPrimes_4 ns_X6_signOfPrimes_4
  exact (hm_if (hc_ltI rfl rfl) rfl (hm_bind (h_p_X6_goesInto x2 x0) (fun v11 => (hm_if (hc_eqI rfl rfl) (congrArg some (congrArg Sum.inl (ho_pair rfl (ho_addI rfl rfl)))) (hm_bind (h_p_X6_isPrime x2) (fun v18 => (hm_if (hc_eqI rfl rfl) (congrArg some (congrArg Sum.inl (ho_pair rfl (ho_addI rfl rfl)))) (hm_bind (h_p_X6_howOften x2 x0) (fun v26 => (hm_if (hc_leI rfl rfl) (congrArg some (congrArg Sum.inl (ho_pair (ho_negI rfl) (ho_addI rfl rfl)))) rfl))))))))))
noncomputable def na_X6_signOfPrimes_4 (b : (Unit ⊕ Nat)) : Option Nat := Sum.elim (fun q : Unit => ne_X6_signOfPrimes_33 ) (fun q : Nat => ne_X6_signOfPrimes_44 q) b
theorem h_a_X6_signOfPrimes_4 (b : (Unit ⊕ Nat)) : a_X6_signOfPrimes_4 ((Sum.map id nI) b) = Option.map nI (na_X6_signOfPrimes_4 b) := by
  cases b with
  | inl q => exact h_e_X6_signOfPrimes_33 
  | inr q => exact h_e_X6_signOfPrimes_44 q
