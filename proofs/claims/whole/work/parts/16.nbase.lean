/-! plain numbers behind the machine's: every operation with a fast road for what isn't negative, and the machine's own for the rest -/
def nA (f : Nat → Nat) : Nat → Int32 := fun i => nI (f i)
def nB (f : Nat → Nat) : Nat → Int64 := fun i => lN (f i)
def cP {α β γ δ : Type} (f : α → γ) (g : β → δ) (q : α × β) : γ × δ := (f q.1, g q.2)
def u32 (x : Int32) : Nat := x.toBitVec.toNat
def u64 (x : Int64) : Nat := x.toBitVec.toNat
theorem nI_u (x : Int32) : nI (u32 x) = x := by
  obtain ⟨n, hn, rfl⟩ := wb_of32 x
  unfold u32
  rw [pk_tn hn]
theorem lN_u (x : Int64) : lN (u64 x) = x := by
  obtain ⟨n, hn, rfl⟩ := wb_of x
  unfold u64
  rw [wb_tn hn]
theorem nI_eq32 {a b : Nat} (ha : a < 2 ^ 32) (hb : b < 2 ^ 32) : nI a = nI b ↔ a = b := by
  constructor
  · intro h
    have := congrArg (fun z : Int32 => z.toBitVec.toNat) h
    simpa only [pk_tn ha, pk_tn hb] using this
  · intro h; rw [h]
theorem lN_eq64 {a b : Nat} (ha : a < 2 ^ 64) (hb : b < 2 ^ 64) : lN a = lN b ↔ a = b := by
  constructor
  · intro h
    have := congrArg (fun z : Int64 => z.toBitVec.toNat) h
    simpa only [wb_tn ha, wb_tn hb] using this
  · intro h; rw [h]
def nsubI (a b : Nat) : Nat := bif Nat.ble b a then a - b else u32 (nI a - nI b)
def nsubJ (a b : Nat) : Nat := bif Nat.ble b a then a - b else u64 (lN a - lN b)
def ndivI (a b : Nat) : Nat := bif Nat.ble a 2147483647 && (Nat.ble b 2147483647 && Nat.ble 1 b) then a / b else u32 (nI a / nI b)
def ndivJ (a b : Nat) : Nat := bif Nat.ble a 9223372036854775807 && (Nat.ble b 9223372036854775807 && Nat.ble 1 b) then a / b else u64 (lN a / lN b)
def njrem (a b : Nat) : Nat := bif Nat.ble a 2147483647 && (Nat.ble b 2147483647 && Nat.ble 1 b) then a % b else u32 (jrem (nI a) (nI b))
def njremL (a b : Nat) : Nat := bif Nat.ble a 9223372036854775807 && (Nat.ble b 9223372036854775807 && Nat.ble 1 b) then a % b else u64 (jremL (lN a) (lN b))
def nnegI (a : Nat) : Nat := u32 (-(nI a))
def ni2l (a : Nat) : Nat := bif Nat.ble a 2147483647 then a else u64 (nI a).toInt64
def nix (a : Nat) : Nat := bif Nat.ble a 2147483647 then a else (nI a).toNatClampNeg
def njshl (a k : Nat) : Nat := bif Nat.ble k 63 then a <<< k else u64 (jshl (lN a) (nI k))
def njshr (a k : Nat) : Nat := bif Nat.ble a 9223372036854775807 && Nat.ble k 63 then a >>> k else u64 (jshr (lN a) (nI k))
def njushr (a k : Nat) : Nat := bif Nat.ble a 18446744073709551615 && Nat.ble k 63 then a >>> k else u64 (jushr (lN a) (nI k))
def nltI (a b : Nat) : Bool := bif Nat.ble a 2147483647 && Nat.ble b 2147483647 then Nat.blt a b else decide (nI a < nI b)
def nleI (a b : Nat) : Bool := bif Nat.ble a 2147483647 && Nat.ble b 2147483647 then Nat.ble a b else decide (nI a ≤ nI b)
def neqI (a b : Nat) : Bool := bif Nat.ble a 4294967295 && Nat.ble b 4294967295 then Nat.beq a b else decide (nI a = nI b)
def nltJ (a b : Nat) : Bool := bif Nat.ble a 9223372036854775807 && Nat.ble b 9223372036854775807 then Nat.blt a b else decide (lN a < lN b)
def nleJ (a b : Nat) : Bool := bif Nat.ble a 9223372036854775807 && Nat.ble b 9223372036854775807 then Nat.ble a b else decide (lN a ≤ lN b)
def neqJ (a b : Nat) : Bool := bif Nat.ble a 18446744073709551615 && Nat.ble b 18446744073709551615 then Nat.beq a b else decide (lN a = lN b)
def nain (a n : Nat) : Bool := bif Nat.ble a 2147483647 then Nat.blt a n else ainB (nI a) n
def nbool (a : Nat) : Bool := bif Nat.ble a 1 then true else decide (nI a &&& 1 = nI a)
def nupd (f : Nat → Nat) (k x : Nat) : Nat → Nat := fun j => bif Nat.beq j k then x else f j
def nnarZ (a : Nat) : Nat := a &&& 1
noncomputable def lpN {σ β : Type} (f : σ → Option (σ ⊕ β)) (n : Nat) : σ → Option β :=
  Nat.rec (motive := fun _ => σ → Option β) (fun _ => none) (fun _ ih s => match f s with
    | none => none
    | some (Sum.inl s') => ih s'
    | some (Sum.inr b) => some b) n
theorem nf_c {b : Bool} {x y : Nat} {P : Nat → Prop} (h1 : b = true → P x) (h2 : b = false → P y) : P (bif b then x else y) := by
  cases b
  · exact h2 rfl
  · exact h1 rfl
theorem nf_b {b : Bool} {x y : Bool} {P : Bool → Prop} (h1 : b = true → P x) (h2 : b = false → P y) : P (bif b then x else y) := by
  cases b
  · exact h2 rfl
  · exact h1 rfl
theorem nf_and {a b : Bool} (h : (a && b) = true) : a = true ∧ b = true := by
  cases a <;> cases b <;> simp_all
theorem nf_le {a b : Nat} (h : Nat.ble a b = true) : a ≤ b := Nat.le_of_ble_eq_true h
theorem ho_addI {x y : Int32} {a b : Nat} (h1 : x = nI a) (h2 : y = nI b) : x + y = nI (a + b) := by rw [h1, h2, nI_add]
theorem ho_addJ {x y : Int64} {a b : Nat} (h1 : x = lN a) (h2 : y = lN b) : x + y = lN (a + b) := by rw [h1, h2, lN_add]
theorem ho_mulI {x y : Int32} {a b : Nat} (h1 : x = nI a) (h2 : y = nI b) : x * y = nI (a * b) := by rw [h1, h2, pk_mul]
theorem ho_mulJ {x y : Int64} {a b : Nat} (h1 : x = lN a) (h2 : y = lN b) : x * y = lN (a * b) := by rw [h1, h2, lN_mul]
theorem ho_andI {x y : Int32} {a b : Nat} (h1 : x = nI a) (h2 : y = nI b) : x &&& y = nI (a &&& b) := by rw [h1, h2, fa_and]
theorem ho_orI {x y : Int32} {a b : Nat} (h1 : x = nI a) (h2 : y = nI b) : x ||| y = nI (a ||| b) := by rw [h1, h2, fa_or]
theorem ho_xorI {x y : Int32} {a b : Nat} (h1 : x = nI a) (h2 : y = nI b) : x ^^^ y = nI (a ^^^ b) := by rw [h1, h2, fb_xorI]
theorem ho_andJ {x y : Int64} {a b : Nat} (h1 : x = lN a) (h2 : y = lN b) : x &&& y = lN (a &&& b) := by rw [h1, h2, fb_andL]
theorem ho_orJ {x y : Int64} {a b : Nat} (h1 : x = lN a) (h2 : y = lN b) : x ||| y = lN (a ||| b) := by rw [h1, h2, fb_orL]
theorem ho_xorJ {x y : Int64} {a b : Nat} (h1 : x = lN a) (h2 : y = lN b) : x ^^^ y = lN (a ^^^ b) := by rw [h1, h2, fb_xorL]
theorem ho_subI {x y : Int32} {a b : Nat} (h1 : x = nI a) (h2 : y = nI b) : x - y = nI (nsubI a b) := by
  rw [h1, h2]; unfold nsubI
  exact nf_c (P := fun z => nI a - nI b = nI z) (fun h => pk_sub (nf_le h)) (fun _ => (nI_u _).symm)
theorem ho_subJ {x y : Int64} {a b : Nat} (h1 : x = lN a) (h2 : y = lN b) : x - y = lN (nsubJ a b) := by
  rw [h1, h2]; unfold nsubJ
  exact nf_c (P := fun z => lN a - lN b = lN z) (fun h => lN_sub (nf_le h)) (fun _ => (lN_u _).symm)
theorem ho_divI {x y : Int32} {a b : Nat} (h1 : x = nI a) (h2 : y = nI b) : x / y = nI (ndivI a b) := by
  rw [h1, h2]; unfold ndivI
  refine nf_c (P := fun z => nI a / nI b = nI z) (fun h => ?_) (fun _ => (nI_u _).symm)
  obtain ⟨p1, p2⟩ := nf_and h; obtain ⟨p2, p3⟩ := nf_and p2
  have := nf_le p1; have := nf_le p2; have := nf_le p3
  exact pk_div (by omega) (by omega) (by omega)
theorem ho_divJ {x y : Int64} {a b : Nat} (h1 : x = lN a) (h2 : y = lN b) : x / y = lN (ndivJ a b) := by
  rw [h1, h2]; unfold ndivJ
  refine nf_c (P := fun z => lN a / lN b = lN z) (fun h => ?_) (fun _ => (lN_u _).symm)
  obtain ⟨p1, p2⟩ := nf_and h; obtain ⟨p2, p3⟩ := nf_and p2
  have := nf_le p1; have := nf_le p2; have := nf_le p3
  exact pk_lDiv (by omega) (by omega) (by omega)
theorem ho_jrem {x y : Int32} {a b : Nat} (h1 : x = nI a) (h2 : y = nI b) : jrem x y = nI (njrem a b) := by
  rw [h1, h2]; unfold njrem
  refine nf_c (P := fun z => jrem (nI a) (nI b) = nI z) (fun h => ?_) (fun _ => (nI_u _).symm)
  obtain ⟨p1, p2⟩ := nf_and h; obtain ⟨p2, p3⟩ := nf_and p2
  have := nf_le p1; have := nf_le p2; have := nf_le p3
  exact pk_rem (by omega) (by omega) (by omega)
theorem ho_jremL {x y : Int64} {a b : Nat} (h1 : x = lN a) (h2 : y = lN b) : jremL x y = lN (njremL a b) := by
  rw [h1, h2]; unfold njremL
  refine nf_c (P := fun z => jremL (lN a) (lN b) = lN z) (fun h => ?_) (fun _ => (lN_u _).symm)
  obtain ⟨p1, p2⟩ := nf_and h; obtain ⟨p2, p3⟩ := nf_and p2
  have := nf_le p1; have := nf_le p2; have := nf_le p3
  exact pk_lRem (by omega) (by omega) (by omega)
theorem ho_negI {x : Int32} {a : Nat} (h1 : x = nI a) : -x = nI (nnegI a) := by rw [h1]; exact (nI_u _).symm
theorem ho_i2l {x : Int32} {a : Nat} (h1 : x = nI a) : x.toInt64 = lN (ni2l a) := by
  rw [h1]; unfold ni2l
  exact nf_c (P := fun z => (nI a).toInt64 = lN z) (fun h => nI_l (by have := nf_le h; omega)) (fun _ => (lN_u _).symm)
theorem ho_l2i {x : Int64} {a : Nat} (h1 : x = lN a) : x.toInt32 = nI a := by rw [h1, lN_i]
theorem ho_ix {x : Int32} {a : Nat} (h1 : x = nI a) : x.toNatClampNeg = nix a := by
  rw [h1]; unfold nix
  exact nf_c (P := fun z => (nI a).toNatClampNeg = z) (fun h => nI_clamp (by have := nf_le h; omega)) (fun _ => rfl)
theorem ho_jshl {x : Int64} {y : Int32} {a k : Nat} (h1 : x = lN a) (h2 : y = nI k) : jshl x y = lN (njshl a k) := by
  rw [h1, h2]; unfold njshl
  refine nf_c (P := fun z => jshl (lN a) (nI k) = lN z) (fun h => ?_) (fun _ => (lN_u _).symm)
  rw [Nat.shiftLeft_eq]
  exact wb_shl a (by have := nf_le h; omega)
theorem ho_jushr {x : Int64} {y : Int32} {a k : Nat} (h1 : x = lN a) (h2 : y = nI k) : jushr x y = lN (njushr a k) := by
  rw [h1, h2]; unfold njushr
  refine nf_c (P := fun z => jushr (lN a) (nI k) = lN z) (fun h => ?_) (fun _ => (lN_u _).symm)
  obtain ⟨p1, p2⟩ := nf_and h
  have := nf_le p1; have := nf_le p2
  rw [Nat.shiftRight_eq_div_pow]
  exact wb_shr (by omega) (by omega)
theorem ho_jshr {x : Int64} {y : Int32} {a k : Nat} (h1 : x = lN a) (h2 : y = nI k) : jshr x y = lN (njshr a k) := by
  rw [h1, h2]; unfold njshr
  refine nf_c (P := fun z => jshr (lN a) (nI k) = lN z) (fun h => ?_) (fun _ => (lN_u _).symm)
  obtain ⟨p1, p2⟩ := nf_and h
  have g1 := nf_le p1; have g2 := nf_le p2
  rw [Nat.shiftRight_eq_div_pow]
  unfold jshr
  rw [wb_c k (by omega)]
  apply Int64.toInt_inj.mp
  rw [pk_lT (n := a / 2 ^ k) (Nat.lt_of_le_of_lt (Nat.div_le_self _ _) (by omega))]
  have e1 : (lN a >>> lN k).toInt = (lN a).toInt >>> (((lN k).toBitVec.smod 64).toNat) := by
    show (BitVec.sshiftRight' _ _).toInt = _
    rw [BitVec.sshiftRight', BitVec.toInt_sshiftRight]
    rfl
  rw [e1, lN_bv, wb_sm k (by omega), pk_lT (by omega)]
  have e2 : (BitVec.ofNat 64 k).toNat = k := by rw [BitVec.toNat_ofNat]; exact Nat.mod_eq_of_lt (by omega)
  rw [e2, Int.shiftRight_eq_div_pow]
  norm_cast
theorem hc_ltI {x y : Int32} {a b : Nat} (h1 : x = nI a) (h2 : y = nI b) : x < y ↔ nltI a b = true := by
  rw [h1, h2]; unfold nltI
  refine nf_b (P := fun z => nI a < nI b ↔ z = true) (fun h => ?_) (fun _ => by simp)
  obtain ⟨p1, p2⟩ := nf_and h
  have := nf_le p1; have := nf_le p2
  rw [nI_ltI (by omega) (by omega), Nat.blt_eq]
theorem hc_leI {x y : Int32} {a b : Nat} (h1 : x = nI a) (h2 : y = nI b) : x ≤ y ↔ nleI a b = true := by
  rw [h1, h2]; unfold nleI
  refine nf_b (P := fun z => nI a ≤ nI b ↔ z = true) (fun h => ?_) (fun _ => by simp)
  obtain ⟨p1, p2⟩ := nf_and h
  have := nf_le p1; have := nf_le p2
  rw [nI_leI (by omega) (by omega), Nat.ble_eq]
theorem hc_eqI {x y : Int32} {a b : Nat} (h1 : x = nI a) (h2 : y = nI b) : x = y ↔ neqI a b = true := by
  rw [h1, h2]; unfold neqI
  refine nf_b (P := fun z => nI a = nI b ↔ z = true) (fun h => ?_) (fun _ => by simp)
  obtain ⟨p1, p2⟩ := nf_and h
  have := nf_le p1; have := nf_le p2
  rw [nI_eq32 (by omega) (by omega), Nat.beq_eq]
theorem hc_ltJ {x y : Int64} {a b : Nat} (h1 : x = lN a) (h2 : y = lN b) : x < y ↔ nltJ a b = true := by
  rw [h1, h2]; unfold nltJ
  refine nf_b (P := fun z => lN a < lN b ↔ z = true) (fun h => ?_) (fun _ => by simp)
  obtain ⟨p1, p2⟩ := nf_and h
  have := nf_le p1; have := nf_le p2
  rw [pk_lLT (by omega) (by omega), Nat.blt_eq]
theorem hc_leJ {x y : Int64} {a b : Nat} (h1 : x = lN a) (h2 : y = lN b) : x ≤ y ↔ nleJ a b = true := by
  rw [h1, h2]; unfold nleJ
  refine nf_b (P := fun z => lN a ≤ lN b ↔ z = true) (fun h => ?_) (fun _ => by simp)
  obtain ⟨p1, p2⟩ := nf_and h
  have := nf_le p1; have := nf_le p2
  rw [pk_lLE (by omega) (by omega), Nat.ble_eq]
theorem hc_eqJ {x y : Int64} {a b : Nat} (h1 : x = lN a) (h2 : y = lN b) : x = y ↔ neqJ a b = true := by
  rw [h1, h2]; unfold neqJ
  refine nf_b (P := fun z => lN a = lN b ↔ z = true) (fun h => ?_) (fun _ => by simp)
  obtain ⟨p1, p2⟩ := nf_and h
  have := nf_le p1; have := nf_le p2
  rw [lN_eq64 (by omega) (by omega), Nat.beq_eq]
theorem hc_ain {x : Int32} {a n : Nat} (h1 : x = nI a) : ainB x n = true ↔ nain a n = true := by
  rw [h1]; unfold nain
  refine nf_b (P := fun z => ainB (nI a) n = true ↔ z = true) (fun h => ?_) (fun _ => Iff.rfl)
  have := nf_le h
  unfold ainB
  rw [decide_eq_true_eq, nI_clamp (by omega), Nat.blt_eq]
  have := nI_pos (n := a) (by omega)
  constructor
  · intro q; exact Nat.not_le.mp (fun z => q (Or.inr z))
  · intro q z
    rcases z with z | z
    · exact this z
    · omega
theorem hc_bool {x : Int32} {a : Nat} (h1 : x = nI a) : x &&& 1 = x ↔ nbool a = true := by
  rw [h1]; unfold nbool
  refine nf_b (P := fun z => nI a &&& 1 = nI a ↔ z = true) (fun h => ?_) (fun _ => by simp)
  have := nf_le h
  rcases (show a = 0 ∨ a = 1 by omega) with rfl | rfl <;> simp <;> decide
theorem ho_updI {f : Nat → Int32} {g : Nat → Nat} {k k' : Nat} {x : Int32} {v : Nat} (h1 : f = nA g) (h2 : k = k') (h3 : x = nI v) : upd f k x = nA (nupd g k' v) := by
  rw [h1, h2, h3]
  funext j
  show (if j = k' then nI v else nI (g j)) = nI (bif Nat.beq j k' then v else g j)
  by_cases h : j = k'
  · rw [if_pos h, h, show Nat.beq k' k' = true from Nat.beq_refl k']; rfl
  · rw [if_neg h, show Nat.beq j k' = false from by rw [Bool.eq_false_iff]; intro q; exact h (Nat.eq_of_beq_eq_true q)]; rfl
theorem ho_updJ {f : Nat → Int64} {g : Nat → Nat} {k k' : Nat} {x : Int64} {v : Nat} (h1 : f = nB g) (h2 : k = k') (h3 : x = lN v) : vp_updL f k x = nB (nupd g k' v) := by
  rw [h1, h2, h3]
  funext j
  show (if j = k' then lN v else lN (g j)) = lN (bif Nat.beq j k' then v else g j)
  by_cases h : j = k'
  · rw [if_pos h, h, show Nat.beq k' k' = true from Nat.beq_refl k']; rfl
  · rw [if_neg h, show Nat.beq j k' = false from by rw [Bool.eq_false_iff]; intro q; exact h (Nat.eq_of_beq_eq_true q)]; rfl
theorem ho_rdI {f : Nat → Int32} {g : Nat → Nat} {k k' : Nat} (h1 : f = nA g) (h2 : k = k') : f k = nI (g k') := by rw [h1, h2]; rfl
theorem ho_rdJ {f : Nat → Int64} {g : Nat → Nat} {k k' : Nat} (h1 : f = nB g) (h2 : k = k') : f k = lN (g k') := by rw [h1, h2]; rfl
theorem ho_narZ {x : Int32} {a : Nat} (h1 : x = nI a) : vp_nar .boolean x = nI (nnarZ a) := by
  rw [h1]; exact ho_andI (a := a) (b := 1) rfl rfl
theorem ho_iteI {c : Prop} [Decidable c] {b : Bool} {x y : Int32} {a a' : Nat} (h : c ↔ b = true) (h1 : x = nI a) (h2 : y = nI a') : (if c then x else y) = nI (bif b then a else a') := by
  cases b
  · rw [if_neg (fun q => by simpa using h.mp q), h2]; rfl
  · rw [if_pos (h.mpr rfl), h1]; rfl
theorem ho_pair {α β : Type} {a a' : α} {b b' : β} (h1 : a = a') (h2 : b = b') : (a, b) = (a', b') := by rw [h1, h2]
theorem hm_if {α β : Type} {f : α → β} {c : Prop} [Decidable c] {b : Bool} {x y : Option β} {x' y' : Option α} (h : c ↔ b = true) (h1 : x = Option.map f x') (h2 : y = Option.map f y') : (if c then x else y) = Option.map f (bif b then x' else y') := by
  cases b
  · rw [if_neg (fun q => by simpa using h.mp q), h2]; rfl
  · rw [if_pos (h.mpr rfl), h1]; rfl
theorem hm_bind {α β γ δ : Type} {f : α → β} {g : γ → δ} {x : Option β} {x' : Option α} {k : β → Option δ} {k' : α → Option γ} (h : x = Option.map f x') (hk : ∀ v, k (f v) = Option.map g (k' v)) : x.bind k = Option.map g (x'.bind k') := by
  rw [h]
  cases x' with
  | none => rfl
  | some v => exact hk v
theorem lp_hom {σ τ β γ : Type} {f : σ → Option (σ ⊕ β)} {g : τ → Option (τ ⊕ γ)} (cs : τ → σ) (cb : γ → β) (h : ∀ t, f (cs t) = Option.map (Sum.map cs cb) (g t)) : ∀ (n : Nat) (t : τ), lpF f n (cs t) = Option.map cb (lpN g n t) := by
  intro n
  induction n with
  | zero => intro t; rfl
  | succ n ih =>
    intro t
    show (match f (cs t) with
      | none => none
      | some (Sum.inl s') => lpF f n s'
      | some (Sum.inr b) => some b) = Option.map cb (match g t with
      | none => none
      | some (Sum.inl s') => lpN g n s'
      | some (Sum.inr b) => some b)
    rw [h]
    cases g t with
    | none => rfl
    | some z => cases z with
      | inl s' => exact ih s'
      | inr b => rfl
