theorem pf_b0 : (0 : Int32) &&& 1 = 0 := by decide
theorem pf_b1 : (1 : Int32) &&& 1 = 1 := by decide
/-! the worlds of this claim: one list of array classes, the nest mates' words, contracts over a fixed list of cells -/
abbrev hbT (cI cJ cZ cS : ClassId) : List (ClassId × FieldType) := [(cI, .int), (cJ, .long), (cZ, .boolean), (cS, .object "FieldsByClasses$Shelf")]
def hbNl : List (String × Nat × MethodName) := [(RX7, 9, yX4_init), (RX7, 22, yX2_init), (RX7, 29, yX0_init), (RX7, 36, yX1_init), (RX7, 43, yX5_init), (RX1, 11, yX0_init), (RX1, 64, yX7_isDegree), (RX5, 40, yX7_isDegree), (RX5, 36, yX7_isM)]
def hbN (U : State) : Prop := ∀ q ∈ hbNl, va_Nw (.methodLinkNest q.1 q.2.1 q.2.2 "FieldsByClasses") U
def hbK (G : va_G) (T : List (ClassId × FieldType)) (U : State) : Prop := va_K G vwCl T U ∧ hbN U ∧ va_AO RX4 U
theorem hbK.warm {G : va_G} {T : List (ClassId × FieldType)} {s U : State} (h : hbK G T s) (hW : s.WarmedH U.vm) : hbK G T U := ⟨va_K.moved hW.alike h.1, fun q hq => va_Nw.warmM hW (h.2.1 q hq), va_AO.moved hW.alike h.2.2⟩
theorem hbK.same {G : va_G} {T : List (ClassId × FieldType)} {s U : State} (h : hbK G T s) (hv : s.vm = U.vm) : hbK G T U := ⟨va_K.moved (by rw [hv]; exact Vm.Alike.refl _) h.1, fun q hq => va_Nw.same rfl hv (h.2.1 q hq), va_AO.moved (by rw [hv]; exact Vm.Alike.refl _) h.2.2⟩
def hb_pre (G : va_G) (T : List (ClassId × FieldType)) (av : List Value) (sz : Nat) (w0 : va_W) : Array Value → State → Prop := va_Pc av (fun U => U.heap.size = sz ∧ va_P G vwCl w0 U.heap ∧ hbK G T U ∧ va_D (fun _ => True) w0)
def hb_Qi (G : va_G) (v : Int32) (w1 : va_W) (A : Nat → Prop) : Array Value → State → Outcome → State → Prop := va_Qi (fun r (_ : Unit) => r = v) (fun _ t => va_P G vwCl w1 t.heap ∧ va_D A w1) A
def hb_Ql (G : va_G) (v : Int64) (w1 : va_W) (A : Nat → Prop) : Array Value → State → Outcome → State → Prop := va_Ql (fun r (_ : Unit) => r = v) (fun _ t => va_P G vwCl w1 t.heap ∧ va_D A w1) A
def hb_Qv (G : va_G) (w1 : va_W) (A : Nat → Prop) : Array Value → State → Outcome → State → Prop := va_Qv (fun (_ : Unit) => True) (fun _ t => va_P G vwCl w1 t.heap ∧ va_D A w1) A
theorem hb_met {l : Launch} {G : va_G} {T : List (ClassId × FieldType)} {y : MethodName} {ws ws' : List Cond} {rm : Room} {av : List Value} {sz : Nat} {w0 : va_W} {Qc : (Nat → Prop) → Array Value → State → Outcome → State → Prop} {mc ms : Nat} {cc : ByteArray} {maxL : Nat} {ret : Option FieldType}
    (hy : plainName y.cls = true) (hw : ws = Cond.code y cc maxL ret :: ws') (hlen : (lg_sl av).length ≤ maxL)
    (body : ∀ (p : Program) (e : Env) (s : State) (m : MethodId) (below : List Frame) (meth : Method) (c : Code) (A : Nat → Prop), p.tables.exec = Jvm.exec → c.code = cc → meth.sig.returnType = ret → (∀ w ∈ ws, w.before av.toArray s = true) → s.vm.findClass y.cls = some m.cls → meth.locks = false → c.maxLocals = maxL → meth.name = y.name →
      hbK G T s → (∀ q, s.heap.size ≤ q → A q) → va_P G vwCl w0 s.heap → va_D A w0 → va_S A s.heap s.heap [] → ∀ ls, lv_has ls maxL (lv_args 0 av) →
      W p l e (headSpec ws rm).room s m av.toArray below meth c s.heap [] 0 0 (MQ below (Qc A) av.toArray s mc ms A) (F0 m 0 ls [])) : Met l y ws rm (hb_pre G T av sz w0) (Qc (va_A w0 sz)) mc ms (va_A w0 sz) := by
  refine Met.ofW (cc := cc) (maxL := maxL) (ret := ret) hy hw ?_
  intro p e s m args below meth c s₁ B hml hv
  obtain ⟨rfl, hsz, hP, hK, hD0⟩ := hv
  subst hsz
  have hD := hD0.self (sz := s.heap.size)
  have hl := lv_entry av (n := maxL) hlen
  rw [lg_entry_eq]
  exact body p e s m below meth c _ B.exec B.bytes B.returns (atoms_spec (ws := ws) B.pre) (findClass_of_methodNamed B.named) B.notSynchronized hml (name_of_methodNamed B.named B.method).1 hK (fun q h => Or.inr h) hP hD va_S.rf _ hl
section HB
variable {p : Program} {l : Launch} {e : Env} {R : Room} {s : State} {m : MethodId} {args : Array Value} {below : List Frame} {meth : Method} {c : Code} {H : Heap} {locs : List Loc} {cells slots : Nat} {Q : State → Prop}
variable {cc : ByteArray} {pc : Nat} {ls : Array Slot} {rest : List Value} {G : va_G} {T : List (ClassId × FieldType)} {A : Nat → Prop}
theorem hb_runV {y : MethodName} {wsy Ts : List Cond} {rm : Room} {bytes : ByteArray} {maxL n nL index mc ms ci N0 : Nat} {ret : Option FieldType} {own C : String} {b : Nat} {As st fs : List Value} {wc : va_W} {T0 : u_T} {Qc : Array Value → State → Outcome → State → Prop} {free : Addr → Prop}
    (S : CallFix p m c cc nL s args Ts own) (hM : Met l y wsy rm (hb_pre G T (.ref b :: As) H.size wc) Qc mc ms free) (cw : CallW R s args own C index y bytes maxL ret wsy rm mc ms n) (hK : hbK G T s) (hPc : va_P G vwCl wc H) (hDc : va_D A wc)
    (hrecv : wc[0]? = some (b, .inr (ci, fs))) (hcl : vwCl[ci]? = some (C, T0, N0)) (hn : As.length = n) (hsz : ls.size = nL) (hst : st = As.reverse ++ .ref b :: rest) (hW : (rest.map fun v => v.category).sum ≤ 8) (hdg : decode cc pc = .ok (.invokevirtual index, 3)) (hf : cells + mc ≤ R.cells ∧ slots + ms ≤ R.slots) :
    va_Run p l e R s m args below meth c H locs cells slots mc ms (F0 m pc ls st) rest (Qc (Value.ref b :: As).toArray) free :=
  va_runV S hM cw ⟨fun a U g mk q => by obtain ⟨q0, q1, qP, qK, qD⟩ := q; exact ⟨q0, q1, qP, qK.same rfl, qD⟩, va_recv hK.1 hPc (ci := ci) (q0 := 0) hcl hrecv, fun U hU hW => ⟨rfl, by rw [hU], by rw [hU]; exact hPc, hK.warm hW, hDc.weaken (fun _ _ _ _ => trivial)⟩⟩ rfl hn hsz hst (lv_room hW) hdg hf
theorem hb_calli {mc ms : Nat} {st0 : List Value} {a : Array Value} {v : Int32} {ws wc wr w1 w2 : va_W} (run : va_Run p l e R s m args below meth c H locs cells slots mc ms (F0 m pc ls st0) rest (hb_Qi G v w1 (va_A wc H.size) a) (va_A wc H.size))
    (hP : va_P G vwCl ws H) (hD : va_D A ws) (hS : va_S A s.heap H locs) (hA : ∀ q, s.heap.size ≤ q → A q) (isC isR is2 : List Nat) (hC : isC.map (fun i => ws[i]?) = wc.map some) (hR : isR.map (fun i => ws[i]?) = wr.map some) (hn : va_nd isR = true) (hdis : ∀ i ∈ isR, i ∉ isC) (hn2 : va_nd is2 = true) (hs2 : is2.map (fun i => (wr ++ w1)[i]?) = w2.map some) (hs3 : is2.filterMap (fun i => (wr ++ w1)[i]?) = w2)
    (kk : ∀ (H1 : Heap) (locs1 : List Loc), va_P G vwCl w2 H1 → va_D A w2 → va_S A s.heap H1 locs1 → W p l e R s m args below meth c H1 locs1 (cells + mc) (slots + ms) Q (F0 m (pc + 3) ls (.int v :: rest))) : W p l e R s m args below meth c H locs cells slots Q (F0 m pc ls st0) := by
  have hFc := va_free (wc := wc) hD hS hA isC hC
  refine va_calli run hS (fun q _ h => hFc q h) hFc (fun r u t H1 locs1 ht hvm hw hB hz1 hk1 hS1 => ?_)
  obtain ⟨hP1, hD1⟩ := hB
  rw [ht] at hP1
  subst hw
  obtain ⟨hP2, hD2⟩ := va_join (wr := wr) (w1 := w1) hP hD isC isR hC hR hn hdis hk1 hFc hP1 hD1
  exact kk H1 locs1 (hP2.sub is2 hs3) (hD2.sub is2 hn2 hs2) hS1
theorem hb_calll {mc ms : Nat} {st0 : List Value} {a : Array Value} {v : Int64} {ws wc wr w1 w2 : va_W} (run : va_Run p l e R s m args below meth c H locs cells slots mc ms (F0 m pc ls st0) rest (hb_Ql G v w1 (va_A wc H.size) a) (va_A wc H.size))
    (hP : va_P G vwCl ws H) (hD : va_D A ws) (hS : va_S A s.heap H locs) (hA : ∀ q, s.heap.size ≤ q → A q) (isC isR is2 : List Nat) (hC : isC.map (fun i => ws[i]?) = wc.map some) (hR : isR.map (fun i => ws[i]?) = wr.map some) (hn : va_nd isR = true) (hdis : ∀ i ∈ isR, i ∉ isC) (hn2 : va_nd is2 = true) (hs2 : is2.map (fun i => (wr ++ w1)[i]?) = w2.map some) (hs3 : is2.filterMap (fun i => (wr ++ w1)[i]?) = w2)
    (kk : ∀ (H1 : Heap) (locs1 : List Loc), va_P G vwCl w2 H1 → va_D A w2 → va_S A s.heap H1 locs1 → W p l e R s m args below meth c H1 locs1 (cells + mc) (slots + ms) Q (F0 m (pc + 3) ls (.long v :: rest))) : W p l e R s m args below meth c H locs cells slots Q (F0 m pc ls st0) := by
  have hFc := va_free (wc := wc) hD hS hA isC hC
  refine va_calll run hS (fun q _ h => hFc q h) hFc (fun r u t H1 locs1 ht hvm hw hB hz1 hk1 hS1 => ?_)
  obtain ⟨hP1, hD1⟩ := hB
  rw [ht] at hP1
  subst hw
  obtain ⟨hP2, hD2⟩ := va_join (wr := wr) (w1 := w1) hP hD isC isR hC hR hn hdis hk1 hFc hP1 hD1
  exact kk H1 locs1 (hP2.sub is2 hs3) (hD2.sub is2 hn2 hs2) hS1
theorem hb_callv {mc ms : Nat} {st0 : List Value} {a : Array Value} {ws wc wr w1 w2 : va_W} (run : va_Run p l e R s m args below meth c H locs cells slots mc ms (F0 m pc ls st0) rest (hb_Qv G w1 (va_A wc H.size) a) (va_A wc H.size))
    (hP : va_P G vwCl ws H) (hD : va_D A ws) (hS : va_S A s.heap H locs) (hA : ∀ q, s.heap.size ≤ q → A q) (isC isR is2 : List Nat) (hC : isC.map (fun i => ws[i]?) = wc.map some) (hR : isR.map (fun i => ws[i]?) = wr.map some) (hn : va_nd isR = true) (hdis : ∀ i ∈ isR, i ∉ isC) (hn2 : va_nd is2 = true) (hs2 : is2.map (fun i => (wr ++ w1)[i]?) = w2.map some) (hs3 : is2.filterMap (fun i => (wr ++ w1)[i]?) = w2)
    (kk : ∀ (H1 : Heap) (locs1 : List Loc), va_P G vwCl w2 H1 → va_D A w2 → va_S A s.heap H1 locs1 → W p l e R s m args below meth c H1 locs1 (cells + mc) (slots + ms) Q (F0 m (pc + 3) ls rest)) : W p l e R s m args below meth c H locs cells slots Q (F0 m pc ls st0) := by
  have hFc := va_free (wc := wc) hD hS hA isC hC
  refine va_callv run hS (fun q _ h => hFc q h) hFc (fun u t H1 locs1 ht hvm hw hB hz1 hk1 hS1 => ?_)
  obtain ⟨hP1, hD1⟩ := hB
  rw [ht] at hP1
  obtain ⟨hP2, hD2⟩ := va_join (wr := wr) (w1 := w1) hP hD isC isR hC hR hn hdis hk1 hFc hP1 hD1
  exact kk H1 locs1 (hP2.sub is2 hs3) (hD2.sub is2 hn2 hs2) hS1
theorem hb_iret {v : Int32} {w1 : va_W} (hexec : p.tables.exec = Jvm.exec) (hb : c.code = cc) (hr : meth.sig.returnType = some .int) (hlocks : meth.locks = false) (hP : va_P G vwCl w1 H) (hD : va_D A w1) (hS : va_S A s.heap H locs) (hdg : decode cc pc = .ok (.ireturn, 1)) :
    W p l e R s m args below meth c H locs cells slots (MQ below (hb_Qi G v w1 A) args s cells slots A) (F0 m pc ls [.int v]) :=
  W.iret (v := v) hexec hb hr (fun t ht _ => ⟨⟨v, (), rfl, rfl, by rw [ht]; exact hP, hD⟩, hS.F ht⟩) hS.2.2 hdg hlocks
theorem hb_zret {v : Int32} {w1 : va_W} (hexec : p.tables.exec = Jvm.exec) (hb : c.code = cc) (hr : meth.sig.returnType = some .boolean) (hlocks : meth.locks = false) (hn : v &&& 1 = v) (hP : va_P G vwCl w1 H) (hD : va_D A w1) (hS : va_S A s.heap H locs) (hdg : decode cc pc = .ok (.ireturn, 1)) :
    W p l e R s m args below meth c H locs cells slots (MQ below (hb_Qi G v w1 A) args s cells slots A) (F0 m pc ls [.int v]) :=
  W.zret (v := v) hexec hb hr (pf_nb hn) (fun t ht _ => ⟨⟨v, (), rfl, rfl, by rw [ht]; exact hP, hD⟩, hS.F ht⟩) hS.2.2 hdg hlocks
theorem hb_lret {v : Int64} {w1 : va_W} (hexec : p.tables.exec = Jvm.exec) (hb : c.code = cc) (hr : meth.sig.returnType = some .long) (hlocks : meth.locks = false) (hP : va_P G vwCl w1 H) (hD : va_D A w1) (hS : va_S A s.heap H locs) (hdg : decode cc pc = .ok (.lreturn, 1)) :
    W p l e R s m args below meth c H locs cells slots (MQ below (hb_Ql G v w1 A) args s cells slots A) (F0 m pc ls [.long v]) :=
  W.lret (v := v) hexec hb hr (fun t ht _ => ⟨⟨v, (), rfl, rfl, by rw [ht]; exact hP, hD⟩, hS.F ht⟩) hS.2.2 hdg hlocks
theorem hb_vret {w1 : va_W} (hexec : p.tables.exec = Jvm.exec) (hb : c.code = cc) (hr : meth.sig.returnType = none) (hlocks : meth.locks = false) (hP : va_P G vwCl w1 H) (hD : va_D A w1) (hS : va_S A s.heap H locs) (hdg : decode cc pc = .ok (.return_, 1)) :
    W p l e R s m args below meth c H locs cells slots (MQ below (hb_Qv G w1 A) args s cells slots A) (F0 m pc ls []) :=
  W.vret hexec hb hr (fun t ht _ => ⟨⟨(), rfl, trivial, by rw [ht]; exact hP, hD⟩, hS.F ht⟩) hS.2.2 hdg hlocks
theorem pf_eqi {x w : Int32} (h : x = w) (k : W p l e R s m args below meth c H locs cells slots Q (F0 m pc ls (.int w :: rest))) : W p l e R s m args below meth c H locs cells slots Q (F0 m pc ls (.int x :: rest)) := by
  rw [h]; exact k
/-- a call of a nest mate's private static method that answers r and changes nothing -/
theorem pf_callN {y : MethodName} {ws Ts : List Cond} {rm : Room} {bytes : ByteArray} {maxL n nL index : Nat} {ret : Option FieldType} {own host : String} {As st : List Value} {r : Value}
    (S : CallFix p m c cc nL s args Ts own) (hM : Met l y ws rm (fun v _ => v = As.toArray) (k2_QcV r) 0 0 (fun _ => False)) (cw : va_CN R s args own index y host bytes maxL ret ws rm 0 0 n ∧ (Cond.static y).before args s = true ∧ True)
    (hn : As.length = n) (hsz : ls.size = nL) (hst : st = As.reverse ++ rest) (hW : (rest.map fun v => v.category).sum ≤ 8) (hdg : decode cc pc = .ok (.invokestatic index, 3)) (hf : cells ≤ R.cells ∧ slots ≤ R.slots)
    (kk : W p l e R s m args below meth c H locs cells slots Q (F0 m (pc + 3) ls (r :: rest))) : W p l e R s m args below meth c H locs cells slots Q (F0 m pc ls st) :=
  W.callV (rest := rest) (va_runSN S hM cw preEq rfl hn hsz hst (lv_room hW) hdg hf).run kk
theorem hb_newa {atype : ArrayType} {ws : va_W} {ty : FieldType} {cX : ClassId} (hexec : p.tables.exec = Jvm.exec) (hb : c.code = cc) (harr : (Cond.arrayClass (newarray.typeOf atype)).before args s = true) (hty : newarray.typeOf atype = ty) (hK : hbK G T s) (hP : va_P G vwCl ws H) (hD : va_D A ws) (hS : va_S A s.heap H locs) (hA : ∀ q, s.heap.size ≤ q → A q)
    (t0 : Nat) (ht : T[t0]? = some (cX, ty)) (hra : ∀ c1 c2, va_RA s c1 ty → va_RA s c2 ty → c1 = c2) {n : Int32} {N' : Nat} {a0 : vp_A} (ha : ∀ cA : ClassId, vp_cell cA a0 = arrV cA N' (fun _ => defaultValue ty)) (hn : ¬ n < 0) (hN : n.toNatClampNeg = N') (hbytes : N' * componentBytes ty ≤ 536870912) (hcells : cells + 1 ≤ R.cells) (hslots : slots + N' ≤ R.slots) (hdg : decode cc pc = .ok (.newarray atype, 2))
    (kk : ∀ (q : Nat) (H1 : Heap), va_P G vwCl (ws ++ [(q, .inl (cX, a0))]) H1 → va_D A (ws ++ [(q, .inl (cX, a0))]) → va_S A s.heap H1 locs → W p l e R s m args below meth c H1 locs (cells + 1) (slots + N') Q (F0 m (pc + 2) ls (.ref q :: rest))) : W p l e R s m args below meth c H locs cells slots Q (F0 m pc ls (.int n :: rest)) := by
  refine va_newa hexec hb harr hty hK.1 hP hD hS hA ha hn hN hbytes hcells hslots hdg (fun q cA H1 hK1 hP1 hD1 hS1 => ?_)
  have e : cA = cX := hra _ _ (hK1.2 T.length (cA, ty) (by simp)).2 (hK.1.2 t0 _ ht).2
  subst e
  exact kk q H1 hP1 hD1 hS1
theorem hb_newq {own C : String} {index : Nat} {ws : va_W} {cX : ClassId} (hexec : p.tables.exec = Jvm.exec) (hb : c.code = cc) (hown : s.vm.findClass own = some m.cls) (hcl : (Cond.classLink own index C).before args s = true) (hK : hbK G T s) (hP : va_P G vwCl ws H) (hD : va_D A ws) (hS : va_S A s.heap H locs) (hA : ∀ q, s.heap.size ≤ q → A q)
    (t0 : Nat) (ht : T[t0]? = some (cX, .object C)) (hC : C = RX4 := by rfl) {n : Int32} {N' : Nat} (hn : ¬ n < 0) (hN : n.toNatClampNeg = N') (hbytes : N' * 4 ≤ 536870912) (hcells : cells + 1 ≤ R.cells) (hslots : slots + N' ≤ R.slots) (hdg : decode cc pc = .ok (.anewarray index, 3))
    (kk : ∀ (q : Nat) (H1 : Heap), va_P G vwCl (ws ++ [(q, .inl (cX, N', .inr (.inr (.inr (.inr (fun _ => none))))))]) H1 → va_D A (ws ++ [(q, .inl (cX, N', .inr (.inr (.inr (.inr (fun _ => none))))))]) → va_S A s.heap H1 locs → W p l e R s m args below meth c H1 locs (cells + 1) (slots + N') Q (F0 m (pc + 3) ls (.ref q :: rest))) : W p l e R s m args below meth c H locs cells slots Q (F0 m pc ls (.int n :: rest)) := by
  subst hC
  refine va_newq hexec hb hown hcl hK.2.2 hK.1 hP hD hS hA hn hN hbytes hcells hslots hdg (fun q cA H1 hK1 hP1 hD1 hS1 => ?_)
  have e : cA = cX := by
    obtain ⟨_, _, -, -, -, h1⟩ := (hK1.2 T.length (cA, .object RX4) (by simp)).2
    obtain ⟨_, _, -, -, -, h2⟩ := (hK.1.2 t0 _ ht).2
    exact Option.some.inj (h1.symm.trans h2)
  subst e
  exact kk q H1 hP1 hD1 hS1
theorem hb_runIN {y : MethodName} {wsy Ts : List Cond} {rm : Room} {bytes : ByteArray} {maxL n nL index mc ms : Nat} {own host : String} {b : Nat} {As st : List Value} {wc : va_W} {Qc : Array Value → State → Outcome → State → Prop} {free : Addr → Prop}
    (S : CallFix p m c cc nL s args Ts own) (hM : Met l y wsy rm (hb_pre G T (.ref b :: As) H.size wc) Qc mc ms free) (cw : va_CN R s args own index y host bytes maxL none wsy rm mc ms n ∧ y.name = "<init>" ∧ (Cond.instanceMethod y).before args s = true) (hK : hbK G T s) (hPc : va_P G vwCl wc H) (hDc : va_D A wc)
    (hn : As.length = n) (hsz : ls.size = nL) (hst : st = As.reverse ++ .ref b :: rest) (hW : (rest.map fun v => v.category).sum ≤ 8) (hdg : decode cc pc = .ok (.invokespecial index, 3)) (hf : cells + mc ≤ R.cells ∧ slots + ms ≤ R.slots) :
    va_Run p l e R s m args below meth c H locs cells slots mc ms (F0 m pc ls st) rest (Qc (Value.ref b :: As).toArray) free :=
  va_runIN S hM cw ⟨fun a U g mk q => by obtain ⟨q0, q1, qP, qK, qD⟩ := q; exact ⟨q0, q1, qP, qK.same rfl, qD⟩, fun U hU hW => ⟨rfl, by rw [hU], by rw [hU]; exact hPc, hK.warm hW, hDc.weaken (fun _ _ _ _ => trivial)⟩⟩ rfl hn hsz hst (lv_room hW) hdg hf
theorem hb_runI {y : MethodName} {wsy Ts : List Cond} {rm : Room} {bytes : ByteArray} {maxL n nL index mc ms : Nat} {own : String} {b : Nat} {As st : List Value} {wc : va_W} {Qc : Array Value → State → Outcome → State → Prop} {free : Addr → Prop}
    (S : CallFix p m c cc nL s args Ts own) (hM : Met l y wsy rm (hb_pre G T (.ref b :: As) H.size wc) Qc mc ms free) (cw : CallB R s args own index y bytes maxL none wsy rm mc ms n ∧ y.name = "<init>" ∧ (Cond.instanceMethod y).before args s = true) (hK : hbK G T s) (hPc : va_P G vwCl wc H) (hDc : va_D A wc)
    (hn : As.length = n) (hsz : ls.size = nL) (hst : st = As.reverse ++ .ref b :: rest) (hW : (rest.map fun v => v.category).sum ≤ 8) (hdg : decode cc pc = .ok (.invokespecial index, 3)) (hf : cells + mc ≤ R.cells ∧ slots + ms ≤ R.slots) :
    va_Run p l e R s m args below meth c H locs cells slots mc ms (F0 m pc ls st) rest (Qc (Value.ref b :: As).toArray) free :=
  va_runI S hM cw ⟨fun a U g mk q => by obtain ⟨q0, q1, qP, qK, qD⟩ := q; exact ⟨q0, q1, qP, qK.same rfl, qD⟩, fun U hU hW => ⟨rfl, by rw [hU], by rw [hU]; exact hPc, hK.warm hW, hDc.weaken (fun _ _ _ _ => trivial)⟩⟩ rfl hn hsz hst (lv_room hW) hdg hf
theorem hb_callI {mc ms : Nat} {S : Type} {w1 : S → va_W} {st0 : List Value} {a : Array Value} {ws wc wr : va_W} (run : va_Run p l e R s m args below meth c H locs cells slots mc ms (F0 m pc ls st0) rest (va_Qv (fun _ : S => True) (fun u t => va_P G vwCl (w1 u) t.heap ∧ va_D (va_A wc H.size) (w1 u)) (va_A wc H.size) a) (va_A wc H.size))
    (hP : va_P G vwCl ws H) (hD : va_D A ws) (hS : va_S A s.heap H locs) (hA : ∀ q, s.heap.size ≤ q → A q) (isC isR : List Nat) (hC : isC.map (fun i => ws[i]?) = wc.map some) (hR : isR.map (fun i => ws[i]?) = wr.map some) (hn : va_nd isR = true) (hdis : ∀ i ∈ isR, i ∉ isC)
    (kk : ∀ (u : S) (H1 : Heap) (locs1 : List Loc), va_P G vwCl (wr ++ w1 u) H1 → va_D A (wr ++ w1 u) → va_S A s.heap H1 locs1 → W p l e R s m args below meth c H1 locs1 (cells + mc) (slots + ms) Q (F0 m (pc + 3) ls rest)) : W p l e R s m args below meth c H locs cells slots Q (F0 m pc ls st0) := by
  have hFc := va_free (wc := wc) hD hS hA isC hC
  refine va_callv run hS (fun q _ h => hFc q h) hFc (fun u t H1 locs1 ht hvm hw hB hz1 hk1 hS1 => ?_)
  obtain ⟨hP1, hD1⟩ := hB
  rw [ht] at hP1
  obtain ⟨hP2, hD2⟩ := va_join (wr := wr) (w1 := w1 u) hP hD isC isR hC hR hn hdis hk1 hFc hP1 hD1
  exact kk u H1 locs1 hP2 hD2 hS1
end HB
