/-! calls in a world that has a tail of cells which the callee does not touch -/
theorem hx_left {ws X : va_W} {k : Nat} {q : Nat × va_E} (h : ws[k]? = some q) : (ws ++ X)[k]? = some q := by
  have hl : k < ws.length := (List.getElem?_eq_some_iff.mp h).1
  rw [List.getElem?_append_left hl]; exact h
theorem hx_right {ws X : va_W} {k : Nat} {q : Nat × va_E} (h : X[k]? = some q) : (ws ++ X)[ws.length + k]? = some q := by
  rw [List.getElem?_append_right (Nat.le_add_right _ _), Nat.add_sub_cancel_left]; exact h
theorem hx_P {G : va_G} {ws X : va_W} {H : Heap} (h : va_P G vwCl (ws ++ X) H) : va_P G vwCl ws H ∧ va_P G vwCl X H := ⟨fun k q hk => h k q (hx_left hk), fun k q hk => h _ q (hx_right hk)⟩
theorem hx_D {A : Nat → Prop} {ws X : va_W} (h : va_D A (ws ++ X)) : va_D A ws ∧ va_D A X ∧ ∀ (i j : Nat) (p q : Nat × va_E), ws[i]? = some p → X[j]? = some q → p.1 ≠ q.1 := by
  refine ⟨⟨fun i j p q hi hj e => h.1 i j p q (hx_left hi) (hx_left hj) e, fun k q hk => h.2 k q (hx_left hk)⟩, ⟨fun i j p q hi hj e => ?_, fun k q hk => h.2 _ q (hx_right hk)⟩, fun i j p q hi hj e => ?_⟩
  · have := h.1 _ _ p q (hx_right hi) (hx_right hj) e
    omega
  · have := h.1 _ _ p q (hx_left hi) (hx_right hj) e
    have hl : i < ws.length := (List.getElem?_eq_some_iff.mp hi).1
    omega
theorem hx_map {ws w : va_W} {is : List Nat} (hs : is.map (fun i => ws[i]?) = w.map some) {k : Nat} {q : Nat × va_E} (hq : w[k]? = some q) : ∃ i : Nat, ws[i]? = some q := by
  have h1 : (is.map (fun i => ws[i]?))[k]? = some (some q) := by rw [hs, List.getElem?_map, hq]; rfl
  rw [List.getElem?_map] at h1
  cases hi : is[k]? with
  | none => rw [hi] at h1; cases h1
  | some i => rw [hi] at h1; exact ⟨i, Option.some.inj h1⟩
theorem hx_join {G : va_G} {A : Nat → Prop} {ws wc wr w1 w2 X : va_W} {H H1 : Heap} (hP : va_P G vwCl (ws ++ X) H) (hD : va_D A (ws ++ X)) (isC isR is2 : List Nat) (hC : isC.map (fun i => ws[i]?) = wc.map some) (hR : isR.map (fun i => ws[i]?) = wr.map some) (hn : va_nd isR = true) (hdis : ∀ i ∈ isR, i ∉ isC) (hn2 : va_nd is2 = true) (hs2 : is2.map (fun i => (wr ++ w1)[i]?) = w2.map some) (hs3 : is2.filterMap (fun i => (wr ++ w1)[i]?) = w2)
    (hk : ∀ q : Nat, q < H.size → ¬ va_A wc H.size q → H1[q]? = H[q]?) (hF : ∀ q, va_A wc H.size q → A q) (hP1 : va_P G vwCl w1 H1) (hD1 : va_D (va_A wc H.size) w1) : va_P G vwCl (w2 ++ X) H1 ∧ va_D A (w2 ++ X) := by
  obtain ⟨hP0, hPX⟩ := hx_P hP
  obtain ⟨hD0, hDX, hx⟩ := hx_D hD
  have apart : ∀ (k : Nat) (q : Nat × va_E), X[k]? = some q → q.1 < H.size ∧ ¬ va_A wc H.size q.1 := by
    intro k q hq
    have hl := (hPX k q hq).lt
    refine ⟨hl, fun h => ?_⟩
    rcases h with ⟨k2, e, h⟩ | h
    · obtain ⟨i, hi⟩ := hx_map hC h
      exact hx i k _ q hi hq rfl
    · omega
  obtain ⟨hP2, hD2⟩ := va_join (wr := wr) (w1 := w1) hP0 hD0 isC isR hC hR hn hdis hk hF hP1 hD1
  refine ⟨va_P.app (hP2.sub is2 hs3) (fun k q hq => ?_), va_D.app (hD2.sub is2 hn2 hs2) hDX (fun i j x y hi hj e => ?_)⟩
  · obtain ⟨g1, g2⟩ := apart k q hq
    exact (hPX k q hq).kept (hk q.1 g1 g2)
  · obtain ⟨a, ha⟩ := hx_map hs2 hi
    obtain ⟨g1, g2⟩ := apart j y hj
    rcases Nat.lt_or_ge a wr.length with hl | hl
    · rw [List.getElem?_append_left hl] at ha
      obtain ⟨b, hb⟩ := hx_map hR ha
      exact hx b j x y hb hj e
    · rw [List.getElem?_append_right hl] at ha
      exact g2 (by rw [← e]; exact hD1.2 _ x ha)
/-- a callee's cells, of a world with a tail -/
theorem hx_subP {G : va_G} {ws X wc : va_W} {H : Heap} (hP : va_P G vwCl (ws ++ X) H) (isC : List Nat) (hs : isC.filterMap (fun i => ws[i]?) = wc) : va_P G vwCl wc H := (hx_P hP).1.sub isC hs
theorem hx_subD {A : Nat → Prop} {ws X wc : va_W} (hD : va_D A (ws ++ X)) (isC : List Nat) (hn : va_nd isC = true) (hs : isC.map (fun i => ws[i]?) = wc.map some) : va_D A wc := (hx_D hD).1.sub isC hn hs
section HX
variable {p : Program} {l : Launch} {e : Env} {R : Room} {s : State} {m : MethodId} {args : Array Value} {below : List Frame} {meth : Method} {c : Code} {H : Heap} {locs : List Loc} {cells slots : Nat} {Q : State → Prop}
variable {cc : ByteArray} {pc : Nat} {ls : Array Slot} {rest : List Value} {G : va_G} {T : List (ClassId × FieldType)} {A : Nat → Prop}
theorem hx_calli {mc ms : Nat} {st0 : List Value} {a : Array Value} {v : Int32} {ws wc wr w1 w2 X : va_W} (run : va_Run p l e R s m args below meth c H locs cells slots mc ms (F0 m pc ls st0) rest (hb_Qi G v w1 (va_A wc H.size) a) (va_A wc H.size))
    (hP : va_P G vwCl (ws ++ X) H) (hD : va_D A (ws ++ X)) (hS : va_S A s.heap H locs) (hA : ∀ q, s.heap.size ≤ q → A q) (isC isR is2 : List Nat) (hC : isC.map (fun i => ws[i]?) = wc.map some) (hR : isR.map (fun i => ws[i]?) = wr.map some) (hn : va_nd isR = true) (hdis : ∀ i ∈ isR, i ∉ isC) (hn2 : va_nd is2 = true) (hs2 : is2.map (fun i => (wr ++ w1)[i]?) = w2.map some) (hs3 : is2.filterMap (fun i => (wr ++ w1)[i]?) = w2)
    (kk : ∀ (H1 : Heap) (locs1 : List Loc), va_P G vwCl (w2 ++ X) H1 → va_D A (w2 ++ X) → va_S A s.heap H1 locs1 → W p l e R s m args below meth c H1 locs1 (cells + mc) (slots + ms) Q (F0 m (pc + 3) ls (.int v :: rest))) : W p l e R s m args below meth c H locs cells slots Q (F0 m pc ls st0) := by
  have hFc := va_free (wc := wc) (hx_D hD).1 hS hA isC hC
  refine va_calli run hS (fun q _ h => hFc q h) hFc (fun r u t H1 locs1 ht hvm hw hB hz1 hk1 hS1 => ?_)
  obtain ⟨hP1, hD1⟩ := hB
  rw [ht] at hP1
  subst hw
  obtain ⟨hP2, hD2⟩ := hx_join hP hD isC isR is2 hC hR hn hdis hn2 hs2 hs3 hk1 hFc hP1 hD1
  exact kk H1 locs1 hP2 hD2 hS1
theorem hx_calll {mc ms : Nat} {st0 : List Value} {a : Array Value} {v : Int64} {ws wc wr w1 w2 X : va_W} (run : va_Run p l e R s m args below meth c H locs cells slots mc ms (F0 m pc ls st0) rest (hb_Ql G v w1 (va_A wc H.size) a) (va_A wc H.size))
    (hP : va_P G vwCl (ws ++ X) H) (hD : va_D A (ws ++ X)) (hS : va_S A s.heap H locs) (hA : ∀ q, s.heap.size ≤ q → A q) (isC isR is2 : List Nat) (hC : isC.map (fun i => ws[i]?) = wc.map some) (hR : isR.map (fun i => ws[i]?) = wr.map some) (hn : va_nd isR = true) (hdis : ∀ i ∈ isR, i ∉ isC) (hn2 : va_nd is2 = true) (hs2 : is2.map (fun i => (wr ++ w1)[i]?) = w2.map some) (hs3 : is2.filterMap (fun i => (wr ++ w1)[i]?) = w2)
    (kk : ∀ (H1 : Heap) (locs1 : List Loc), va_P G vwCl (w2 ++ X) H1 → va_D A (w2 ++ X) → va_S A s.heap H1 locs1 → W p l e R s m args below meth c H1 locs1 (cells + mc) (slots + ms) Q (F0 m (pc + 3) ls (.long v :: rest))) : W p l e R s m args below meth c H locs cells slots Q (F0 m pc ls st0) := by
  have hFc := va_free (wc := wc) (hx_D hD).1 hS hA isC hC
  refine va_calll run hS (fun q _ h => hFc q h) hFc (fun r u t H1 locs1 ht hvm hw hB hz1 hk1 hS1 => ?_)
  obtain ⟨hP1, hD1⟩ := hB
  rw [ht] at hP1
  subst hw
  obtain ⟨hP2, hD2⟩ := hx_join hP hD isC isR is2 hC hR hn hdis hn2 hs2 hs3 hk1 hFc hP1 hD1
  exact kk H1 locs1 hP2 hD2 hS1
theorem hx_callv {mc ms : Nat} {st0 : List Value} {a : Array Value} {ws wc wr w1 w2 X : va_W} (run : va_Run p l e R s m args below meth c H locs cells slots mc ms (F0 m pc ls st0) rest (hb_Qv G w1 (va_A wc H.size) a) (va_A wc H.size))
    (hP : va_P G vwCl (ws ++ X) H) (hD : va_D A (ws ++ X)) (hS : va_S A s.heap H locs) (hA : ∀ q, s.heap.size ≤ q → A q) (isC isR is2 : List Nat) (hC : isC.map (fun i => ws[i]?) = wc.map some) (hR : isR.map (fun i => ws[i]?) = wr.map some) (hn : va_nd isR = true) (hdis : ∀ i ∈ isR, i ∉ isC) (hn2 : va_nd is2 = true) (hs2 : is2.map (fun i => (wr ++ w1)[i]?) = w2.map some) (hs3 : is2.filterMap (fun i => (wr ++ w1)[i]?) = w2)
    (kk : ∀ (H1 : Heap) (locs1 : List Loc), va_P G vwCl (w2 ++ X) H1 → va_D A (w2 ++ X) → va_S A s.heap H1 locs1 → W p l e R s m args below meth c H1 locs1 (cells + mc) (slots + ms) Q (F0 m (pc + 3) ls rest)) : W p l e R s m args below meth c H locs cells slots Q (F0 m pc ls st0) := by
  have hFc := va_free (wc := wc) (hx_D hD).1 hS hA isC hC
  refine va_callv run hS (fun q _ h => hFc q h) hFc (fun u t H1 locs1 ht hvm hw hB hz1 hk1 hS1 => ?_)
  obtain ⟨hP1, hD1⟩ := hB
  rw [ht] at hP1
  obtain ⟨hP2, hD2⟩ := hx_join hP hD isC isR is2 hC hR hn hdis hn2 hs2 hs3 hk1 hFc hP1 hD1
  exact kk H1 locs1 hP2 hD2 hS1
/-- .. whose end names new cells -/
theorem hx_callu {mc ms : Nat} {S : Type} {v : Int32} {w1 w2 : S → va_W} {st0 : List Value} {a : Array Value} {ws wc wr X : va_W} (run : va_Run p l e R s m args below meth c H locs cells slots mc ms (F0 m pc ls st0) rest (va_Qi (fun r (_ : S) => r = v) (fun u t => va_P G vwCl (w1 u) t.heap ∧ va_D (va_A wc H.size) (w1 u)) (va_A wc H.size) a) (va_A wc H.size))
    (hP : va_P G vwCl (ws ++ X) H) (hD : va_D A (ws ++ X)) (hS : va_S A s.heap H locs) (hA : ∀ q, s.heap.size ≤ q → A q) (isC isR is2 : List Nat) (hC : isC.map (fun i => ws[i]?) = wc.map some) (hR : isR.map (fun i => ws[i]?) = wr.map some) (hn : va_nd isR = true) (hdis : ∀ i ∈ isR, i ∉ isC) (hn2 : va_nd is2 = true) (hs2 : ∀ u, is2.map (fun i => (wr ++ w1 u)[i]?) = (w2 u).map some) (hs3 : ∀ u, is2.filterMap (fun i => (wr ++ w1 u)[i]?) = w2 u)
    (kk : ∀ (u : S) (H1 : Heap) (locs1 : List Loc), va_P G vwCl (w2 u ++ X) H1 → va_D A (w2 u ++ X) → va_S A s.heap H1 locs1 → W p l e R s m args below meth c H1 locs1 (cells + mc) (slots + ms) Q (F0 m (pc + 3) ls (.int v :: rest))) : W p l e R s m args below meth c H locs cells slots Q (F0 m pc ls st0) := by
  have hFc := va_free (wc := wc) (hx_D hD).1 hS hA isC hC
  refine va_calli run hS (fun q _ h => hFc q h) hFc (fun r u t H1 locs1 ht hvm hw hB hz1 hk1 hS1 => ?_)
  obtain ⟨hP1, hD1⟩ := hB
  rw [ht] at hP1
  subst hw
  obtain ⟨hP2, hD2⟩ := hx_join hP hD isC isR is2 hC hR hn hdis hn2 (hs2 u) (hs3 u) hk1 hFc hP1 hD1
  exact kk u H1 locs1 hP2 hD2 hS1
end HX
/-! the tail turned: cells of a piece brought to the front -/
theorem hx_Pm {G : va_G} {ws X : va_W} {H : Heap} (h : va_P G vwCl ws H) (hm : ∀ q, q ∈ X → q ∈ ws) : va_P G vwCl X H := fun k q hk => by
  obtain ⟨i, hi⟩ := List.getElem?_of_mem (hm q (List.mem_of_getElem? hk))
  exact h i q hi
theorem hx_nodup {A : Nat → Prop} {ws : va_W} : va_D A ws ↔ (ws.map Prod.fst).Nodup ∧ ∀ q ∈ ws, A q.1 := by
  constructor
  · intro h
    refine ⟨?_, fun q hq => ?_⟩
    · rw [List.Nodup, List.pairwise_iff_getElem]
      intro i j hi hj hij e
      rw [List.length_map] at hi hj
      rw [List.getElem_map, List.getElem_map] at e
      have := h.1 i j ws[i] ws[j] (List.getElem?_eq_getElem hi) (List.getElem?_eq_getElem hj) e
      omega
    · obtain ⟨i, hi⟩ := List.getElem?_of_mem hq
      exact h.2 i q hi
  · intro ⟨h1, h2⟩
    refine ⟨fun i j p q hi hj e => ?_, fun k q hk => h2 q (List.mem_of_getElem? hk)⟩
    rw [List.Nodup, List.pairwise_iff_getElem] at h1
    obtain ⟨li, rfl⟩ := List.getElem?_eq_some_iff.mp hi
    obtain ⟨lj, rfl⟩ := List.getElem?_eq_some_iff.mp hj
    rcases Nat.lt_trichotomy i j with h | h | h
    · exact absurd (by rw [List.getElem_map, List.getElem_map]; exact e) (h1 i j (by simpa using li) (by simpa using lj) h)
    · exact h
    · exact absurd (by rw [List.getElem_map, List.getElem_map]; exact e.symm) (h1 j i (by simpa using lj) (by simpa using li) h)
theorem hx_Dp {A : Nat → Prop} {ws X : va_W} (h : va_D A ws) (hp : ws.Perm X) : va_D A X := by
  rw [hx_nodup] at h ⊢
  exact ⟨(hp.map Prod.fst).nodup_iff.mp h.1, fun q hq => h.2 q (hp.mem_iff.mpr hq)⟩
theorem hx_Pp {G : va_G} {ws X : va_W} {H : Heap} (h : va_P G vwCl ws H) (hp : ws.Perm X) : va_P G vwCl X H := hx_Pm h (fun _ hq => hp.mem_iff.mpr hq)
