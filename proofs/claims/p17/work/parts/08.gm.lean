/-! the book of new cells -/
def nsl (n : Nat) (H : Heap) : Nat := ((H.toList.drop n).map (·.slots.size)).sum
/-- from H0 to H: so many cells of so many slots are new; the old ones keep their sizes -/
def Led (H0 H : Heap) (cells slots : Nat) : Prop := H.size ≤ H0.size + cells ∧ nsl H0.size H ≤ slots ∧ H0.size ≤ H.size ∧ ∀ (a : Nat) (c : Cell), H0[a]? = some c → ∃ c' : Cell, H[a]? = some c' ∧ c'.slots.size = c.slots.size
section BOOK
variable {p : Program} {l : Launch} {e : Env} {R : Room} {s : State} {m : MethodId} {args : Array Value} {below : List Frame} {meth : Method} {c : Code} {H : Heap} {locs : List Loc} {cells slots : Nat} {Q : State → Prop} {g : JFrame}
theorem W_tight {cells' slots' : Nat} (hc : H.size ≤ s.heap.size + cells') (hs : nsl s.heap.size H ≤ slots') (k : W p l e R s m args below meth c H locs cells' slots' Q g) : W p l e R s m args below meth c H locs cells slots Q g := by
  intro T hT X
  obtain ⟨h1, h2, h3, h4, h5, h6⟩ := X.same
  refine k T hT ⟨X.admits, X.cas, X.clock, X.frames, X.room, X.hears, X.method, X.code, X.here, X.tail, X.warmed, X.limits, X.bytes, h1, h2, ?_, h4, ?_, h6⟩
  · show T.heap.size ≤ _
    rw [hT]
    exact hc
  · show nsl s.heap.size T.heap ≤ _
    rw [hT]
    exact hs
theorem W_led (k : Led s.heap H cells slots → W p l e R s m args below meth c H locs cells slots Q g) : W p l e R s m args below meth c H locs cells slots Q g := by
  intro T hT X
  obtain ⟨h1, h2, h3, h4, h5, h6⟩ := X.same
  refine k ⟨?_, ?_, ?_, fun a cc ha => ?_⟩ T hT X
  · rw [← hT]; exact h3
  · rw [← hT]; exact h5
  · rw [← hT]; exact h2
  · obtain ⟨c', q1, q2, q3, q4⟩ := h6 a cc ha
    exact ⟨c', by rw [← hT]; exact q1, q3⟩
end BOOK
theorem nsl_split {n k : Nat} {H : Heap} (h : n ≤ k) : nsl n H = (((H.toList.drop n).take (k - n)).map (·.slots.size)).sum + nsl k H := by
  unfold nsl
  rw [← List.sum_append, ← List.map_append]
  congr 2
  have : H.toList.drop k = (H.toList.drop n).drop (k - n) := by rw [List.drop_drop]; congr 1; omega
  rw [this, List.take_append_drop]
/-- one way behind another -/
theorem Led.tr {H0 H H1 : Heap} {a b x y : Nat} (h : Led H0 H a b) (h' : Led H H1 x y) : Led H0 H1 (a + x) (b + y) := by
  obtain ⟨p1, p2, p3, p4⟩ := h
  obtain ⟨q1, q2, q3, q4⟩ := h'
  refine ⟨by omega, ?_, by omega, fun i c hi => ?_⟩
  · rw [nsl_split (k := H.size) p3]
    have e : (((H1.toList.drop H0.size).take (H.size - H0.size)).map (·.slots.size)) = ((H.toList.drop H0.size).map (·.slots.size)) := by
      apply List.ext_getElem?
      intro j
      rw [List.getElem?_map, List.getElem?_map, List.getElem?_take, List.getElem?_drop, List.getElem?_drop]
      by_cases hj : j < H.size - H0.size
      · rw [if_pos hj]
        have hl : H0.size + j < H.size := by omega
        obtain ⟨c', r1, r2⟩ := q4 (H0.size + j) H[H0.size + j] (Array.getElem?_eq_getElem hl)
        have r1' : H1.toList[H0.size + j]? = some c' := by rw [Array.getElem?_toList]; exact r1
        have r0 : H.toList[H0.size + j]? = some H[H0.size + j] := by rw [Array.getElem?_toList]; exact Array.getElem?_eq_getElem hl
        rw [r1', r0]
        simp [r2]
      · rw [if_neg hj]
        have r0 : H.toList[H0.size + j]? = none := by
          rw [Array.getElem?_toList]
          exact Array.getElem?_eq_none (by omega)
        rw [r0]
    rw [e]
    show nsl H0.size H + _ ≤ _
    omega
  · obtain ⟨c1, r1, r2⟩ := p4 i c hi
    obtain ⟨c2, r3, r4⟩ := q4 i c1 r1
    exact ⟨c2, r3, r4.trans r2⟩
