/-! the book of new cells -/
def nsl (n : Nat) (H : Heap) : Nat := ((H.toList.drop n).map (·.slots.size)).sum
/-- from H0 to H: so many cells of so many slots are new; the old ones keep their sizes -/
def Led (H0 H : Heap) (cells slots : Nat) : Prop := H.size ≤ H0.size + cells ∧ nsl H0.size H ≤ slots ∧ H0.size ≤ H.size ∧ ∀ (a : Nat) (c : Cell), H0[a]? = some c → ∃ c' : Cell, H[a]? = some c' ∧ c'.slots.size = c.slots.size
section BOOK
variable {p : Program} {l : Launch} {e : Env} {R : Room} {s : State} {m : MethodId} {args : Array Value} {below : List Frame} {meth : Method} {c : Code} {H : Heap} {locs : List Loc} {cells slots : Nat} {Q : State → Prop} {g : JFrame}
theorem W_tight {cells' slots' : Nat} (hc : H.size ≤ s.heap.size + cells') (hs : nsl s.heap.size H ≤ slots') (k : W p l e R s m args below meth c H locs cells' slots' Q g) : W p l e R s m args below meth c H locs cells slots Q g := by
  intro T hT X
  obtain ⟨h1, h2, h3, h4, h5, h6⟩ := X.same
  refine k T hT ⟨X.admits, X.cas, X.clock, X.frames, X.room, X.hears, X.method, X.code, X.here, X.tail, X.warmed, X.limits, X.bytes, h1, h2, ?_, h4, ?_, h6⟩
  · show T.heap.size ≤ _
    rw [hT]
    exact hc
  · show nsl s.heap.size T.heap ≤ _
    rw [hT]
    exact hs
theorem W_led (k : Led s.heap H cells slots → W p l e R s m args below meth c H locs cells slots Q g) : W p l e R s m args below meth c H locs cells slots Q g := by
  intro T hT X
  obtain ⟨h1, h2, h3, h4, h5, h6⟩ := X.same
  refine k ⟨?_, ?_, ?_, fun a cc ha => ?_⟩ T hT X
  · rw [← hT]; exact h3
  · rw [← hT]; exact h5
  · rw [← hT]; exact h2
  · obtain ⟨c', q1, q2, q3, q4⟩ := h6 a cc ha
    exact ⟨c', by rw [← hT]; exact q1, q3⟩
end BOOK
theorem nsl_split {n k : Nat} {H : Heap} (h : n ≤ k) : nsl n H = (((H.toList.drop n).take (k - n)).map (·.slots.size)).sum + nsl k H := by
  unfold nsl
  rw [← List.sum_append, ← List.map_append]
  congr 2
  have : H.toList.drop k = (H.toList.drop n).drop (k - n) := by rw [List.drop_drop]; congr 1; omega
  rw [this, List.take_append_drop]
/-- one way behind another -/
theorem Led.tr {H0 H H1 : Heap} {a b x y : Nat} (h : Led H0 H a b) (h' : Led H H1 x y) : Led H0 H1 (a + x) (b + y) := by
  obtain ⟨p1, p2, p3, p4⟩ := h
  obtain ⟨q1, q2, q3, q4⟩ := h'
  refine ⟨by omega, ?_, by omega, fun i c hi => ?_⟩
  · rw [nsl_split (k := H.size) p3]
    have e : (((H1.toList.drop H0.size).take (H.size - H0.size)).map (·.slots.size)) = ((H.toList.drop H0.size).map (·.slots.size)) := by
      apply List.ext_getElem?
      intro j
      rw [List.getElem?_map, List.getElem?_map, List.getElem?_take, List.getElem?_drop, List.getElem?_drop]
      by_cases hj : j < H.size - H0.size
      · rw [if_pos hj]
        have hl : H0.size + j < H.size := by omega
        obtain ⟨c', r1, r2⟩ := q4 (H0.size + j) H[H0.size + j] (Array.getElem?_eq_getElem hl)
        have r1' : H1.toList[H0.size + j]? = some c' := by rw [Array.getElem?_toList]; exact r1
        have r0 : H.toList[H0.size + j]? = some H[H0.size + j] := by rw [Array.getElem?_toList]; exact Array.getElem?_eq_getElem hl
        rw [r1', r0]
        simp [r2]
      · rw [if_neg hj]
        have r0 : H.toList[H0.size + j]? = none := by
          rw [Array.getElem?_toList]
          exact Array.getElem?_eq_none (by omega)
        rw [r0]
    rw [e]
    show nsl H0.size H + _ ≤ _
    omega
  · obtain ⟨c1, r1, r2⟩ := p4 i c hi
    obtain ⟨c2, r3, r4⟩ := q4 i c1 r1
    exact ⟨c2, r3, r4.trans r2⟩
theorem P1_mem {ws : va_W} {k : Nat} {x : Nat × va_E} (hk : ws[k]? = some x) (ci j cap sc : Nat) : one ws ci j cap sc x ≤ P1 ws ci j cap sc := by
  have h := sum_set (f := one ws ci j cap sc) (y := (0, .inr (ci + 1, []))) hk
  have z : one ws ci j cap sc (0, .inr (ci + 1, [])) = 0 := if_neg (by omega)
  unfold P1
  omega
theorem one_at {A : Nat → Prop} {ws : va_W} {a ci j r n t : Nat} {c : ClassId} {fs : List Value} (hD : va_D A ws) (hj : fs[j]? = some (.ref r)) (hr : gS ws r (.inl (c, n, t))) (cap sc : Nat) : one ws ci j cap sc (a, .inr (ci, fs)) = (cap - n) / sc := by
  obtain ⟨i, x, h1, h2⟩ := hr
  have hl : gln x = n := by
    rcases x with ⟨c, n, f | f | f | f | f⟩ | ⟨c, fs⟩ <;> simp [shp] at h2 <;> simp [gln, h2]
  have hg := glen_at hD.1 h1
  unfold one
  simp only [hj, hg, hl, if_true]
theorem P1_ge {A : Nat → Prop} {ws : va_W} {k a ci j r n t : Nat} {c : ClassId} {fs : List Value} (hD : va_D A ws) (hk : ows ws k a ci fs) (hj : fs[j]? = some (.ref r)) (hr : gS ws r (.inl (c, n, t))) (cap sc : Nat) : (cap - n) / sc ≤ P1 ws ci j cap sc := by
  have h := P1_mem hk ci j cap sc
  rw [one_at hD hj hr] at h
  exact h
theorem P1_grow {A : Nat → Prop} {ws : va_W} {k a ci j r n t : Nat} {c : ClassId} {fs : List Value} (hD : va_D A ws) (hk : ows ws k a ci fs) (hj : fs[j]? = some (.ref r)) (hr : gS ws r (.inl (c, n, t))) {ws2 : va_W} {r2 n2 t2 : Nat} {c2 : ClassId} {fs2 : List Value} (e : ws2 = ws.set k (a, .inr (ci, fs2))) (hs : fs2 = fs.set j (.ref r2)) (hr2 : gS ws r2 (.inl (c2, n2, t2))) (cap sc : Nat) : P1 ws2 ci j cap sc + (cap - n) / sc = P1 ws ci j cap sc + (cap - n2) / sc ∧ (one ws ci j cap sc (a, .inr (ci, fs2)) = (cap - n2) / sc ∧ one ws ci j cap sc (a, .inr (ci, fs)) = (cap - n) / sc) := by
  have h := P1_set e hk ci j cap sc
  have hl : j < fs.length := (List.getElem?_eq_some_iff.mp hj).1
  have hj2 : fs2[j]? = some (.ref r2) := by rw [hs, List.getElem?_set_self hl]
  have e1 := one_at (a := a) (ci := ci) hD hj hr cap sc
  have e2 := one_at (a := a) (ci := ci) hD hj2 hr2 cap sc
  rw [e1, e2] at h
  exact ⟨h, e2, e1⟩
def PC (ws : va_W) : Nat := 1 * P1 ws 0 0 262144 64 + 3 * P1 ws 4 0 4000 1 + 3 * P1 ws 1 2 4000 1 + 2 * P1 ws 10 17 4000 1 + 1 * P1 ws 5 9 1440 1 + 1 * P1 ws 5 2 20000 1 + 1 * P1 ws 5 4 1024 1 + 2 * P1 ws 3 3 2592 1 + 8 * P1 ws 3 13 2592 1 + 1 * P1 ws 3 9 54432 1 + 1 * P1 ws 3 5 49152 1 + 1 * P1 ws 3 7 49152 1
theorem PC_eq (ws : va_W) : PC ws = 1 * P1 ws 0 0 262144 64 + 3 * P1 ws 4 0 4000 1 + 3 * P1 ws 1 2 4000 1 + 2 * P1 ws 10 17 4000 1 + 1 * P1 ws 5 9 1440 1 + 1 * P1 ws 5 2 20000 1 + 1 * P1 ws 5 4 1024 1 + 2 * P1 ws 3 3 2592 1 + 8 * P1 ws 3 13 2592 1 + 1 * P1 ws 3 9 54432 1 + 1 * P1 ws 3 5 49152 1 + 1 * P1 ws 3 7 49152 1 := rfl
def PS (ws : va_W) : Nat := 2 * P1 ws 0 0 262144 1 + 6 * P1 ws 4 0 4000 1 + 100 * P1 ws 1 2 4000 1 + 4 * P1 ws 10 17 4000 1 + 2 * P1 ws 5 9 1440 1 + 2 * P1 ws 5 2 20000 1 + 20000 * P1 ws 5 2 39999 20000 + 2 * P1 ws 5 4 1024 1 + 4 * P1 ws 3 3 2592 1 + 18 * P1 ws 3 13 2592 1 + 2 * P1 ws 3 9 54432 1 + 2 * P1 ws 3 5 49152 1 + 2 * P1 ws 3 7 49152 1
theorem PS_eq (ws : va_W) : PS ws = 2 * P1 ws 0 0 262144 1 + 6 * P1 ws 4 0 4000 1 + 100 * P1 ws 1 2 4000 1 + 4 * P1 ws 10 17 4000 1 + 2 * P1 ws 5 9 1440 1 + 2 * P1 ws 5 2 20000 1 + 20000 * P1 ws 5 2 39999 20000 + 2 * P1 ws 5 4 1024 1 + 4 * P1 ws 3 3 2592 1 + 18 * P1 ws 3 13 2592 1 + 2 * P1 ws 3 9 54432 1 + 2 * P1 ws 3 5 49152 1 + 2 * P1 ws 3 7 49152 1 := rfl
theorem pM.pp {u w : va_W} (h : pM u w) : PC w ≤ PC u ∧ PS w ≤ PS u := by
  have h0 := h _ _ 262144 1 (show (0, 0) ∈ pK by decide)
  have h1 := h _ _ 262144 64 (show (0, 0) ∈ pK by decide)
  have h2 := h _ _ 4000 1 (show (4, 0) ∈ pK by decide)
  have h3 := h _ _ 4000 1 (show (1, 2) ∈ pK by decide)
  have h4 := h _ _ 4000 1 (show (10, 17) ∈ pK by decide)
  have h5 := h _ _ 1440 1 (show (5, 9) ∈ pK by decide)
  have h6 := h _ _ 20000 1 (show (5, 2) ∈ pK by decide)
  have h7 := h _ _ 39999 20000 (show (5, 2) ∈ pK by decide)
  have h8 := h _ _ 1024 1 (show (5, 4) ∈ pK by decide)
  have h9 := h _ _ 2592 1 (show (3, 3) ∈ pK by decide)
  have h10 := h _ _ 2592 1 (show (3, 13) ∈ pK by decide)
  have h11 := h _ _ 54432 1 (show (3, 9) ∈ pK by decide)
  have h12 := h _ _ 49152 1 (show (3, 5) ∈ pK by decide)
  have h13 := h _ _ 49152 1 (show (3, 7) ∈ pK by decide)
  rw [PC_eq, PC_eq, PS_eq, PS_eq]
  omega
theorem gF.pp {F C : List (Nat × Nat)} {S : Option Nat} {u w : va_W} (h : gF F C S u w) : PC w ≤ PC u ∧ PS w ≤ PS u := h.2.1.pp
theorem ge_0_0 {A : Nat → Prop} {ws : va_W} {k a r n t : Nat} {c : ClassId} {fs : List Value} (hD : va_D A ws) (hk : ows ws k a 0 fs) (hj : fs[0]? = some (.ref r)) (hr : gS ws r (.inl (c, n, t))) : 1 * ((262144 - n) / 64) ≤ PC ws ∧ 2 * ((262144 - n) / 1) ≤ PS ws := by
  have h0 := P1_ge hD hk hj hr 262144 1
  have h1 := P1_ge hD hk hj hr 262144 64
  rw [PC_eq, PS_eq]
  omega
theorem gr_0_0 {A : Nat → Prop} {ws : va_W} {k a r n t : Nat} {c : ClassId} {fs : List Value} (hD : va_D A ws) (hk : ows ws k a 0 fs) (hj : fs[0]? = some (.ref r)) (hr : gS ws r (.inl (c, n, t))) {ws2 : va_W} {r2 n2 t2 : Nat} {c2 : ClassId} {fs2 : List Value} (e : ws2 = ws.set k (a, .inr (0, fs2))) (hs : fs2 = fs.set 0 (.ref r2)) (hr2 : gS ws r2 (.inl (c2, n2, t2))) (hn : n ≤ n2) : pM ws ws2 ∧ PC ws2 + (1 * ((262144 - n) / 64 - (262144 - n2) / 64)) ≤ PC ws ∧ PS ws2 + (2 * ((262144 - n) / 1 - (262144 - n2) / 1)) ≤ PS ws := by
  have hl := P1_grow hD hk hj hr e hs hr2
  have hm : pM ws ws2 := pM_grow e hk hs (fun cap sc => by have := (hl cap sc).2; have := Nat.div_le_div_right (c := sc) (Nat.sub_le_sub_left hn cap); omega)
  refine ⟨hm, ?_⟩
  have h0 := (hl 262144 1).1
  have h1 := (hl 262144 64).1
  have o0 := hm _ _ 4000 1 (show (4, 0) ∈ pK by decide)
  have o1 := hm _ _ 4000 1 (show (1, 2) ∈ pK by decide)
  have o2 := hm _ _ 4000 1 (show (10, 17) ∈ pK by decide)
  have o3 := hm _ _ 1440 1 (show (5, 9) ∈ pK by decide)
  have o4 := hm _ _ 20000 1 (show (5, 2) ∈ pK by decide)
  have o5 := hm _ _ 39999 20000 (show (5, 2) ∈ pK by decide)
  have o6 := hm _ _ 1024 1 (show (5, 4) ∈ pK by decide)
  have o7 := hm _ _ 2592 1 (show (3, 3) ∈ pK by decide)
  have o8 := hm _ _ 2592 1 (show (3, 13) ∈ pK by decide)
  have o9 := hm _ _ 54432 1 (show (3, 9) ∈ pK by decide)
  have o10 := hm _ _ 49152 1 (show (3, 5) ∈ pK by decide)
  have o11 := hm _ _ 49152 1 (show (3, 7) ∈ pK by decide)
  rw [PC_eq, PC_eq, PS_eq, PS_eq]
  omega
theorem ge_4_0 {A : Nat → Prop} {ws : va_W} {k a r n t : Nat} {c : ClassId} {fs : List Value} (hD : va_D A ws) (hk : ows ws k a 4 fs) (hj : fs[0]? = some (.ref r)) (hr : gS ws r (.inl (c, n, t))) : 3 * ((4000 - n) / 1) ≤ PC ws ∧ 6 * ((4000 - n) / 1) ≤ PS ws := by
  have h0 := P1_ge hD hk hj hr 4000 1
  rw [PC_eq, PS_eq]
  omega
theorem gr_4_0 {A : Nat → Prop} {ws : va_W} {k a r n t : Nat} {c : ClassId} {fs : List Value} (hD : va_D A ws) (hk : ows ws k a 4 fs) (hj : fs[0]? = some (.ref r)) (hr : gS ws r (.inl (c, n, t))) {ws2 : va_W} {r2 n2 t2 : Nat} {c2 : ClassId} {fs2 : List Value} (e : ws2 = ws.set k (a, .inr (4, fs2))) (hs : fs2 = fs.set 0 (.ref r2)) (hr2 : gS ws r2 (.inl (c2, n2, t2))) (hn : n ≤ n2) : pM ws ws2 ∧ PC ws2 + (3 * ((4000 - n) / 1 - (4000 - n2) / 1)) ≤ PC ws ∧ PS ws2 + (6 * ((4000 - n) / 1 - (4000 - n2) / 1)) ≤ PS ws := by
  have hl := P1_grow hD hk hj hr e hs hr2
  have hm : pM ws ws2 := pM_grow e hk hs (fun cap sc => by have := (hl cap sc).2; have := Nat.div_le_div_right (c := sc) (Nat.sub_le_sub_left hn cap); omega)
  refine ⟨hm, ?_⟩
  have h0 := (hl 4000 1).1
  have o0 := hm _ _ 262144 1 (show (0, 0) ∈ pK by decide)
  have o1 := hm _ _ 262144 64 (show (0, 0) ∈ pK by decide)
  have o2 := hm _ _ 4000 1 (show (1, 2) ∈ pK by decide)
  have o3 := hm _ _ 4000 1 (show (10, 17) ∈ pK by decide)
  have o4 := hm _ _ 1440 1 (show (5, 9) ∈ pK by decide)
  have o5 := hm _ _ 20000 1 (show (5, 2) ∈ pK by decide)
  have o6 := hm _ _ 39999 20000 (show (5, 2) ∈ pK by decide)
  have o7 := hm _ _ 1024 1 (show (5, 4) ∈ pK by decide)
  have o8 := hm _ _ 2592 1 (show (3, 3) ∈ pK by decide)
  have o9 := hm _ _ 2592 1 (show (3, 13) ∈ pK by decide)
  have o10 := hm _ _ 54432 1 (show (3, 9) ∈ pK by decide)
  have o11 := hm _ _ 49152 1 (show (3, 5) ∈ pK by decide)
  have o12 := hm _ _ 49152 1 (show (3, 7) ∈ pK by decide)
  rw [PC_eq, PC_eq, PS_eq, PS_eq]
  omega
theorem ge_1_2 {A : Nat → Prop} {ws : va_W} {k a r n t : Nat} {c : ClassId} {fs : List Value} (hD : va_D A ws) (hk : ows ws k a 1 fs) (hj : fs[2]? = some (.ref r)) (hr : gS ws r (.inl (c, n, t))) : 3 * ((4000 - n) / 1) ≤ PC ws ∧ 100 * ((4000 - n) / 1) ≤ PS ws := by
  have h0 := P1_ge hD hk hj hr 4000 1
  rw [PC_eq, PS_eq]
  omega
theorem gr_1_2 {A : Nat → Prop} {ws : va_W} {k a r n t : Nat} {c : ClassId} {fs : List Value} (hD : va_D A ws) (hk : ows ws k a 1 fs) (hj : fs[2]? = some (.ref r)) (hr : gS ws r (.inl (c, n, t))) {ws2 : va_W} {r2 n2 t2 : Nat} {c2 : ClassId} {fs2 : List Value} (e : ws2 = ws.set k (a, .inr (1, fs2))) (hs : fs2 = fs.set 2 (.ref r2)) (hr2 : gS ws r2 (.inl (c2, n2, t2))) (hn : n ≤ n2) : pM ws ws2 ∧ PC ws2 + (3 * ((4000 - n) / 1 - (4000 - n2) / 1)) ≤ PC ws ∧ PS ws2 + (100 * ((4000 - n) / 1 - (4000 - n2) / 1)) ≤ PS ws := by
  have hl := P1_grow hD hk hj hr e hs hr2
  have hm : pM ws ws2 := pM_grow e hk hs (fun cap sc => by have := (hl cap sc).2; have := Nat.div_le_div_right (c := sc) (Nat.sub_le_sub_left hn cap); omega)
  refine ⟨hm, ?_⟩
  have h0 := (hl 4000 1).1
  have o0 := hm _ _ 262144 1 (show (0, 0) ∈ pK by decide)
  have o1 := hm _ _ 262144 64 (show (0, 0) ∈ pK by decide)
  have o2 := hm _ _ 4000 1 (show (4, 0) ∈ pK by decide)
  have o3 := hm _ _ 4000 1 (show (10, 17) ∈ pK by decide)
  have o4 := hm _ _ 1440 1 (show (5, 9) ∈ pK by decide)
  have o5 := hm _ _ 20000 1 (show (5, 2) ∈ pK by decide)
  have o6 := hm _ _ 39999 20000 (show (5, 2) ∈ pK by decide)
  have o7 := hm _ _ 1024 1 (show (5, 4) ∈ pK by decide)
  have o8 := hm _ _ 2592 1 (show (3, 3) ∈ pK by decide)
  have o9 := hm _ _ 2592 1 (show (3, 13) ∈ pK by decide)
  have o10 := hm _ _ 54432 1 (show (3, 9) ∈ pK by decide)
  have o11 := hm _ _ 49152 1 (show (3, 5) ∈ pK by decide)
  have o12 := hm _ _ 49152 1 (show (3, 7) ∈ pK by decide)
  rw [PC_eq, PC_eq, PS_eq, PS_eq]
  omega
theorem ge_10_17 {A : Nat → Prop} {ws : va_W} {k a r n t : Nat} {c : ClassId} {fs : List Value} (hD : va_D A ws) (hk : ows ws k a 10 fs) (hj : fs[17]? = some (.ref r)) (hr : gS ws r (.inl (c, n, t))) : 2 * ((4000 - n) / 1) ≤ PC ws ∧ 4 * ((4000 - n) / 1) ≤ PS ws := by
  have h0 := P1_ge hD hk hj hr 4000 1
  rw [PC_eq, PS_eq]
  omega
theorem gr_10_17 {A : Nat → Prop} {ws : va_W} {k a r n t : Nat} {c : ClassId} {fs : List Value} (hD : va_D A ws) (hk : ows ws k a 10 fs) (hj : fs[17]? = some (.ref r)) (hr : gS ws r (.inl (c, n, t))) {ws2 : va_W} {r2 n2 t2 : Nat} {c2 : ClassId} {fs2 : List Value} (e : ws2 = ws.set k (a, .inr (10, fs2))) (hs : fs2 = fs.set 17 (.ref r2)) (hr2 : gS ws r2 (.inl (c2, n2, t2))) (hn : n ≤ n2) : pM ws ws2 ∧ PC ws2 + (2 * ((4000 - n) / 1 - (4000 - n2) / 1)) ≤ PC ws ∧ PS ws2 + (4 * ((4000 - n) / 1 - (4000 - n2) / 1)) ≤ PS ws := by
  have hl := P1_grow hD hk hj hr e hs hr2
  have hm : pM ws ws2 := pM_grow e hk hs (fun cap sc => by have := (hl cap sc).2; have := Nat.div_le_div_right (c := sc) (Nat.sub_le_sub_left hn cap); omega)
  refine ⟨hm, ?_⟩
  have h0 := (hl 4000 1).1
  have o0 := hm _ _ 262144 1 (show (0, 0) ∈ pK by decide)
  have o1 := hm _ _ 262144 64 (show (0, 0) ∈ pK by decide)
  have o2 := hm _ _ 4000 1 (show (4, 0) ∈ pK by decide)
  have o3 := hm _ _ 4000 1 (show (1, 2) ∈ pK by decide)
  have o4 := hm _ _ 1440 1 (show (5, 9) ∈ pK by decide)
  have o5 := hm _ _ 20000 1 (show (5, 2) ∈ pK by decide)
  have o6 := hm _ _ 39999 20000 (show (5, 2) ∈ pK by decide)
  have o7 := hm _ _ 1024 1 (show (5, 4) ∈ pK by decide)
  have o8 := hm _ _ 2592 1 (show (3, 3) ∈ pK by decide)
  have o9 := hm _ _ 2592 1 (show (3, 13) ∈ pK by decide)
  have o10 := hm _ _ 54432 1 (show (3, 9) ∈ pK by decide)
  have o11 := hm _ _ 49152 1 (show (3, 5) ∈ pK by decide)
  have o12 := hm _ _ 49152 1 (show (3, 7) ∈ pK by decide)
  rw [PC_eq, PC_eq, PS_eq, PS_eq]
  omega
theorem ge_5_9 {A : Nat → Prop} {ws : va_W} {k a r n t : Nat} {c : ClassId} {fs : List Value} (hD : va_D A ws) (hk : ows ws k a 5 fs) (hj : fs[9]? = some (.ref r)) (hr : gS ws r (.inl (c, n, t))) : 1 * ((1440 - n) / 1) ≤ PC ws ∧ 2 * ((1440 - n) / 1) ≤ PS ws := by
  have h0 := P1_ge hD hk hj hr 1440 1
  rw [PC_eq, PS_eq]
  omega
theorem gr_5_9 {A : Nat → Prop} {ws : va_W} {k a r n t : Nat} {c : ClassId} {fs : List Value} (hD : va_D A ws) (hk : ows ws k a 5 fs) (hj : fs[9]? = some (.ref r)) (hr : gS ws r (.inl (c, n, t))) {ws2 : va_W} {r2 n2 t2 : Nat} {c2 : ClassId} {fs2 : List Value} (e : ws2 = ws.set k (a, .inr (5, fs2))) (hs : fs2 = fs.set 9 (.ref r2)) (hr2 : gS ws r2 (.inl (c2, n2, t2))) (hn : n ≤ n2) : pM ws ws2 ∧ PC ws2 + (1 * ((1440 - n) / 1 - (1440 - n2) / 1)) ≤ PC ws ∧ PS ws2 + (2 * ((1440 - n) / 1 - (1440 - n2) / 1)) ≤ PS ws := by
  have hl := P1_grow hD hk hj hr e hs hr2
  have hm : pM ws ws2 := pM_grow e hk hs (fun cap sc => by have := (hl cap sc).2; have := Nat.div_le_div_right (c := sc) (Nat.sub_le_sub_left hn cap); omega)
  refine ⟨hm, ?_⟩
  have h0 := (hl 1440 1).1
  have o0 := hm _ _ 262144 1 (show (0, 0) ∈ pK by decide)
  have o1 := hm _ _ 262144 64 (show (0, 0) ∈ pK by decide)
  have o2 := hm _ _ 4000 1 (show (4, 0) ∈ pK by decide)
  have o3 := hm _ _ 4000 1 (show (1, 2) ∈ pK by decide)
  have o4 := hm _ _ 4000 1 (show (10, 17) ∈ pK by decide)
  have o5 := hm _ _ 20000 1 (show (5, 2) ∈ pK by decide)
  have o6 := hm _ _ 39999 20000 (show (5, 2) ∈ pK by decide)
  have o7 := hm _ _ 1024 1 (show (5, 4) ∈ pK by decide)
  have o8 := hm _ _ 2592 1 (show (3, 3) ∈ pK by decide)
  have o9 := hm _ _ 2592 1 (show (3, 13) ∈ pK by decide)
  have o10 := hm _ _ 54432 1 (show (3, 9) ∈ pK by decide)
  have o11 := hm _ _ 49152 1 (show (3, 5) ∈ pK by decide)
  have o12 := hm _ _ 49152 1 (show (3, 7) ∈ pK by decide)
  rw [PC_eq, PC_eq, PS_eq, PS_eq]
  omega
theorem ge_5_2 {A : Nat → Prop} {ws : va_W} {k a r n t : Nat} {c : ClassId} {fs : List Value} (hD : va_D A ws) (hk : ows ws k a 5 fs) (hj : fs[2]? = some (.ref r)) (hr : gS ws r (.inl (c, n, t))) : 1 * ((20000 - n) / 1) ≤ PC ws ∧ 2 * ((20000 - n) / 1) + 20000 * ((39999 - n) / 20000) ≤ PS ws := by
  have h0 := P1_ge hD hk hj hr 20000 1
  have h1 := P1_ge hD hk hj hr 39999 20000
  rw [PC_eq, PS_eq]
  omega
theorem gr_5_2 {A : Nat → Prop} {ws : va_W} {k a r n t : Nat} {c : ClassId} {fs : List Value} (hD : va_D A ws) (hk : ows ws k a 5 fs) (hj : fs[2]? = some (.ref r)) (hr : gS ws r (.inl (c, n, t))) {ws2 : va_W} {r2 n2 t2 : Nat} {c2 : ClassId} {fs2 : List Value} (e : ws2 = ws.set k (a, .inr (5, fs2))) (hs : fs2 = fs.set 2 (.ref r2)) (hr2 : gS ws r2 (.inl (c2, n2, t2))) (hn : n ≤ n2) : pM ws ws2 ∧ PC ws2 + (1 * ((20000 - n) / 1 - (20000 - n2) / 1)) ≤ PC ws ∧ PS ws2 + (2 * ((20000 - n) / 1 - (20000 - n2) / 1) + 20000 * ((39999 - n) / 20000 - (39999 - n2) / 20000)) ≤ PS ws := by
  have hl := P1_grow hD hk hj hr e hs hr2
  have hm : pM ws ws2 := pM_grow e hk hs (fun cap sc => by have := (hl cap sc).2; have := Nat.div_le_div_right (c := sc) (Nat.sub_le_sub_left hn cap); omega)
  refine ⟨hm, ?_⟩
  have h0 := (hl 20000 1).1
  have h1 := (hl 39999 20000).1
  have o0 := hm _ _ 262144 1 (show (0, 0) ∈ pK by decide)
  have o1 := hm _ _ 262144 64 (show (0, 0) ∈ pK by decide)
  have o2 := hm _ _ 4000 1 (show (4, 0) ∈ pK by decide)
  have o3 := hm _ _ 4000 1 (show (1, 2) ∈ pK by decide)
  have o4 := hm _ _ 4000 1 (show (10, 17) ∈ pK by decide)
  have o5 := hm _ _ 1440 1 (show (5, 9) ∈ pK by decide)
  have o6 := hm _ _ 1024 1 (show (5, 4) ∈ pK by decide)
  have o7 := hm _ _ 2592 1 (show (3, 3) ∈ pK by decide)
  have o8 := hm _ _ 2592 1 (show (3, 13) ∈ pK by decide)
  have o9 := hm _ _ 54432 1 (show (3, 9) ∈ pK by decide)
  have o10 := hm _ _ 49152 1 (show (3, 5) ∈ pK by decide)
  have o11 := hm _ _ 49152 1 (show (3, 7) ∈ pK by decide)
  rw [PC_eq, PC_eq, PS_eq, PS_eq]
  omega
theorem ge_5_4 {A : Nat → Prop} {ws : va_W} {k a r n t : Nat} {c : ClassId} {fs : List Value} (hD : va_D A ws) (hk : ows ws k a 5 fs) (hj : fs[4]? = some (.ref r)) (hr : gS ws r (.inl (c, n, t))) : 1 * ((1024 - n) / 1) ≤ PC ws ∧ 2 * ((1024 - n) / 1) ≤ PS ws := by
  have h0 := P1_ge hD hk hj hr 1024 1
  rw [PC_eq, PS_eq]
  omega
theorem gr_5_4 {A : Nat → Prop} {ws : va_W} {k a r n t : Nat} {c : ClassId} {fs : List Value} (hD : va_D A ws) (hk : ows ws k a 5 fs) (hj : fs[4]? = some (.ref r)) (hr : gS ws r (.inl (c, n, t))) {ws2 : va_W} {r2 n2 t2 : Nat} {c2 : ClassId} {fs2 : List Value} (e : ws2 = ws.set k (a, .inr (5, fs2))) (hs : fs2 = fs.set 4 (.ref r2)) (hr2 : gS ws r2 (.inl (c2, n2, t2))) (hn : n ≤ n2) : pM ws ws2 ∧ PC ws2 + (1 * ((1024 - n) / 1 - (1024 - n2) / 1)) ≤ PC ws ∧ PS ws2 + (2 * ((1024 - n) / 1 - (1024 - n2) / 1)) ≤ PS ws := by
  have hl := P1_grow hD hk hj hr e hs hr2
  have hm : pM ws ws2 := pM_grow e hk hs (fun cap sc => by have := (hl cap sc).2; have := Nat.div_le_div_right (c := sc) (Nat.sub_le_sub_left hn cap); omega)
  refine ⟨hm, ?_⟩
  have h0 := (hl 1024 1).1
  have o0 := hm _ _ 262144 1 (show (0, 0) ∈ pK by decide)
  have o1 := hm _ _ 262144 64 (show (0, 0) ∈ pK by decide)
  have o2 := hm _ _ 4000 1 (show (4, 0) ∈ pK by decide)
  have o3 := hm _ _ 4000 1 (show (1, 2) ∈ pK by decide)
  have o4 := hm _ _ 4000 1 (show (10, 17) ∈ pK by decide)
  have o5 := hm _ _ 1440 1 (show (5, 9) ∈ pK by decide)
  have o6 := hm _ _ 20000 1 (show (5, 2) ∈ pK by decide)
  have o7 := hm _ _ 39999 20000 (show (5, 2) ∈ pK by decide)
  have o8 := hm _ _ 2592 1 (show (3, 3) ∈ pK by decide)
  have o9 := hm _ _ 2592 1 (show (3, 13) ∈ pK by decide)
  have o10 := hm _ _ 54432 1 (show (3, 9) ∈ pK by decide)
  have o11 := hm _ _ 49152 1 (show (3, 5) ∈ pK by decide)
  have o12 := hm _ _ 49152 1 (show (3, 7) ∈ pK by decide)
  rw [PC_eq, PC_eq, PS_eq, PS_eq]
  omega
theorem ge_3_3 {A : Nat → Prop} {ws : va_W} {k a r n t : Nat} {c : ClassId} {fs : List Value} (hD : va_D A ws) (hk : ows ws k a 3 fs) (hj : fs[3]? = some (.ref r)) (hr : gS ws r (.inl (c, n, t))) : 2 * ((2592 - n) / 1) ≤ PC ws ∧ 4 * ((2592 - n) / 1) ≤ PS ws := by
  have h0 := P1_ge hD hk hj hr 2592 1
  rw [PC_eq, PS_eq]
  omega
theorem gr_3_3 {A : Nat → Prop} {ws : va_W} {k a r n t : Nat} {c : ClassId} {fs : List Value} (hD : va_D A ws) (hk : ows ws k a 3 fs) (hj : fs[3]? = some (.ref r)) (hr : gS ws r (.inl (c, n, t))) {ws2 : va_W} {r2 n2 t2 : Nat} {c2 : ClassId} {fs2 : List Value} (e : ws2 = ws.set k (a, .inr (3, fs2))) (hs : fs2 = fs.set 3 (.ref r2)) (hr2 : gS ws r2 (.inl (c2, n2, t2))) (hn : n ≤ n2) : pM ws ws2 ∧ PC ws2 + (2 * ((2592 - n) / 1 - (2592 - n2) / 1)) ≤ PC ws ∧ PS ws2 + (4 * ((2592 - n) / 1 - (2592 - n2) / 1)) ≤ PS ws := by
  have hl := P1_grow hD hk hj hr e hs hr2
  have hm : pM ws ws2 := pM_grow e hk hs (fun cap sc => by have := (hl cap sc).2; have := Nat.div_le_div_right (c := sc) (Nat.sub_le_sub_left hn cap); omega)
  refine ⟨hm, ?_⟩
  have h0 := (hl 2592 1).1
  have o0 := hm _ _ 262144 1 (show (0, 0) ∈ pK by decide)
  have o1 := hm _ _ 262144 64 (show (0, 0) ∈ pK by decide)
  have o2 := hm _ _ 4000 1 (show (4, 0) ∈ pK by decide)
  have o3 := hm _ _ 4000 1 (show (1, 2) ∈ pK by decide)
  have o4 := hm _ _ 4000 1 (show (10, 17) ∈ pK by decide)
  have o5 := hm _ _ 1440 1 (show (5, 9) ∈ pK by decide)
  have o6 := hm _ _ 20000 1 (show (5, 2) ∈ pK by decide)
  have o7 := hm _ _ 39999 20000 (show (5, 2) ∈ pK by decide)
  have o8 := hm _ _ 1024 1 (show (5, 4) ∈ pK by decide)
  have o9 := hm _ _ 2592 1 (show (3, 13) ∈ pK by decide)
  have o10 := hm _ _ 54432 1 (show (3, 9) ∈ pK by decide)
  have o11 := hm _ _ 49152 1 (show (3, 5) ∈ pK by decide)
  have o12 := hm _ _ 49152 1 (show (3, 7) ∈ pK by decide)
  rw [PC_eq, PC_eq, PS_eq, PS_eq]
  omega
theorem ge_3_13 {A : Nat → Prop} {ws : va_W} {k a r n t : Nat} {c : ClassId} {fs : List Value} (hD : va_D A ws) (hk : ows ws k a 3 fs) (hj : fs[13]? = some (.ref r)) (hr : gS ws r (.inl (c, n, t))) : 8 * ((2592 - n) / 1) ≤ PC ws ∧ 18 * ((2592 - n) / 1) ≤ PS ws := by
  have h0 := P1_ge hD hk hj hr 2592 1
  rw [PC_eq, PS_eq]
  omega
theorem gr_3_13 {A : Nat → Prop} {ws : va_W} {k a r n t : Nat} {c : ClassId} {fs : List Value} (hD : va_D A ws) (hk : ows ws k a 3 fs) (hj : fs[13]? = some (.ref r)) (hr : gS ws r (.inl (c, n, t))) {ws2 : va_W} {r2 n2 t2 : Nat} {c2 : ClassId} {fs2 : List Value} (e : ws2 = ws.set k (a, .inr (3, fs2))) (hs : fs2 = fs.set 13 (.ref r2)) (hr2 : gS ws r2 (.inl (c2, n2, t2))) (hn : n ≤ n2) : pM ws ws2 ∧ PC ws2 + (8 * ((2592 - n) / 1 - (2592 - n2) / 1)) ≤ PC ws ∧ PS ws2 + (18 * ((2592 - n) / 1 - (2592 - n2) / 1)) ≤ PS ws := by
  have hl := P1_grow hD hk hj hr e hs hr2
  have hm : pM ws ws2 := pM_grow e hk hs (fun cap sc => by have := (hl cap sc).2; have := Nat.div_le_div_right (c := sc) (Nat.sub_le_sub_left hn cap); omega)
  refine ⟨hm, ?_⟩
  have h0 := (hl 2592 1).1
  have o0 := hm _ _ 262144 1 (show (0, 0) ∈ pK by decide)
  have o1 := hm _ _ 262144 64 (show (0, 0) ∈ pK by decide)
  have o2 := hm _ _ 4000 1 (show (4, 0) ∈ pK by decide)
  have o3 := hm _ _ 4000 1 (show (1, 2) ∈ pK by decide)
  have o4 := hm _ _ 4000 1 (show (10, 17) ∈ pK by decide)
  have o5 := hm _ _ 1440 1 (show (5, 9) ∈ pK by decide)
  have o6 := hm _ _ 20000 1 (show (5, 2) ∈ pK by decide)
  have o7 := hm _ _ 39999 20000 (show (5, 2) ∈ pK by decide)
  have o8 := hm _ _ 1024 1 (show (5, 4) ∈ pK by decide)
  have o9 := hm _ _ 2592 1 (show (3, 3) ∈ pK by decide)
  have o10 := hm _ _ 54432 1 (show (3, 9) ∈ pK by decide)
  have o11 := hm _ _ 49152 1 (show (3, 5) ∈ pK by decide)
  have o12 := hm _ _ 49152 1 (show (3, 7) ∈ pK by decide)
  rw [PC_eq, PC_eq, PS_eq, PS_eq]
  omega
theorem ge_3_9 {A : Nat → Prop} {ws : va_W} {k a r n t : Nat} {c : ClassId} {fs : List Value} (hD : va_D A ws) (hk : ows ws k a 3 fs) (hj : fs[9]? = some (.ref r)) (hr : gS ws r (.inl (c, n, t))) : 1 * ((54432 - n) / 1) ≤ PC ws ∧ 2 * ((54432 - n) / 1) ≤ PS ws := by
  have h0 := P1_ge hD hk hj hr 54432 1
  rw [PC_eq, PS_eq]
  omega
theorem gr_3_9 {A : Nat → Prop} {ws : va_W} {k a r n t : Nat} {c : ClassId} {fs : List Value} (hD : va_D A ws) (hk : ows ws k a 3 fs) (hj : fs[9]? = some (.ref r)) (hr : gS ws r (.inl (c, n, t))) {ws2 : va_W} {r2 n2 t2 : Nat} {c2 : ClassId} {fs2 : List Value} (e : ws2 = ws.set k (a, .inr (3, fs2))) (hs : fs2 = fs.set 9 (.ref r2)) (hr2 : gS ws r2 (.inl (c2, n2, t2))) (hn : n ≤ n2) : pM ws ws2 ∧ PC ws2 + (1 * ((54432 - n) / 1 - (54432 - n2) / 1)) ≤ PC ws ∧ PS ws2 + (2 * ((54432 - n) / 1 - (54432 - n2) / 1)) ≤ PS ws := by
  have hl := P1_grow hD hk hj hr e hs hr2
  have hm : pM ws ws2 := pM_grow e hk hs (fun cap sc => by have := (hl cap sc).2; have := Nat.div_le_div_right (c := sc) (Nat.sub_le_sub_left hn cap); omega)
  refine ⟨hm, ?_⟩
  have h0 := (hl 54432 1).1
  have o0 := hm _ _ 262144 1 (show (0, 0) ∈ pK by decide)
  have o1 := hm _ _ 262144 64 (show (0, 0) ∈ pK by decide)
  have o2 := hm _ _ 4000 1 (show (4, 0) ∈ pK by decide)
  have o3 := hm _ _ 4000 1 (show (1, 2) ∈ pK by decide)
  have o4 := hm _ _ 4000 1 (show (10, 17) ∈ pK by decide)
  have o5 := hm _ _ 1440 1 (show (5, 9) ∈ pK by decide)
  have o6 := hm _ _ 20000 1 (show (5, 2) ∈ pK by decide)
  have o7 := hm _ _ 39999 20000 (show (5, 2) ∈ pK by decide)
  have o8 := hm _ _ 1024 1 (show (5, 4) ∈ pK by decide)
  have o9 := hm _ _ 2592 1 (show (3, 3) ∈ pK by decide)
  have o10 := hm _ _ 2592 1 (show (3, 13) ∈ pK by decide)
  have o11 := hm _ _ 49152 1 (show (3, 5) ∈ pK by decide)
  have o12 := hm _ _ 49152 1 (show (3, 7) ∈ pK by decide)
  rw [PC_eq, PC_eq, PS_eq, PS_eq]
  omega
theorem ge_3_5 {A : Nat → Prop} {ws : va_W} {k a r n t : Nat} {c : ClassId} {fs : List Value} (hD : va_D A ws) (hk : ows ws k a 3 fs) (hj : fs[5]? = some (.ref r)) (hr : gS ws r (.inl (c, n, t))) : 1 * ((49152 - n) / 1) ≤ PC ws ∧ 2 * ((49152 - n) / 1) ≤ PS ws := by
  have h0 := P1_ge hD hk hj hr 49152 1
  rw [PC_eq, PS_eq]
  omega
theorem gr_3_5 {A : Nat → Prop} {ws : va_W} {k a r n t : Nat} {c : ClassId} {fs : List Value} (hD : va_D A ws) (hk : ows ws k a 3 fs) (hj : fs[5]? = some (.ref r)) (hr : gS ws r (.inl (c, n, t))) {ws2 : va_W} {r2 n2 t2 : Nat} {c2 : ClassId} {fs2 : List Value} (e : ws2 = ws.set k (a, .inr (3, fs2))) (hs : fs2 = fs.set 5 (.ref r2)) (hr2 : gS ws r2 (.inl (c2, n2, t2))) (hn : n ≤ n2) : pM ws ws2 ∧ PC ws2 + (1 * ((49152 - n) / 1 - (49152 - n2) / 1)) ≤ PC ws ∧ PS ws2 + (2 * ((49152 - n) / 1 - (49152 - n2) / 1)) ≤ PS ws := by
  have hl := P1_grow hD hk hj hr e hs hr2
  have hm : pM ws ws2 := pM_grow e hk hs (fun cap sc => by have := (hl cap sc).2; have := Nat.div_le_div_right (c := sc) (Nat.sub_le_sub_left hn cap); omega)
  refine ⟨hm, ?_⟩
  have h0 := (hl 49152 1).1
  have o0 := hm _ _ 262144 1 (show (0, 0) ∈ pK by decide)
  have o1 := hm _ _ 262144 64 (show (0, 0) ∈ pK by decide)
  have o2 := hm _ _ 4000 1 (show (4, 0) ∈ pK by decide)
  have o3 := hm _ _ 4000 1 (show (1, 2) ∈ pK by decide)
  have o4 := hm _ _ 4000 1 (show (10, 17) ∈ pK by decide)
  have o5 := hm _ _ 1440 1 (show (5, 9) ∈ pK by decide)
  have o6 := hm _ _ 20000 1 (show (5, 2) ∈ pK by decide)
  have o7 := hm _ _ 39999 20000 (show (5, 2) ∈ pK by decide)
  have o8 := hm _ _ 1024 1 (show (5, 4) ∈ pK by decide)
  have o9 := hm _ _ 2592 1 (show (3, 3) ∈ pK by decide)
  have o10 := hm _ _ 2592 1 (show (3, 13) ∈ pK by decide)
  have o11 := hm _ _ 54432 1 (show (3, 9) ∈ pK by decide)
  have o12 := hm _ _ 49152 1 (show (3, 7) ∈ pK by decide)
  rw [PC_eq, PC_eq, PS_eq, PS_eq]
  omega
theorem ge_3_7 {A : Nat → Prop} {ws : va_W} {k a r n t : Nat} {c : ClassId} {fs : List Value} (hD : va_D A ws) (hk : ows ws k a 3 fs) (hj : fs[7]? = some (.ref r)) (hr : gS ws r (.inl (c, n, t))) : 1 * ((49152 - n) / 1) ≤ PC ws ∧ 2 * ((49152 - n) / 1) ≤ PS ws := by
  have h0 := P1_ge hD hk hj hr 49152 1
  rw [PC_eq, PS_eq]
  omega
theorem gr_3_7 {A : Nat → Prop} {ws : va_W} {k a r n t : Nat} {c : ClassId} {fs : List Value} (hD : va_D A ws) (hk : ows ws k a 3 fs) (hj : fs[7]? = some (.ref r)) (hr : gS ws r (.inl (c, n, t))) {ws2 : va_W} {r2 n2 t2 : Nat} {c2 : ClassId} {fs2 : List Value} (e : ws2 = ws.set k (a, .inr (3, fs2))) (hs : fs2 = fs.set 7 (.ref r2)) (hr2 : gS ws r2 (.inl (c2, n2, t2))) (hn : n ≤ n2) : pM ws ws2 ∧ PC ws2 + (1 * ((49152 - n) / 1 - (49152 - n2) / 1)) ≤ PC ws ∧ PS ws2 + (2 * ((49152 - n) / 1 - (49152 - n2) / 1)) ≤ PS ws := by
  have hl := P1_grow hD hk hj hr e hs hr2
  have hm : pM ws ws2 := pM_grow e hk hs (fun cap sc => by have := (hl cap sc).2; have := Nat.div_le_div_right (c := sc) (Nat.sub_le_sub_left hn cap); omega)
  refine ⟨hm, ?_⟩
  have h0 := (hl 49152 1).1
  have o0 := hm _ _ 262144 1 (show (0, 0) ∈ pK by decide)
  have o1 := hm _ _ 262144 64 (show (0, 0) ∈ pK by decide)
  have o2 := hm _ _ 4000 1 (show (4, 0) ∈ pK by decide)
  have o3 := hm _ _ 4000 1 (show (1, 2) ∈ pK by decide)
  have o4 := hm _ _ 4000 1 (show (10, 17) ∈ pK by decide)
  have o5 := hm _ _ 1440 1 (show (5, 9) ∈ pK by decide)
  have o6 := hm _ _ 20000 1 (show (5, 2) ∈ pK by decide)
  have o7 := hm _ _ 39999 20000 (show (5, 2) ∈ pK by decide)
  have o8 := hm _ _ 1024 1 (show (5, 4) ∈ pK by decide)
  have o9 := hm _ _ 2592 1 (show (3, 3) ∈ pK by decide)
  have o10 := hm _ _ 2592 1 (show (3, 13) ∈ pK by decide)
  have o11 := hm _ _ 54432 1 (show (3, 9) ∈ pK by decide)
  have o12 := hm _ _ 49152 1 (show (3, 5) ∈ pK by decide)
  rw [PC_eq, PC_eq, PS_eq, PS_eq]
  omega
/-- from H0 to H with the worlds ws, u: what was made is paid by what grew, but for c0, s0 -/
def gL (H0 H : Heap) (ws u : va_W) (c0 s0 : Nat) : Prop := ∃ dc ds : Nat, Led H0 H dc ds ∧ dc + PC u ≤ PC ws + c0 ∧ ds + PS u ≤ PS ws + s0
def gQ2 (g : Gm) (F C : List (Nat × Nat)) (S : Option Nat) (A : Nat → Prop) (ws : va_W) (H0 : Heap) (c0 s0 : Nat) (u : va_W) (t : State) : Prop := gE ws u ∧ gF F C S ws u ∧ Good g u ∧ va_P (gD g) cl0 u t.heap ∧ va_D A u ∧ gL H0 t.heap ws u c0 s0
def st_H (g : Gm) (H0 : Heap) (ws : va_W) (U : State) : Prop := U.heap = H0 ∧ st_G g H0.size ws U
theorem gblindH {av : List Value} {g : Gm} {H0 : Heap} {ws : va_W} : FrameBlind (va_Pc av (st_H g H0 ws)) := fun a U f mk q => ⟨(gblind a U f mk ⟨q.1, q.2.2⟩).1, q.2.1, (gblind a U f mk ⟨q.1, q.2.2⟩).2⟩
theorem gmkH {av : List Value} {g : Gm} {ws : va_W} {s U : State} {H : Heap} {A : Nat → Prop} {locs : List Loc} (hU : U.heap = H) (hW : s.WarmedH U.vm) (hP : va_P (gD g) cl0 ws H) (hK : va_K (gD g) cl0 (tyL g) s) (hD : va_D A ws) (hex : ex s) (hE : og g A s s.heap) (hS : va_S A s.heap H locs) (hF : ∀ q, va_A ws H.size q → A q) : va_Pc av (st_H g H ws) av.toArray U := ⟨rfl, hU, (gmk (av := av) hU hW hP hK hD hex hE hS hF).2⟩
/-! a cell more -/
theorem get_push {ws : va_W} {x y : Nat × va_E} {k : Nat} (h : (ws ++ [x])[k]? = some y) : ws[k]? = some y ∨ y = x := by
  by_cases hl : k < ws.length
  · rw [List.getElem?_append_left hl] at h
    exact Or.inl h
  · rw [List.getElem?_append_right (by omega)] at h
    have hz : k - ws.length < 1 := (List.getElem?_eq_some_iff.mp h).1
    rw [show k - ws.length = 0 by omega] at h
    cases h
    exact Or.inr rfl
theorem get_old {ws : va_W} {x y : Nat × va_E} {k : Nat} (h : ws[k]? = some y) : (ws ++ [x])[k]? = some y := by
  rw [List.getElem?_append_left (List.getElem?_eq_some_iff.mp h).1]
  exact h
theorem gE_push {ws : va_W} {x : Nat × va_E} : gE ws (ws ++ [x]) := ⟨fun _ _ ⟨k, y, h1, h2⟩ => ⟨k, y, get_old h1, h2⟩, fun _ _ ⟨k, c, n, f, b, h1, h2⟩ => ⟨k, c, n, f, b, get_old h1, h2⟩, fun _ _ ⟨k, fs, h1, h2⟩ => ⟨k, fs, get_old h1, h2⟩⟩
theorem gF_push {ws : va_W} {q : Nat} {S : Option Nat} {x : ClassId × vp_A} : gF [] [] S ws (ws ++ [(q, .inl x)]) := ⟨fun _ _ _ fs h => ⟨fs, get_old h, fun _ _ => rfl, fun _ _ _ => rfl⟩, pM_push (fun _ _ _ _ _ => rfl), fun _ _ _ _ _ _ _ _ _ _ _ h => get_old h⟩
theorem gS_new {ws : va_W} {q : Nat} {x : va_E} : gS (ws ++ [(q, x)]) q (shp x) := ⟨ws.length, x, by rw [List.getElem?_append_right (Nat.le_refl _), Nat.sub_self]; rfl, rfl⟩
theorem get_new {ws : va_W} {x : Nat × va_E} : (ws ++ [x])[ws.length]? = some x := by rw [List.getElem?_append_right (Nat.le_refl _), Nat.sub_self]; rfl
theorem D_split {A : Nat → Prop} {ws : va_W} {x : Nat × va_E} (h : va_D A (ws ++ [x])) : va_D A ws ∧ A x.1 ∧ ∀ (k : Nat) (y : Nat × va_E), ws[k]? = some y → y.1 ≠ x.1 := ⟨⟨fun i j y z h1 h2 h3 => h.1 i j y z (get_old h1) (get_old h2) h3, fun k y hk => h.2 k y (get_old hk)⟩, h.2 _ x get_new, fun k y hk e => by
  have h1 := h.1 k ws.length y x (get_old hk) get_new e
  have h2 := (List.getElem?_eq_some_iff.mp hk).1
  omega⟩
theorem ows_pushB {ws : va_W} {q : Nat} {x : ClassId × vp_A} {k a ci : Nat} {fs : List Value} (h : ows (ws ++ [(q, .inl x)]) k a ci fs) : ows ws k a ci fs := by
  rcases get_push h with h | h
  · exact h
  · cases h
theorem gU_push {A : Nat → Prop} {ws : va_W} {q : Nat} {x : ClassId × vp_A} (hD : va_D A (ws ++ [(q, .inl x)])) (hU : gU ws) : gU (ws ++ [(q, .inl x)]) := by
  have hn := (D_split hD).2.2
  refine ⟨fun k k' a a' ci ci' fs fs' j j' r h1 h2 h3 h4 ha => ?_, fun k a ci fs j r h1 h3 => ?_⟩
  · refine hU.1 _ _ _ _ _ _ _ _ _ _ _ (ows_pushB h1) (ows_pushB h2) h3 h4 ?_
    obtain ⟨z, i, y, h5, h6⟩ := ha
    rcases get_push h5 with h5 | h5
    · exact ⟨z, i, y, h5, h6⟩
    · obtain ⟨w, m, v, h7, -⟩ := hU.2 _ _ _ _ _ _ (ows_pushB h1) h3
      have e9 : r = q := congrArg Prod.fst h5
      exact absurd e9 (hn m _ h7)
  · obtain ⟨z, hz⟩ := hU.2 _ _ _ _ _ _ (ows_pushB h1) h3
    exact ⟨z, gE_push.1 _ _ hz⟩
theorem frs_new {A : Nat → Prop} {ws : va_W} {q : Nat} {x : ClassId × vp_A} (hD : va_D A (ws ++ [(q, .inl x)])) (hU : gU ws) : frs (ws ++ [(q, .inl x)]) q := fun k a ci fs j h hj => by
  obtain ⟨w, m, v, h7, -⟩ := hU.2 _ _ _ _ _ _ (ows_pushB h) hj
  exact (D_split hD).2.2 m _ h7 rfl
theorem frs_push {ws : va_W} {q r : Nat} {x : ClassId × vp_A} (h : frs ws r) : frs (ws ++ [(q, .inl x)]) r := fun k a ci fs j z hj => h _ _ _ _ _ (ows_pushB z) hj
theorem frs_pushO {ws : va_W} {q r ci : Nat} {gs : List Value} (hn : ∀ x ∈ gs, ∀ b, x ≠ Value.ref b) (h : frs ws r) : frs (ws ++ [(q, .inr (ci, gs))]) r := fun k a di fs j z hj => by
  rcases get_push z with z | z
  · exact h _ _ _ _ _ z hj
  · cases z
    exact hn _ (List.mem_of_getElem? hj) _ rfl
theorem gU_pushO {ws : va_W} {q ci : Nat} {gs : List Value} (hn : ∀ x ∈ gs, ∀ b, x ≠ Value.ref b) (hU : gU ws) : gU (ws ++ [(q, .inr (ci, gs))]) := by
  have key : ∀ {k a di j r : Nat} {fs : List Value}, ows (ws ++ [(q, .inr (ci, gs))]) k a di fs → fs[j]? = some (.ref r) → ows ws k a di fs := by
    intro k a di j r fs z hj
    rcases get_push z with z | z
    · exact z
    · cases z
      exact absurd rfl (hn _ (List.mem_of_getElem? hj) r)
  refine ⟨fun k k' a a' c1 c2 fs fs' j j' r h1 h2 h3 h4 ha => ?_, fun k a c1 fs j r h1 h3 => ?_⟩
  · refine hU.1 _ _ _ _ _ _ _ _ _ _ _ (key h1 h3) (key h2 h4) h3 h4 ?_
    obtain ⟨z, i, y, h5, h6⟩ := ha
    rcases get_push h5 with h5 | h5
    · exact ⟨z, i, y, h5, h6⟩
    · cases h5
      cases h6
  · obtain ⟨z, hz⟩ := hU.2 _ _ _ _ _ _ (key h1 h3) h3
    exact ⟨z, gE_push.1 _ _ hz⟩
theorem Good_push {g : Gm} {A : Nat → Prop} {ws : va_W} {q : Nat} {x : ClassId × vp_A} (hD : va_D A (ws ++ [(q, .inl x)])) (hG : Good g ws) (hr : ∀ c n f, x = (c, n, .inr (.inr (.inr (.inr f)))) → rin g ws c f) (hy : ∀ n f, x = (g.cB, n, .inl f) → ∀ i, fits .byte (.int (f i)) = true) : Good g (ws ++ [(q, .inl x)]) := by
  have E : gE ws (ws ++ [(q, .inl x)]) := gE_push
  refine ⟨fun j b di gs h => ?_, fun j b c n f h => ?_, fun j b n f h => ?_, hG.2.2.2.1, gU_push hD hG.u⟩
  · rcases get_push h with h | h
    · exact (hG.1 j b di gs h).mo E
    · cases h
  · rcases get_push h with h | h
    · exact (hG.2.1 j b c n f h).mo E
    · cases h
      exact (hr _ _ _ rfl).mo E
  · rcases get_push h with h | h
    · exact hG.2.2.1 j b n f h
    · cases h
      exact hy _ _ rfl
theorem Good_pushI {g : Gm} {A : Nat → Prop} {ws : va_W} {q n : Nat} {c : ClassId} (hD : va_D A (ws ++ [(q, .inl (c, n, .inl (fun _ => 0)))])) (hG : Good g ws) : Good g (ws ++ [(q, .inl (c, n, .inl (fun _ => 0)))]) := Good_push hD hG (fun _ _ _ h => by cases h) (fun _ _ h => by cases h; exact fun _ => rfl)
theorem Good_pushJ {g : Gm} {A : Nat → Prop} {ws : va_W} {q n : Nat} {c : ClassId} (hD : va_D A (ws ++ [(q, .inl (c, n, .inr (.inl (fun _ => 0))))])) (hG : Good g ws) : Good g (ws ++ [(q, .inl (c, n, .inr (.inl (fun _ => 0))))]) := Good_push hD hG (fun _ _ _ h => by cases h) (fun _ _ h => by cases h)
theorem Good_pushR {g : Gm} {A : Nat → Prop} {ws : va_W} {q n : Nat} {c : ClassId} (hD : va_D A (ws ++ [(q, .inl (c, n, .inr (.inr (.inr (.inr (fun _ => none))))))])) (hG : Good g ws) : Good g (ws ++ [(q, .inl (c, n, .inr (.inr (.inr (.inr (fun _ => none))))))]) := Good_push hD hG (fun _ _ _ h => by cases h; exact ⟨fun _ _ _ h => (nomatch h), fun _ _ _ h => (nomatch h)⟩) (fun _ _ h => by cases h)
/-- the class of a new array is the one that g names -/
theorem cls_new {g : Gm} {s : State} {cA cB : ClassId} {ty : FieldType} {k : Nat} (hK : va_K (gD g) cl0 (tyL g) s) (hK' : va_K (gD g) cl0 (tyL g ++ [(cA, ty)]) s) (hk : (tyL g)[k]? = some (cB, ty)) (hp : ∀ C, ty ≠ .object C) : cB = cA := by
  have h1 := (hK.2 k _ hk).2
  have h2 := (hK'.2 6 (cA, ty) rfl).2
  cases ty with
  | object C => exact absurd rfl (hp C)
  | _ => exact Option.some.inj (h1.symm.trans h2)
theorem cls_newR {g : Gm} {s : State} {cA cB : ClassId} {C : String} {k : Nat} (hK : va_K (gD g) cl0 (tyL g) s) (hK' : va_K (gD g) cl0 (tyL g ++ [(cA, .object C)]) s) (hk : (tyL g)[k]? = some (cB, .object C)) : cB = cA := by
  obtain ⟨_, _, _, _, _, h1⟩ := (hK.2 k _ hk).2
  obtain ⟨_, _, _, _, _, h2⟩ := (hK'.2 6 (cA, .object C) rfl).2
  exact Option.some.inj (h1.symm.trans h2)
/-- an object whose fields are set one after another: all but the one at k are as they must be -/
def GoodX (g : Gm) (k0 : Nat) (ws : va_W) : Prop := (∀ (k a ci : Nat) (fs : List Value), k ≠ k0 → ows ws k a ci fs → inv g ws a ci fs) ∧ (∀ (k a : Nat) (c : ClassId) (n : Nat) (f : Nat → Option Nat), rws ws k a c n f → rin g ws c f) ∧ (∀ (k a n : Nat) (f : Nat → Int32), iws ws k a g.cB n f → ∀ i, fits .byte (.int (f i)) = true) ∧ (g.cI ≠ g.cB ∧ g.cZ ≠ g.cB ∧ g.cU ≠ g.cR) ∧ gU ws
theorem GoodX.u {g : Gm} {k0 : Nat} {ws : va_W} (h : GoodX g k0 ws) : gU ws := h.2.2.2.2
theorem Good.x {g : Gm} {ws : va_W} (h : Good g ws) (k0 : Nat) : GoodX g k0 ws := ⟨fun k a ci fs _ q => h.1 k a ci fs q, h.2⟩
theorem GoodX.full {g : Gm} {ws : va_W} {k0 a ci : Nat} {fs : List Value} (h : GoodX g k0 ws) (hk : ows ws k0 a ci fs) (hi : inv g ws a ci fs) : Good g ws := ⟨fun k b di gs q => by
  by_cases e : k = k0
  · subst e
    rw [ows, hk] at q
    cases q
    exact hi
  · exact h.1 k b di gs e q, h.2⟩
theorem GoodX.set {g : Gm} {ws ws' : va_W} {k a ci fi : Nat} {v : Value} {fs fs' : List Value} (e : ws' = ws.set k (a, .inr (ci, fs'))) (hk : ows ws k a ci fs) (E : gE ws ws') (hs : fs' = fs.set fi v) (hv : okv ws ci fi v) (hG : GoodX g k ws) : GoodX g k ws' := by
  have U : gU ws' := gU_set e hk hs hv hG.u
  clear hs
  have hl := (List.getElem?_eq_some_iff.mp hk).1
  subst e
  refine ⟨fun j b di gs hj h => ?_, fun j b c n f h => ?_, fun j b n f h => ?_, hG.2.2.2.1, U⟩
  · rw [ows, List.getElem?_set_ne (Ne.symm hj)] at h
    exact (hG.1 j b di gs hj h).mo E
  · by_cases hj : j = k
    · subst hj
      rw [rws, List.getElem?_set_self hl] at h
      cases h
    · rw [rws, List.getElem?_set_ne (Ne.symm hj)] at h
      exact (hG.2.1 j b c n f h).mo E
  · by_cases hj : j = k
    · subst hj
      rw [iws, List.getElem?_set_self hl] at h
      cases h
    · rw [iws, List.getElem?_set_ne (Ne.symm hj)] at h
      exact hG.2.2.1 j b n f h
theorem GoodX.push {g : Gm} {A : Nat → Prop} {k0 : Nat} {ws : va_W} {q : Nat} {x : ClassId × vp_A} (hD : va_D A (ws ++ [(q, .inl x)])) (hl : k0 < ws.length) (hG : GoodX g k0 ws) (hr : ∀ c n f, x = (c, n, .inr (.inr (.inr (.inr f)))) → rin g ws c f) (hy : ∀ n f, x = (g.cB, n, .inl f) → ∀ i, fits .byte (.int (f i)) = true) : GoodX g k0 (ws ++ [(q, .inl x)]) := by
  have E : gE ws (ws ++ [(q, .inl x)]) := gE_push
  refine ⟨fun j b di gs hj h => ?_, fun j b c n f h => ?_, fun j b n f h => ?_, hG.2.2.2.1, gU_push hD hG.u⟩
  · by_cases hz : j < ws.length
    · rw [ows, List.getElem?_append_left hz] at h
      exact (hG.1 j b di gs hj h).mo E
    · rcases get_push h with h | h
      · exact absurd (List.getElem?_eq_some_iff.mp h).1 hz
      · cases h
  · rcases get_push h with h | h
    · exact (hG.2.1 j b c n f h).mo E
    · cases h
      exact (hr _ _ _ rfl).mo E
  · rcases get_push h with h | h
    · exact hG.2.2.1 j b n f h
    · cases h
      exact hy _ _ rfl
theorem GoodX.pushI {g : Gm} {A : Nat → Prop} {k0 : Nat} {ws : va_W} {q n : Nat} {c : ClassId} (hD : va_D A (ws ++ [(q, .inl (c, n, .inl (fun _ => 0)))])) (hl : k0 < ws.length) (hG : GoodX g k0 ws) : GoodX g k0 (ws ++ [(q, .inl (c, n, .inl (fun _ => 0)))]) := hG.push hD hl (fun _ _ _ h => by cases h) (fun _ _ h => by cases h; exact fun _ => rfl)
theorem GoodX.pushJ {g : Gm} {A : Nat → Prop} {k0 : Nat} {ws : va_W} {q n : Nat} {c : ClassId} (hD : va_D A (ws ++ [(q, .inl (c, n, .inr (.inl (fun _ => 0))))])) (hl : k0 < ws.length) (hG : GoodX g k0 ws) : GoodX g k0 (ws ++ [(q, .inl (c, n, .inr (.inl (fun _ => 0))))]) := hG.push hD hl (fun _ _ _ h => by cases h) (fun _ _ h => by cases h)
theorem GoodX.pushR {g : Gm} {A : Nat → Prop} {k0 : Nat} {ws : va_W} {q n : Nat} {c : ClassId} (hD : va_D A (ws ++ [(q, .inl (c, n, .inr (.inr (.inr (.inr (fun _ => none))))))])) (hl : k0 < ws.length) (hG : GoodX g k0 ws) : GoodX g k0 (ws ++ [(q, .inl (c, n, .inr (.inr (.inr (.inr (fun _ => none))))))]) := hG.push hD hl (fun _ _ _ h => by cases h; exact ⟨fun _ _ _ h => (nomatch h), fun _ _ _ h => (nomatch h)⟩) (fun _ _ h => by cases h)
theorem ows_lt {ws : va_W} {k a ci : Nat} {fs : List Value} (h : ows ws k a ci fs) : k < ws.length := (List.getElem?_eq_some_iff.mp h).1
theorem GoodX.goodS {g : Gm} {ws ws' : va_W} {k a ci fi : Nat} {v : Value} {fs fs' : List Value} (e : ws' = ws.set k (a, .inr (ci, fs'))) (hk : ows ws k a ci fs) (E : gE ws ws') (hs : fs' = fs.set fi v) (hv : okv ws ci fi v) (hG : GoodX g k ws) (hi : inv g ws a ci fs') : Good g ws' := (GoodX.set e hk E hs hv hG).full (gset_self e hk) (hi.mo E)
theorem i_cl {z : Int32} {n b : Nat} (e : z.toNatClampNeg = n) (h : z.toInt ≤ b) : n ≤ b := by
  have : z.toNatClampNeg = z.toInt.toNat := rfl
  omega
theorem i_nn {z : Int32} {n : Nat} (e : z.toNatClampNeg = n) (h : 0 ≤ z.toInt) : (n : Int) = z.toInt := by
  have : z.toNatClampNeg = z.toInt.toNat := rfl
  omega
theorem dbl_0 {r : Int32} (h : 64 ≤ r.toInt) : ((64 * 2 ^ (0 : Int32).toInt.toNat : Nat) : Int) ≤ r.toInt := by
  have e : (64 * 2 ^ (0 : Int32).toInt.toNat : Nat) = 64 := by decide
  rw [e]
  exact h
theorem dbl_st {k k' r r' : Int32} (h : ((64 * 2 ^ k.toInt.toNat : Nat) : Int) ≤ r.toInt) (hr : r'.toInt = 2 * r.toInt) (hk : k'.toInt = k.toInt + 1) (h0 : 0 ≤ k.toInt) : ((64 * 2 ^ k'.toInt.toNat : Nat) : Int) ≤ r'.toInt := by
  have e : k'.toInt.toNat = k.toInt.toNat + 1 := by omega
  rw [e, Nat.pow_succ]
  omega
theorem dbl_le {k r : Int32} (h : ((64 * 2 ^ k.toInt.toNat : Nat) : Int) ≤ r.toInt) : k.toInt ≤ 30 := by
  have hr := i_rg r
  by_cases hk : k.toInt ≤ 30
  · exact hk
  · have h1 : (2 : Nat) ^ 31 ≤ 2 ^ k.toInt.toNat := Nat.pow_le_pow_right (by decide) (by omega)
    have h2 : (2 : Nat) ^ 31 = 2147483648 := by decide
    omega
theorem i_by {n b k : Nat} (h : n ≤ b) (hk : b * k ≤ 536870912) : n * k ≤ 536870912 := Nat.le_trans (Nat.mul_le_mul_right _ h) hk
theorem i_sl {n b x y : Nat} (h : n ≤ b) (hk : x + b ≤ y) : x + n ≤ y := by omega
theorem get_oldE {ws ws' : va_W} {x y : Nat × va_E} {k : Nat} (e : ws' = ws ++ [x]) (h : ws[k]? = some y) : ws'[k]? = some y := by rw [e]; exact get_old h
/-! a new object: it lies beside the world until its constructor has been called -/
theorem P_split {D : va_G} {cl : List vw_C} {ws : va_W} {x : Nat × va_E} {H : Heap} (h : va_P D cl (ws ++ [x]) H) : va_P D cl ws H ∧ va_P D cl [x] H := ⟨fun k q hk => h k q (get_old hk), fun k q hk => by
  have hz : k < 1 := (List.getElem?_eq_some_iff.mp hk).1
  rw [show k = 0 by omega] at hk
  cases hk
  exact h ws.length x (by rw [List.getElem?_append_right (Nat.le_refl _), Nat.sub_self]; rfl)⟩
theorem D_join {A : Nat → Prop} {ws : va_W} {x : Nat × va_E} (h : va_D A ws) (ha : A x.1) (hn : ∀ (k : Nat) (y : Nat × va_E), ws[k]? = some y → y.1 ≠ x.1) : va_D A (ws ++ [x]) := by
  have key : ∀ (k : Nat) (y : Nat × va_E), (ws ++ [x])[k]? = some y → ws[k]? = some y ∨ (k = ws.length ∧ y = x) := by
    intro k y hk
    by_cases hl : k < ws.length
    · rw [List.getElem?_append_left hl] at hk
      exact Or.inl hk
    · rw [List.getElem?_append_right (by omega)] at hk
      have hz : k - ws.length < 1 := (List.getElem?_eq_some_iff.mp hk).1
      have hk0 : k = ws.length := by omega
      subst hk0
      rw [Nat.sub_self] at hk
      cases hk
      exact Or.inr ⟨rfl, rfl⟩
  refine ⟨fun i j y z h1 h2 h3 => ?_, fun k y hk => ?_⟩
  · rcases key i y h1 with q1 | ⟨q1, q2⟩ <;> rcases key j z h2 with q3 | ⟨q3, q4⟩
    · exact h.1 i j y z q1 q3 h3
    · rw [q4] at h3
      exact absurd h3 (hn i y q1)
    · rw [q2] at h3
      exact absurd h3.symm (hn j z q3)
    · rw [q1, q3]
  · rcases key k y hk with q1 | ⟨q1, q2⟩
    · exact h.2 k y q1
    · rw [q2]; exact ha
def pend (A : Nat → Prop) (g : Gm) (ws : va_W) (q ci : Nat) (fs : List Value) (H : Heap) : Prop := va_P (gD g) cl0 [(q, .inr (ci, fs))] H ∧ A q ∧ ∀ (k : Nat) (y : Nat × va_E), ws[k]? = some y → y.1 ≠ q
theorem pend_call {A : Nat → Prop} {g : Gm} {ws u : va_W} {q ci : Nat} {fs : List Value} {H H1 : Heap} (h : pend A g ws q ci fs H) (hk : ∀ a : Nat, a < H.size → ¬ va_A ws H.size a → H1[a]? = H[a]?) (hD : va_D (va_A ws H.size) u) : pend A g u q ci fs H1 := by
  obtain ⟨h1, h2, h3⟩ := h
  have hl : q < H.size := (h1 0 _ rfl).lt
  have hn : ¬ va_A ws H.size q := by
    rintro (⟨k, e, z⟩ | z)
    · exact h3 k _ z rfl
    · omega
  refine ⟨h1.kept (fun k y hy => ?_), h2, fun k y hy e => hn (by rw [← e]; exact hD.2 k y hy)⟩
  have hz : k < 1 := (List.getElem?_eq_some_iff.mp hy).1
  rw [show k = 0 by omega] at hy
  cases hy
  exact hk q hl hn
theorem Good.newX {g : Gm} {ws : va_W} {x : Nat} {q ci : Nat} {fs : List Value} (hn : ∀ x ∈ fs, ∀ b, x ≠ Value.ref b) (h : Good g ws) (e : x = ws.length) : GoodX g x (ws ++ [(q, .inr (ci, fs))]) := by
  subst e
  have E : gE ws (ws ++ [(q, .inr (ci, fs))]) := gE_push
  refine ⟨fun j b di gs hj z => ?_, fun j b c n f z => ?_, fun j b n f z => ?_, h.2.2.2.1, gU_pushO hn h.u⟩
  · by_cases hl : j < ws.length
    · rw [ows, List.getElem?_append_left hl] at z
      exact (h.1 j b di gs z).mo E
    · have := (List.getElem?_eq_some_iff.mp z).1
      rw [List.length_append] at this
      have : ([(q, (Sum.inr (ci, fs) : va_E))] : va_W).length = 1 := rfl
      omega
  · rcases get_push z with z | z
    · exact (h.2.1 j b c n f z).mo E
    · cases z
  · rcases get_push z with z | z
    · exact h.2.2.1 j b n f z
    · cases z
/-- all objects but the one at k0 are as they were, and all arrays -/
def gX (k0 : Nat) (ws u : va_W) : Prop := (∀ (k a ci : Nat) (fs : List Value), k ≠ k0 → ows ws k a ci fs → ows u k a ci fs) ∧ ∀ (k r : Nat) (x : ClassId × vp_A), ws[k]? = some (r, .inl x) → u[k]? = some (r, .inl x)
theorem gX.rf {k0 : Nat} {ws : va_W} : gX k0 ws ws := ⟨fun _ _ _ _ _ h => h, fun _ _ _ h => h⟩
theorem gX.tr {k0 : Nat} {u v w : va_W} (h : gX k0 u v) (h' : gX k0 v w) : gX k0 u w := ⟨fun k a ci fs n z => h'.1 k a ci fs n (h.1 k a ci fs n z), fun k r x z => h'.2 k r x (h.2 k r x z)⟩
theorem gX_set {k0 a ci : Nat} {fs fs' : List Value} {ws ws' : va_W} (e : ws' = ws.set k0 (a, .inr (ci, fs'))) (hk : ows ws k0 a ci fs) : gX k0 ws ws' := ⟨fun k a ci fs n z => by
  rw [e, ows, List.getElem?_set_ne (Ne.symm n)]
  exact z, fun k r x z => gset_obI e hk z⟩
theorem gX_push {k0 : Nat} {ws ws' : va_W} {x : Nat × va_E} (e : ws' = ws ++ [x]) : gX k0 ws ws' := ⟨fun k a ci fs n z => get_oldE e z, fun k r x z => get_oldE e z⟩
theorem gF_new {ws u : va_W} {S : Option Nat} {x : Nat × va_E} (h : gX ws.length (ws ++ [x]) u) (h1 : pM (ws ++ [x]) u) (h2 : pM ws (ws ++ [x])) : gF [] [] S ws u := ⟨fun k a ci fs z => ⟨fs, h.1 k a ci fs (Nat.ne_of_lt (List.getElem?_eq_some_iff.mp z).1) (get_old z), fun _ _ => rfl, fun _ _ _ => rfl⟩, h2.tr h1, fun _ _ _ _ _ _ _ _ _ _ _ z => h.2 _ _ _ (get_old z)⟩
theorem pM_ob {ws : va_W} {q ci : Nat} {fs : List Value} (h : ∀ j, (ci, j) ∉ pK) : pM ws (ws ++ [(q, .inr (ci, fs))]) := pM_push (fun di j cap sc z => if_neg (fun e => by subst e; exact h j z))
def gQ3 (g : Gm) (k0 : Nat) (A : Nat → Prop) (ws : va_W) (H0 : Heap) (c0 s0 : Nat) (u : va_W) (t : State) : Prop := gE ws u ∧ gX k0 ws u ∧ pM ws u ∧ Good g u ∧ va_P (gD g) cl0 u t.heap ∧ va_D A u ∧ gL H0 t.heap ws u c0 s0
theorem Good_arU {g : Gm} {ws ws' : va_W} {k a n i v : Nat} {f : Nat → Option Nat} (e : ws' = ws.set k (a, .inl (g.cU, n, .inr (.inr (.inr (.inr (va_up f i (some v)))))))) (hk : rws ws k a g.cU n f) (hG : Good g ws) (hv : gC ws v 9) (hf : full ws v) : Good g ws' := Good_ar e hk cw_r hG (fun c n' f' h => by
  cases h
  refine ⟨fun _ j b z => ?_, fun z => absurd z hG.2.2.2.1.2.2⟩
  by_cases hj : j = i
  · subst hj; rw [va_up_self] at z; cases z; exact ⟨hv, hf⟩
  · rw [va_up_ne _ _ hj] at z; exact (hG.2.1 _ _ _ _ _ hk).1 rfl j b z) (fun _ _ h => by have h2 := congrArg (fun x => x.2.2) h; cases h2)
theorem Good_arW {g : Gm} {ws ws' : va_W} {k a n i v : Nat} {f : Nat → Option Nat} (e : ws' = ws.set k (a, .inl (g.cR, n, .inr (.inr (.inr (.inr (va_up f i (some v)))))))) (hk : rws ws k a g.cR n f) (hG : Good g ws) (hv : gC ws v 7) : Good g ws' := Good_ar e hk cw_r hG (fun c n' f' h => by
  cases h
  refine ⟨fun z => absurd z.symm hG.2.2.2.1.2.2, fun _ j b z => ?_⟩
  by_cases hj : j = i
  · subst hj; rw [va_up_self] at z; cases z; exact hv
  · rw [va_up_ne _ _ hj] at z; exact (hG.2.1 _ _ _ _ _ hk).2 rfl j b z) (fun _ _ h => by have h2 := congrArg (fun x => x.2.2) h; cases h2)
