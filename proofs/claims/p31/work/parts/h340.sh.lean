/-! the shape of the world: Rows, Units, Heights, and the rows that go together -/
def RwK (S : MS) (p : Nat) : Prop := (qR S p 0 = some (qO S p 0) ∧ qR S p 1 = some (qO S p 1) ∧ qR S p 3 = some (qO S p 3) ∧ qR S p 5 = some (qO S p 5) ∧ qR S p 6 = some (qO S p 6) ∧ qR S p 7 = some (qO S p 7) ∧ qR S p 8 = some (qO S p 8)) ∧ (0 ≤ (qI S p 2).toInt ∧ (qI S p 2).toInt ≤ (qN S (qO S p 0) : Int) ∧ (qN S (qO S p 1) : Int) = (qN S (qO S p 0) : Int) ∧ (qN S (qO S p 0) : Int) ≤ 1296 ∧ 0 ≤ (qI S p 4).toInt ∧ (qI S p 4).toInt ≤ (qN S (qO S p 3) : Int) ∧ (qN S (qO S p 3) : Int) ≤ 1200 ∧ 0 ≤ (qI S p 9).toInt ∧ (qI S p 9).toInt ≤ (qN S (qO S p 5) : Int) ∧ (qN S (qO S p 6) : Int) = (qN S (qO S p 5) : Int) ∧ (qN S (qO S p 7) : Int) = (qN S (qO S p 5) : Int) ∧ (qN S (qO S p 8) : Int) = (qN S (qO S p 5) : Int) ∧ (qN S (qO S p 5) : Int) ≤ 16)
def UnK (S : MS) (p : Nat) : Prop := (qR S p 0 = some (qO S p 0) ∧ qR S p 5 = some (qO S p 5) ∧ qR S p 6 = some (qO S p 6) ∧ qR S p 7 = some (qO S p 7) ∧ qR S p 9 = some (qO S p 9) ∧ qR S p 10 = some (qO S p 10) ∧ qR S p 11 = some (qO S p 11) ∧ qR S p 12 = some (qO S p 12) ∧ qR S p 13 = some (qO S p 13)) ∧ (0 ≤ (qI S p 4).toInt ∧ (qI S p 4).toInt ≤ 24 ∧ (qN S (qO S p 5) : Int) = (qI S p 4).toInt ∧ (qN S (qO S p 6) : Int) = (qI S p 4).toInt ∧ (qN S (qO S p 7) : Int) = (qI S p 4).toInt ∧ 0 ≤ (qI S p 8).toInt ∧ (qI S p 8).toInt ≤ 24 ∧ (qN S (qO S p 9) : Int) = (qI S p 8).toInt ∧ (qN S (qO S p 10) : Int) = (qI S p 8).toInt ∧ (qN S (qO S p 11) : Int) = (qI S p 8).toInt ∧ (qN S (qO S p 12) : Int) = (qI S p 8).toInt ∧ (qN S (qO S p 13) : Int) = (qI S p 8).toInt)
def HtK (S : MS) (p : Nat) : Prop := (qR S p 0 = some (qO S p 0) ∧ qR S p 1 = some (qO S p 1) ∧ qR S p 2 = some (qO S p 2)) ∧ (qN S (qO S p 1) : Int) = (qN S (qO S p 0) : Int) ∧ (qN S (qO S p 2) : Int) = (qN S (qO S p 0) : Int)
def ChKk (S : MS) : Prop := (qN S (qO S 16 3) : Int) = (qN S (qO S 16 2) : Int) ∧ (qN S (qO S 16 1) : Int) = 48 * (qN S (qO S 16 2) : Int)
def WrK (S : MS) : Prop := (qN S (qO S 25 16) : Int) = (qN S (qO S 25 17) : Int)
def SmK (S : MS) : Prop := (qN S (qO S (qO S 66 0) 0) : Int) ≤ (qN S (qO S 66 2) : Int) ∧ (qN S (qO S (qO S 66 0) 0) : Int) ≤ (qN S (qO S 66 3) : Int) ∧ (qN S (qO S (qO S 66 0) 0) : Int) ≤ (qN S (qO S 66 4) : Int) ∧ (qN S (qO S (qO S 66 0) 0) : Int) ≤ (qN S (qO S 66 5) : Int) ∧ ((qN S (qO S (qO S 66 0) 0) : Int) = 1296 ∨ (qN S (qO S 66 2) : Int) = 0)
/-- what the growing rows have cost, and may cost -/
def hp2 (S : MS) : Nat := if qN S (qO S 44 2) = 20000 then 20000 else 0
def PSc (S : MS) : Nat := 2 * qN S (qO S 1 0) + 2 * qN S (qO S 3 0) + 2 * qN S (qO S 5 0) + 2 * qN S (qO S 26 0) + 2 * qN S (qO S 28 0) + 2 * qN S (qO S 30 0) + 6 * qN S (qO S 17 0) + 6 * qN S (qO S 38 0) + 100 * qN S (qO S 16 2) + 4 * qN S (qO S 25 17) + 4 * qN S (qO S 52 3) + 16 * qN S (qO S 52 13) + 2 * qN S (qO S 52 9) + 2 * qN S (qO S 52 5) + 2 * qN S (qO S 52 7) + 2 * qN S (qO S 44 2) + 2 * qN S (qO S 44 4) + 1 * qN S (qO S 44 8) + 1 * qN S (qO S 44 9) + 7 * qN S (qO S 66 2) + hp2 S
def PNc (S : MS) : Nat := 1 * qN S (qO S 1 0) + 1 * qN S (qO S 3 0) + 1 * qN S (qO S 5 0) + 1 * qN S (qO S 26 0) + 1 * qN S (qO S 28 0) + 1 * qN S (qO S 30 0) + 256 * qN S (qO S 17 0) + 256 * qN S (qO S 38 0) + 256 * qN S (qO S 16 2) + 256 * qN S (qO S 25 17) + 256 * qN S (qO S 52 3) + 256 * qN S (qO S 52 13) + 32 * qN S (qO S 52 9) + 4 * qN S (qO S 52 5) + 4 * qN S (qO S 52 7) + 64 * qN S (qO S 44 2) + 8 * qN S (qO S 44 4) + 1 * qN S (qO S 44 8) + 1 * qN S (qO S 66 2)
def CpK (S : MS) : Prop := qN S (qO S 1 0) ≤ 16384 ∧ qN S (qO S 3 0) ≤ 65536 ∧ qN S (qO S 5 0) ≤ 65536 ∧ qN S (qO S 26 0) ≤ 16384 ∧ qN S (qO S 28 0) ≤ 65536 ∧ qN S (qO S 30 0) ≤ 128 ∧ qN S (qO S 17 0) ≤ 2400 ∧ qN S (qO S 38 0) ≤ 2592 ∧ qN S (qO S 16 2) ≤ 2400 ∧ qN S (qO S 25 17) ≤ 2594 ∧ qN S (qO S 52 3) ≤ 2400 ∧ qN S (qO S 52 13) ≤ 2400 ∧ qN S (qO S 52 9) ≤ 45600 ∧ qN S (qO S 52 5) ≤ 32768 ∧ qN S (qO S 52 7) ≤ 32768 ∧ qN S (qO S 44 2) ≤ 20000 ∧ qN S (qO S 44 4) ≤ 512 ∧ qN S (qO S 44 8) ≤ 1440 ∧ qN S (qO S 44 9) ≤ 1440 ∧ qN S (qO S 66 2) ≤ 1297
def RmK (B : Nat × Nat) (S : MS) : Prop := B.1 ≤ KSC ∧ B.2 ≤ 64 * KCC ∧ qu S + 1082591 ≤ B.1 + PSc S ∧ 64 * qn S + 7022897 ≤ B.2 + PNc S
/-- all cells have a kind -/
def dnC (S : MS) : Prop := ∀ a, a < qn S → qT S a ≠ 0
def ShC (B : Nat × Nat) (S : MS) : Prop := (∀ p, qT S p = 47 → RwK S p) ∧ (∀ p, qT S p = 49 → UnK S p) ∧ (∀ p, qT S p = 44 → HtK S p) ∧ ChKk S ∧ WrK S ∧ SmK S ∧ dnC S ∧ CpK S ∧ RmK B S
/-- no new Row, Unit, Heights -/
def nkC (S u : MS) : Prop := (∀ a, qT S a = 0 → qT u a ≠ 47 ∧ qT u a ≠ 49 ∧ qT u a ≠ 44) ∧ ∀ a, a < qn u → qT S a = 0 → qT u a ≠ 0
def shF : List (Nat × Nat) := [(47, 0), (47, 1), (47, 2), (47, 3), (47, 4), (47, 5), (47, 6), (47, 7), (47, 8), (47, 9), (49, 0), (49, 4), (49, 5), (49, 6), (49, 7), (49, 8), (49, 9), (49, 10), (49, 11), (49, 12), (49, 13), (44, 0), (44, 1), (44, 2), (41, 1), (41, 2), (41, 3), (50, 16), (50, 17), (48, 0), (48, 2), (48, 3), (48, 4), (48, 5), (40, 0), (43, 3), (43, 5), (43, 7), (43, 9), (43, 13), (45, 2), (45, 4), (45, 8), (45, 9)]
def okK (K : List Nat) : Bool := K.all (fun x => Nat.blt 100 x || x == 5 || x == 6)
section SHM
variable {K : List Nat} {F : List (Nat × Nat)} {S u : MS} {a j t p : Nat}
theorem okK_n (h : okK K = true) (m : t < 100 ∧ t ≠ 5 ∧ t ≠ 6) : K.contains t = false := by
  cases e : K.contains t with
  | false => rfl
  | true =>
    have := List.all_eq_true.mp h _ (List.contains_iff_mem.mp e)
    simp [Nat.blt, Nat.ble_eq] at this
    omega
theorem qO_eq {b c i : Nat} (h : qR u b i = qR S c i) : qO u b i = qO S c i := by unfold qO; rw [h]
theorem shx.N9 (s : shx S u) (w : wfC S) (h : qR S a j = some (qO S a j)) : (qN u (qO S a j) : Int) = (qN S (qO S a j) : Int) := by
  have k := w.rf3 a j _ h
  rw [(s.1 _ (by rw [k.1]; exact k.2.1)).2]
theorem RwK.mv (w : wfC S) (h : RwK S p) (s : shx S u) (eI : ∀ j, j < 10 → qI u p j = qI S p j) (eR : ∀ j, j < 10 → qR u p j = qR S p j) : RwK u p := by
  have o : ∀ j, j < 10 → qO u p j = qO S p j := fun j hj => qO_eq (eR j hj)
  obtain ⟨⟨a0, a1, a3, a5, a6, a7, a8⟩, h⟩ := h
  refine ⟨⟨?_, ?_, ?_, ?_, ?_, ?_, ?_⟩, ?_⟩
  · rw [eR 0 (by decide), o 0 (by decide)]; exact a0
  · rw [eR 1 (by decide), o 1 (by decide)]; exact a1
  · rw [eR 3 (by decide), o 3 (by decide)]; exact a3
  · rw [eR 5 (by decide), o 5 (by decide)]; exact a5
  · rw [eR 6 (by decide), o 6 (by decide)]; exact a6
  · rw [eR 7 (by decide), o 7 (by decide)]; exact a7
  · rw [eR 8 (by decide), o 8 (by decide)]; exact a8
  · rw [o 0 (by decide), o 1 (by decide), o 3 (by decide), o 5 (by decide), o 6 (by decide), o 7 (by decide), o 8 (by decide), s.N9 w a0, s.N9 w a1, s.N9 w a3, s.N9 w a5, s.N9 w a6, s.N9 w a7, s.N9 w a8, eI 2 (by decide), eI 4 (by decide), eI 9 (by decide)]
    exact h
theorem UnK.mv (w : wfC S) (h : UnK S p) (s : shx S u) (eI : ∀ j, j = 4 ∨ j = 8 → qI u p j = qI S p j) (eR : ∀ j, j = 0 ∨ (5 ≤ j ∧ j ≤ 7) ∨ (9 ≤ j ∧ j ≤ 13) → qR u p j = qR S p j) : UnK u p := by
  have o : ∀ j, j = 0 ∨ (5 ≤ j ∧ j ≤ 7) ∨ (9 ≤ j ∧ j ≤ 13) → qO u p j = qO S p j := fun j hj => qO_eq (eR j hj)
  obtain ⟨⟨a0, a5, a6, a7, a9, a10, a11, a12, a13⟩, h⟩ := h
  refine ⟨⟨?_, ?_, ?_, ?_, ?_, ?_, ?_, ?_, ?_⟩, ?_⟩
  · rw [eR 0 (by decide), o 0 (by decide)]; exact a0
  · rw [eR 5 (by decide), o 5 (by decide)]; exact a5
  · rw [eR 6 (by decide), o 6 (by decide)]; exact a6
  · rw [eR 7 (by decide), o 7 (by decide)]; exact a7
  · rw [eR 9 (by decide), o 9 (by decide)]; exact a9
  · rw [eR 10 (by decide), o 10 (by decide)]; exact a10
  · rw [eR 11 (by decide), o 11 (by decide)]; exact a11
  · rw [eR 12 (by decide), o 12 (by decide)]; exact a12
  · rw [eR 13 (by decide), o 13 (by decide)]; exact a13
  · rw [o 5 (by decide), o 6 (by decide), o 7 (by decide), o 9 (by decide), o 10 (by decide), o 11 (by decide), o 12 (by decide), o 13 (by decide), s.N9 w a5, s.N9 w a6, s.N9 w a7, s.N9 w a9, s.N9 w a10, s.N9 w a11, s.N9 w a12, s.N9 w a13, eI 4 (by decide), eI 8 (by decide)]
    exact h
theorem HtK.mv (w : wfC S) (h : HtK S p) (s : shx S u) (eR : ∀ j, j < 3 → qR u p j = qR S p j) : HtK u p := by
  have o : ∀ j, j < 3 → qO u p j = qO S p j := fun j hj => qO_eq (eR j hj)
  obtain ⟨⟨a0, a1, a2⟩, h⟩ := h
  refine ⟨⟨?_, ?_, ?_⟩, ?_⟩
  · rw [eR 0 (by decide), o 0 (by decide)]; exact a0
  · rw [eR 1 (by decide), o 1 (by decide)]; exact a1
  · rw [eR 2 (by decide), o 2 (by decide)]; exact a2
  · rw [o 0 (by decide), o 1 (by decide), o 2 (by decide), s.N9 w a0, s.N9 w a1, s.N9 w a2]
    exact h
theorem wfC.k16 (w : wfC S) : qT S 16 = 41 := (w.2.1 _ finC_27).2.1
theorem wfC.k25 (w : wfC S) : qT S 25 = 50 := (w.2.1 _ finC_28).2.1
theorem wfC.k44 (w : wfC S) : qT S 44 = 45 := (w.2.1 _ finC_29).2.1
theorem wfC.k52 (w : wfC S) : qT S 52 = 43 := (w.2.1 _ finC_30).2.1
theorem wfC.k66 (w : wfC S) : qT S 66 = 48 := (w.2.1 _ finC_31).2.1
theorem wfC.k17 (w : wfC S) : qT S 17 = 44 := (w.2.1 _ finC_0).2.1
theorem wfC.k38 (w : wfC S) : qT S 38 = 44 := (w.2.1 _ finC_21).2.1
theorem wfC.k67 (w : wfC S) : qT S (qO S 66 0) = 47 := w.ref (w.ptr (by decide)) w.k66
/-- the kinds of what was there -/
theorem shx.oldT (s : shx S u) (k : qT u p = t) (h0 : qT S p ≠ 0) : qT S p = t := by rw [← (s.1 p h0).1]; exact k
/-- lists of fields that are left alone -/
def okL (L F : List (Nat × Nat)) : Bool := F.all (fun x => !L.contains x)
theorem okL_n {L : List (Nat × Nat)} (h : okL L F = true) (m : L.contains (t, j) = true) : F.contains (t, j) = false := by
  cases e : F.contains (t, j) with
  | false => rfl
  | true =>
    have := List.all_eq_true.mp h _ (List.contains_iff_mem.mp e)
    rw [m] at this
    cases this
theorem okL_mo {L L' : List (Nat × Nat)} (h : okL L F = true) (m : L'.all (fun x => L.contains x) = true) : okL L' F = true := by
  refine List.all_eq_true.mpr (fun x hx => ?_)
  have h1 := List.all_eq_true.mp h x hx
  cases e : L'.contains x with
  | false => rfl
  | true => rw [List.all_eq_true.mp m _ (List.contains_iff_mem.mp e)] at h1; cases h1
theorem cfr.sl {L : List (Nat × Nat)} (f : cfr K F S u) (hK : okK K = true) (hF : okL L F = true) (k : qT S a = t) (ht : t < 100 ∧ t ≠ 5 ∧ t ≠ 6 ∧ t ≠ 0) (m : L.contains (t, j) = true) : qI u a j = qI S a j ∧ qR u a j = qR S a j := by
  have := f.2.2 a j (by rw [k]; exact ht.2.2.2) (by rw [k]; exact okK_n hK ⟨ht.1, ht.2.1, ht.2.2.1⟩) (by rw [k]; exact okL_n hF m)
  exact ⟨this.1, this.2.2⟩
theorem nz9 (s : shx S u) (n : nkC S u) (k : qT u p = t) (ht : t = 47 ∨ t = 49 ∨ t = 44) : qT S p = t := by
  by_cases e : qT S p = 0
  · have := n.1 p e
    exfalso
    rcases ht with rfl | rfl | rfl
    · exact this.1 k
    · exact this.2.1 k
    · exact this.2.2 k
  · exact s.oldT k e
def L47 : List (Nat × Nat) := [(47, 0), (47, 1), (47, 2), (47, 3), (47, 4), (47, 5), (47, 6), (47, 7), (47, 8), (47, 9)]
def L49 : List (Nat × Nat) := [(49, 0), (49, 4), (49, 5), (49, 6), (49, 7), (49, 8), (49, 9), (49, 10), (49, 11), (49, 12), (49, 13)]
def L44 : List (Nat × Nat) := [(44, 0), (44, 1), (44, 2)]
theorem fr_rows (w : wfC S) (h : ∀ p, qT S p = 47 → RwK S p) (f : cfr K F S u) (n : nkC S u) (hK : okK K = true) (hF : okL L47 F = true) : ∀ p, qT u p = 47 → RwK u p := fun p k => by
  have kS := nz9 f.1 n k (by decide)
  refine (h p kS).mv w f.1 (fun j hj => (f.sl hK hF kS (by decide) ?_).1) (fun j hj => (f.sl hK hF kS (by decide) ?_).2)
  · revert j; decide
  · revert j; decide
theorem fr_units (w : wfC S) (h : ∀ p, qT S p = 49 → UnK S p) (f : cfr K F S u) (n : nkC S u) (hK : okK K = true) (hF : okL L49 F = true) : ∀ p, qT u p = 49 → UnK u p := fun p k => by
  have kS := nz9 f.1 n k (by decide)
  refine (h p kS).mv w f.1 (fun j hj => (f.sl hK hF kS (by decide) ?_).1) (fun j hj => (f.sl hK hF kS (by decide) ?_).2)
  · rcases hj with rfl | rfl <;> decide
  · have : j = 0 ∨ j = 5 ∨ j = 6 ∨ j = 7 ∨ j = 9 ∨ j = 10 ∨ j = 11 ∨ j = 12 ∨ j = 13 := by omega
    rcases this with rfl | rfl | rfl | rfl | rfl | rfl | rfl | rfl | rfl <;> decide
theorem fr_hts (w : wfC S) (h : ∀ p, qT S p = 44 → HtK S p) (f : cfr K F S u) (n : nkC S u) (hK : okK K = true) (hF : okL L44 F = true) : ∀ p, qT u p = 44 → HtK u p := fun p k => by
  have kS := nz9 f.1 n k (by decide)
  refine (h p kS).mv w f.1 (fun j hj => (f.sl hK hF kS (by decide) ?_).2)
  revert j; decide
/-- the length of a growing row -/
theorem fr_len {L : List (Nat × Nat)} (w : wfC S) (f : cfr K F S u) (hK : okK K = true) (hF : okL L F = true) (k : qT S a = t) (ht : t < 100 ∧ t ≠ 5 ∧ t ≠ 6 ∧ t ≠ 0) (m : L.contains (t, j) = true) (hp : (a, j) ∈ ptrC) : qN u (qO u a j) = qN S (qO S a j) := by
  have e := (f.sl hK hF k ht m).2
  have p := w.ptr hp
  have kb := w.rf3 a j _ p
  rw [qO_eq e, (f.1.1 _ (by rw [kb.1]; exact kb.2.1)).2]
theorem fr_smith {L : List (Nat × Nat)} (w : wfC S) (h1 : RwK S (qO S 66 0)) (h : SmK S) (f : cfr K F S u) (hK : okK K = true) (hF : okL L F = true) (hL : [(47, 0), (48, 0), (48, 2), (48, 3), (48, 4), (48, 5)].all (fun x => L.contains x) = true) : SmK u := by
  have m : ∀ x ∈ [(47, 0), (48, 0), (48, 2), (48, 3), (48, 4), (48, 5)], L.contains x = true := fun x hx => List.all_eq_true.mp hL x hx
  have r66 : qO u 66 0 = qO S 66 0 := qO_eq (f.sl hK hF w.k66 (by decide) (m _ (by decide))).2
  have r67 : qO u (qO S 66 0) 0 = qO S (qO S 66 0) 0 := qO_eq (f.sl hK hF w.k67 (by decide) (m _ (by decide))).2
  unfold SmK
  rw [r66, r67, f.1.N9 w h1.1.1, fr_len w f hK hF w.k66 (by decide) (m (48, 2) (by decide)) (by decide), fr_len w f hK hF w.k66 (by decide) (m (48, 3) (by decide)) (by decide), fr_len w f hK hF w.k66 (by decide) (m (48, 4) (by decide)) (by decide), fr_len w f hK hF w.k66 (by decide) (m (48, 5) (by decide)) (by decide)]
  exact h
theorem fr_dn (d : dnC S) (s : shx S u) (n : nkC S u) : dnC u := fun a ha => by
  by_cases e : qT S a = 0
  · exact n.2 a ha e
  · rw [(s.1 a e).1]; exact e
theorem wfC.k1 (w : wfC S) : qT S 1 = 40 := (w.2.1 _ finC_22).2.1
theorem wfC.k3 (w : wfC S) : qT S 3 = 40 := (w.2.1 _ finC_23).2.1
theorem wfC.k5 (w : wfC S) : qT S 5 = 40 := (w.2.1 _ finC_24).2.1
theorem wfC.k26 (w : wfC S) : qT S 26 = 40 := (w.2.1 _ finC_12).2.1
theorem wfC.k28 (w : wfC S) : qT S 28 = 40 := (w.2.1 _ finC_13).2.1
theorem wfC.k30 (w : wfC S) : qT S 30 = 40 := (w.2.1 _ finC_14).2.1
theorem ShC.fr {B : Nat × Nat} (w : wfC S) (h : ShC B S) (f : cfr K F S u) (n : nkC S u) (hn : qn u = qn S) (hu : qu u = qu S) (hK : okK K = true) (hF : okL shF F = true) : ShC B u := by
  obtain ⟨h1, h2, h3, h4, h5, h6, h7, h8, h9⟩ := h
  have e1_0 : qN u (qO u 1 0) = qN S (qO S 1 0) := fr_len w f hK hF w.k1 (by decide) (by decide) (by decide)
  have e3_0 : qN u (qO u 3 0) = qN S (qO S 3 0) := fr_len w f hK hF w.k3 (by decide) (by decide) (by decide)
  have e5_0 : qN u (qO u 5 0) = qN S (qO S 5 0) := fr_len w f hK hF w.k5 (by decide) (by decide) (by decide)
  have e26_0 : qN u (qO u 26 0) = qN S (qO S 26 0) := fr_len w f hK hF w.k26 (by decide) (by decide) (by decide)
  have e28_0 : qN u (qO u 28 0) = qN S (qO S 28 0) := fr_len w f hK hF w.k28 (by decide) (by decide) (by decide)
  have e30_0 : qN u (qO u 30 0) = qN S (qO S 30 0) := fr_len w f hK hF w.k30 (by decide) (by decide) (by decide)
  have e17_0 : qN u (qO u 17 0) = qN S (qO S 17 0) := fr_len w f hK hF w.k17 (by decide) (by decide) (by decide)
  have e38_0 : qN u (qO u 38 0) = qN S (qO S 38 0) := fr_len w f hK hF w.k38 (by decide) (by decide) (by decide)
  have e16_2 : qN u (qO u 16 2) = qN S (qO S 16 2) := fr_len w f hK hF w.k16 (by decide) (by decide) (by decide)
  have e25_17 : qN u (qO u 25 17) = qN S (qO S 25 17) := fr_len w f hK hF w.k25 (by decide) (by decide) (by decide)
  have e52_3 : qN u (qO u 52 3) = qN S (qO S 52 3) := fr_len w f hK hF w.k52 (by decide) (by decide) (by decide)
  have e52_13 : qN u (qO u 52 13) = qN S (qO S 52 13) := fr_len w f hK hF w.k52 (by decide) (by decide) (by decide)
  have e52_9 : qN u (qO u 52 9) = qN S (qO S 52 9) := fr_len w f hK hF w.k52 (by decide) (by decide) (by decide)
  have e52_5 : qN u (qO u 52 5) = qN S (qO S 52 5) := fr_len w f hK hF w.k52 (by decide) (by decide) (by decide)
  have e52_7 : qN u (qO u 52 7) = qN S (qO S 52 7) := fr_len w f hK hF w.k52 (by decide) (by decide) (by decide)
  have e44_2 : qN u (qO u 44 2) = qN S (qO S 44 2) := fr_len w f hK hF w.k44 (by decide) (by decide) (by decide)
  have e44_4 : qN u (qO u 44 4) = qN S (qO S 44 4) := fr_len w f hK hF w.k44 (by decide) (by decide) (by decide)
  have e44_8 : qN u (qO u 44 8) = qN S (qO S 44 8) := fr_len w f hK hF w.k44 (by decide) (by decide) (by decide)
  have e44_9 : qN u (qO u 44 9) = qN S (qO S 44 9) := fr_len w f hK hF w.k44 (by decide) (by decide) (by decide)
  have e66_2 : qN u (qO u 66 2) = qN S (qO S 66 2) := fr_len w f hK hF w.k66 (by decide) (by decide) (by decide)
  have c1 : qN u (qO u 16 1) = qN S (qO S 16 1) := fr_len w f hK hF w.k16 (by decide) (by decide) (by decide)
  have c3 : qN u (qO u 16 3) = qN S (qO S 16 3) := fr_len w f hK hF w.k16 (by decide) (by decide) (by decide)
  have c6 : qN u (qO u 25 16) = qN S (qO S 25 16) := fr_len w f hK hF w.k25 (by decide) (by decide) (by decide)
  refine ⟨fr_rows w h1 f n hK (okL_mo hF (by decide)), fr_units w h2 f n hK (okL_mo hF (by decide)), fr_hts w h3 f n hK (okL_mo hF (by decide)), ?_, ?_, fr_smith w (h1 _ w.k67) h6 f hK hF (by decide), fr_dn h7 f.1 n, ?_, ?_⟩
  · unfold ChKk; rw [c1, c3, e16_2]; exact h4
  · unfold WrK; rw [c6, e25_17]; exact h5
  · unfold CpK; rw [e1_0, e3_0, e5_0, e26_0, e28_0, e30_0, e17_0, e38_0, e16_2, e25_17, e52_3, e52_13, e52_9, e52_5, e52_7, e44_2, e44_4, e44_8, e44_9, e66_2]; exact h8
  · unfold RmK PSc PNc hp2; rw [e1_0, e3_0, e5_0, e26_0, e28_0, e30_0, e17_0, e38_0, e16_2, e25_17, e52_3, e52_13, e52_9, e52_5, e52_7, e44_2, e44_4, e44_8, e44_9, e66_2, hn, hu]; exact h9
theorem ShC.row {B : Nat × Nat} (h : ShC B S) (k : qT S p = 47) : RwK S p := h.1 p k
theorem ShC.unit {B : Nat × Nat} (h : ShC B S) (k : qT S p = 49) : UnK S p := h.2.1 p k
theorem ShC.hts {B : Nat × Nat} (h : ShC B S) (k : qT S p = 44) : HtK S p := h.2.2.1 p k
theorem ShC.chk {B : Nat × Nat} (h : ShC B S) : ChKk S := h.2.2.2.1
theorem ShC.wrk {B : Nat × Nat} (h : ShC B S) : WrK S := h.2.2.2.2.1
theorem ShC.smk {B : Nat × Nat} (h : ShC B S) : SmK S := h.2.2.2.2.2.1
theorem ShC.dn {B : Nat × Nat} (h : ShC B S) : dnC S := h.2.2.2.2.2.2.1
theorem ShC.cap {B : Nat × Nat} (h : ShC B S) : CpK S := h.2.2.2.2.2.2.2.1
theorem ShC.rm {B : Nat × Nat} (h : ShC B S) : RmK B S := h.2.2.2.2.2.2.2.2
theorem nkC.eq (d : dnC S) (h : qT u = qT S) (n : qn u = qn S) : nkC S u := ⟨fun a e => by rw [h, e]; decide, fun a l e => absurd e (d a (by rw [← n]; exact l))⟩
theorem nkC.shy (d : dnC S) (s : shy S u) (wu : wfC u) : nkC S u := by
  refine ⟨fun a e => ⟨fun q => ?_, fun q => ?_, fun q => ?_⟩, fun a l e => absurd e (d a (by rw [← s.2.1]; exact l))⟩
  all_goals
    have l := wu.lt q (by decide) (by decide) (by decide)
    rw [s.2.1] at l
    exact d a l e
theorem nkC.new {k n : Nat} (d : dnC S) (ht : t ≠ 0 ∧ t ≠ 47 ∧ t ≠ 49 ∧ t ≠ 44) : nkC S (wN S t n k) := by
  have eT : ∀ a, qT (wN S t n k) a = if a = qn S then t else qT S a := fun _ => rfl
  refine ⟨fun a e => ?_, fun a l e => ?_⟩
  · rw [eT]
    split
    · exact ⟨ht.2.1, ht.2.2.1, ht.2.2.2⟩
    · rw [e]; decide
  · rw [eT]
    split
    · exact ht.1
    · rename_i c
      have l' : a < qn S + 1 := l
      exact absurd e (d a (by omega))
theorem ShC.ws {B : Nat × Nat} (w : wfC S) (h : ShC B S) (f : cfr K F S u) (e : qT u = qT S) (n : qn u = qn S) (v : qu u = qu S) (hK : okK K = true) (hF : okL shF F = true) : ShC B u := ShC.fr w h f (nkC.eq h.dn e n) n v hK hF
theorem ShC.ca {B : Nat × Nat} (w : wfC S) (h : ShC B S) (f : cfr K F S u) (s : shy S u) (wu : wfC u) (hK : okK K = true) (hF : okL shF F = true) : ShC B u := ShC.fr w h f (nkC.shy h.dn s wu) s.2.1 s.2.2 hK hF
/-- a count of a Row is put -/
theorem ShC.cnt {B : Nat × Nat} {v : Int32} (w : wfC S) (h : ShC B S) (k : qT S p = 47) (hj : (j = 2 ∧ 0 ≤ v.toInt ∧ v.toInt ≤ (qN S (qO S p 0) : Int)) ∨ (j = 4 ∧ 0 ≤ v.toInt ∧ v.toInt ≤ (qN S (qO S p 3) : Int)) ∨ (j = 9 ∧ 0 ≤ v.toInt ∧ v.toInt ≤ (qN S (qO S p 5) : Int))) : ShC B (wI S p j v) := by
  obtain ⟨h1, h2, h3, h4, h5, h6, h7, h8⟩ := h
  refine ⟨fun q kq => ?_, fun q kq => ?_, fun q kq => ?_, h4, h5, h6, h7, h8⟩
  · by_cases e : q = p
    · subst e
      obtain ⟨hp, hn⟩ := h1 q k
      have f2 : qI (wI S q j v) q 2 = if j = 2 then v else qI S q 2 := by
        rw [qI_wI]; by_cases c : j = 2
        · rw [if_pos ⟨rfl, c.symm⟩, if_pos c]
        · rw [if_neg (fun z => c z.2.symm), if_neg c]
      have f4 : qI (wI S q j v) q 4 = if j = 4 then v else qI S q 4 := by
        rw [qI_wI]; by_cases c : j = 4
        · rw [if_pos ⟨rfl, c.symm⟩, if_pos c]
        · rw [if_neg (fun z => c z.2.symm), if_neg c]
      have f9 : qI (wI S q j v) q 9 = if j = 9 then v else qI S q 9 := by
        rw [qI_wI]; by_cases c : j = 9
        · rw [if_pos ⟨rfl, c.symm⟩, if_pos c]
        · rw [if_neg (fun z => c z.2.symm), if_neg c]
      refine ⟨hp, ?_⟩
      rw [f2, f4, f9]
      have hn' : 0 ≤ (qI S q 2).toInt ∧ (qI S q 2).toInt ≤ (qN S (qO S q 0) : Int) ∧ (qN S (qO S q 1) : Int) = (qN S (qO S q 0) : Int) ∧ (qN S (qO S q 0) : Int) ≤ 1296 ∧ 0 ≤ (qI S q 4).toInt ∧ (qI S q 4).toInt ≤ (qN S (qO S q 3) : Int) ∧ (qN S (qO S q 3) : Int) ≤ 1200 ∧ 0 ≤ (qI S q 9).toInt ∧ (qI S q 9).toInt ≤ (qN S (qO S q 5) : Int) ∧ (qN S (qO S q 6) : Int) = (qN S (qO S q 5) : Int) ∧ (qN S (qO S q 7) : Int) = (qN S (qO S q 5) : Int) ∧ (qN S (qO S q 8) : Int) = (qN S (qO S q 5) : Int) ∧ (qN S (qO S q 5) : Int) ≤ 16 := hn
      show _ ≤ _ ∧ _ ≤ (qN S (qO S q 0) : Int) ∧ (qN S (qO S q 1) : Int) = (qN S (qO S q 0) : Int) ∧ (qN S (qO S q 0) : Int) ≤ 1296 ∧ _ ≤ _ ∧ _ ≤ (qN S (qO S q 3) : Int) ∧ (qN S (qO S q 3) : Int) ≤ 1200 ∧ _ ≤ _ ∧ _ ≤ (qN S (qO S q 5) : Int) ∧ (qN S (qO S q 6) : Int) = (qN S (qO S q 5) : Int) ∧ (qN S (qO S q 7) : Int) = (qN S (qO S q 5) : Int) ∧ (qN S (qO S q 8) : Int) = (qN S (qO S q 5) : Int) ∧ (qN S (qO S q 5) : Int) ≤ 16
      rcases hj with ⟨rfl, b1, b2⟩ | ⟨rfl, b1, b2⟩ | ⟨rfl, b1, b2⟩
      · rw [if_pos rfl, if_neg (by decide), if_neg (by decide)]; exact ⟨b1, b2, hn'.2.2⟩
      · rw [if_neg (by decide), if_pos rfl, if_neg (by decide)]; exact ⟨hn'.1, hn'.2.1, hn'.2.2.1, hn'.2.2.2.1, b1, b2, hn'.2.2.2.2.2.2⟩
      · rw [if_neg (by decide), if_neg (by decide), if_pos rfl]; exact ⟨hn'.1, hn'.2.1, hn'.2.2.1, hn'.2.2.2.1, hn'.2.2.2.2.1, hn'.2.2.2.2.2.1, hn'.2.2.2.2.2.2.1, b1, b2, hn'.2.2.2.2.2.2.2.2.2⟩
    · refine (h1 q kq).mv w ⟨fun b _ => ⟨rfl, rfl⟩, Nat.le_refl _⟩ (fun i _ => ?_) (fun i _ => rfl)
      rw [qI_wI, if_neg (fun z => e z.1)]
  · refine (h2 q kq).mv w ⟨fun b _ => ⟨rfl, rfl⟩, Nat.le_refl _⟩ (fun i _ => ?_) (fun i _ => rfl)
    have kq' : qT S q = 49 := kq
    rw [qI_wI, if_neg (fun z => by rw [z.1, k] at kq'; exact absurd kq' (by decide))]
  · exact (h3 q kq).mv w ⟨fun b _ => ⟨rfl, rfl⟩, Nat.le_refl _⟩ (fun i _ => rfl)
end SHM
theorem cfr.kO {K : List Nat} {F : List (Nat × Nat)} {S u : MS} {a j t : Nat} (f : cfr K F S u) (hk : qT S a = t) (hK : K.contains t = false) (hF : F.contains (t, j) = false) (h0 : t ≠ 0 := by decide) : qR u a j = qR S a j := (f.2.2 a j (by rw [hk]; exact h0) (by rw [hk]; exact hK) (by rw [hk]; exact hF)).2.2
theorem some_qO {S : MS} {a j : Nat} (h : qR S a j ≠ none) : qR S a j = some (qO S a j) := by
  unfold qO
  cases e : qR S a j with
  | none => exact absurd e h
  | some b => rfl
theorem cfr.kP {K : List Nat} {F : List (Nat × Nat)} {S u : MS} {a j t : Nat} (f : cfr K F S u) (hk : qT S a = t) (hp : qR S a j = some (qO S a j)) (hK : K.contains t = false) (hF : F.contains (t, j) = false) (h0 : t ≠ 0 := by decide) : qR u a j = some (qO u a j) := by
  have e := f.kO hk hK hF h0
  rw [qO_eq e, e]; exact hp
theorem cfr.kL {K : List Nat} {F : List (Nat × Nat)} {S u : MS} {a j t : Nat} (f : cfr K F S u) (w : wfC S) (hk : qT S a = t) (hp : qR S a j = some (qO S a j)) (hK : K.contains t = false) (hF : F.contains (t, j) = false) (h0 : t ≠ 0 := by decide) : (qN u (qO u a j) : Int) = (qN S (qO S a j) : Int) := by
  rw [qO_eq (f.kO hk hK hF h0)]
  exact f.1.N9 w hp
set_option maxRecDepth 100000 in
theorem dd_X8_opAt_J12 {B : Nat × Nat} {S : MS} (w : wfC S) (g : ShC B S) : d_X8_opAt_J12 S := by
  unfold d_X8_opAt_J12
  exact trivial
set_option maxRecDepth 100000 in
theorem dd_X8_opAt {B : Nat × Nat} {S : MS} {p0 : Nat} {x1 : Int32} (w : wfC S) (g : ShC B S) (k_p0 : qT S p0 = 47) : d_X8_opAt S p0 x1 := by
  unfold d_X8_opAt
  by_cases c0_ : x1.toInt < 0
  · rw [if_pos c0_]
    exact (dd_X8_opAt_J12 w g)
  · rw [if_neg c0_]
    by_cases c1_ : x1.toInt < (qI S p0 2).toInt
    · rw [if_pos c1_]
      refine ⟨?_, ?_⟩
      · exact (g.row k_p0).1.1
      refine ⟨?_, ?_⟩
      · have s2_ := (g.row k_p0).2
        have n1_ := rgI x1
        have n2_ := rgI (qI S p0 2)
        omega
      exact trivial
    · rw [if_neg c1_]
      exact (dd_X8_opAt_J12 w g)
set_option maxRecDepth 100000 in
theorem dd_X8_argAt_J12 {B : Nat × Nat} {S : MS} (w : wfC S) (g : ShC B S) : d_X8_argAt_J12 S := by
  unfold d_X8_argAt_J12
  exact trivial
set_option maxRecDepth 100000 in
theorem dd_X8_argAt {B : Nat × Nat} {S : MS} {p0 : Nat} {x1 : Int32} (w : wfC S) (g : ShC B S) (k_p0 : qT S p0 = 47) : d_X8_argAt S p0 x1 := by
  unfold d_X8_argAt
  by_cases c0_ : x1.toInt < 0
  · rw [if_pos c0_]
    exact (dd_X8_argAt_J12 w g)
  · rw [if_neg c0_]
    by_cases c1_ : x1.toInt < (qI S p0 2).toInt
    · rw [if_pos c1_]
      refine ⟨?_, ?_⟩
      · exact (g.row k_p0).1.2.1
      refine ⟨?_, ?_⟩
      · have s2_ := (g.row k_p0).2
        have n1_ := rgI x1
        have n2_ := rgI (qI S p0 2)
        omega
      exact trivial
    · rw [if_neg c1_]
      exact (dd_X8_argAt_J12 w g)
set_option maxRecDepth 100000 in
theorem dd_X8_tableAt_J12 {B : Nat × Nat} {S : MS} (w : wfC S) (g : ShC B S) : d_X8_tableAt_J12 S := by
  unfold d_X8_tableAt_J12
  exact trivial
set_option maxRecDepth 100000 in
theorem dd_X8_tableAt {B : Nat × Nat} {S : MS} {p0 : Nat} {x1 : Int32} (w : wfC S) (g : ShC B S) (k_p0 : qT S p0 = 47) : d_X8_tableAt S p0 x1 := by
  unfold d_X8_tableAt
  by_cases c0_ : x1.toInt < 0
  · rw [if_pos c0_]
    exact (dd_X8_tableAt_J12 w g)
  · rw [if_neg c0_]
    by_cases c1_ : x1.toInt < (qI S p0 4).toInt
    · rw [if_pos c1_]
      refine ⟨?_, ?_⟩
      · exact (g.row k_p0).1.2.2.1
      refine ⟨?_, ?_⟩
      · have s2_ := (g.row k_p0).2
        have n1_ := rgI x1
        have n2_ := rgI (qI S p0 4)
        omega
      exact trivial
    · rw [if_neg c1_]
      exact (dd_X8_tableAt_J12 w g)
set_option maxRecDepth 100000 in
theorem dd_X8_localOf {B : Nat × Nat} {S : MS} {p0 : Nat} {x1 : Int32} (w : wfC S) (g : ShC B S) (k_p0 : qT S p0 = 47) : d_X8_localOf S p0 x1 := by
  unfold d_X8_localOf
  refine ⟨?_, ?_⟩
  · exact (dd_X8_argAt w g k_p0)
  exact trivial
set_option maxRecDepth 100000 in
theorem dd_X8_stepOf {B : Nat × Nat} {S : MS} {p0 : Nat} {x1 : Int32} (w : wfC S) (g : ShC B S) (k_p0 : qT S p0 = 47) : d_X8_stepOf S p0 x1 := by
  unfold d_X8_stepOf
  refine ⟨?_, ?_⟩
  · exact (dd_X8_argAt w g k_p0)
  exact trivial
set_option maxRecDepth 100000 in
theorem dd_X8_targetCount {B : Nat × Nat} {S : MS} {p0 : Nat} {x1 : Int32} (w : wfC S) (g : ShC B S) (k_p0 : qT S p0 = 47) : d_X8_targetCount S p0 x1 := by
  unfold d_X8_targetCount
  refine ⟨?_, ?_⟩
  · exact (dd_X8_opAt w g k_p0)
  refine ⟨?_, ?_⟩
  · exact dd_X6_isJump
  by_cases c0_ : (fX6_isJump S (fX8_opAt S p0 x1)).toInt = 0
  · rw [if_pos c0_]
    refine ⟨?_, ?_⟩
    · exact dd_X6_isSwitch
    by_cases c1_ : (fX6_isSwitch S (fX8_opAt S p0 x1)).toInt = 0
    · rw [if_pos c1_]
      exact trivial
    · rw [if_neg c1_]
      refine ⟨?_, ?_⟩
      · exact (dd_X8_argAt w g k_p0)
      refine ⟨?_, ?_⟩
      · exact (dd_X8_tableAt w g k_p0)
      exact trivial
  · rw [if_neg c0_]
    exact trivial
set_option maxRecDepth 100000 in
theorem dd_X8_targetAt {B : Nat × Nat} {S : MS} {p0 : Nat} {x1 : Int32} {x2 : Int32} (w : wfC S) (g : ShC B S) (k_p0 : qT S p0 = 47) : d_X8_targetAt S p0 x1 x2 := by
  unfold d_X8_targetAt
  refine ⟨?_, ?_⟩
  · exact (dd_X8_opAt w g k_p0)
  refine ⟨?_, ?_⟩
  · exact dd_X6_isJump
  by_cases c0_ : (fX6_isJump S (fX8_opAt S p0 x1)).toInt = 0
  · rw [if_pos c0_]
    refine ⟨?_, ?_⟩
    · exact (dd_X8_argAt w g k_p0)
    refine ⟨?_, ?_⟩
    · exact (dd_X8_tableAt w g k_p0)
    exact trivial
  · rw [if_neg c0_]
    refine ⟨?_, ?_⟩
    · exact (dd_X8_argAt w g k_p0)
    exact trivial
set_option maxRecDepth 100000 in
theorem dd_X8_catchHas_J36 {B : Nat × Nat} {S : MS} (w : wfC S) (g : ShC B S) : d_X8_catchHas_J36 S := by
  unfold d_X8_catchHas_J36
  exact trivial
set_option maxRecDepth 100000 in
theorem dd_X8_catchHas {B : Nat × Nat} {S : MS} {p0 : Nat} {x1 : Int32} {x2 : Int32} (w : wfC S) (g : ShC B S) (k_p0 : qT S p0 = 47) : d_X8_catchHas S p0 x1 x2 := by
  unfold d_X8_catchHas
  by_cases c0_ : x1.toInt < 0
  · rw [if_pos c0_]
    exact (dd_X8_catchHas_J36 w g)
  · rw [if_neg c0_]
    by_cases c1_ : (qI S p0 9).toInt ≤ x1.toInt
    · rw [if_pos c1_]
      exact (dd_X8_catchHas_J36 w g)
    · rw [if_neg c1_]
      refine ⟨?_, ?_⟩
      · exact (g.row k_p0).1.2.2.2.1
      refine ⟨?_, ?_⟩
      · have s2_ := (g.row k_p0).2
        have n1_ := rgI x1
        have n2_ := rgI (qI S p0 9)
        omega
      by_cases c3_ : x2.toInt < (qI S (qO S p0 5) x1.toInt.toNat).toInt
      · rw [if_pos c3_]
        exact (dd_X8_catchHas_J36 w g)
      · rw [if_neg c3_]
        refine ⟨?_, ?_⟩
        · exact (g.row k_p0).1.2.2.2.2.1
        refine ⟨?_, ?_⟩
        · have s4_ := (g.row k_p0).2
          have n1_ := rgI x1
          have n2_ := rgI (qI S p0 9)
          have n3_ := rgI x2
          have n4_ := rgI (qI S (qO S p0 5) x1.toInt.toNat)
          omega
        by_cases c5_ : (qI S (qO S p0 6) x1.toInt.toNat).toInt ≤ x2.toInt
        · rw [if_pos c5_]
          exact (dd_X8_catchHas_J36 w g)
        · rw [if_neg c5_]
          exact trivial
set_option maxRecDepth 100000 in
theorem dd_X8_heightAt_J20 {B : Nat × Nat} {S : MS} (w : wfC S) (g : ShC B S) : d_X8_heightAt_J20 S := by
  unfold d_X8_heightAt_J20
  exact trivial
set_option maxRecDepth 100000 in
theorem dd_X8_heightAt {B : Nat × Nat} {S : MS} {p0 : Nat} {x1 : Int32} (w : wfC S) (g : ShC B S) (k_p0 : qT S p0 = 47) : d_X8_heightAt S p0 x1 := by
  unfold d_X8_heightAt
  by_cases c0_ : (qR S p0 12) = none
  · rw [if_pos c0_]
    exact (dd_X8_heightAt_J20 w g)
  · rw [if_neg c0_]
    by_cases c1_ : x1.toInt < 0
    · rw [if_pos c1_]
      exact (dd_X8_heightAt_J20 w g)
    · rw [if_neg c1_]
      refine ⟨?_, ?_⟩
      · exact some_qO (by assumption)
      by_cases c2_ : x1.toInt < (qN S (qO S p0 12) : Int)
      · rw [if_pos c2_]
        refine ⟨?_, ?_⟩
        · exact some_qO (by assumption)
        refine ⟨?_, ?_⟩
        · have s3_ := (g.row k_p0).2
          have n1_ := rgI x1
          omega
        exact trivial
      · rw [if_neg c2_]
        exact (dd_X8_heightAt_J20 w g)
set_option maxRecDepth 100000 in
theorem dd_X8_localAt_J70 {B : Nat × Nat} {S : MS} {t70_0 : Int64} (w : wfC S) (g : ShC B S) : d_X8_localAt_J70 S t70_0 := by
  unfold d_X8_localAt_J70
  exact trivial
set_option maxRecDepth 100000 in
theorem dd_X8_localAt {B : Nat × Nat} {S : MS} {p0 : Nat} {x1 : Int32} {x2 : Int32} (w : wfC S) (g : ShC B S) (k_p0 : qT S p0 = 47) : d_X8_localAt S p0 x1 x2 := by
  unfold d_X8_localAt
  by_cases c0_ : (qR S p0 13) = none
  · rw [if_pos c0_]
    exact trivial
  · rw [if_neg c0_]
    by_cases c1_ : (qR S p0 14) = none
    · rw [if_pos c1_]
      exact trivial
    · rw [if_neg c1_]
      by_cases c2_ : x1.toInt < 0
      · rw [if_pos c2_]
        exact trivial
      · rw [if_neg c2_]
        refine ⟨?_, ?_⟩
        · exact some_qO (by assumption)
        by_cases c3_ : (qN S (qO S p0 13) : Int) ≤ x1.toInt
        · rw [if_pos c3_]
          exact trivial
        · rw [if_neg c3_]
          refine ⟨?_, ?_⟩
          · exact some_qO (by assumption)
          by_cases c4_ : x1.toInt < (qN S (qO S p0 14) : Int)
          · rw [if_pos c4_]
            by_cases c5_ : 16 ≤ x2.toInt
            · rw [if_pos c5_]
              refine ⟨?_, ?_⟩
              · exact some_qO (by assumption)
              refine ⟨?_, ?_⟩
              · have s6_ := (g.row k_p0).2
                have n1_ := rgI x1
                have n2_ := rgI x2
                omega
              exact (dd_X8_localAt_J70 w g)
            · rw [if_neg c5_]
              refine ⟨?_, ?_⟩
              · exact some_qO (by assumption)
              refine ⟨?_, ?_⟩
              · have s7_ := (g.row k_p0).2
                have n1_ := rgI x1
                have n2_ := rgI x2
                omega
              exact (dd_X8_localAt_J70 w g)
          · rw [if_neg c4_]
            exact trivial
set_option maxRecDepth 100000 in
theorem dd_X10_kindOfField_J13 {B : Nat × Nat} {S : MS} (w : wfC S) (g : ShC B S) : d_X10_kindOfField_J13 S := by
  unfold d_X10_kindOfField_J13
  exact trivial
set_option maxRecDepth 100000 in
theorem dd_X10_kindOfField {B : Nat × Nat} {S : MS} {p0 : Nat} {x1 : Int32} (w : wfC S) (g : ShC B S) (k_p0 : qT S p0 = 49) : d_X10_kindOfField S p0 x1 := by
  unfold d_X10_kindOfField
  by_cases c0_ : x1.toInt < 0
  · rw [if_pos c0_]
    exact (dd_X10_kindOfField_J13 w g)
  · rw [if_neg c0_]
    refine ⟨?_, ?_⟩
    · exact (g.unit k_p0).1.2.2.2.1
    by_cases c1_ : x1.toInt < (qN S (qO S p0 7) : Int)
    · rw [if_pos c1_]
      refine ⟨?_, ?_⟩
      · exact (g.unit k_p0).1.2.2.2.1
      refine ⟨?_, ?_⟩
      · have s2_ := (g.unit k_p0).2
        have n1_ := rgI x1
        omega
      exact trivial
    · rw [if_neg c1_]
      exact (dd_X10_kindOfField_J13 w g)
set_option maxRecDepth 100000 in
theorem dd_X10_takesOfMethod_J13 {B : Nat × Nat} {S : MS} (w : wfC S) (g : ShC B S) : d_X10_takesOfMethod_J13 S := by
  unfold d_X10_takesOfMethod_J13
  exact trivial
set_option maxRecDepth 100000 in
theorem dd_X10_takesOfMethod {B : Nat × Nat} {S : MS} {p0 : Nat} {x1 : Int32} (w : wfC S) (g : ShC B S) (k_p0 : qT S p0 = 49) : d_X10_takesOfMethod S p0 x1 := by
  unfold d_X10_takesOfMethod
  by_cases c0_ : x1.toInt < 0
  · rw [if_pos c0_]
    exact (dd_X10_takesOfMethod_J13 w g)
  · rw [if_neg c0_]
    refine ⟨?_, ?_⟩
    · exact (g.unit k_p0).1.2.2.2.2.2.2.1
    by_cases c1_ : x1.toInt < (qN S (qO S p0 11) : Int)
    · rw [if_pos c1_]
      refine ⟨?_, ?_⟩
      · exact (g.unit k_p0).1.2.2.2.2.2.2.1
      refine ⟨?_, ?_⟩
      · have s2_ := (g.unit k_p0).2
        have n1_ := rgI x1
        omega
      exact trivial
    · rw [if_neg c1_]
      exact (dd_X10_takesOfMethod_J13 w g)
set_option maxRecDepth 100000 in
theorem dd_X10_givesOfMethod_J13 {B : Nat × Nat} {S : MS} (w : wfC S) (g : ShC B S) : d_X10_givesOfMethod_J13 S := by
  unfold d_X10_givesOfMethod_J13
  exact trivial
set_option maxRecDepth 100000 in
theorem dd_X10_givesOfMethod {B : Nat × Nat} {S : MS} {p0 : Nat} {x1 : Int32} (w : wfC S) (g : ShC B S) (k_p0 : qT S p0 = 49) : d_X10_givesOfMethod S p0 x1 := by
  unfold d_X10_givesOfMethod
  by_cases c0_ : x1.toInt < 0
  · rw [if_pos c0_]
    exact (dd_X10_givesOfMethod_J13 w g)
  · rw [if_neg c0_]
    refine ⟨?_, ?_⟩
    · exact (g.unit k_p0).1.2.2.2.2.2.2.2.1
    by_cases c1_ : x1.toInt < (qN S (qO S p0 12) : Int)
    · rw [if_pos c1_]
      refine ⟨?_, ?_⟩
      · exact (g.unit k_p0).1.2.2.2.2.2.2.2.1
      refine ⟨?_, ?_⟩
      · have s2_ := (g.unit k_p0).2
        have n1_ := rgI x1
        omega
      exact trivial
    · rw [if_neg c1_]
      exact (dd_X10_givesOfMethod_J13 w g)
set_option maxRecDepth 100000 in
theorem dd_X10_takes {B : Nat × Nat} {S : MS} {p0 : Nat} {p1 : Nat} {x2 : Int32} (w : wfC S) (g : ShC B S) (k_p0 : qT S p0 = 49) (k_p1 : qT S p1 = 47) : d_X10_takes S p0 p1 x2 := by
  unfold d_X10_takes
  refine ⟨?_, ?_⟩
  · exact (dd_X8_opAt w g k_p1)
  by_cases c0_ : (fX8_opAt S p1 x2).toInt = 179
  · rw [if_pos c0_]
    refine ⟨?_, ?_⟩
    · exact (dd_X8_argAt w g k_p1)
    refine ⟨?_, ?_⟩
    · exact (dd_X10_kindOfField w g k_p0)
    exact trivial
  · rw [if_neg c0_]
    by_cases c1_ : (fX8_opAt S p1 x2).toInt = 184
    · rw [if_pos c1_]
      refine ⟨?_, ?_⟩
      · exact (dd_X8_argAt w g k_p1)
      refine ⟨?_, ?_⟩
      · exact (dd_X10_takesOfMethod w g k_p0)
      exact trivial
    · rw [if_neg c1_]
      refine ⟨?_, ?_⟩
      · exact dd_X6_takes
      exact trivial
set_option maxRecDepth 100000 in
theorem dd_X10_gives {B : Nat × Nat} {S : MS} {p0 : Nat} {p1 : Nat} {x2 : Int32} (w : wfC S) (g : ShC B S) (k_p0 : qT S p0 = 49) (k_p1 : qT S p1 = 47) : d_X10_gives S p0 p1 x2 := by
  unfold d_X10_gives
  refine ⟨?_, ?_⟩
  · exact (dd_X8_opAt w g k_p1)
  by_cases c0_ : (fX8_opAt S p1 x2).toInt = 178
  · rw [if_pos c0_]
    refine ⟨?_, ?_⟩
    · exact (dd_X8_argAt w g k_p1)
    refine ⟨?_, ?_⟩
    · exact (dd_X10_kindOfField w g k_p0)
    exact trivial
  · rw [if_neg c0_]
    by_cases c1_ : (fX8_opAt S p1 x2).toInt = 184
    · rw [if_pos c1_]
      refine ⟨?_, ?_⟩
      · exact (dd_X8_argAt w g k_p1)
      refine ⟨?_, ?_⟩
      · exact (dd_X10_givesOfMethod w g k_p0)
      exact trivial
    · rw [if_neg c1_]
      refine ⟨?_, ?_⟩
      · exact dd_X6_gives
      exact trivial
