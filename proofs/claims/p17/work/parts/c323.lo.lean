/-! lookAt, numberInstructions, instructionsHold -/
/-- what the Reader reads is the same -/
def smX (S u : MS) : Prop := qI u 9 1 = qI S 9 1 ∧ qO u 9 0 = qO S 9 0 ∧ qN u (qO S 9 0) = qN S (qO S 9 0) ∧ qI u (qO S 9 0) = qI S (qO S 9 0)
theorem smX.rf {S : MS} : smX S S := ⟨rfl, rfl, rfl, rfl⟩
theorem smX.tr {S u v : MS} (h : smX S u) (k : smX u v) : smX S v := by
  obtain ⟨h1, h2, h3, h4⟩ := h
  obtain ⟨k1, k2, k3, k4⟩ := k
  rw [h2] at k2 k3 k4
  exact ⟨k1.trans h1, k2, k3.trans h3, k4.trans h4⟩
theorem smX.u1 {S u : MS} (h : smX S u) {x : Int32} : fX7_u1 u x = fX7_u1 S x := by
  obtain ⟨h1, h2, h3, h4⟩ := h
  unfold fX7_u1
  rw [h1, h2, h3, h4]
  rfl
theorem smX.u2 {S u : MS} (h : smX S u) {x : Int32} : fX7_u2 u x = fX7_u2 S x := by
  obtain ⟨h1, h2, h3, h4⟩ := h
  unfold fX7_u2
  rw [h1, h2, h3, h4]
theorem smX.s4 {S u : MS} (h : smX S u) {x : Int32} : fX7_s4 u x = fX7_s4 S x := by
  obtain ⟨h1, h2, h3, h4⟩ := h
  unfold fX7_s4
  rw [h1, h2, h3, h4]
theorem smX.h9 {S u : MS} (h : smX S u) (h9 : 0 ≤ (qI S 9 1).toInt) : 0 ≤ (qI u 9 1).toInt := by rw [h.1]; exact h9
/-- out of a frame: no row of bytes, not the Reader's data and end -/
theorem cfr.sm {K : List Nat} {F : List (Nat × Nat)} {S u : MS} (w : wfC S) (f : cfr K F S u) (hK : K.contains 101 = false) (hK9 : K.contains 46 = false) (h0 : F.contains (46, 0) = false) (h1 : F.contains (46, 1) = false) (h2 : ∀ j, F.contains (101, j) = false) : smX S u := by
  have k9 : qT S 9 = 46 := (w.2.1 _ finC_2).2.1
  have p9 := w.ptr ptrC_3
  have kd : qT S (qO S 9 0) = 101 := w.ref p9 k9
  have e0 := (f.2.2 9 0 (by rw [k9]; decide) (by rw [k9]; exact hK9) (by rw [k9]; exact h0)).2.2
  refine ⟨(f.2.2 9 1 (by rw [k9]; decide) (by rw [k9]; exact hK9) (by rw [k9]; exact h1)).1, ?_, (f.1.1 _ (by rw [kd]; decide)).2, ?_⟩
  · unfold qO; rw [e0]
  · funext j
    exact (f.2.2 (qO S 9 0) j (by rw [kd]; decide) (by rw [kd]; exact hK) (by rw [kd]; exact h2 j)).1
theorem smX.w8 {S : MS} {i : Nat} {v : Int32} (w : wfC S) : smX S (wI S 8 i v) := by
  have k9 : qT S 9 = 46 := (w.2.1 _ finC_2).2.1
  have k8 : qT S 8 = 42 := (w.2.1 _ finC_26).2.1
  have kd : qT S (qO S 9 0) = 101 := w.ref (w.ptr ptrC_3) k9
  have hne : qO S 9 0 ≠ 8 := fun q => by rw [q, k8] at kd; exact absurd kd (by decide)
  refine ⟨by rw [qI_wI, if_neg (fun q => absurd q.1 (by decide))], rfl, rfl, ?_⟩
  exact if_neg hne
/-- where the code of method x begins -/
def stV (S : MS) (x : Int32) : Int32 := if 0 ≤ x.toInt ∧ x.toInt < 24 then qI S 13 x.toInt.toNat else 0
def szV (S : MS) (a : Int32) : Int32 := if (1200 : Int32) < fX7_s4 S (a + (4 : Int32)) then (1200 : Int32) else fX7_s4 S (a + (4 : Int32))
def LoQ (S : MS) (a : Int32) (u : MS) : Prop := smX S u ∧ qI u 8 1 = a + (8 : Int32) ∧ qI u 8 2 = szV S a ∧ qI u 8 6 = fX7_u2 S ((a + (8 : Int32)) + szV S a) ∧ qI u 8 3 = fX7_u2 S a
theorem szV_rg {S : MS} {a : Int32} : (szV S a).toInt ≤ 1200 := by
  have e := li_1200
  unfold szV
  split
  · omega
  · rename_i c
    have c' : ¬ (1200 : Int32).toInt < (fX7_s4 S (a + (4 : Int32))).toInt := fun q => c (n_lt.mpr q)
    omega
theorem sp_lo23 {S : MS} {a : Int32} {Q : MS → Prop} (h9 : 0 ≤ (qI S 9 1).toInt) (hQ : ∀ u : MS, LoQ S a u → Q u) : w_X2_lookAt_J23 Q S a := by
  unfold w_X2_lookAt_J23
  intro w0
  refine ⟨dd_X7_u2 h9, fun S4 e4 k4 w4 => ?_⟩
  have m4 : smX S S4 := by rw [e4]; exact smX.w8 w0
  refine ⟨dd_X7_u2 (m4.h9 h9), fun S9 e9 k9 w9 => ?_⟩
  have m9 : smX S S9 := m4.tr (by rw [e9]; exact smX.w8 w4)
  refine ⟨dd_X7_s4 (m9.h9 h9), fun S15 e15 k15 w15 S17 e17 k17 w17 S20 e20 k20 w20 => ?_⟩
  have m15 : smX S S15 := m9.tr (by rw [e15]; exact smX.w8 w9)
  have m17 : smX S S17 := m15.tr (by rw [e17]; exact smX.w8 w15)
  have m20 : smX S S20 := m17.tr (by rw [e20]; exact smX.w8 w17)
  refine ⟨dd_X7_u2 (m20.h9 h9), fun S25 e25 k25 w25 => hQ S25 ?_⟩
  have m25 : smX S S25 := m20.tr (by rw [e25]; exact smX.w8 w20)
  have z15 : qI S15 8 2 = szV S a := by rw [e15, qI_wI, if_pos ⟨rfl, rfl⟩, m9.s4]; rfl
  have z17 : qI S17 8 2 = szV S a := by rw [e17, qI_wI, if_neg (by decide), z15]
  have o17 : qI S17 8 1 = a + (8 : Int32) := by rw [e17, qI_wI, if_pos ⟨rfl, rfl⟩]
  have z20 : qI S20 8 2 = szV S a := by rw [e20, qI_wI, if_neg (by decide), z17]
  have o20 : qI S20 8 1 = a + (8 : Int32) := by rw [e20, qI_wI, if_neg (by decide), o17]
  refine ⟨m25, by rw [e25, qI_wI, if_neg (by decide), o20], by rw [e25, qI_wI, if_neg (by decide), z20], ?_, ?_⟩
  · rw [e25, qI_wI, if_pos ⟨rfl, rfl⟩, m20.u2, o20, z20]
  · rw [e25, qI_wI, if_neg (by decide), e20, qI_wI, if_neg (by decide), e17, qI_wI, if_neg (by decide), e15, qI_wI, if_neg (by decide), e9, qI_wI, if_neg (by decide), e4, qI_wI, if_pos ⟨rfl, rfl⟩]
theorem sp_lookAt {S : MS} {x : Int32} {Q : MS → Prop} (h9 : 0 ≤ (qI S 9 1).toInt) (hQ : ∀ u : MS, LoQ S (stV S x) u → Q u) : wX2_lookAt S x Q := by
  unfold wX2_lookAt
  refine ⟨fun c => ?_, fun c => ⟨fun c2 => ⟨⟨by omega, c2⟩, ?_⟩, fun c2 => ?_⟩⟩
  · unfold w_X2_lookAt_J10
    intro _
    have e : stV S x = 0 := if_neg (by omega)
    rw [e] at hQ
    exact sp_lo23 h9 hQ
  · have e : stV S x = qI S 13 x.toInt.toNat := if_pos (by omega)
    rw [e] at hQ
    exact sp_lo23 h9 hQ
  · unfold w_X2_lookAt_J10
    intro _
    have e : stV S x = 0 := if_neg (by omega)
    rw [e] at hQ
    exact sp_lo23 h9 hQ
