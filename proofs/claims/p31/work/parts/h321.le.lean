/-! how long an instruction is: exact, so that it may be asked twice -/
theorem m4_rg {z x : Int32} (h : z = x &&& (-4 : Int32)) (hx : 0 ≤ x.toInt) : x.toInt - 3 ≤ z.toInt ∧ z.toInt ≤ x.toInt := by
  obtain ⟨w, hw⟩ : ∃ w : Int32, w = x &&& 3 := ⟨_, rfl⟩
  have hb := c_andk (k := 2) (b := 4) hw (by decide) (by decide) (by decide)
  have hs : x = w + z := by
    apply Int32.toBitVec_inj.mp
    rw [hw, h, Int32.toBitVec_add, Int32.toBitVec_and, Int32.toBitVec_and]
    rw [BitVec.add_eq_or_of_and_eq_zero]
    · rw [← BitVec.and_or_distrib_left]
      have : (3 : Int32).toBitVec ||| (-4 : Int32).toBitVec = BitVec.allOnes 32 := by decide
      rw [this, BitVec.and_allOnes]
    · have e1 : (x.toBitVec &&& (3 : Int32).toBitVec) &&& (x.toBitVec &&& (-4 : Int32).toBitVec) = x.toBitVec &&& ((3 : Int32).toBitVec &&& (-4 : Int32).toBitVec) := by
        ext i hi
        simp only [BitVec.getElem_and]
        cases x.toBitVec[i] <;> simp
      rw [e1]
      have : (3 : Int32).toBitVec &&& (-4 : Int32).toBitVec = 0#32 := by decide
      rw [this, BitVec.and_zero]
  have h1 := rgI x
  have h2 := rgI z
  have h3 := rgI w
  have h4 := t_addD (a := w) (b := z)
  rw [← hs] at h4
  rcases h4 with h4 | h4 | h4
  · omega
  · exfalso
    have e := congrArg Int32.toInt hs
    rw [Int32.toInt_add] at e
    have e2 : (w.toInt + z.toInt).bmod (2 ^ 32) = w.toInt + z.toInt - 4294967296 := by
      rw [Int.bmod_def]
      omega
    rw [e2] at e
    omega
  · omega
theorem nOf_rg {S : MS} {o : Int32} (ho : 0 ≤ o.toInt ∧ o.toInt ≤ 2000) : o.toInt + 1 ≤ (fX2_numbersOf S o).toInt ∧ (fX2_numbersOf S o).toInt ≤ o.toInt + 4 := by
  have e : (o + (4 : Int32)).toInt = o.toInt + 4 := by rw [t_addk (by rw [li_4k]; omega), li_4k]
  have := m4_rg (z := fX2_numbersOf S o) (x := o + (4 : Int32)) rfl (by omega)
  omega
theorem ex_ll56 {U : MS} (h9 : 0 ≤ (qI U 9 1).toInt) {v1 v2 v3 : Int32} : ∀ (m : Nat) (v4 : Int32), (v3.toInt - v4.toInt).toNat ≤ m → 0 ≤ v4.toInt → ∃ r : Int32, (r = 0 ∨ r = (((v2 + (8 : Int32)) + ((8 : Int32) * v3)) - v1)) ∧ ∀ Q : Int32 → MS → Prop, Q r U → ∃ n, w_X2_lookupLength_L56 Q n U v1 v2 v3 v4 := by
  intro m
  induction m with
  | zero =>
    intro v4 h0 h1
    refine ⟨_, Or.inr rfl, fun Q hQ => ⟨1, ?_⟩⟩
    unfold w_X2_lookupLength_L56
    intro w
    exact ⟨fun c => hQ, fun c => by omega⟩
  | succ m ih =>
    intro v4 h0 h1
    by_cases c0 : v3.toInt ≤ v4.toInt
    · refine ⟨_, Or.inr rfl, fun Q hQ => ⟨1, ?_⟩⟩
      unfold w_X2_lookupLength_L56
      intro w
      exact ⟨fun c => hQ, fun c => absurd c0 c⟩
    · by_cases c1 : (fX2_s4 U (v2 + ((8 : Int32) * v4))).toInt < (fX2_s4 U ((v2 + (8 : Int32)) + ((8 : Int32) * v4))).toInt
      · have b3 := rgI v3
        have e5 : (v4 + Int32.ofInt 1).toInt = v4.toInt + 1 := by rw [t_addk (by rw [lo_1k]; omega), lo_1k]
        obtain ⟨r, hr, k⟩ := ih (v4 + Int32.ofInt 1) (by rw [e5]; omega) (by omega)
        refine ⟨r, hr, fun Q hQ => ?_⟩
        obtain ⟨n, hn⟩ := k Q hQ
        refine ⟨n + 1, ?_⟩
        unfold w_X2_lookupLength_L56
        intro w
        refine ⟨fun c => absurd c c0, fun c => ⟨dd_X2_s4 h9, dd_X2_s4 h9, fun c2 a e => ?_, fun c2 => absurd c1 c2⟩⟩
        rw [e]
        exact hn
      · refine ⟨0, Or.inl rfl, fun Q hQ => ⟨1, ?_⟩⟩
        unfold w_X2_lookupLength_L56
        intro w
        exact ⟨fun c => absurd c c0, fun c => ⟨dd_X2_s4 h9, dd_X2_s4 h9, fun c2 => absurd c2 c1, fun c2 => hQ⟩⟩
theorem ex_lookupLength {S : MS} {o : Int32} (h9 : 0 ≤ (qI S 9 1).toInt) (ho : 0 ≤ o.toInt ∧ o.toInt ≤ 1200) : ∃ r : Int32, (0 ≤ r.toInt ∧ r.toInt ≤ 3000) ∧ ∀ Q : Int32 → MS → Prop, Q r S → wX2_lookupLength S o Q := by
  have hn := nOf_rg (S := S) (o := o) ⟨ho.1, by omega⟩
  have z0 := li_0k
  obtain ⟨q, eq⟩ : ∃ q, q = fX2_numbersOf S o := ⟨_, rfl⟩
  obtain ⟨y, ey⟩ : ∃ y, y = fX2_s4 S (q + (4 : Int32)) := ⟨_, rfl⟩
  rw [← eq] at hn
  by_cases c1 : (qI S 8 2).toInt < (q + (8 : Int32)).toInt
  · refine ⟨0, by omega, fun Q hQ => ?_⟩
    unfold wX2_lookupLength
    refine ⟨dd_X2_numbersOf, fun a4 e4 => ⟨dd_X2_s4 h9, fun a9 e9 => ?_⟩⟩
    rw [e4, ← eq]
    exact ⟨fun _ => hQ, fun c => absurd c1 c⟩
  · by_cases c2 : y.toInt < 0 ∨ 200 < y.toInt ∨ ¬ ((q + (8 : Int32)) + ((8 : Int32) * y)).toInt ≤ (qI S 8 2).toInt
    · refine ⟨0, by omega, fun Q hQ => ?_⟩
      unfold wX2_lookupLength
      refine ⟨dd_X2_numbersOf, fun a4 e4 => ⟨dd_X2_s4 h9, fun a9 e9 => ?_⟩⟩
      rw [← eq] at e4
      subst e4
      rw [← ey] at e9
      subst e9
      exact ⟨fun c => absurd c c1, fun _ => ⟨fun _ => hQ, fun d1 => ⟨fun _ => hQ, fun d2 => ⟨fun d3 => absurd c2 (by omega), fun _ => hQ⟩⟩⟩⟩
    · obtain ⟨r, hr, k⟩ := ex_ll56 (U := S) h9 (v1 := o) (v2 := q) (v3 := y) 1000 1 (by rw [li_1k]; omega) (by decide)
      have e8 : ((8 : Int32) * y).toInt = 8 * y.toInt := by rw [t_mulk (by rw [li_8k]; omega), li_8k]
      have e7 : (q + (8 : Int32)).toInt = q.toInt + 8 := by rw [t_addk (by rw [li_8k]; omega), li_8k]
      have e6 : ((q + (8 : Int32)) + ((8 : Int32) * y)).toInt = q.toInt + 8 + 8 * y.toInt := by rw [t_addk (by rw [e7, e8]; omega), e7, e8]
      have e5 : (((q + (8 : Int32)) + ((8 : Int32) * y)) - o).toInt = q.toInt + 8 + 8 * y.toInt - o.toInt := by rw [t_subk (by rw [e6]; omega), e6]
      refine ⟨r, ?_, fun Q hQ => ?_⟩
      · rcases hr with rfl | rfl
        · omega
        · rw [e5]; omega
      · obtain ⟨n, hn2⟩ := k Q hQ
        unfold wX2_lookupLength
        refine ⟨dd_X2_numbersOf, fun a4 e4 => ⟨dd_X2_s4 h9, fun a9 e9 => ?_⟩⟩
        rw [← eq] at e4
        subst e4
        rw [← ey] at e9
        subst e9
        exact ⟨fun c => absurd c c1, fun _ => ⟨fun c => absurd (Or.inl c) c2, fun _ => ⟨fun c => absurd (Or.inr (Or.inl c)) c2, fun _ => ⟨fun _ => ⟨n, hn2⟩, fun c => absurd (Or.inr (Or.inr c)) c2⟩⟩⟩⟩
/-! lengthAt: exact, and within the code -/
theorem getD_rg {L : List Int32} {b : Int} (h : ∀ v ∈ L, 0 ≤ v.toInt ∧ v.toInt ≤ b) (hb : 0 ≤ b) (i : Nat) : 0 ≤ (L.getD i 0).toInt ∧ (L.getD i 0).toInt ≤ b := by
  rw [List.getD_eq_getElem?_getD]
  cases e : L[i]? with
  | none => exact ⟨by decide, hb⟩
  | some v => exact h v (List.mem_of_getElem? e)
set_option maxRecDepth 100000 in
theorem stLN_rg : ∀ v ∈ stLN, 0 ≤ v.toInt ∧ v.toInt ≤ 6 := by decide
theorem rg_lengthOf {S : MS} {x : Int32} : 0 ≤ (fX6_lengthOf S x).toInt ∧ (fX6_lengthOf S x).toInt ≤ 6 := by
  have z : (f_X6_lengthOf_J12 S).toInt = 0 := li_0k
  unfold fX6_lengthOf
  split
  · omega
  · split
    · exact getD_rg stLN_rg (by decide) _
    · omega
theorem rg_wide {S : MS} {x : Int32} : 0 ≤ (fX2_wideLength S x).toInt ∧ (fX2_wideLength S x).toInt ≤ 6 := by
  have z : (f_X2_wideLength_J24 S).toInt = 4 := li_4k
  have z0 := li_0k
  have z6 := li_6k
  unfold fX2_wideLength
  split
  · omega
  · split
    · split
      · omega
      · omega
    · omega
theorem l32_small {d : Int64} (h : 0 ≤ d.toInt ∧ d.toInt ≤ 100000) : (d.toInt32).toInt = d.toInt := by
  rw [Int64.toInt_toInt32]
  apply Int.bmod_eq_of_le <;> omega
theorem rg_tl {S : MS} {o : Int32} (ho : 0 ≤ o.toInt ∧ o.toInt ≤ 1200) : 0 ≤ (fX2_tableLength S o).toInt ∧ (fX2_tableLength S o).toInt ≤ 3000 := by
  have hn := nOf_rg (S := S) (o := o) ⟨ho.1, by omega⟩
  have z0 := li_0k
  unfold fX2_tableLength
  generalize ((fX2_s4 S ((fX2_numbersOf S o) + (8 : Int32))).toInt64) - ((fX2_s4 S ((fX2_numbersOf S o) + (4 : Int32))).toInt64) = d
  generalize fX2_numbersOf S o = q at hn ⊢
  split
  · omega
  · split
    · omega
    · split
      · rename_i c1 c2 c3
        have k1 := c_cmpk (x := d) (y := 0)
        have k2 := (c_lek (x := d) (y := (200 : Int64))).mp c3
        have e0 : (0 : Int64).toInt = 0 := by decide
        have e2 : (200 : Int64).toInt = 200 := by decide
        have hd : 0 ≤ d.toInt ∧ d.toInt ≤ 200 := by omega
        have ed := l32_small (d := d) ⟨hd.1, by omega⟩
        have e4 : ((4 : Int32) * d.toInt32).toInt = 4 * d.toInt := by rw [t_mulk (by rw [li_4k, ed]; omega), li_4k, ed]
        have e5 : (q + (16 : Int32)).toInt = q.toInt + 16 := by rw [t_addk (by rw [li_16k]; omega), li_16k]
        have e6 : ((q + (16 : Int32)) + ((4 : Int32) * d.toInt32)).toInt = q.toInt + 16 + 4 * d.toInt := by rw [t_addk (by rw [e5, e4]; omega), e5, e4]
        rw [t_subk (by rw [e6]; omega), e6]
        omega
      · omega
/-- what lengthAt answers -/
def LaR (S : MS) (o r : Int32) : Prop := (0 ≤ r.toInt ∧ r.toInt ≤ 3000) ∧ (r.toInt = 0 ∨ o.toInt + r.toInt ≤ (qI S 8 2).toInt) ∧ ∀ Q : Int32 → MS → Prop, Q r S → wX2_lengthAt S o Q
theorem ex_la110 {S : MS} {o l : Int32} (ho : 0 ≤ o.toInt ∧ o.toInt ≤ 1200) (hl : 0 ≤ l.toInt ∧ l.toInt ≤ 3000) : ∃ r : Int32, ((0 ≤ r.toInt ∧ r.toInt ≤ 3000) ∧ (r.toInt = 0 ∨ o.toInt + r.toInt ≤ (qI S 8 2).toInt)) ∧ ∀ Q : Int32 → MS → Prop, Q r S → w_X2_lengthAt_J110 Q S o l := by
  have z0 := li_0k
  have e : (o + l).toInt = o.toInt + l.toInt := t_addk (by omega)
  by_cases c : (o + l).toInt ≤ (qI S 8 2).toInt
  · refine ⟨l, ⟨hl, by omega⟩, fun Q hQ => ?_⟩
    unfold w_X2_lengthAt_J110
    intro w
    exact ⟨fun _ => hQ, fun d => absurd c d⟩
  · refine ⟨0, ⟨by omega, Or.inl z0⟩, fun Q hQ => ?_⟩
    unfold w_X2_lengthAt_J110
    intro w
    exact ⟨fun d => absurd d c, fun _ => hQ⟩
theorem ex_lengthAt {S : MS} {o : Int32} (h9 : 0 ≤ (qI S 9 1).toInt) (ho : 0 ≤ o.toInt ∧ o.toInt ≤ 1200) : ∃ r : Int32, LaR S o r := by
  have z2 := li_2k
  have z0 := li_0k
  by_cases c1 : (fX2_u1 S o).toInt = 170
  · obtain ⟨r, hr, k⟩ := ex_la110 (S := S) ho (rg_tl (S := S) ho)
    refine ⟨r, hr.1, hr.2, fun Q hQ => ?_⟩
    unfold wX2_lengthAt
    refine ⟨dd_X2_u1, fun a4 e4 => ?_⟩
    rw [e4]
    exact ⟨fun _ => ⟨dd_X2_tableLength h9, fun a e => by rw [e]; exact k Q hQ⟩, fun d => absurd c1 d⟩
  · by_cases c2 : (fX2_u1 S o).toInt = 171
    · obtain ⟨l, hl, kl⟩ := ex_lookupLength (S := S) (o := o) h9 ho
      obtain ⟨r, hr, k⟩ := ex_la110 (S := S) ho hl
      refine ⟨r, hr.1, hr.2, fun Q hQ => ?_⟩
      unfold wX2_lengthAt
      refine ⟨dd_X2_u1, fun a4 e4 => ?_⟩
      rw [e4]
      refine ⟨fun d => absurd d c1, fun _ => ⟨fun _ => ⟨_, kl (fun r' u => r' = l ∧ u = S) ⟨rfl, rfl⟩, ?_⟩, fun d => absurd c2 d⟩⟩
      rintro r' u ⟨rfl, rfl⟩ _ _
      exact k Q hQ
    · by_cases c3 : (fX2_u1 S o).toInt = 188
      · by_cases c4 : (fX2_u1 S (o + (1 : Int32))).toInt = 10
        · obtain ⟨r, hr, k⟩ := ex_la110 (S := S) (l := 2) ho (by omega)
          refine ⟨r, hr.1, hr.2, fun Q hQ => ?_⟩
          unfold wX2_lengthAt
          refine ⟨dd_X2_u1, fun a4 e4 => ?_⟩
          rw [e4]
          refine ⟨fun d => absurd d c1, fun _ => ⟨fun d => absurd d c2, fun _ => ⟨fun _ => ⟨dd_X2_u1, fun a e => ?_⟩, fun d => absurd c3 d⟩⟩⟩
          rw [e]
          refine ⟨fun _ => ?_, fun d => absurd c4 d⟩
          unfold w_X2_lengthAt_J97
          intro _
          exact k Q hQ
        · obtain ⟨r, hr, k⟩ := ex_la110 (S := S) (l := 0) ho (by omega)
          refine ⟨r, hr.1, hr.2, fun Q hQ => ?_⟩
          unfold wX2_lengthAt
          refine ⟨dd_X2_u1, fun a4 e4 => ?_⟩
          rw [e4]
          refine ⟨fun d => absurd d c1, fun _ => ⟨fun d => absurd d c2, fun _ => ⟨fun _ => ⟨dd_X2_u1, fun a e => ?_⟩, fun d => absurd c3 d⟩⟩⟩
          rw [e]
          refine ⟨fun d => absurd d c4, fun _ => ?_⟩
          unfold w_X2_lengthAt_J97
          intro _
          exact k Q hQ
      · by_cases c4 : (fX2_u1 S o).toInt = 196
        · obtain ⟨r, hr, k⟩ := ex_la110 (S := S) (l := fX2_wideLength S (fX2_u1 S (o + (1 : Int32)))) ho (by have := rg_wide (S := S) (x := fX2_u1 S (o + (1 : Int32))); omega)
          refine ⟨r, hr.1, hr.2, fun Q hQ => ?_⟩
          unfold wX2_lengthAt
          refine ⟨dd_X2_u1, fun a4 e4 => ?_⟩
          rw [e4]
          refine ⟨fun d => absurd d c1, fun _ => ⟨fun d => absurd d c2, fun _ => ⟨fun d => absurd d c3, fun _ => ⟨fun _ => ⟨dd_X2_u1, fun a e => ⟨dd_X2_wideLength, fun b eb => ?_⟩⟩, fun d => absurd c4 d⟩⟩⟩⟩
          rw [eb, e]
          exact k Q hQ
        · obtain ⟨r, hr, k⟩ := ex_la110 (S := S) (l := fX6_lengthOf S (fX2_u1 S o)) ho (by have := rg_lengthOf (S := S) (x := fX2_u1 S o); omega)
          refine ⟨r, hr.1, hr.2, fun Q hQ => ?_⟩
          unfold wX2_lengthAt
          refine ⟨dd_X2_u1, fun a4 e4 => ?_⟩
          rw [e4]
          refine ⟨fun d => absurd d c1, fun _ => ⟨fun d => absurd d c2, fun _ => ⟨fun d => absurd d c3, fun _ => ⟨fun d => absurd d c4, fun _ => ⟨dd_X2_u1, fun a e => ⟨dd_X6_lengthOf, fun b eb => ?_⟩⟩⟩⟩⟩⟩
          rw [eb, e]
          exact k Q hQ
/-- two answers are one -/
theorem sp_lengthAt {S : MS} {o r : Int32} (h : LaR S o r) : wX2_lengthAt S o (fun r' u => r' = r ∧ u = S) := h.2.2 _ ⟨rfl, rfl⟩
/-! lookAt, numberInstructions, instructionsHold -/
/-- what the Reader reads is the same -/
def smX (S u : MS) : Prop := qI u 9 1 = qI S 9 1 ∧ qO u 9 0 = qO S 9 0 ∧ qN u (qO S 9 0) = qN S (qO S 9 0) ∧ qI u (qO S 9 0) = qI S (qO S 9 0)
theorem smX.rf {S : MS} : smX S S := ⟨rfl, rfl, rfl, rfl⟩
theorem smX.tr {S u v : MS} (h : smX S u) (k : smX u v) : smX S v := by
  obtain ⟨h1, h2, h3, h4⟩ := h
  obtain ⟨k1, k2, k3, k4⟩ := k
  rw [h2] at k2 k3 k4
  exact ⟨k1.trans h1, k2, k3.trans h3, k4.trans h4⟩
theorem smX.u1 {S u : MS} (h : smX S u) {x : Int32} : fX7_u1 u x = fX7_u1 S x := by
  obtain ⟨h1, h2, h3, h4⟩ := h
  unfold fX7_u1
  rw [h1, h2, h3, h4]
  rfl
theorem smX.u2 {S u : MS} (h : smX S u) {x : Int32} : fX7_u2 u x = fX7_u2 S x := by
  obtain ⟨h1, h2, h3, h4⟩ := h
  unfold fX7_u2
  rw [h1, h2, h3, h4]
theorem smX.s4 {S u : MS} (h : smX S u) {x : Int32} : fX7_s4 u x = fX7_s4 S x := by
  obtain ⟨h1, h2, h3, h4⟩ := h
  unfold fX7_s4
  rw [h1, h2, h3, h4]
theorem smX.h9 {S u : MS} (h : smX S u) (h9 : 0 ≤ (qI S 9 1).toInt) : 0 ≤ (qI u 9 1).toInt := by rw [h.1]; exact h9
/-- out of a frame: no row of bytes, not the Reader's data and end -/
theorem cfr.sm {K : List Nat} {F : List (Nat × Nat)} {S u : MS} (w : wfC S) (f : cfr K F S u) (hK : K.contains 101 = false) (hK9 : K.contains 46 = false) (h0 : F.contains (46, 0) = false) (h1 : F.contains (46, 1) = false) (h2 : ∀ j, F.contains (101, j) = false) : smX S u := by
  have k9 : qT S 9 = 46 := (w.2.1 _ finC_2).2.1
  have p9 := w.ptr ptrC_3
  have kd : qT S (qO S 9 0) = 101 := w.ref p9 k9
  have e0 := (f.2.2 9 0 (by rw [k9]; decide) (by rw [k9]; exact hK9) (by rw [k9]; exact h0)).2.2
  refine ⟨(f.2.2 9 1 (by rw [k9]; decide) (by rw [k9]; exact hK9) (by rw [k9]; exact h1)).1, ?_, (f.1.1 _ (by rw [kd]; decide)).2, ?_⟩
  · unfold qO; rw [e0]
  · funext j
    exact (f.2.2 (qO S 9 0) j (by rw [kd]; decide) (by rw [kd]; exact hK) (by rw [kd]; exact h2 j)).1
theorem smX.w8 {S : MS} {i : Nat} {v : Int32} (w : wfC S) : smX S (wI S 8 i v) := by
  have k9 : qT S 9 = 46 := (w.2.1 _ finC_2).2.1
  have k8 : qT S 8 = 42 := (w.2.1 _ finC_26).2.1
  have kd : qT S (qO S 9 0) = 101 := w.ref (w.ptr ptrC_3) k9
  have hne : qO S 9 0 ≠ 8 := fun q => by rw [q, k8] at kd; exact absurd kd (by decide)
  refine ⟨by rw [qI_wI, if_neg (fun q => absurd q.1 (by decide))], rfl, rfl, ?_⟩
  exact if_neg hne
/-- where the code of method x begins -/
def stV (S : MS) (x : Int32) : Int32 := if 0 ≤ x.toInt ∧ x.toInt < 24 then qI S 13 x.toInt.toNat else 0
def szV (S : MS) (a : Int32) : Int32 := if (1200 : Int32) < fX7_s4 S (a + (4 : Int32)) then (1200 : Int32) else fX7_s4 S (a + (4 : Int32))
def LoQ (S : MS) (a : Int32) (u : MS) : Prop := smX S u ∧ qI u 8 1 = a + (8 : Int32) ∧ qI u 8 2 = szV S a ∧ qI u 8 6 = fX7_u2 S ((a + (8 : Int32)) + szV S a) ∧ qI u 8 3 = fX7_u2 S a
theorem szV_rg {S : MS} {a : Int32} : (szV S a).toInt ≤ 1200 := by
  have e := li_1200
  unfold szV
  split
  · omega
  · rename_i c
    have c' : ¬ (1200 : Int32).toInt < (fX7_s4 S (a + (4 : Int32))).toInt := fun q => c (n_lt.mpr q)
    omega
theorem sp_lo23 {S : MS} {a : Int32} {Q : MS → Prop} (h9 : 0 ≤ (qI S 9 1).toInt) (hQ : ∀ u : MS, LoQ S a u → Q u) : w_X2_lookAt_J23 Q S a := by
  unfold w_X2_lookAt_J23
  intro w0
  refine ⟨dd_X7_u2 h9, fun S4 e4 k4 w4 => ?_⟩
  have m4 : smX S S4 := by rw [e4]; exact smX.w8 w0
  refine ⟨dd_X7_u2 (m4.h9 h9), fun S9 e9 k9 w9 => ?_⟩
  have m9 : smX S S9 := m4.tr (by rw [e9]; exact smX.w8 w4)
  refine ⟨dd_X7_s4 (m9.h9 h9), fun S15 e15 k15 w15 S17 e17 k17 w17 S20 e20 k20 w20 => ?_⟩
  have m15 : smX S S15 := m9.tr (by rw [e15]; exact smX.w8 w9)
  have m17 : smX S S17 := m15.tr (by rw [e17]; exact smX.w8 w15)
  have m20 : smX S S20 := m17.tr (by rw [e20]; exact smX.w8 w17)
  refine ⟨dd_X7_u2 (m20.h9 h9), fun S25 e25 k25 w25 => hQ S25 ?_⟩
  have m25 : smX S S25 := m20.tr (by rw [e25]; exact smX.w8 w20)
  have z15 : qI S15 8 2 = szV S a := by rw [e15, qI_wI, if_pos ⟨rfl, rfl⟩, m9.s4]; rfl
  have z17 : qI S17 8 2 = szV S a := by rw [e17, qI_wI, if_neg (by decide), z15]
  have o17 : qI S17 8 1 = a + (8 : Int32) := by rw [e17, qI_wI, if_pos ⟨rfl, rfl⟩]
  have z20 : qI S20 8 2 = szV S a := by rw [e20, qI_wI, if_neg (by decide), z17]
  have o20 : qI S20 8 1 = a + (8 : Int32) := by rw [e20, qI_wI, if_neg (by decide), o17]
  refine ⟨m25, by rw [e25, qI_wI, if_neg (by decide), o20], by rw [e25, qI_wI, if_neg (by decide), z20], ?_, ?_⟩
  · rw [e25, qI_wI, if_pos ⟨rfl, rfl⟩, m20.u2, o20, z20]
  · rw [e25, qI_wI, if_neg (by decide), e20, qI_wI, if_neg (by decide), e17, qI_wI, if_neg (by decide), e15, qI_wI, if_neg (by decide), e9, qI_wI, if_neg (by decide), e4, qI_wI, if_pos ⟨rfl, rfl⟩]
theorem sp_lookAt {S : MS} {x : Int32} {Q : MS → Prop} (h9 : 0 ≤ (qI S 9 1).toInt) (hQ : ∀ u : MS, LoQ S (stV S x) u → Q u) : wX2_lookAt S x Q := by
  unfold wX2_lookAt
  refine ⟨fun c => ?_, fun c => ⟨fun c2 => ⟨⟨by omega, c2⟩, ?_⟩, fun c2 => ?_⟩⟩
  · unfold w_X2_lookAt_J10
    intro _
    have e : stV S x = 0 := if_neg (by omega)
    rw [e] at hQ
    exact sp_lo23 h9 hQ
  · have e : stV S x = qI S 13 x.toInt.toNat := if_pos (by omega)
    rw [e] at hQ
    exact sp_lo23 h9 hQ
  · unfold w_X2_lookAt_J10
    intro _
    have e : stV S x = 0 := if_neg (by omega)
    rw [e] at hQ
    exact sp_lo23 h9 hQ
/-! numberInstructions, instructionsHold -/
theorem smX.w15 {S : MS} {i : Nat} {v : Int32} (w : wfC S) : smX S (wI S 15 i v) := by
  have k9 : qT S 9 = 46 := (w.2.1 _ finC_2).2.1
  have k8 : qT S 15 = 201 := (w.2.1 _ finC_3).2.1
  have kd : qT S (qO S 9 0) = 101 := w.ref (w.ptr ptrC_3) k9
  have hne : qO S 9 0 ≠ 15 := fun q => by rw [q, k8] at kd; exact absurd kd (by decide)
  refine ⟨by rw [qI_wI, if_neg (fun q => absurd q.1 (by decide))], rfl, rfl, ?_⟩
  exact if_neg hne
theorem mx1 {r : Int32} (h : 0 ≤ r.toInt ∧ r.toInt ≤ 3000) : 1 ≤ (if (1 : Int32) < r then r else (1 : Int32)).toInt ∧ (if (1 : Int32) < r then r else (1 : Int32)).toInt ≤ 3000 ∧ (r.toInt ≤ 0 ∨ (if (1 : Int32) < r then r else (1 : Int32)).toInt = r.toInt) := by
  have e := li_1k
  by_cases c : (1 : Int32) < r
  · have c' := n_lt.mp c
    rw [if_pos c]
    omega
  · have c' : ¬ (1 : Int32).toInt < r.toInt := fun q => c (n_lt.mpr q)
    rw [if_neg c]
    omega
def NiQ (S u : MS) : Prop := smX S u ∧ (0 ≤ (qI u 8 8).toInt ∧ ((qI u 8 8).toInt = 0 ∨ (qI u 8 8).toInt ≤ (qI S 8 2).toInt)) ∧ ∀ j : Nat, j ≠ 8 → qI u 8 j = qI S 8 j
theorem sp_ni67 {S U : MS} {Q : MS → Prop} (hQ : ∀ u : MS, NiQ S u → Q u) (h : NiQ S U) : w_X2_numberInstructions_J67 Q U := by
  unfold w_X2_numberInstructions_J67
  intro w
  refine ⟨fun _ => hQ U h, fun c => ⟨fun _ => hQ U h, fun c2 => ⟨by omega, fun S8 e8 k8 w8 => hQ S8 ?_⟩⟩⟩
  have i8 : ∀ j, qI S8 8 j = qI U 8 j := fun j => by rw [e8, qI_wI, if_neg (fun q => absurd q.1 (by decide))]
  exact ⟨h.1.tr (by rw [e8]; exact smX.w15 w), by rw [i8]; exact h.2.1, fun j hj => by rw [i8]; exact h.2.2 j hj⟩
theorem sp_niL {S : MS} {Q : MS → Prop} (h9 : 0 ≤ (qI S 9 1).toInt) (hs : (qI S 8 2).toInt ≤ 1200) (hQ : ∀ u : MS, NiQ S u → Q u) : ∀ (n : Nat) {U : MS} {v : Int32}, NiQ S U → 0 ≤ v.toInt → (qI U 8 8).toInt ≤ v.toInt → 5000 - v.toInt < n → v.toInt ≤ 4300 → w_X2_numberInstructions_L15 Q n U v := by
  intro n
  induction n with
  | zero => intro U v h h0 h1 hm h2; exfalso; omega
  | succ n ih =>
    intro U v h h0 h1 hm h2
    unfold w_X2_numberInstructions_L15
    intro w
    have e2 := h.2.2 2 (by decide)
    refine ⟨fun _ => sp_ni67 hQ h, fun c => ⟨fun _ => sp_ni67 hQ h, fun c2 => ⟨by omega, fun S12 e12 k12 w12 S14 e14 k14 w14 => ?_⟩⟩⟩
    rw [e2] at c
    have m12 : smX S S12 := h.1.tr (by rw [e12]; exact smX.w15 w)
    have m14 : smX S S14 := m12.tr (by rw [e14]; exact smX.w8 w12)
    have i12 : ∀ j, qI S12 8 j = qI U 8 j := fun j => by rw [e12, qI_wI, if_neg (fun q => absurd q.1 (by decide))]
    have i14 : ∀ j, j ≠ 8 → qI S14 8 j = qI U 8 j := fun j hj => by rw [e14, qI_wI, if_neg (fun q => hj q.2), i12]
    have h88 := h.2.1
    have i8 : (qI S14 8 8).toInt = (qI U 8 8).toInt + 1 := by rw [e14, qI_wI, if_pos ⟨rfl, rfl⟩, i12, t_addk (by rw [li_1k]; omega), li_1k]
    obtain ⟨r, hr⟩ := ex_lengthAt (S := S14) (o := v) (m14.h9 h9) ⟨h0, by omega⟩
    refine ⟨_, sp_lengthAt hr, ?_⟩
    rintro r' u ⟨rfl, rfl⟩ wu _ a e
    have hm1 := mx1 hr.1
    have ea : a.toInt = v.toInt + (if (1 : Int32) < r' then r' else (1 : Int32)).toInt := by rw [e, t_addk (by omega)]
    exact ih (U := u) ⟨m14, by rw [i8]; omega, fun j hj => by rw [i14 j hj]; exact h.2.2 j hj⟩ (by omega) (by rw [i8]; omega) (by omega) (by omega)
theorem sp_numberInstructions {S : MS} {Q : MS → Prop} (hw : wfC S) (h9 : 0 ≤ (qI S 9 1).toInt) (hs : (qI S 8 2).toInt ≤ 1200) (hQ : ∀ u : MS, NiQ S u → Q u) : wX2_numberInstructions S Q := by
  unfold wX2_numberInstructions
  intro k15
  refine ⟨_, frJ7_fill_53178 k15 (by decide) (sfJ7_fill_53178 hw k15 (by decide)), ?_⟩
  intro S2 q2 w2 _ S4 e4 k4 w4
  have m2 : smX S S2 := cfr.sm hw q2.2 (by decide) (by decide) (by decide) (by decide) (fun _ => rfl)
  have k8 : qT S 8 = 42 := (hw.2.1 _ finC_26).2.1
  have i2 : ∀ j, qI S2 8 j = qI S 8 j := fun j => (q2.2.2.2 8 j (by rw [k8]; decide) (by rw [k8]; decide) rfl).1
  have m4 : smX S S4 := m2.tr (by rw [e4]; exact smX.w8 w2)
  have z : (qI S4 8 8).toInt = 0 := by rw [e4, qI_wI, if_pos ⟨rfl, rfl⟩]; exact li_0k
  have z0 := li_0k
  refine ⟨5001, sp_niL h9 hs hQ 5001 ⟨m4, by omega, fun j hj => by rw [e4, qI_wI, if_neg (fun q => hj q.2), i2]⟩ (by omega) (by omega) (by omega) (by omega)⟩
/-! safety of the code's reader -/
theorem dd_X2_numberOf {S : MS} {y1 : Int64} : d_X2_numberOf S y1 := by
  have k0 := c_cmpk (x := y1) (y := 0)
  have e0 : (0 : Int64).toInt = 0 := by decide
  have k2 := c_cmpk (x := y1) (y := (1201 : Int32).toInt64)
  have e2 : ((1201 : Int32).toInt64).toInt = 1201 := by decide
  unfold d_X2_numberOf
  split
  · exact trivial
  · split
    · exact trivial
    · split
      · rename_i c1 c2 c3
        have h : 0 ≤ y1.toInt ∧ y1.toInt < 1201 := by omega
        have e := l32_small (d := y1) ⟨h.1, by omega⟩
        exact ⟨by rw [e]; exact h, trivial⟩
      · exact trivial
theorem dd_X2_isInstruction {S : MS} {y1 : Int64} : d_X2_isInstruction S y1 := by
  unfold d_X2_isInstruction
  split
  · exact trivial
  · refine ⟨dd_X2_numberOf, ?_⟩
    split
    · exact trivial
    · exact trivial
set_option maxRecDepth 100000 in
theorem dd_X6_errorName {S : MS} {x0 : Int32} : d_X6_errorName S x0 := by
  unfold d_X6_errorName
  exact trivial
set_option maxRecDepth 100000 in
theorem sfX2_set {S : MS} {x1 : Int32} {y2 : Int64} (hw : wfC S)  : wX2_set S x1 y2 (fun _ => True) := by
  have f : cfr [] [(42, 9), (42, 10)] S S := cfr.rf
  unfold wX2_set
  intro S1_0 eS1_0 y1_ y2_
  have f := f.tr (show cfr [] [(42, 9), (42, 10)] S S1_0 by rw [eS1_0]; exact cfr.oI y1_ (by decide))
  intro S2_1 eS2_1 y3_ y4_
  have f := f.tr (show cfr [] [(42, 9), (42, 10)] S1_0 S2_1 by rw [eS2_1]; exact cfr.oJ y3_ (by decide))
  exact trivial
set_option maxRecDepth 100000 in
theorem sfX2_decodeLocal {S : MS} {x1 : Int32} (hw : wfC S) (h9 : 0 ≤ (qI S 9 1).toInt) (hk9 : qT S 9 = 46) : wX2_decodeLocal S x1 (fun _ => True) := by
  have f : cfr [] [(42, 9), (42, 10)] S S := cfr.rf
  unfold wX2_decodeLocal
  refine ⟨?_, ?_⟩
  · exact dd_X2_u1
  intro a4_0 ea4_0 
  have ga4_0 := congrArg Int32.toInt ea4_0
  refine ⟨fun c1_ => ?_, fun c1_ => ?_⟩
  · refine ⟨?_, ?_⟩
    · exact dd_X2_u2 (by rw [f.kI (a := 9) (j := 1) hk9 (by decide) (by decide)]; exact h9)
    intro a62_2 ea62_2 
    have ga62_2 := congrArg Int32.toInt ea62_2
    refine ⟨?_, ?_⟩
    · exact dd_X2_u1
    refine ⟨fun c3_ => ?_, fun c3_ => ?_⟩
    · refine ⟨?_, ?_⟩
      · exact dd_X2_u1
      refine ⟨fun c4_ => ?_, fun c4_ => ?_⟩
      · refine ⟨?_, ?_⟩
        · exact dd_X2_u2 (by rw [f.kI (a := 9) (j := 1) hk9 (by decide) (by decide)]; exact h9)
        unfold w_X2_decodeLocal_J75
        intro y1_
        refine ⟨_, frX2_set y1_ (sfX2_set y1_ ), ?_⟩
        intro S68_5 q2_ y3_ y4_
        have f := f.tr (q2_.2.mo (by decide) (by decide))
        exact trivial
      · unfold w_X2_decodeLocal_J75
        intro y5_
        refine ⟨_, frX2_set y5_ (sfX2_set y5_ ), ?_⟩
        intro S68_6 q6_ y7_ y8_
        have f := f.tr (q6_.2.mo (by decide) (by decide))
        exact trivial
    · unfold w_X2_decodeLocal_J75
      intro y9_
      refine ⟨_, frX2_set y9_ (sfX2_set y9_ ), ?_⟩
      intro S68_7 q10_ y11_ y12_
      have f := f.tr (q10_.2.mo (by decide) (by decide))
      exact trivial
  · refine ⟨fun c8_ => ?_, fun c8_ => ?_⟩
    · refine ⟨?_, ?_⟩
      · exact dd_X2_u1
      refine ⟨?_, ?_⟩
      · exact dd_X2_u1
      refine ⟨_, frX2_set hw (sfX2_set hw ), ?_⟩
      intro S56_9 q13_ y14_ y15_
      have f := f.tr (q13_.2.mo (by decide) (by decide))
      exact trivial
    · refine ⟨?_, ?_⟩
      · exact dd_X6_usesLocal
      refine ⟨fun c10_ => ?_, fun c10_ => ?_⟩
      · refine ⟨fun c11_ => ?_, fun c11_ => ?_⟩
        · unfold w_X2_decodeLocal_J181
          intro y16_
          refine ⟨fun c12_ => ?_, fun c12_ => ?_⟩
          · unfold w_X2_decodeLocal_J207
            intro y17_
            refine ⟨fun c13_ => ?_, fun c13_ => ?_⟩
            · unfold w_X2_decodeLocal_J246
              intro y18_
              refine ⟨fun c14_ => ?_, fun c14_ => ?_⟩
              · exact trivial
              · refine ⟨fun c15_ => ?_, fun c15_ => ?_⟩
                · exact trivial
                · refine ⟨_, frX2_set y18_ (sfX2_set y18_ ), ?_⟩
                  intro S15_16 q19_ y20_ y21_
                  have f := f.tr (q19_.2.mo (by decide) (by decide))
                  exact trivial
            · refine ⟨fun c17_ => ?_, fun c17_ => ?_⟩
              · unfold w_X2_decodeLocal_J246
                intro y22_
                refine ⟨fun c18_ => ?_, fun c18_ => ?_⟩
                · exact trivial
                · refine ⟨fun c19_ => ?_, fun c19_ => ?_⟩
                  · exact trivial
                  · refine ⟨_, frX2_set y22_ (sfX2_set y22_ ), ?_⟩
                    intro S15_20 q23_ y24_ y25_
                    have f := f.tr (q23_.2.mo (by decide) (by decide))
                    exact trivial
              · refine ⟨fun c21_ => ?_, fun c21_ => ?_⟩
                · unfold w_X2_decodeLocal_J233
                  intro y26_
                  refine ⟨_, frX2_set y26_ (sfX2_set y26_ ), ?_⟩
                  intro S22_22 q27_ y28_ y29_
                  have f := f.tr (q27_.2.mo (by decide) (by decide))
                  exact trivial
                · unfold w_X2_decodeLocal_J233
                  intro y30_
                  refine ⟨_, frX2_set y30_ (sfX2_set y30_ ), ?_⟩
                  intro S22_23 q31_ y32_ y33_
                  have f := f.tr (q31_.2.mo (by decide) (by decide))
                  exact trivial
          · refine ⟨fun c24_ => ?_, fun c24_ => ?_⟩
            · unfold w_X2_decodeLocal_J207
              intro y34_
              refine ⟨fun c25_ => ?_, fun c25_ => ?_⟩
              · unfold w_X2_decodeLocal_J246
                intro y35_
                refine ⟨fun c26_ => ?_, fun c26_ => ?_⟩
                · exact trivial
                · refine ⟨fun c27_ => ?_, fun c27_ => ?_⟩
                  · exact trivial
                  · refine ⟨_, frX2_set y35_ (sfX2_set y35_ ), ?_⟩
                    intro S15_28 q36_ y37_ y38_
                    have f := f.tr (q36_.2.mo (by decide) (by decide))
                    exact trivial
              · refine ⟨fun c29_ => ?_, fun c29_ => ?_⟩
                · unfold w_X2_decodeLocal_J246
                  intro y39_
                  refine ⟨fun c30_ => ?_, fun c30_ => ?_⟩
                  · exact trivial
                  · refine ⟨fun c31_ => ?_, fun c31_ => ?_⟩
                    · exact trivial
                    · refine ⟨_, frX2_set y39_ (sfX2_set y39_ ), ?_⟩
                      intro S15_32 q40_ y41_ y42_
                      have f := f.tr (q40_.2.mo (by decide) (by decide))
                      exact trivial
                · refine ⟨fun c33_ => ?_, fun c33_ => ?_⟩
                  · unfold w_X2_decodeLocal_J233
                    intro y43_
                    refine ⟨_, frX2_set y43_ (sfX2_set y43_ ), ?_⟩
                    intro S22_34 q44_ y45_ y46_
                    have f := f.tr (q44_.2.mo (by decide) (by decide))
                    exact trivial
                  · unfold w_X2_decodeLocal_J233
                    intro y47_
                    refine ⟨_, frX2_set y47_ (sfX2_set y47_ ), ?_⟩
                    intro S22_35 q48_ y49_ y50_
                    have f := f.tr (q48_.2.mo (by decide) (by decide))
                    exact trivial
            · refine ⟨_, frX2_set y16_ (sfX2_set y16_ ), ?_⟩
              intro S29_36 q51_ y52_ y53_
              have f := f.tr (q51_.2.mo (by decide) (by decide))
              exact trivial
        · refine ⟨fun c37_ => ?_, fun c37_ => ?_⟩
          · unfold w_X2_decodeLocal_J181
            intro y54_
            refine ⟨fun c38_ => ?_, fun c38_ => ?_⟩
            · unfold w_X2_decodeLocal_J207
              intro y55_
              refine ⟨fun c39_ => ?_, fun c39_ => ?_⟩
              · unfold w_X2_decodeLocal_J246
                intro y56_
                refine ⟨fun c40_ => ?_, fun c40_ => ?_⟩
                · exact trivial
                · refine ⟨fun c41_ => ?_, fun c41_ => ?_⟩
                  · exact trivial
                  · refine ⟨_, frX2_set y56_ (sfX2_set y56_ ), ?_⟩
                    intro S15_42 q57_ y58_ y59_
                    have f := f.tr (q57_.2.mo (by decide) (by decide))
                    exact trivial
              · refine ⟨fun c43_ => ?_, fun c43_ => ?_⟩
                · unfold w_X2_decodeLocal_J246
                  intro y60_
                  refine ⟨fun c44_ => ?_, fun c44_ => ?_⟩
                  · exact trivial
                  · refine ⟨fun c45_ => ?_, fun c45_ => ?_⟩
                    · exact trivial
                    · refine ⟨_, frX2_set y60_ (sfX2_set y60_ ), ?_⟩
                      intro S15_46 q61_ y62_ y63_
                      have f := f.tr (q61_.2.mo (by decide) (by decide))
                      exact trivial
                · refine ⟨fun c47_ => ?_, fun c47_ => ?_⟩
                  · unfold w_X2_decodeLocal_J233
                    intro y64_
                    refine ⟨_, frX2_set y64_ (sfX2_set y64_ ), ?_⟩
                    intro S22_48 q65_ y66_ y67_
                    have f := f.tr (q65_.2.mo (by decide) (by decide))
                    exact trivial
                  · unfold w_X2_decodeLocal_J233
                    intro y68_
                    refine ⟨_, frX2_set y68_ (sfX2_set y68_ ), ?_⟩
                    intro S22_49 q69_ y70_ y71_
                    have f := f.tr (q69_.2.mo (by decide) (by decide))
                    exact trivial
            · refine ⟨fun c50_ => ?_, fun c50_ => ?_⟩
              · unfold w_X2_decodeLocal_J207
                intro y72_
                refine ⟨fun c51_ => ?_, fun c51_ => ?_⟩
                · unfold w_X2_decodeLocal_J246
                  intro y73_
                  refine ⟨fun c52_ => ?_, fun c52_ => ?_⟩
                  · exact trivial
                  · refine ⟨fun c53_ => ?_, fun c53_ => ?_⟩
                    · exact trivial
                    · refine ⟨_, frX2_set y73_ (sfX2_set y73_ ), ?_⟩
                      intro S15_54 q74_ y75_ y76_
                      have f := f.tr (q74_.2.mo (by decide) (by decide))
                      exact trivial
                · refine ⟨fun c55_ => ?_, fun c55_ => ?_⟩
                  · unfold w_X2_decodeLocal_J246
                    intro y77_
                    refine ⟨fun c56_ => ?_, fun c56_ => ?_⟩
                    · exact trivial
                    · refine ⟨fun c57_ => ?_, fun c57_ => ?_⟩
                      · exact trivial
                      · refine ⟨_, frX2_set y77_ (sfX2_set y77_ ), ?_⟩
                        intro S15_58 q78_ y79_ y80_
                        have f := f.tr (q78_.2.mo (by decide) (by decide))
                        exact trivial
                  · refine ⟨fun c59_ => ?_, fun c59_ => ?_⟩
                    · unfold w_X2_decodeLocal_J233
                      intro y81_
                      refine ⟨_, frX2_set y81_ (sfX2_set y81_ ), ?_⟩
                      intro S22_60 q82_ y83_ y84_
                      have f := f.tr (q82_.2.mo (by decide) (by decide))
                      exact trivial
                    · unfold w_X2_decodeLocal_J233
                      intro y85_
                      refine ⟨_, frX2_set y85_ (sfX2_set y85_ ), ?_⟩
                      intro S22_61 q86_ y87_ y88_
                      have f := f.tr (q86_.2.mo (by decide) (by decide))
                      exact trivial
              · refine ⟨_, frX2_set y54_ (sfX2_set y54_ ), ?_⟩
                intro S29_62 q89_ y90_ y91_
                have f := f.tr (q89_.2.mo (by decide) (by decide))
                exact trivial
          · refine ⟨fun c63_ => ?_, fun c63_ => ?_⟩
            · unfold w_X2_decodeLocal_J168
              intro y92_
              refine ⟨_, frX2_set y92_ (sfX2_set y92_ ), ?_⟩
              intro S36_64 q93_ y94_ y95_
              have f := f.tr (q93_.2.mo (by decide) (by decide))
              exact trivial
            · unfold w_X2_decodeLocal_J168
              intro y96_
              refine ⟨_, frX2_set y96_ (sfX2_set y96_ ), ?_⟩
              intro S36_65 q97_ y98_ y99_
              have f := f.tr (q97_.2.mo (by decide) (by decide))
              exact trivial
      · refine ⟨?_, ?_⟩
        · exact dd_X2_u1
        refine ⟨_, frX2_set hw (sfX2_set hw ), ?_⟩
        intro S44_66 q100_ y101_ y102_
        have f := f.tr (q100_.2.mo (by decide) (by decide))
        exact trivial
set_option maxRecDepth 100000 in
theorem sfX2_decode {S : MS} {x1 : Int32} (hw : wfC S) (h9 : 0 ≤ (qI S 9 1).toInt) (hk9 : qT S 9 = 46) : wX2_decode S x1 (fun _ => True) := by
  have f : cfr [] [(42, 9), (42, 10), (42, 11)] S S := cfr.rf
  unfold wX2_decode
  refine ⟨?_, ?_⟩
  · exact dd_X2_u1
  intro a4_0 ea4_0 
  have ga4_0 := congrArg Int32.toInt ea4_0
  intro S5_1 eS5_1 y1_ y2_
  have f := f.tr (show cfr [] [(42, 9), (42, 10), (42, 11)] S S5_1 by rw [eS5_1]; exact cfr.oI y1_ (by decide))
  intro S6_2 eS6_2 y3_ y4_
  have f := f.tr (show cfr [] [(42, 9), (42, 10), (42, 11)] S5_1 S6_2 by rw [eS6_2]; exact cfr.oI y3_ (by decide))
  intro S7_3 eS7_3 y5_ y6_
  have f := f.tr (show cfr [] [(42, 9), (42, 10), (42, 11)] S6_2 S7_3 by rw [eS7_3]; exact cfr.oJ y5_ (by decide))
  refine ⟨fun c4_ => ?_, fun c4_ => ?_⟩
  · unfold w_X2_decode_J45
    intro y7_
    refine ⟨fun c5_ => ?_, fun c5_ => ?_⟩
    · unfold w_X2_decode_J57
      intro y8_
      refine ⟨_, frX2_set y8_ (sfX2_set y8_ ), ?_⟩
      intro S10_6 q9_ y10_ y11_
      have f := f.tr (q9_.2.mo (by decide) (by decide))
      exact trivial
    · refine ⟨fun c7_ => ?_, fun c7_ => ?_⟩
      · unfold w_X2_decode_J57
        intro y12_
        refine ⟨_, frX2_set y12_ (sfX2_set y12_ ), ?_⟩
        intro S10_8 q13_ y14_ y15_
        have f := f.tr (q13_.2.mo (by decide) (by decide))
        exact trivial
      · refine ⟨fun c9_ => ?_, fun c9_ => ?_⟩
        · refine ⟨?_, ?_⟩
          · exact dd_X2_u1
          refine ⟨_, frX2_set y7_ (sfX2_set y7_ ), ?_⟩
          intro S82_10 q16_ y17_ y18_
          have f := f.tr (q16_.2.mo (by decide) (by decide))
          exact trivial
        · refine ⟨fun c11_ => ?_, fun c11_ => ?_⟩
          · refine ⟨?_, ?_⟩
            · exact dd_X2_u2 (by rw [f.kI (a := 9) (j := 1) hk9 (by decide) (by decide)]; exact h9)
            refine ⟨_, frX2_set y7_ (sfX2_set y7_ ), ?_⟩
            intro S75_12 q19_ y20_ y21_
            have f := f.tr (q19_.2.mo (by decide) (by decide))
            exact trivial
          · refine ⟨fun c13_ => ?_, fun c13_ => ?_⟩
            · refine ⟨?_, ?_⟩
              · exact dd_X2_u1
              refine ⟨_, frX2_set y7_ (sfX2_set y7_ ), ?_⟩
              intro S68_14 q22_ y23_ y24_
              have f := f.tr (q22_.2.mo (by decide) (by decide))
              exact trivial
            · refine ⟨fun c15_ => ?_, fun c15_ => ?_⟩
              · refine ⟨?_, ?_⟩
                · exact dd_X2_s4 (by rw [f.kI (a := 9) (j := 1) hk9 (by decide) (by decide)]; exact h9)
                refine ⟨_, frX2_set y7_ (sfX2_set y7_ ), ?_⟩
                intro S61_16 q25_ y26_ y27_
                have f := f.tr (q25_.2.mo (by decide) (by decide))
                exact trivial
              · refine ⟨?_, ?_⟩
                · exact dd_X6_isJump
                refine ⟨fun c17_ => ?_, fun c17_ => ?_⟩
                · refine ⟨?_, ?_⟩
                  · exact dd_X6_isSwitch
                  refine ⟨fun c18_ => ?_, fun c18_ => ?_⟩
                  · refine ⟨?_, ?_⟩
                    · exact dd_X6_lengthOf
                    refine ⟨fun c19_ => ?_, fun c19_ => ?_⟩
                    · refine ⟨fun c20_ => ?_, fun c20_ => ?_⟩
                      · unfold w_X2_decode_J247
                        intro y28_
                        refine ⟨_, frX2_decodeLocal y28_ (sfX2_decodeLocal y28_  (by rw [f.kI (a := 9) (j := 1) hk9 (by decide) (by decide)]; exact h9) (f.1.T hk9 (by decide))), ?_⟩
                        intro S30_21 q29_ y30_ y31_
                        have f := f.tr (q29_.2.mo (by decide) (by decide))
                        exact trivial
                      · refine ⟨?_, ?_⟩
                        · exact dd_X2_u2 (by rw [f.kI (a := 9) (j := 1) hk9 (by decide) (by decide)]; exact h9)
                        refine ⟨_, frX2_set y7_ (sfX2_set y7_ ), ?_⟩
                        intro S39_22 q32_ y33_ y34_
                        have f := f.tr (q32_.2.mo (by decide) (by decide))
                        exact trivial
                    · unfold w_X2_decode_J247
                      intro y35_
                      refine ⟨_, frX2_decodeLocal y35_ (sfX2_decodeLocal y35_  (by rw [f.kI (a := 9) (j := 1) hk9 (by decide) (by decide)]; exact h9) (f.1.T hk9 (by decide))), ?_⟩
                      intro S30_23 q36_ y37_ y38_
                      have f := f.tr (q36_.2.mo (by decide) (by decide))
                      exact trivial
                  · refine ⟨?_, ?_⟩
                    · exact dd_X2_numbersOf
                    refine ⟨_, frX2_set y7_ (sfX2_set y7_ ), ?_⟩
                    intro S45_24 q39_ y40_ y41_
                    have f := f.tr (q39_.2.mo (by decide) (by decide))
                    exact trivial
                · refine ⟨?_, ?_⟩
                  · exact dd_X2_u2 (by rw [f.kI (a := 9) (j := 1) hk9 (by decide) (by decide)]; exact h9)
                  refine ⟨_, frX2_set y7_ (sfX2_set y7_ ), ?_⟩
                  intro S53_25 q42_ y43_ y44_
                  have f := f.tr (q42_.2.mo (by decide) (by decide))
                  exact trivial
  · refine ⟨fun c26_ => ?_, fun c26_ => ?_⟩
    · unfold w_X2_decode_J45
      intro y45_
      refine ⟨fun c27_ => ?_, fun c27_ => ?_⟩
      · unfold w_X2_decode_J57
        intro y46_
        refine ⟨_, frX2_set y46_ (sfX2_set y46_ ), ?_⟩
        intro S10_28 q47_ y48_ y49_
        have f := f.tr (q47_.2.mo (by decide) (by decide))
        exact trivial
      · refine ⟨fun c29_ => ?_, fun c29_ => ?_⟩
        · unfold w_X2_decode_J57
          intro y50_
          refine ⟨_, frX2_set y50_ (sfX2_set y50_ ), ?_⟩
          intro S10_30 q51_ y52_ y53_
          have f := f.tr (q51_.2.mo (by decide) (by decide))
          exact trivial
        · refine ⟨fun c31_ => ?_, fun c31_ => ?_⟩
          · refine ⟨?_, ?_⟩
            · exact dd_X2_u1
            refine ⟨_, frX2_set y45_ (sfX2_set y45_ ), ?_⟩
            intro S82_32 q54_ y55_ y56_
            have f := f.tr (q54_.2.mo (by decide) (by decide))
            exact trivial
          · refine ⟨fun c33_ => ?_, fun c33_ => ?_⟩
            · refine ⟨?_, ?_⟩
              · exact dd_X2_u2 (by rw [f.kI (a := 9) (j := 1) hk9 (by decide) (by decide)]; exact h9)
              refine ⟨_, frX2_set y45_ (sfX2_set y45_ ), ?_⟩
              intro S75_34 q57_ y58_ y59_
              have f := f.tr (q57_.2.mo (by decide) (by decide))
              exact trivial
            · refine ⟨fun c35_ => ?_, fun c35_ => ?_⟩
              · refine ⟨?_, ?_⟩
                · exact dd_X2_u1
                refine ⟨_, frX2_set y45_ (sfX2_set y45_ ), ?_⟩
                intro S68_36 q60_ y61_ y62_
                have f := f.tr (q60_.2.mo (by decide) (by decide))
                exact trivial
              · refine ⟨fun c37_ => ?_, fun c37_ => ?_⟩
                · refine ⟨?_, ?_⟩
                  · exact dd_X2_s4 (by rw [f.kI (a := 9) (j := 1) hk9 (by decide) (by decide)]; exact h9)
                  refine ⟨_, frX2_set y45_ (sfX2_set y45_ ), ?_⟩
                  intro S61_38 q63_ y64_ y65_
                  have f := f.tr (q63_.2.mo (by decide) (by decide))
                  exact trivial
                · refine ⟨?_, ?_⟩
                  · exact dd_X6_isJump
                  refine ⟨fun c39_ => ?_, fun c39_ => ?_⟩
                  · refine ⟨?_, ?_⟩
                    · exact dd_X6_isSwitch
                    refine ⟨fun c40_ => ?_, fun c40_ => ?_⟩
                    · refine ⟨?_, ?_⟩
                      · exact dd_X6_lengthOf
                      refine ⟨fun c41_ => ?_, fun c41_ => ?_⟩
                      · refine ⟨fun c42_ => ?_, fun c42_ => ?_⟩
                        · unfold w_X2_decode_J247
                          intro y66_
                          refine ⟨_, frX2_decodeLocal y66_ (sfX2_decodeLocal y66_  (by rw [f.kI (a := 9) (j := 1) hk9 (by decide) (by decide)]; exact h9) (f.1.T hk9 (by decide))), ?_⟩
                          intro S30_43 q67_ y68_ y69_
                          have f := f.tr (q67_.2.mo (by decide) (by decide))
                          exact trivial
                        · refine ⟨?_, ?_⟩
                          · exact dd_X2_u2 (by rw [f.kI (a := 9) (j := 1) hk9 (by decide) (by decide)]; exact h9)
                          refine ⟨_, frX2_set y45_ (sfX2_set y45_ ), ?_⟩
                          intro S39_44 q70_ y71_ y72_
                          have f := f.tr (q70_.2.mo (by decide) (by decide))
                          exact trivial
                      · unfold w_X2_decode_J247
                        intro y73_
                        refine ⟨_, frX2_decodeLocal y73_ (sfX2_decodeLocal y73_  (by rw [f.kI (a := 9) (j := 1) hk9 (by decide) (by decide)]; exact h9) (f.1.T hk9 (by decide))), ?_⟩
                        intro S30_45 q74_ y75_ y76_
                        have f := f.tr (q74_.2.mo (by decide) (by decide))
                        exact trivial
                    · refine ⟨?_, ?_⟩
                      · exact dd_X2_numbersOf
                      refine ⟨_, frX2_set y45_ (sfX2_set y45_ ), ?_⟩
                      intro S45_46 q77_ y78_ y79_
                      have f := f.tr (q77_.2.mo (by decide) (by decide))
                      exact trivial
                  · refine ⟨?_, ?_⟩
                    · exact dd_X2_u2 (by rw [f.kI (a := 9) (j := 1) hk9 (by decide) (by decide)]; exact h9)
                    refine ⟨_, frX2_set y45_ (sfX2_set y45_ ), ?_⟩
                    intro S53_47 q80_ y81_ y82_
                    have f := f.tr (q80_.2.mo (by decide) (by decide))
                    exact trivial
    · refine ⟨_, frX2_set y6_ (sfX2_set y6_ ), ?_⟩
      intro S88_48 q83_ y84_ y85_
      have f := f.tr (q83_.2.mo (by decide) (by decide))
      exact trivial
set_option maxRecDepth 100000 in
theorem sf_X2_targetsHold_L14 {S0 : MS} (h9 : 0 ≤ (qI S0 9 1).toInt) (hk9 : qT S0 9 = 46) : ∀ (n : Nat) {U14 : MS} {v14_1 : Int32} {v14_2 : Int32} {v14_3 : Int32}, cfr [] [] S0 U14 → 2147483648 - v14_3.toInt < n → w_X2_targetsHold_L14 (fun _ _ => True) n U14 v14_1 v14_2 v14_3 := by
  intro n
  induction n with
  | zero => intro U14 v14_1 v14_2 v14_3 f  hm_; exfalso; have := rgI v14_1; have := rgI v14_2; have := rgI v14_3; omega
  | succ n ih14 =>
    intro U14 v14_1 v14_2 v14_3 f  hm_
    unfold w_X2_targetsHold_L14
    intro y1_
    refine ⟨fun c0_ => ?_, fun c0_ => ?_⟩
    · exact trivial
    · refine ⟨?_, ?_⟩
      · exact dd_X2_switchTarget (by rw [f.kI (a := 9) (j := 1) hk9 (by decide) (by decide)]; exact h9)
      intro a10_1 ea10_1 
      refine ⟨?_, ?_⟩
      · exact dd_X2_isInstruction
      intro a14_2 ea14_2 
      have ga14_2 := congrArg Int32.toInt ea14_2
      refine ⟨fun c3_ => ?_, fun c3_ => ?_⟩
      · exact trivial
      · intro a16_4 ea16_4 
        have ga16_4 := congrArg Int32.toInt ea16_4
        refine ih14 f  ?_
        · have n1_ := rgI a16_4
          have n2_ := rgI v14_3
          have n3_ := rgI v14_2
          have n4_ := rgI a14_2
          have n5_ := rgI (fX2_isInstruction U14 a10_1)
          have n7_ := lo_1k
          have n7_ := t_addD (a := v14_3) (b := Int32.ofInt 1)
          have n8_ := rgI (v14_3 + Int32.ofInt 1)
          omega
set_option maxRecDepth 100000 in
theorem sfX2_targetsHold {S : MS} (hw : wfC S) (h9 : 0 ≤ (qI S 9 1).toInt) (hk9 : qT S 9 = 46) : wX2_targetsHold S (fun _ _ => True) := by
  have f : cfr [] [] S S := cfr.rf
  unfold wX2_targetsHold
  intro a1_5 ea1_5 
  have ga1_5 := congrArg Int32.toInt ea1_5
  refine ⟨?_, ?_⟩
  · exact dd_X2_switchCount (by rw [f.kI (a := 9) (j := 1) hk9 (by decide) (by decide)]; exact h9)
  intro a5_6 ea5_6 
  have ga5_6 := congrArg Int32.toInt ea5_6
  refine ⟨(2147483648 - (-1 : Int32).toInt).toNat + 1, ?_⟩
  refine sf_X2_targetsHold_L14 h9 hk9 _ f  ?_
  · have n1_ := li_m1k
    have n2_ := rgI a1_5
    have n3_ := rgI ((qJ S 8 10).toInt32)
    have n4_ := rgI a5_6
    have n5_ := rgI (fX2_switchCount S a1_5)
    omega
set_option maxRecDepth 100000 in
theorem sf_X2_errorOf_L8 {S0 : MS} (h9 : 0 ≤ (qI S0 9 1).toInt) (hk9 : qT S0 9 = 46) : ∀ (n : Nat) {U8 : MS} {v8_1 : Int32} {v8_2 : Int32}, cfr [] [] S0 U8 → 2147483648 - v8_2.toInt < n → w_X2_errorOf_L8 (fun _ _ => True) n U8 v8_1 v8_2 := by
  intro n
  induction n with
  | zero => intro U8 v8_1 v8_2 f  hm_; exfalso; have := rgI v8_1; have := rgI v8_2; omega
  | succ n ih8 =>
    intro U8 v8_1 v8_2 f  hm_
    unfold w_X2_errorOf_L8
    intro y1_
    refine ⟨fun c0_ => ?_, fun c0_ => ?_⟩
    · exact trivial
    · refine ⟨?_, ?_⟩
      · exact dd_X7_tagOf
      intro a6_1 ea6_1 
      have ga6_1 := congrArg Int32.toInt ea6_1
      refine ⟨fun c2_ => ?_, fun c2_ => ?_⟩
      · refine ⟨?_, ?_⟩
        · exact dd_X7_firstOf (by rw [f.kI (a := 9) (j := 1) hk9 (by decide) (by decide)]; exact h9)
        intro a12_3 ea12_3 
        have ga12_3 := congrArg Int32.toInt ea12_3
        refine ⟨?_, ?_⟩
        · exact dd_X6_errorName
        intro y2_
        refine ⟨_, frX7_isText y1_ (sfX7_isText y1_  (by rw [f.kI (a := 9) (j := 1) hk9 (by decide) (by decide)]; exact h9) (f.1.T hk9 (by decide)) y2_), ?_⟩
        intro r17_4 S18_4 q3_ y4_ y5_
        have f := f.tr (q3_.2.mo (by decide) (by decide))
        refine ⟨fun c5_ => ?_, fun c5_ => ?_⟩
        · unfold w_X2_errorOf_J50
          intro y6_
          intro a7_6 ea7_6 
          have ga7_6 := congrArg Int32.toInt ea7_6
          refine ih8 f  ?_
          · have n1_ := rgI a7_6
            have n2_ := rgI v8_2
            have n3_ := rgI a6_1
            have n4_ := rgI (fX7_tagOf U8 v8_1)
            have n5_ := rgI a12_3
            have n6_ := rgI (fX7_firstOf U8 v8_1)
            have n7_ := rgI r17_4
            have n9_ := lo_1k
            have n9_ := t_addD (a := v8_2) (b := Int32.ofInt 1)
            have n10_ := rgI (v8_2 + Int32.ofInt 1)
            omega
        · exact trivial
      · unfold w_X2_errorOf_J50
        intro y7_
        intro a7_7 ea7_7 
        have ga7_7 := congrArg Int32.toInt ea7_7
        refine ih8 f  ?_
        · have n1_ := rgI a7_7
          have n2_ := rgI v8_2
          have n3_ := rgI a6_1
          have n4_ := rgI (fX7_tagOf U8 v8_1)
          have n6_ := lo_1k
          have n6_ := t_addD (a := v8_2) (b := Int32.ofInt 1)
          have n7_ := rgI (v8_2 + Int32.ofInt 1)
          omega
set_option maxRecDepth 100000 in
theorem sfX2_errorOf {S : MS} {x1 : Int32} (hw : wfC S) (h9 : 0 ≤ (qI S 9 1).toInt) (hk9 : qT S 9 = 46) : wX2_errorOf S x1 (fun _ _ => True) := by
  have f : cfr [] [] S S := cfr.rf
  unfold wX2_errorOf
  refine ⟨fun c8_ => ?_, fun c8_ => ?_⟩
  · exact trivial
  · refine ⟨(2147483648 - (0 : Int32).toInt).toNat + 1, ?_⟩
    refine sf_X2_errorOf_L8 h9 hk9 _ f  ?_
    · have n1_ := li_0k
      have n2_ := rgI x1
      omega
set_option maxRecDepth 100000 in
theorem sf_X2_memberOf_L123 {S0 : MS} (h9 : 0 ≤ (qI S0 9 1).toInt) (hk9 : qT S0 9 = 46) : ∀ (n : Nat) {U123 : MS} {v123_4 : Int32} {v123_5 : Int32} {v123_6 : Int32} {v123_7 : Int32}, cfr [] [] S0 U123 → 2147483648 - v123_7.toInt < n → w_X2_memberOf_L123 (fun _ _ => True) n U123 v123_4 v123_5 v123_6 v123_7 := by
  intro n
  induction n with
  | zero => intro U123 v123_4 v123_5 v123_6 v123_7 f  hm_; exfalso; have := rgI v123_4; have := rgI v123_5; have := rgI v123_6; have := rgI v123_7; omega
  | succ n ih123 =>
    intro U123 v123_4 v123_5 v123_6 v123_7 f  hm_
    unfold w_X2_memberOf_L123
    intro y1_
    refine ⟨fun c0_ => ?_, fun c0_ => ?_⟩
    · exact trivial
    · refine ⟨?_, ?_⟩
      · exact dd_X7_nameOf (by rw [f.kI (a := 9) (j := 1) hk9 (by decide) (by decide)]; exact h9)
      intro a37_1 ea37_1 
      have ga37_1 := congrArg Int32.toInt ea37_1
      refine ⟨?_, ?_⟩
      · exact dd_X7_firstOf (by rw [f.kI (a := 9) (j := 1) hk9 (by decide) (by decide)]; exact h9)
      intro a41_2 ea41_2 
      have ga41_2 := congrArg Int32.toInt ea41_2
      refine ⟨_, frX7_isSameName y1_ (sfX7_isSameName y1_  (by rw [f.kI (a := 9) (j := 1) hk9 (by decide) (by decide)]; exact h9) (f.1.T hk9 (by decide))), ?_⟩
      intro r43_3 S44_3 q2_ y3_ y4_
      have f := f.tr (q2_.2.mo (by decide) (by decide))
      refine ⟨fun c4_ => ?_, fun c4_ => ?_⟩
      · unfold w_X2_memberOf_J195
        intro y5_
        intro a46_5 ea46_5 
        have ga46_5 := congrArg Int32.toInt ea46_5
        refine ih123 f  ?_
        · have n1_ := rgI a46_5
          have n2_ := rgI v123_7
          have n3_ := rgI v123_6
          have n4_ := rgI a37_1
          have n5_ := rgI (fX7_nameOf U123 (v123_5 + v123_7))
          have n6_ := rgI a41_2
          have n7_ := rgI (fX7_firstOf U123 v123_4)
          have n8_ := rgI r43_3
          have n10_ := lo_1k
          have n10_ := t_addD (a := v123_7) (b := Int32.ofInt 1)
          have n11_ := rgI (v123_7 + Int32.ofInt 1)
          omega
      · refine ⟨?_, ?_⟩
        · exact dd_X7_typeOf (by rw [f.kI (a := 9) (j := 1) hk9 (by decide) (by decide)]; exact h9)
        intro a52_6 ea52_6 
        have ga52_6 := congrArg Int32.toInt ea52_6
        refine ⟨?_, ?_⟩
        · exact dd_X7_secondOf (by rw [f.kI (a := 9) (j := 1) hk9 (by decide) (by decide)]; exact h9)
        intro a56_7 ea56_7 
        have ga56_7 := congrArg Int32.toInt ea56_7
        refine ⟨_, frX7_isSameName y3_ (sfX7_isSameName y3_  (by rw [f.kI (a := 9) (j := 1) hk9 (by decide) (by decide)]; exact h9) (f.1.T hk9 (by decide))), ?_⟩
        intro r58_8 S59_8 q6_ y7_ y8_
        have f := f.tr (q6_.2.mo (by decide) (by decide))
        refine ⟨fun c9_ => ?_, fun c9_ => ?_⟩
        · unfold w_X2_memberOf_J195
          intro y9_
          intro a46_10 ea46_10 
          have ga46_10 := congrArg Int32.toInt ea46_10
          refine ih123 f  ?_
          · have n1_ := rgI a46_10
            have n2_ := rgI v123_7
            have n3_ := rgI v123_6
            have n4_ := rgI a37_1
            have n5_ := rgI (fX7_nameOf U123 (v123_5 + v123_7))
            have n6_ := rgI a41_2
            have n7_ := rgI (fX7_firstOf U123 v123_4)
            have n8_ := rgI r43_3
            have n9_ := rgI a52_6
            have n10_ := rgI (fX7_typeOf S44_3 (v123_5 + v123_7))
            have n11_ := rgI a56_7
            have n12_ := rgI (fX7_secondOf S44_3 v123_4)
            have n13_ := rgI r58_8
            have n15_ := lo_1k
            have n15_ := t_addD (a := v123_7) (b := Int32.ofInt 1)
            have n16_ := rgI (v123_7 + Int32.ofInt 1)
            omega
        · exact trivial
set_option maxRecDepth 100000 in
theorem sfX2_memberOf {S : MS} {x1 : Int32} {x2 : Int32} (hw : wfC S) (h9 : 0 ≤ (qI S 9 1).toInt) (hk9 : qT S 9 = 46) : wX2_memberOf S x1 x2 (fun _ _ => True) := by
  have f : cfr [] [] S S := cfr.rf
  unfold wX2_memberOf
  refine ⟨?_, ?_⟩
  · exact dd_X7_tagOf
  intro a4_11 ea4_11 
  have ga4_11 := congrArg Int32.toInt ea4_11
  refine ⟨fun c12_ => ?_, fun c12_ => ?_⟩
  · refine ⟨?_, ?_⟩
    · exact dd_X7_u2 (by rw [f.kI (a := 9) (j := 1) hk9 (by decide) (by decide)]; exact h9)
    intro a10_13 ea10_13 
    have ga10_13 := congrArg Int32.toInt ea10_13
    refine ⟨?_, ?_⟩
    · exact dd_X7_firstOf (by rw [f.kI (a := 9) (j := 1) hk9 (by decide) (by decide)]; exact h9)
    intro a14_14 ea14_14 
    have ga14_14 := congrArg Int32.toInt ea14_14
    refine ⟨?_, ?_⟩
    · exact dd_X7_firstOf (by rw [f.kI (a := 9) (j := 1) hk9 (by decide) (by decide)]; exact h9)
    intro a18_15 ea18_15 
    have ga18_15 := congrArg Int32.toInt ea18_15
    refine ⟨?_, ?_⟩
    · exact dd_X7_firstOf (by rw [f.kI (a := 9) (j := 1) hk9 (by decide) (by decide)]; exact h9)
    intro a22_16 ea22_16 
    have ga22_16 := congrArg Int32.toInt ea22_16
    refine ⟨_, frX7_isSameName hw (sfX7_isSameName hw  (by rw [f.kI (a := 9) (j := 1) hk9 (by decide) (by decide)]; exact h9) (f.1.T hk9 (by decide))), ?_⟩
    intro r24_17 S25_17 q10_ y11_ y12_
    have f := f.tr (q10_.2.mo (by decide) (by decide))
    refine ⟨fun c18_ => ?_, fun c18_ => ?_⟩
    · exact trivial
    · refine ⟨?_, ?_⟩
      · exact dd_X7_secondOf (by rw [f.kI (a := 9) (j := 1) hk9 (by decide) (by decide)]; exact h9)
      intro a31_19 ea31_19 
      have ga31_19 := congrArg Int32.toInt ea31_19
      refine ⟨fun c20_ => ?_, fun c20_ => ?_⟩
      · unfold w_X2_memberOf_J93
        intro y13_
        refine ⟨fun c21_ => ?_, fun c21_ => ?_⟩
        · unfold w_X2_memberOf_J118
          intro y14_
          refine ⟨(2147483648 - (0 : Int32).toInt).toNat + 1, ?_⟩
          refine sf_X2_memberOf_L123 h9 hk9 _ f  ?_
          · have n1_ := li_0k
            have n2_ := rgI a4_11
            have n3_ := rgI (fX7_tagOf S x1)
            have n4_ := rgI x2
            have n5_ := rgI a10_13
            have n6_ := rgI (fX7_u2 S ((qI S 9 6) + (2 : Int32)))
            have n7_ := rgI a14_14
            have n8_ := rgI (fX7_firstOf S x1)
            have n9_ := rgI a18_15
            have n10_ := rgI (fX7_firstOf S a14_14)
            have n11_ := rgI a22_16
            have n12_ := rgI (fX7_firstOf S a10_13)
            have n13_ := rgI r24_17
            have n14_ := rgI a31_19
            have n15_ := rgI (fX7_secondOf S25_17 x1)
            omega
        · unfold w_X2_memberOf_J118
          intro y15_
          refine ⟨(2147483648 - (0 : Int32).toInt).toNat + 1, ?_⟩
          refine sf_X2_memberOf_L123 h9 hk9 _ f  ?_
          · have n1_ := li_0k
            have n2_ := rgI a4_11
            have n3_ := rgI (fX7_tagOf S x1)
            have n4_ := rgI x2
            have n5_ := rgI a10_13
            have n6_ := rgI (fX7_u2 S ((qI S 9 6) + (2 : Int32)))
            have n7_ := rgI a14_14
            have n8_ := rgI (fX7_firstOf S x1)
            have n9_ := rgI a18_15
            have n10_ := rgI (fX7_firstOf S a14_14)
            have n11_ := rgI a22_16
            have n12_ := rgI (fX7_firstOf S a10_13)
            have n13_ := rgI r24_17
            have n14_ := rgI a31_19
            have n15_ := rgI (fX7_secondOf S25_17 x1)
            omega
      · unfold w_X2_memberOf_J93
        intro y16_
        refine ⟨fun c22_ => ?_, fun c22_ => ?_⟩
        · unfold w_X2_memberOf_J118
          intro y17_
          refine ⟨(2147483648 - (0 : Int32).toInt).toNat + 1, ?_⟩
          refine sf_X2_memberOf_L123 h9 hk9 _ f  ?_
          · have n1_ := li_0k
            have n2_ := rgI a4_11
            have n3_ := rgI (fX7_tagOf S x1)
            have n4_ := rgI x2
            have n5_ := rgI a10_13
            have n6_ := rgI (fX7_u2 S ((qI S 9 6) + (2 : Int32)))
            have n7_ := rgI a14_14
            have n8_ := rgI (fX7_firstOf S x1)
            have n9_ := rgI a18_15
            have n10_ := rgI (fX7_firstOf S a14_14)
            have n11_ := rgI a22_16
            have n12_ := rgI (fX7_firstOf S a10_13)
            have n13_ := rgI r24_17
            have n14_ := rgI a31_19
            have n15_ := rgI (fX7_secondOf S25_17 x1)
            omega
        · unfold w_X2_memberOf_J118
          intro y18_
          refine ⟨(2147483648 - (0 : Int32).toInt).toNat + 1, ?_⟩
          refine sf_X2_memberOf_L123 h9 hk9 _ f  ?_
          · have n1_ := li_0k
            have n2_ := rgI a4_11
            have n3_ := rgI (fX7_tagOf S x1)
            have n4_ := rgI x2
            have n5_ := rgI a10_13
            have n6_ := rgI (fX7_u2 S ((qI S 9 6) + (2 : Int32)))
            have n7_ := rgI a14_14
            have n8_ := rgI (fX7_firstOf S x1)
            have n9_ := rgI a18_15
            have n10_ := rgI (fX7_firstOf S a14_14)
            have n11_ := rgI a22_16
            have n12_ := rgI (fX7_firstOf S a10_13)
            have n13_ := rgI r24_17
            have n14_ := rgI a31_19
            have n15_ := rgI (fX7_secondOf S25_17 x1)
            omega
  · exact trivial
set_option maxRecDepth 100000 in
theorem sfX2_pointsWell {S : MS} (hw : wfC S) (h9 : 0 ≤ (qI S 9 1).toInt) (hk9 : qT S 9 = 46) : wX2_pointsWell S (fun _ _ => True) := by
  have f : cfr [] [] S S := cfr.rf
  unfold wX2_pointsWell
  refine ⟨?_, ?_⟩
  · exact dd_X6_isJump
  refine ⟨fun c0_ => ?_, fun c0_ => ?_⟩
  · refine ⟨?_, ?_⟩
    · exact dd_X6_isSwitch
    refine ⟨fun c1_ => ?_, fun c1_ => ?_⟩
    · refine ⟨?_, ?_⟩
      · exact dd_X6_usesLocal
      refine ⟨fun c2_ => ?_, fun c2_ => ?_⟩
      · refine ⟨fun c3_ => ?_, fun c3_ => ?_⟩
        · refine ⟨?_, ?_⟩
          · exact dd_X7_tagOf
          refine ⟨fun c4_ => ?_, fun c4_ => ?_⟩
          · exact trivial
          · exact trivial
        · refine ⟨fun c5_ => ?_, fun c5_ => ?_⟩
          · refine ⟨?_, ?_⟩
            · exact dd_X7_tagOf
            refine ⟨fun c6_ => ?_, fun c6_ => ?_⟩
            · exact trivial
            · exact trivial
          · refine ⟨fun c7_ => ?_, fun c7_ => ?_⟩
            · unfold w_X2_pointsWell_J172
              intro y1_
              refine ⟨_, frX2_memberOf y1_ (sfX2_memberOf y1_  (by rw [f.kI (a := 9) (j := 1) hk9 (by decide) (by decide)]; exact h9) (f.1.T hk9 (by decide))), ?_⟩
              intro r14_8 S15_8 q2_ y3_ y4_
              have f := f.tr (q2_.2.mo (by decide) (by decide))
              refine ⟨fun c9_ => ?_, fun c9_ => ?_⟩
              · exact trivial
              · exact trivial
            · refine ⟨fun c10_ => ?_, fun c10_ => ?_⟩
              · unfold w_X2_pointsWell_J172
                intro y5_
                refine ⟨_, frX2_memberOf y5_ (sfX2_memberOf y5_  (by rw [f.kI (a := 9) (j := 1) hk9 (by decide) (by decide)]; exact h9) (f.1.T hk9 (by decide))), ?_⟩
                intro r14_11 S15_11 q6_ y7_ y8_
                have f := f.tr (q6_.2.mo (by decide) (by decide))
                refine ⟨fun c12_ => ?_, fun c12_ => ?_⟩
                · exact trivial
                · exact trivial
              · refine ⟨fun c13_ => ?_, fun c13_ => ?_⟩
                · refine ⟨_, frX2_memberOf hw (sfX2_memberOf hw  (by rw [f.kI (a := 9) (j := 1) hk9 (by decide) (by decide)]; exact h9) (f.1.T hk9 (by decide))), ?_⟩
                  intro r27_14 S28_14 q9_ y10_ y11_
                  have f := f.tr (q9_.2.mo (by decide) (by decide))
                  refine ⟨fun c15_ => ?_, fun c15_ => ?_⟩
                  · exact trivial
                  · exact trivial
                · exact trivial
      · refine ⟨?_, ?_⟩
        · exact dd_X6_localWidth
        refine ⟨fun c16_ => ?_, fun c16_ => ?_⟩
        · exact trivial
        · exact trivial
    · refine ⟨_, frX2_targetsHold hw (sfX2_targetsHold hw  (by rw [f.kI (a := 9) (j := 1) hk9 (by decide) (by decide)]; exact h9) (f.1.T hk9 (by decide))), ?_⟩
      intro r38_17 S39_17 q12_ y13_ y14_
      have f := f.tr (q12_.2.mo (by decide) (by decide))
      exact trivial
  · refine ⟨?_, ?_⟩
    · exact dd_X2_isInstruction
    exact trivial
set_option maxRecDepth 100000 in
theorem sfX2_catchHolds {S : MS} {x1 : Int32} (hw : wfC S) (h9 : 0 ≤ (qI S 9 1).toInt) (hk9 : qT S 9 = 46) : wX2_catchHolds S x1 (fun _ _ => True) := by
  have f : cfr [] [] S S := cfr.rf
  unfold wX2_catchHolds
  refine ⟨?_, ?_⟩
  · exact dd_X7_u2 (by rw [f.kI (a := 9) (j := 1) hk9 (by decide) (by decide)]; exact h9)
  intro a4_0 ea4_0 
  have ga4_0 := congrArg Int32.toInt ea4_0
  refine ⟨?_, ?_⟩
  · exact dd_X7_u2 (by rw [f.kI (a := 9) (j := 1) hk9 (by decide) (by decide)]; exact h9)
  intro a9_1 ea9_1 
  have ga9_1 := congrArg Int32.toInt ea9_1
  refine ⟨?_, ?_⟩
  · exact dd_X2_isInstruction
  intro a13_2 ea13_2 
  have ga13_2 := congrArg Int32.toInt ea13_2
  refine ⟨fun c3_ => ?_, fun c3_ => ?_⟩
  · unfold w_X2_catchHolds_J84
    intro y1_
    exact trivial
  · refine ⟨?_, ?_⟩
    · exact dd_X2_numberOf
    intro a18_4 ea18_4 
    have ga18_4 := congrArg Int32.toInt ea18_4
    refine ⟨fun c5_ => ?_, fun c5_ => ?_⟩
    · unfold w_X2_catchHolds_J84
      intro y2_
      exact trivial
    · refine ⟨fun c6_ => ?_, fun c6_ => ?_⟩
      · unfold w_X2_catchHolds_J84
        intro y3_
        exact trivial
      · refine ⟨?_, ?_⟩
        · exact dd_X7_u2 (by rw [f.kI (a := 9) (j := 1) hk9 (by decide) (by decide)]; exact h9)
        intro a25_7 ea25_7 
        have ga25_7 := congrArg Int32.toInt ea25_7
        refine ⟨?_, ?_⟩
        · exact dd_X2_isInstruction
        intro a29_8 ea29_8 
        have ga29_8 := congrArg Int32.toInt ea29_8
        refine ⟨fun c9_ => ?_, fun c9_ => ?_⟩
        · unfold w_X2_catchHolds_J84
          intro y4_
          exact trivial
        · refine ⟨?_, ?_⟩
          · exact dd_X7_u2 (by rw [f.kI (a := 9) (j := 1) hk9 (by decide) (by decide)]; exact h9)
          intro a35_10 ea35_10 
          have ga35_10 := congrArg Int32.toInt ea35_10
          refine ⟨_, frX2_errorOf hw (sfX2_errorOf hw  (by rw [f.kI (a := 9) (j := 1) hk9 (by decide) (by decide)]; exact h9) (f.1.T hk9 (by decide))), ?_⟩
          intro r37_11 S38_11 q5_ y6_ y7_
          have f := f.tr (q5_.2.mo (by decide) (by decide))
          refine ⟨fun c12_ => ?_, fun c12_ => ?_⟩
          · unfold w_X2_catchHolds_J84
            intro y8_
            exact trivial
          · exact trivial
set_option maxRecDepth 100000 in
theorem sf_X2_catchesHold_L90 {S0 : MS} (h9 : 0 ≤ (qI S0 9 1).toInt) (hk9 : qT S0 9 = 46) : ∀ (n : Nat) {U90 : MS} {v90_2 : Int32} {v90_4 : Int32} {v90_5 : Int32} {v90_6 : Int32}, cfr [] [(46, 2), (46, 3)] S0 U90 → 2147483648 - v90_6.toInt < n → w_X2_catchesHold_L90 (fun _ _ => True) n U90 v90_2 v90_4 v90_5 v90_6 := by
  intro n
  induction n with
  | zero => intro U90 v90_2 v90_4 v90_5 v90_6 f  hm_; exfalso; have := rgI v90_2; have := rgI v90_4; have := rgI v90_5; have := rgI v90_6; omega
  | succ n ih90 =>
    intro U90 v90_2 v90_4 v90_5 v90_6 f  hm_
    unfold w_X2_catchesHold_L90
    intro y1_
    refine ⟨fun c0_ => ?_, fun c0_ => ?_⟩
    · refine ⟨fun c1_ => ?_, fun c1_ => ?_⟩
      · unfold w_X2_catchesHold_J185
        intro y2_
        exact trivial
      · refine ⟨_, frX7_breaks y1_ (sfX7_breaks y1_ ), ?_⟩
        intro r22_2 S23_2 q3_ y4_ y5_
        have f := f.tr (q3_.2.mo (by decide) (by decide))
        refine ⟨fun c3_ => ?_, fun c3_ => ?_⟩
        · exact trivial
        · unfold w_X2_catchesHold_J185
          intro y6_
          exact trivial
    · refine ⟨fun c4_ => ?_, fun c4_ => ?_⟩
      · unfold w_X2_catchesHold_J129
        intro y7_
        refine ⟨_, frX7_breaks y7_ (sfX7_breaks y7_ ), ?_⟩
        intro r28_5 S29_5 q8_ y9_ y10_
        have f := f.tr (q8_.2.mo (by decide) (by decide))
        exact trivial
      · refine ⟨?_, ?_⟩
        · exact dd_X7_u4 (by rw [f.kI (a := 9) (j := 1) hk9 (by decide) (by decide)]; exact h9)
        refine ⟨fun c6_ => ?_, fun c6_ => ?_⟩
        · refine ⟨?_, ?_⟩
          · exact dd_X7_s4 (by rw [f.kI (a := 9) (j := 1) hk9 (by decide) (by decide)]; exact h9)
          intro a46_7 ea46_7 
          have ga46_7 := congrArg Int32.toInt ea46_7
          intro a47_8 ea47_8 
          have ga47_8 := congrArg Int32.toInt ea47_8
          refine ih90 f  ?_
          · have n1_ := rgI a47_8
            have n2_ := rgI v90_6
            have n3_ := rgI v90_5
            have n4_ := rgI v90_2
            have n6_ := rgI v90_4
            have n7_ := li_6k
            have n7_ := t_addD (a := v90_4) (b := (6 : Int32))
            have n8_ := rgI (v90_4 + (6 : Int32))
            have n9_ := rgI (lg_cmp (fX7_u4 U90 (v90_4 + (2 : Int32))) (((v90_2 - v90_4) - (6 : Int32)).toInt64))
            have n10_ := rgI a46_7
            have n13_ := rgI (fX7_s4 U90 (v90_4 + (2 : Int32)))
            have n13_ := t_addD (a := (6 : Int32)) (b := (fX7_s4 U90 (v90_4 + (2 : Int32))))
            have n14_ := rgI ((6 : Int32) + (fX7_s4 U90 (v90_4 + (2 : Int32))))
            have n14_ := t_addD (a := v90_4) (b := ((6 : Int32) + (fX7_s4 U90 (v90_4 + (2 : Int32)))))
            have n15_ := rgI (v90_4 + ((6 : Int32) + (fX7_s4 U90 (v90_4 + (2 : Int32)))))
            have n17_ := lo_1k
            have n17_ := t_addD (a := v90_6) (b := Int32.ofInt 1)
            have n18_ := rgI (v90_6 + Int32.ofInt 1)
            omega
        · unfold w_X2_catchesHold_J129
          intro y11_
          refine ⟨_, frX7_breaks y11_ (sfX7_breaks y11_ ), ?_⟩
          intro r28_9 S29_9 q12_ y13_ y14_
          have f := f.tr (q12_.2.mo (by decide) (by decide))
          exact trivial
set_option maxRecDepth 100000 in
theorem sfX2_catchesHold {S : MS} {x1 : Int32} {x2 : Int32} (hw : wfC S) (h9 : 0 ≤ (qI S 9 1).toInt) (hk9 : qT S 9 = 46) : wX2_catchesHold S x1 x2 (fun _ _ => True) := by
  have f : cfr [] [(46, 2), (46, 3)] S S := cfr.rf
  unfold wX2_catchesHold
  refine ⟨fun c10_ => ?_, fun c10_ => ?_⟩
  · refine ⟨?_, ?_⟩
    · exact dd_X7_u2 (by rw [f.kI (a := 9) (j := 1) hk9 (by decide) (by decide)]; exact h9)
    intro a6_11 ea6_11 
    have ga6_11 := congrArg Int32.toInt ea6_11
    refine ⟨fun c12_ => ?_, fun c12_ => ?_⟩
    · intro a11_13 ea11_13 
      have ga11_13 := congrArg Int32.toInt ea11_13
      refine ⟨fun c14_ => ?_, fun c14_ => ?_⟩
      · refine ⟨?_, ?_⟩
        · exact dd_X7_u2 (by rw [f.kI (a := 9) (j := 1) hk9 (by decide) (by decide)]; exact h9)
        intro a17_15 ea17_15 
        have ga17_15 := congrArg Int32.toInt ea17_15
        intro a18_16 ea18_16 
        have ga18_16 := congrArg Int32.toInt ea18_16
        refine ⟨(2147483648 - (0 : Int32).toInt).toNat + 1, ?_⟩
        refine sf_X2_catchesHold_L90 h9 hk9 _ f  ?_
        · have n1_ := li_0k
          have n3_ := rgI x1
          have n4_ := li_2k
          have n4_ := t_addD (a := x1) (b := (2 : Int32))
          have n5_ := rgI (x1 + (2 : Int32))
          have n6_ := rgI x2
          have n7_ := rgI a6_11
          have n8_ := rgI (fX7_u2 S x1)
          have n9_ := rgI a11_13
          have n11_ := rgI ((8 : Int32) * a6_11)
          have n11_ := t_addD (a := (x1 + (2 : Int32))) (b := ((8 : Int32) * a6_11))
          have n12_ := rgI ((x1 + (2 : Int32)) + ((8 : Int32) * a6_11))
          have n13_ := t_addD (a := a11_13) (b := (2 : Int32))
          have n14_ := rgI (a11_13 + (2 : Int32))
          have n15_ := rgI a17_15
          have n16_ := rgI (fX7_u2 S a11_13)
          have n17_ := rgI a18_16
          have n19_ := lo_2k
          have n19_ := t_addD (a := a11_13) (b := Int32.ofInt 2)
          have n20_ := rgI (a11_13 + Int32.ofInt 2)
          omega
      · refine ⟨_, frX7_breaks hw (sfX7_breaks hw ), ?_⟩
        intro r49_17 S50_17 q15_ y16_ y17_
        have f := f.tr (q15_.2.mo (by decide) (by decide))
        exact trivial
    · refine ⟨_, frX7_breaks hw (sfX7_breaks hw ), ?_⟩
      intro r53_18 S54_18 q18_ y19_ y20_
      have f := f.tr (q18_.2.mo (by decide) (by decide))
      exact trivial
  · refine ⟨_, frX7_breaks hw (sfX7_breaks hw ), ?_⟩
    intro r57_19 S58_19 q21_ y22_ y23_
    have f := f.tr (q21_.2.mo (by decide) (by decide))
    exact trivial
/-! instructionsHold, its outer loop -/
/-! pointersHold, tableRoom: safe -/
theorem cfr.k98 {K : List Nat} {F : List (Nat × Nat)} {S u : MS} (w : wfC S) (f : cfr K F S u) (hK : K.contains 46 = false) (h : F.contains (46, 8) = false) : qI u 9 8 = qI S 9 8 := by
  have k9 : qT S 9 = 46 := (w.2.1 _ finC_2).2.1
  exact (f.2.2 9 8 (by rw [k9]; decide) (by rw [k9]; exact hK) (by rw [k9]; exact h)).1
theorem cfr.k82 {K : List Nat} {F : List (Nat × Nat)} {S u : MS} (w : wfC S) (f : cfr K F S u) (hK : K.contains 42 = false) (h : F.contains (42, 2) = false) : qI u 8 2 = qI S 8 2 := by
  have k8 : qT S 8 = 42 := (w.2.1 _ finC_26).2.1
  exact (f.2.2 8 2 (by rw [k8]; decide) (by rw [k8]; exact hK) (by rw [k8]; exact h)).1
theorem sf_ptC {S0 : MS} {k2 : MS → Int32 → Prop} {v1 : Int32} (h9 : 0 ≤ (qI S0 9 1).toInt) (hk : ∀ U : MS, smX S0 U → qI U 9 8 = qI S0 9 8 → ∀ a : Int32, a = v1 + Int32.ofInt 1 → k2 U a) : ∀ (n : Nat) {U : MS} {v : Int32}, smX S0 U → qI U 9 8 = qI S0 9 8 → 0 ≤ v.toInt → 2147483648 - v.toInt < n → w_X2_pointersHold_L77 (fun _ _ => True) k2 n U v1 v := by
  intro n
  induction n with
  | zero => intro U v h e8 h0 hn; have := rgI v; exfalso; omega
  | succ n ih =>
    intro U v h e8 h0 hn
    unfold w_X2_pointersHold_L77
    intro w
    refine ⟨fun _ a e => hk U h e8 a e, fun c => ⟨_, frX2_catchHolds w (sfX2_catchHolds w (h.h9 h9) (w.2.1 _ finC_2).2.1), ?_⟩⟩
    rintro r14 S15 ⟨_, f15⟩ w15 _
    have m15 : smX S0 S15 := h.tr (cfr.sm w f15 (by decide) (by decide) (by decide) (by decide) (fun _ => rfl))
    refine ⟨fun _ => ⟨_, sfX7_breaks w15, fun _ _ _ _ _ => trivial⟩, fun _ a e => ?_⟩
    have := rgI (qI U 8 6)
    have ea : a.toInt = v.toInt + 1 := by rw [e, t_addk (by rw [show (Int32.ofInt 1).toInt = 1 from rfl]; omega)]; rfl
    exact ih m15 ((f15.k98 w rfl rfl).trans e8) (by omega) (by omega)
theorem sf_ptI {S0 : MS} {k2 : MS → Int32 → Prop} {v1 : Int32} (h9 : 0 ≤ (qI S0 9 1).toInt) (hs : (qI S0 8 2).toInt ≤ 1200) (hk : ∀ U : MS, smX S0 U → qI U 9 8 = qI S0 9 8 → ∀ a : Int32, a = v1 + Int32.ofInt 1 → k2 U a) : ∀ (n : Nat) {U : MS} {v : Int32}, smX S0 U → qI U 9 8 = qI S0 9 8 → qI U 8 2 = qI S0 8 2 → 0 ≤ v.toInt → v.toInt ≤ 4300 → 5000 - v.toInt < n → w_X2_pointersHold_L24 (fun _ _ => True) k2 n U v1 v := by
  intro n
  induction n with
  | zero => intro U v h e8 e2 h0 h1 hn; exfalso; omega
  | succ n ih =>
    intro U v h e8 e2 h0 h1 hn
    unfold w_X2_pointersHold_L24
    intro w
    refine ⟨fun _ => ⟨2147483650, sf_ptC h9 hk 2147483650 h e8 (by decide) (by decide)⟩, fun c => ⟨_, frX2_decode w (sfX2_decode w (h.h9 h9) (w.2.1 _ finC_2).2.1), ?_⟩⟩
    rw [e2] at c
    rintro S26 ⟨_, f26⟩ w26 _
    have m26 : smX S0 S26 := h.tr (cfr.sm w f26 (by decide) (by decide) (by decide) (by decide) (fun _ => rfl))
    refine ⟨_, frX2_pointsWell w26 (sfX2_pointsWell w26 (m26.h9 h9) (w26.2.1 _ finC_2).2.1), ?_⟩
    rintro r29 S30 ⟨_, f30⟩ w30 _
    have m30 : smX S0 S30 := m26.tr (cfr.sm w26 f30 (by decide) (by decide) (by decide) (by decide) (fun _ => rfl))
    refine ⟨fun _ => ⟨_, sfX7_breaks w30, fun _ _ _ _ _ => trivial⟩, fun _ => ?_⟩
    obtain ⟨r, hr⟩ := ex_lengthAt (S := S30) (o := v) (m30.h9 h9) ⟨h0, by omega⟩
    refine ⟨_, sp_lengthAt hr, ?_⟩
    rintro r' u ⟨rfl, rfl⟩ wu _ a e
    have hm1 := mx1 hr.1
    have ea : a.toInt = v.toInt + (if (1 : Int32) < r' then r' else (1 : Int32)).toInt := by rw [e, t_addk (by omega)]
    exact ih m30 ((f30.k98 w26 rfl rfl).trans ((f26.k98 w rfl rfl).trans e8)) ((f30.k82 w26 rfl rfl).trans ((f26.k82 w rfl rfl).trans e2)) (by omega) (by omega) (by omega)
theorem sf_ptO {S : MS} (h9 : 0 ≤ (qI S 9 1).toInt) (hm : (qI S 9 8).toInt ≤ 60000) : ∀ (n : Nat) {U : MS} {v : Int32}, smX S U → qI U 9 8 = qI S 9 8 → 0 ≤ v.toInt → v.toInt ≤ 60000 → 60001 - v.toInt < n → w_X2_pointersHold_L2 (fun _ _ => True) n U v := by
  intro n
  induction n with
  | zero => intro U v h e8 h0 h1 hn; exfalso; omega
  | succ n ih =>
    intro U v h e8 h0 h1 hn
    unfold w_X2_pointersHold_L2
    intro wU
    refine ⟨fun _ => trivial, fun c => ?_⟩
    refine ⟨_, frX2_lookAt wU (sp_lookAt (Q := fun u => LoQ U (stV U v) u) (h.h9 h9) (fun u q => q)), ?_⟩
    rintro u ⟨q, f⟩ wu _
    have mu : smX S u := h.tr q.1
    have s2 : (qI u 8 2).toInt ≤ 1200 := by rw [q.2.2.1]; exact szV_rg
    rw [e8] at c
    refine ⟨_, frX2_numberInstructions wu (sp_numberInstructions (Q := fun y => NiQ u y) wu (mu.h9 h9) s2 (fun y q => q)), ?_⟩
    rintro y ⟨qy, fy⟩ wy _
    have my : smX S y := mu.tr qy.1
    have y2 : (qI y 8 2).toInt ≤ 1200 := by rw [qy.2.2 2 (by decide)]; exact s2
    refine ⟨5001, sf_ptI (my.h9 h9) y2 ?_ 5001 smX.rf rfl rfl (by decide) (by decide) (by decide)⟩
    intro z mz ez a e
    have ea : a.toInt = v.toInt + 1 := by rw [e, t_addk (by rw [show (Int32.ofInt 1).toInt = 1 from rfl]; omega)]; rfl
    exact ih (my.tr mz) (ez.trans ((fy.k98 wu rfl rfl).trans ((f.k98 wU rfl rfl).trans e8))) (by omega) (by omega) (by omega)
theorem sfX2_pointersHold {S : MS} (h9 : 0 ≤ (qI S 9 1).toInt) (hm : (qI S 9 8).toInt ≤ 60000) : wX2_pointersHold S (fun _ _ => True) := by
  unfold wX2_pointersHold
  exact ⟨60002, sf_ptO h9 hm 60002 smX.rf rfl (by decide) (by decide) (by decide)⟩
/-! headHolds: what it finds -/
theorem sp_breaks {S : MS} {x1 x2 : Int32} (hw : wfC S) : wX7_breaks S x1 x2 (fun r _ => r = 0) := by
  unfold wX7_breaks
  intros
  repeat' first | rfl | (refine ⟨?_, ?_⟩) | intro _
theorem sp_catchesHold {S : MS} {x1 x2 : Int32} (hw : wfC S) (h9 : 0 ≤ (qI S 9 1).toInt) : wX2_catchesHold S x1 x2 (fun r _ => r = 0 ∨ (fX7_u2 S x1).toInt ≤ 16) := by
  have k9 : qT S 9 = 46 := (hw.2.1 _ finC_2).2.1
  by_cases c : (fX7_u2 S x1).toInt ≤ 16
  · have e : (fun (r : Int32) (_ : MS) => r = 0 ∨ (fX7_u2 S x1).toInt ≤ 16) = (fun _ _ => True) := by
      funext r u
      exact eq_true (Or.inr c)
    rw [e]
    exact sfX2_catchesHold hw h9 k9
  · unfold wX2_catchesHold
    refine ⟨fun _ => ⟨dd_X7_u2 h9, ?_⟩, fun _ => ⟨_, sp_breaks hw, fun _ _ q _ _ => Or.inl q⟩⟩
    rintro a rfl
    exact ⟨fun d => absurd d c, fun _ => ⟨_, sp_breaks hw, fun _ _ q _ _ => Or.inl q⟩⟩
theorem u4_32 {S : MS} {x : Int32} : (fX7_u4 S x).toInt32 = fX7_s4 S x := by
  unfold fX7_u4
  rw [Int64.toInt32_and, Int32.toInt32_toInt64]
  exact Int32.and_neg_one
def HdO (S : MS) (x1 : Int32) : Prop := (fX7_u2 S x1).toInt ≤ 24 ∧ (fX7_u2 S (x1 + (2 : Int32))).toInt ≤ 24 ∧ ¬ (lg_cmp (fX7_u4 S (x1 + (4 : Int32))) 1).toInt < 0 ∧ (lg_cmp (fX7_u4 S (x1 + (4 : Int32))) (1200 : Int64)).toInt ≤ 0 ∧ (fX7_u2 S ((x1 + (8 : Int32)) + fX7_s4 S (x1 + (4 : Int32)))).toInt ≤ 16
theorem sp_headHolds {S : MS} {x1 x2 x3 : Int32} (hw : wfC S) (h9 : 0 ≤ (qI S 9 1).toInt) : wX2_headHolds S x1 x2 x3 (fun r _ => r = 0 ∨ HdO S x1) := by
  have B : ∀ {a b : Int32}, ∃ Q1, wX7_breaks S a b Q1 ∧ ∀ (r : Int32) (u : MS), Q1 r u → wfC u → shy S u → (r = 0 ∨ HdO S x1) := ⟨_, sp_breaks hw, fun _ _ q _ _ => Or.inl q⟩
  unfold wX2_headHolds
  refine ⟨fun _ => ⟨dd_X7_u2 h9, fun c1 => ⟨fun _ => ⟨dd_X7_u2 h9, fun _ => ?_, fun c2 => ⟨dd_X7_u2 h9, fun _ => ⟨fun _ => ⟨dd_X7_u4 h9, ?_⟩, fun _ => B⟩, fun _ => ?_⟩⟩, fun _ => B⟩, fun _ => B⟩, fun _ => B⟩
  · unfold w_X2_headHolds_J89
    exact fun _ => B
  · rintro a rfl
    refine ⟨fun _ => ?_, fun c3 => ⟨fun c4 => ⟨_, sp_catchesHold hw h9, ?_⟩, fun _ => ?_⟩⟩
    · unfold w_X2_headHolds_J149
      exact fun _ => B
    · rintro r u q _ _
      rw [u4_32] at q
      exact q.imp id (fun q => ⟨c1, by omega, c3, c4, q⟩)
    · unfold w_X2_headHolds_J149
      exact fun _ => B
  · unfold w_X2_headHolds_J89
    exact fun _ => B
/-! limitsHold: what it finds -/
theorem HdO.sm {S u : MS} {x : Int32} (h : smX S u) : HdO u x ↔ HdO S x := by
  unfold HdO fX7_u4
  simp only [h.u2, h.s4]
theorem cfr.k13 {K : List Nat} {F : List (Nat × Nat)} {S u : MS} {j : Nat} (w : wfC S) (f : cfr K F S u) (hK : K.contains 220 = false) (h : F.contains (220, j) = false) : qI u 13 j = qI S 13 j := by
  have k : qT S 13 = 220 := (w.2.1 _ finC_9).2.1
  exact (f.2.2 13 j (by rw [k]; decide) (by rw [k]; exact hK) (by rw [k]; exact h)).1
/-- the heads of the first v methods are within bounds -/
def LmI (S : MS) (v : Int) : Prop := ∀ j : Nat, (j : Int) < v → j < 24 → HdO S (qI S 13 j)
theorem LmI.sm {S u : MS} {v : Int} (h : smX S u) (e : ∀ j, qI u 13 j = qI S 13 j) : LmI u v ↔ LmI S v :=
  ⟨fun k j a b => by have := k j a b; rw [e] at this; exact (HdO.sm h).mp this, fun k j a b => by rw [e]; exact (HdO.sm h).mpr (k j a b)⟩
theorem sp_lmL {S0 : MS} (h9 : 0 ≤ (qI S0 9 1).toInt) : ∀ (n : Nat) {U : MS} {v : Int32}, smX S0 U → (∀ j, qI U 13 j = qI S0 13 j) → qI U 9 8 = qI S0 9 8 → LmI S0 v.toInt → 0 ≤ v.toInt → 25 - v.toInt < n → v.toInt ≤ 24 → w_X2_limitsHold_L2 (fun r _ => r = 0 ∨ LmI S0 (qI S0 9 8).toInt) n U v := by
  intro n
  induction n with
  | zero => intro U v h e13 e8 l h0 hn h1; exfalso; omega
  | succ n ih =>
    intro U v h e13 e8 l h0 hn h1
    unfold w_X2_limitsHold_L2
    intro w
    rw [e8]
    refine ⟨fun c => Or.inr (fun j a b => l j (by omega) b), fun c => ⟨fun c2 => Or.inr (fun j a b => l j (by omega) b), fun c2 => ⟨dd_X7_typeOf (h.h9 h9), fun a7 _ => ⟨_, frX7_isMethodType w (sfX7_isMethodType w (h.h9 h9) (w.2.1 _ finC_2).2.1), ?_⟩⟩⟩⟩
    rintro r9 S10 ⟨_, f10⟩ w10 _
    have m10 : smX S0 S10 := h.tr (cfr.sm w f10 (by decide) (by decide) (by decide) (by decide) (fun _ => rfl))
    have e10 : ∀ j, qI S10 13 j = qI S0 13 j := fun j => (f10.k13 w rfl rfl).trans (e13 j)
    refine ⟨by omega, by omega, _, frX2_headHolds w10 (sp_headHolds w10 (m10.h9 h9)), ?_⟩
    rintro r17 S18 ⟨q, f18⟩ w18 _
    have m18 : smX S0 S18 := m10.tr (cfr.sm w10 f18 (by decide) (by decide) (by decide) (by decide) (fun _ => rfl))
    refine ⟨fun _ => Or.inl rfl, fun d a e => ?_⟩
    have ea : a.toInt = v.toInt + 1 := by rw [e, t_addk (by rw [show (Int32.ofInt 1).toInt = 1 from rfl]; omega)]; rfl
    have hd : HdO S0 (qI S0 13 v.toInt.toNat) := by
      rcases q with q | q
      · exact absurd (by rw [q]; rfl) d
      · rw [e10] at q
        exact (HdO.sm m10).mp q
    refine ih m18 (fun j => (f18.k13 w10 rfl rfl).trans (e10 j)) ((f18.k98 w10 rfl rfl).trans ((f10.k98 w rfl rfl).trans e8)) ?_ (by omega) (by omega) (by omega)
    intro j x y
    by_cases z : (j : Int) < v.toInt
    · exact l j z y
    · have ej : j = v.toInt.toNat := by omega
      rw [ej]
      exact hd
theorem sp_limitsHold {S : MS} (h9 : 0 ≤ (qI S 9 1).toInt) : wX2_limitsHold S (fun r _ => r = 0 ∨ LmI S (qI S 9 8).toInt) := by
  unfold wX2_limitsHold
  exact ⟨26, sp_lmL h9 26 smX.rf (fun _ => rfl) rfl (fun j a b => absurd a (by rw [li_0k]; omega)) (by decide) (by decide) (by decide)⟩
