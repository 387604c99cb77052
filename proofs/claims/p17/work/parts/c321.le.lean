/-! how long an instruction is: exact, so that it may be asked twice -/
theorem m4_rg {z x : Int32} (h : z = x &&& (-4 : Int32)) (hx : 0 ≤ x.toInt) : x.toInt - 3 ≤ z.toInt ∧ z.toInt ≤ x.toInt := by
  obtain ⟨w, hw⟩ : ∃ w : Int32, w = x &&& 3 := ⟨_, rfl⟩
  have hb := c_and (k := 2) (b := 4) hw (by decide) (by decide) (by decide)
  have hs : x = w + z := by
    apply Int32.toBitVec_inj.mp
    rw [hw, h, Int32.toBitVec_add, Int32.toBitVec_and, Int32.toBitVec_and]
    rw [BitVec.add_eq_or_of_and_eq_zero]
    · rw [← BitVec.and_or_distrib_left]
      have : (3 : Int32).toBitVec ||| (-4 : Int32).toBitVec = BitVec.allOnes 32 := by decide
      rw [this, BitVec.and_allOnes]
    · have e1 : (x.toBitVec &&& (3 : Int32).toBitVec) &&& (x.toBitVec &&& (-4 : Int32).toBitVec) = x.toBitVec &&& ((3 : Int32).toBitVec &&& (-4 : Int32).toBitVec) := by
        ext i hi
        simp only [BitVec.getElem_and]
        cases x.toBitVec[i] <;> simp
      rw [e1]
      have : (3 : Int32).toBitVec &&& (-4 : Int32).toBitVec = 0#32 := by decide
      rw [this, BitVec.and_zero]
  have h1 := rgI x
  have h2 := rgI z
  have h3 := rgI w
  have h4 := t_addD (a := w) (b := z)
  rw [← hs] at h4
  rcases h4 with h4 | h4 | h4
  · omega
  · exfalso
    have e := congrArg Int32.toInt hs
    rw [Int32.toInt_add] at e
    have e2 : (w.toInt + z.toInt).bmod (2 ^ 32) = w.toInt + z.toInt - 4294967296 := by
      rw [Int.bmod_def]
      omega
    rw [e2] at e
    omega
  · omega
theorem nOf_rg {S : MS} {o : Int32} (ho : 0 ≤ o.toInt ∧ o.toInt ≤ 2000) : o.toInt + 1 ≤ (fX2_numbersOf S o).toInt ∧ (fX2_numbersOf S o).toInt ≤ o.toInt + 4 := by
  have e : (o + (4 : Int32)).toInt = o.toInt + 4 := by rw [t_add (by rw [li_4]; omega), li_4]
  have := m4_rg (z := fX2_numbersOf S o) (x := o + (4 : Int32)) rfl (by omega)
  omega
theorem ex_ll56 {U : MS} (h9 : 0 ≤ (qI U 9 1).toInt) {v1 v2 v3 : Int32} : ∀ (m : Nat) (v4 : Int32), (v3.toInt - v4.toInt).toNat ≤ m → 0 ≤ v4.toInt → ∃ r : Int32, (r = 0 ∨ r = (((v2 + (8 : Int32)) + ((8 : Int32) * v3)) - v1)) ∧ ∀ Q : Int32 → MS → Prop, Q r U → ∃ n, w_X2_lookupLength_L56 Q n U v1 v2 v3 v4 := by
  intro m
  induction m with
  | zero =>
    intro v4 h0 h1
    refine ⟨_, Or.inr rfl, fun Q hQ => ⟨1, ?_⟩⟩
    unfold w_X2_lookupLength_L56
    intro w
    exact ⟨fun c => hQ, fun c => by omega⟩
  | succ m ih =>
    intro v4 h0 h1
    by_cases c0 : v3.toInt ≤ v4.toInt
    · refine ⟨_, Or.inr rfl, fun Q hQ => ⟨1, ?_⟩⟩
      unfold w_X2_lookupLength_L56
      intro w
      exact ⟨fun c => hQ, fun c => absurd c0 c⟩
    · by_cases c1 : (fX2_s4 U (v2 + ((8 : Int32) * v4))).toInt < (fX2_s4 U ((v2 + (8 : Int32)) + ((8 : Int32) * v4))).toInt
      · have b3 := rgI v3
        have e5 : (v4 + Int32.ofInt 1).toInt = v4.toInt + 1 := by rw [t_add (by rw [lo_1]; omega), lo_1]
        obtain ⟨r, hr, k⟩ := ih (v4 + Int32.ofInt 1) (by rw [e5]; omega) (by omega)
        refine ⟨r, hr, fun Q hQ => ?_⟩
        obtain ⟨n, hn⟩ := k Q hQ
        refine ⟨n + 1, ?_⟩
        unfold w_X2_lookupLength_L56
        intro w
        refine ⟨fun c => absurd c c0, fun c => ⟨dd_X2_s4 h9, dd_X2_s4 h9, fun c2 a e => ?_, fun c2 => absurd c1 c2⟩⟩
        rw [e]
        exact hn
      · refine ⟨0, Or.inl rfl, fun Q hQ => ⟨1, ?_⟩⟩
        unfold w_X2_lookupLength_L56
        intro w
        exact ⟨fun c => absurd c c0, fun c => ⟨dd_X2_s4 h9, dd_X2_s4 h9, fun c2 => absurd c2 c1, fun c2 => hQ⟩⟩
theorem ex_lookupLength {S : MS} {o : Int32} (h9 : 0 ≤ (qI S 9 1).toInt) (ho : 0 ≤ o.toInt ∧ o.toInt ≤ 1200) : ∃ r : Int32, (0 ≤ r.toInt ∧ r.toInt ≤ 3000) ∧ ∀ Q : Int32 → MS → Prop, Q r S → wX2_lookupLength S o Q := by
  have hn := nOf_rg (S := S) (o := o) ⟨ho.1, by omega⟩
  have z0 := li_0
  obtain ⟨q, eq⟩ : ∃ q, q = fX2_numbersOf S o := ⟨_, rfl⟩
  obtain ⟨y, ey⟩ : ∃ y, y = fX2_s4 S (q + (4 : Int32)) := ⟨_, rfl⟩
  rw [← eq] at hn
  by_cases c1 : (qI S 8 2).toInt < (q + (8 : Int32)).toInt
  · refine ⟨0, by omega, fun Q hQ => ?_⟩
    unfold wX2_lookupLength
    refine ⟨dd_X2_numbersOf, fun a4 e4 => ⟨dd_X2_s4 h9, fun a9 e9 => ?_⟩⟩
    rw [e4, ← eq]
    exact ⟨fun _ => hQ, fun c => absurd c1 c⟩
  · by_cases c2 : y.toInt < 0 ∨ 200 < y.toInt ∨ ¬ ((q + (8 : Int32)) + ((8 : Int32) * y)).toInt ≤ (qI S 8 2).toInt
    · refine ⟨0, by omega, fun Q hQ => ?_⟩
      unfold wX2_lookupLength
      refine ⟨dd_X2_numbersOf, fun a4 e4 => ⟨dd_X2_s4 h9, fun a9 e9 => ?_⟩⟩
      rw [← eq] at e4
      subst e4
      rw [← ey] at e9
      subst e9
      exact ⟨fun c => absurd c c1, fun _ => ⟨fun _ => hQ, fun d1 => ⟨fun _ => hQ, fun d2 => ⟨fun d3 => absurd c2 (by omega), fun _ => hQ⟩⟩⟩⟩
    · obtain ⟨r, hr, k⟩ := ex_ll56 (U := S) h9 (v1 := o) (v2 := q) (v3 := y) 1000 1 (by rw [li_1]; omega) (by decide)
      have e8 : ((8 : Int32) * y).toInt = 8 * y.toInt := by rw [t_mul (by rw [li_8]; omega), li_8]
      have e7 : (q + (8 : Int32)).toInt = q.toInt + 8 := by rw [t_add (by rw [li_8]; omega), li_8]
      have e6 : ((q + (8 : Int32)) + ((8 : Int32) * y)).toInt = q.toInt + 8 + 8 * y.toInt := by rw [t_add (by rw [e7, e8]; omega), e7, e8]
      have e5 : (((q + (8 : Int32)) + ((8 : Int32) * y)) - o).toInt = q.toInt + 8 + 8 * y.toInt - o.toInt := by rw [t_sub (by rw [e6]; omega), e6]
      refine ⟨r, ?_, fun Q hQ => ?_⟩
      · rcases hr with rfl | rfl
        · omega
        · rw [e5]; omega
      · obtain ⟨n, hn2⟩ := k Q hQ
        unfold wX2_lookupLength
        refine ⟨dd_X2_numbersOf, fun a4 e4 => ⟨dd_X2_s4 h9, fun a9 e9 => ?_⟩⟩
        rw [← eq] at e4
        subst e4
        rw [← ey] at e9
        subst e9
        exact ⟨fun c => absurd c c1, fun _ => ⟨fun c => absurd (Or.inl c) c2, fun _ => ⟨fun c => absurd (Or.inr (Or.inl c)) c2, fun _ => ⟨fun _ => ⟨n, hn2⟩, fun c => absurd (Or.inr (Or.inr c)) c2⟩⟩⟩⟩
