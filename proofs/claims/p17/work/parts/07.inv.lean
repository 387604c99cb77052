/-- a file whose rows are all there -/
def full (ws : va_W) (b : Nat) : Prop := ∃ (r n : Nat) (c : ClassId), fnS ws b r ∧ gR ws r c n ∧ ∀ i, i < n → nnS ws r i
theorem full.mo {ws ws' : va_W} {b : Nat} (E : gE ws ws') (h : full ws b) : full ws' b := by
  obtain ⟨r, n, c, h1, h2, h3⟩ := h
  exact ⟨r, n, c, E.2.2 _ _ h1, E.1 _ _ h2, fun i hi => E.2.1 _ _ (h3 i hi)⟩
def invX0 (g : Gm) (ws : va_W) (a : Nat) (fs : List Value) : Prop := ∃ (r0 n0 : Nat) (c1 : Int32), fs = [.ref r0, .int c1] ∧ gI ws r0 g.cB n0 ∧ n0 < 2147483648 ∧ 0 ≤ c1.toInt ∧ c1.toInt ≤ n0 ∧ 64 ≤ n0 ∧ n0 ≤ 262144 ∧ True
theorem invX0_mo {g : Gm} {ws ws' : va_W} {a : Nat} {fs : List Value} (E : gE ws ws') (h : invX0 g ws a fs) : invX0 g ws' a fs := by
  obtain ⟨r0, n0, c1, e, q0, q1, q2, q3, q4, q5, t⟩ := h
  exact ⟨r0, n0, c1, e, E.1 _ _ q0, q1, q2, q3, q4, q5, t⟩
def invX1 (g : Gm) (ws : va_W) (a : Nat) (fs : List Value) : Prop := ∃ (r0 : Nat) (r1 n1 : Nat) (r2 n2 : Nat) (r3 n3 : Nat) (r4 n4 : Nat) (c5 : Int32) (c6 : Int32) (c7 : Int32) (v8 : Option Nat) (v9 : Option Nat), fs = [.ref r0, .ref r1, .ref r2, .ref r3, .ref r4, .int c5, .int c6, .int c7, va_rf v8, va_rf v9] ∧ gC ws r0 4 ∧ gI ws r1 g.cB n1 ∧ n1 < 2147483648 ∧ gI ws r2 g.cZ n2 ∧ n2 < 2147483648 ∧ gI ws r3 g.cZ n3 ∧ n3 < 2147483648 ∧ gI ws r4 g.cB n4 ∧ n4 < 2147483648 ∧ (c6 = 0 ∨ c6 = 1) ∧ (c7 = 0 ∨ c7 = 1) ∧ (∀ b, v8 = some b → gC ws b 9) ∧ (∀ b, v9 = some b → gC ws b 7) ∧ n4 = 48 ∧ n3 = n2 ∧ n1 = 48 * n2 ∧ n2 ≤ 4000 ∧ True
theorem invX1_mo {g : Gm} {ws ws' : va_W} {a : Nat} {fs : List Value} (E : gE ws ws') (h : invX1 g ws a fs) : invX1 g ws' a fs := by
  obtain ⟨r0, r1, n1, r2, n2, r3, n3, r4, n4, c5, c6, c7, v8, v9, e, q0, q1, q2, q3, q4, q5, q6, q7, q8, q9, q10, q11, q12, q13, q14, q15, q16, t⟩ := h
  exact ⟨r0, r1, n1, r2, n2, r3, n3, r4, n4, c5, c6, c7, v8, v9, e, E.1 _ _ q0, E.1 _ _ q1, q2, E.1 _ _ q3, q4, E.1 _ _ q5, q6, E.1 _ _ q7, q8, q9, q10, fun b hb => E.1 _ _ (q11 b hb), fun b hb => E.1 _ _ (q12 b hb), q13, q14, q15, q16, t⟩
def invX2 (g : Gm) (ws : va_W) (a : Nat) (fs : List Value) : Prop := ∃ (r0 : Nat) (c1 : Int32) (c2 : Int32) (c3 : Int32) (c4 : Int32) (c5 : Int32) (c6 : Int32) (r7 n7 : Nat) (c8 : Int32) (c9 : Int32) (l10 : Int64) (c11 : Int32), fs = [.ref r0, .int c1, .int c2, .int c3, .int c4, .int c5, .int c6, .ref r7, .int c8, .int c9, .long l10, .int c11] ∧ gC ws r0 6 ∧ gI ws r7 g.cI n7 ∧ n7 < 2147483648 ∧ n7 = 1201 ∧ c2.toInt ≤ 1200 ∧ True
theorem invX2_mo {g : Gm} {ws ws' : va_W} {a : Nat} {fs : List Value} (E : gE ws ws') (h : invX2 g ws a fs) : invX2 g ws' a fs := by
  obtain ⟨r0, c1, c2, c3, c4, c5, c6, r7, n7, c8, c9, l10, c11, e, q0, q1, q2, q3, q4, t⟩ := h
  exact ⟨r0, c1, c2, c3, c4, c5, c6, r7, n7, c8, c9, l10, c11, e, E.1 _ _ q0, E.1 _ _ q1, q2, q3, q4, t⟩
def invX3 (g : Gm) (ws : va_W) (a : Nat) (fs : List Value) : Prop := ∃ (v0 : Option Nat) (c1 : Int32) (r2 n2 : Nat) (r3 n3 : Nat) (r4 n4 : Nat) (r5 n5 : Nat) (r6 n6 : Nat) (r7 n7 : Nat) (r8 n8 : Nat) (r9 n9 : Nat) (c10 : Int32) (r11 n11 : Nat) (r12 n12 : Nat) (r13 n13 : Nat) (r14 n14 : Nat) (r15 n15 : Nat), fs = [va_rf v0, .int c1, .ref r2, .ref r3, .ref r4, .ref r5, .ref r6, .ref r7, .ref r8, .ref r9, .int c10, .ref r11, .ref r12, .ref r13, .ref r14, .ref r15] ∧ (∀ b, v0 = some b → gC ws b 7) ∧ gI ws r2 g.cI n2 ∧ n2 < 2147483648 ∧ gI ws r3 g.cI n3 ∧ n3 < 2147483648 ∧ gI ws r4 g.cI n4 ∧ n4 < 2147483648 ∧ gI ws r5 g.cI n5 ∧ n5 < 2147483648 ∧ gI ws r6 g.cI n6 ∧ n6 < 2147483648 ∧ gI ws r7 g.cI n7 ∧ n7 < 2147483648 ∧ gI ws r8 g.cZ n8 ∧ n8 < 2147483648 ∧ gJ ws r9 g.cL n9 ∧ n9 < 2147483648 ∧ gI ws r11 g.cI n11 ∧ n11 < 2147483648 ∧ gI ws r12 g.cI n12 ∧ n12 < 2147483648 ∧ gI ws r13 g.cI n13 ∧ n13 < 2147483648 ∧ gI ws r14 g.cI n14 ∧ n14 < 2147483648 ∧ gI ws r15 g.cI n15 ∧ n15 < 2147483648 ∧ n2 = n3 ∧ n6 = n4 ∧ (n4 = n8 + 1 ∨ (n8 = 0 ∧ n4 = 0)) ∧ n11 = n8 ∧ n12 = n8 ∧ n13 = n8 ∧ n14 = n8 ∧ n15 = n8 ∧ 16 ≤ n5 ∧ n3 ≤ 2592 ∧ n8 ≤ 2592 ∧ (n7 = n5 ∨ 2 * n7 ≤ n5) ∧ n5 ≤ 60000 ∧ n9 ≤ 60000 ∧ True
theorem invX3_mo {g : Gm} {ws ws' : va_W} {a : Nat} {fs : List Value} (E : gE ws ws') (h : invX3 g ws a fs) : invX3 g ws' a fs := by
  obtain ⟨v0, c1, r2, n2, r3, n3, r4, n4, r5, n5, r6, n6, r7, n7, r8, n8, r9, n9, c10, r11, n11, r12, n12, r13, n13, r14, n14, r15, n15, e, q0, q1, q2, q3, q4, q5, q6, q7, q8, q9, q10, q11, q12, q13, q14, q15, q16, q17, q18, q19, q20, q21, q22, q23, q24, q25, q26, q27, q28, q29, q30, q31, q32, q33, q34, q35, q36, q37, q38, q39, q40, t⟩ := h
  exact ⟨v0, c1, r2, n2, r3, n3, r4, n4, r5, n5, r6, n6, r7, n7, r8, n8, r9, n9, c10, r11, n11, r12, n12, r13, n13, r14, n14, r15, n15, e, fun b hb => E.1 _ _ (q0 b hb), E.1 _ _ q1, q2, E.1 _ _ q3, q4, E.1 _ _ q5, q6, E.1 _ _ q7, q8, E.1 _ _ q9, q10, E.1 _ _ q11, q12, E.1 _ _ q13, q14, E.1 _ _ q15, q16, E.1 _ _ q17, q18, E.1 _ _ q19, q20, E.1 _ _ q21, q22, E.1 _ _ q23, q24, E.1 _ _ q25, q26, q27, q28, q29, q30, q31, q32, q33, q34, q35, q36, q37, q38, q39, q40, t⟩
def invX4 (g : Gm) (ws : va_W) (a : Nat) (fs : List Value) : Prop := ∃ (r0 n0 : Nat) (r1 n1 : Nat) (r2 n2 : Nat) (v3 : Option Nat) (v4 : Option Nat) (c5 : Int32) (c6 : Int32) (c7 : Int32), fs = [.ref r0, .ref r1, .ref r2, va_rf v3, va_rf v4, .int c5, .int c6, .int c7] ∧ gI ws r0 g.cI n0 ∧ n0 < 2147483648 ∧ gI ws r1 g.cI n1 ∧ n1 < 2147483648 ∧ gI ws r2 g.cZ n2 ∧ n2 < 2147483648 ∧ (∀ b, v3 = some b → gC ws b 9) ∧ (∀ b, v4 = some b → gC ws b 7) ∧ (c6 = 0 ∨ c6 = 1) ∧ n1 = n0 ∧ n2 = n0 ∧ n0 ≤ 4000 ∧ True
theorem invX4_mo {g : Gm} {ws ws' : va_W} {a : Nat} {fs : List Value} (E : gE ws ws') (h : invX4 g ws a fs) : invX4 g ws' a fs := by
  obtain ⟨r0, n0, r1, n1, r2, n2, v3, v4, c5, c6, c7, e, q0, q1, q2, q3, q4, q5, q6, q7, q8, q9, q10, q11, t⟩ := h
  exact ⟨r0, n0, r1, n1, r2, n2, v3, v4, c5, c6, c7, e, E.1 _ _ q0, q1, E.1 _ _ q2, q3, E.1 _ _ q4, q5, fun b hb => E.1 _ _ (q6 b hb), fun b hb => E.1 _ _ (q7 b hb), q8, q9, q10, q11, t⟩
def invX5 (g : Gm) (ws : va_W) (a : Nat) (fs : List Value) : Prop := ∃ (v0 : Option Nat) (r1 n1 : Nat) (r2 n2 : Nat) (c3 : Int32) (r4 n4 : Nat) (c5 : Int32) (r6 n6 : Nat) (c7 : Int32) (r8 n8 : Nat) (r9 n9 : Nat) (r10 n10 : Nat) (c11 : Int32) (v12 : Option Nat) (c13 : Int32) (c14 : Int32) (c15 : Int32) (l16 : Int64) (c17 : Int32) (c18 : Int32) (c19 : Int32), fs = [va_rf v0, .ref r1, .ref r2, .int c3, .ref r4, .int c5, .ref r6, .int c7, .ref r8, .ref r9, .ref r10, .int c11, va_rf v12, .int c13, .int c14, .int c15, .long l16, .int c17, .int c18, .int c19] ∧ (∀ b, v0 = some b → gC ws b 9) ∧ (∀ b, v0 = some b → full ws b) ∧ gJ ws r1 g.cL n1 ∧ n1 < 2147483648 ∧ gI ws r2 g.cI n2 ∧ n2 < 2147483648 ∧ gI ws r4 g.cI n4 ∧ n4 < 2147483648 ∧ gJ ws r6 g.cL n6 ∧ n6 < 2147483648 ∧ gJ ws r8 g.cL n8 ∧ n8 < 2147483648 ∧ gJ ws r9 g.cL n9 ∧ n9 < 2147483648 ∧ gI ws r10 g.cI n10 ∧ n10 < 2147483648 ∧ (∀ b, v12 = some b → gC ws b 7) ∧ n1 = 24 ∧ n6 = 8 ∧ 0 ≤ c7.toInt ∧ c7.toInt ≤ 8 ∧ n10 = 180 ∧ n8 = n9 ∧ 0 ≤ c11.toInt ∧ c11.toInt ≤ 59 ∧ 0 ≤ c3.toInt ∧ c3.toInt ≤ 20000 ∧ n2 ≤ 20000 ∧ 0 ≤ c5.toInt ∧ c5.toInt ≤ 400 ∧ 1 ≤ n4 ∧ n4 ≤ 1024 ∧ True
theorem invX5_mo {g : Gm} {ws ws' : va_W} {a : Nat} {fs : List Value} (E : gE ws ws') (h : invX5 g ws a fs) : invX5 g ws' a fs := by
  obtain ⟨v0, r1, n1, r2, n2, c3, r4, n4, c5, r6, n6, c7, r8, n8, r9, n9, r10, n10, c11, v12, c13, c14, c15, l16, c17, c18, c19, e, q0, q1, q2, q3, q4, q5, q6, q7, q8, q9, q10, q11, q12, q13, q14, q15, q16, q17, q18, q19, q20, q21, q22, q23, q24, q25, q26, q27, q28, q29, q30, q31, t⟩ := h
  exact ⟨v0, r1, n1, r2, n2, c3, r4, n4, c5, r6, n6, c7, r8, n8, r9, n9, r10, n10, c11, v12, c13, c14, c15, l16, c17, c18, c19, e, fun b hb => E.1 _ _ (q0 b hb), fun b hb => (q1 b hb).mo E, E.1 _ _ q2, q3, E.1 _ _ q4, q5, E.1 _ _ q6, q7, E.1 _ _ q8, q9, E.1 _ _ q10, q11, E.1 _ _ q12, q13, E.1 _ _ q14, q15, fun b hb => E.1 _ _ (q16 b hb), q17, q18, q19, q20, q21, q22, q23, q24, q25, q26, q27, q28, q29, q30, q31, t⟩
def invX7 (g : Gm) (ws : va_W) (a : Nat) (fs : List Value) : Prop := ∃ (r0 n0 : Nat) (c1 : Int32) (c2 : Int32) (c3 : Int32) (r4 n4 : Nat) (c5 : Int32) (c6 : Int32) (c7 : Int32) (c8 : Int32) (r9 n9 : Nat) (r10 n10 : Nat) (r11 n11 : Nat) (c12 : Int32) (c13 : Int32) (c14 : Int32) (c15 : Int32) (c16 : Int32), fs = [.ref r0, .int c1, .int c2, .int c3, .ref r4, .int c5, .int c6, .int c7, .int c8, .ref r9, .ref r10, .ref r11, .int c12, .int c13, .int c14, .int c15, .int c16] ∧ gI ws r0 g.cB n0 ∧ n0 < 2147483648 ∧ gI ws r4 g.cI n4 ∧ n4 < 2147483648 ∧ gI ws r9 g.cI n9 ∧ n9 < 2147483648 ∧ gI ws r10 g.cI n10 ∧ n10 < 2147483648 ∧ gI ws r11 g.cI n11 ∧ n11 < 2147483648 ∧ 0 ≤ c1.toInt ∧ n4 = 500 ∧ n9 = 48 ∧ n10 = 24 ∧ n11 = 24 ∧ True
theorem invX7_mo {g : Gm} {ws ws' : va_W} {a : Nat} {fs : List Value} (E : gE ws ws') (h : invX7 g ws a fs) : invX7 g ws' a fs := by
  obtain ⟨r0, n0, c1, c2, c3, r4, n4, c5, c6, c7, c8, r9, n9, r10, n10, r11, n11, c12, c13, c14, c15, c16, e, q0, q1, q2, q3, q4, q5, q6, q7, q8, q9, q10, q11, q12, q13, q14, t⟩ := h
  exact ⟨r0, n0, c1, c2, c3, r4, n4, c5, c6, c7, c8, r9, n9, r10, n10, r11, n11, c12, c13, c14, c15, c16, e, E.1 _ _ q0, q1, E.1 _ _ q2, q3, E.1 _ _ q4, q5, E.1 _ _ q6, q7, E.1 _ _ q8, q9, q10, q11, q12, q13, q14, t⟩
def invX8 (g : Gm) (ws : va_W) (a : Nat) (fs : List Value) : Prop := ∃ (r0 n0 : Nat) (r1 n1 : Nat) (c2 : Int32) (r3 n3 : Nat) (c4 : Int32) (r5 n5 : Nat) (r6 n6 : Nat) (r7 n7 : Nat) (r8 n8 : Nat) (c9 : Int32) (c10 : Int32) (c11 : Int32) (v12 : Option Nat) (v13 : Option Nat) (v14 : Option Nat), fs = [.ref r0, .ref r1, .int c2, .ref r3, .int c4, .ref r5, .ref r6, .ref r7, .ref r8, .int c9, .int c10, .int c11, va_rf v12, va_rf v13, va_rf v14] ∧ gI ws r0 g.cI n0 ∧ n0 < 2147483648 ∧ gJ ws r1 g.cL n1 ∧ n1 < 2147483648 ∧ gI ws r3 g.cI n3 ∧ n3 < 2147483648 ∧ gI ws r5 g.cI n5 ∧ n5 < 2147483648 ∧ gI ws r6 g.cI n6 ∧ n6 < 2147483648 ∧ gI ws r7 g.cI n7 ∧ n7 < 2147483648 ∧ gI ws r8 g.cI n8 ∧ n8 < 2147483648 ∧ (∀ b, v12 = some b → ∃ n, gI ws b g.cB n ∧ n < 2147483648) ∧ (∀ b, v13 = some b → ∃ n, gJ ws b g.cL n ∧ n < 2147483648) ∧ (∀ b, v14 = some b → ∃ n, gJ ws b g.cL n ∧ n < 2147483648) ∧ n1 = n0 ∧ n0 ≤ 1296 ∧ 0 ≤ c2.toInt ∧ c2.toInt ≤ n0 ∧ 0 ≤ c4.toInt ∧ c4.toInt ≤ n3 ∧ n6 = n5 ∧ n7 = n5 ∧ n8 = n5 ∧ 0 ≤ c9.toInt ∧ c9.toInt ≤ n5 ∧ n3 ≤ 1200 ∧ n5 ≤ 16 ∧ True
theorem invX8_mo {g : Gm} {ws ws' : va_W} {a : Nat} {fs : List Value} (E : gE ws ws') (h : invX8 g ws a fs) : invX8 g ws' a fs := by
  obtain ⟨r0, n0, r1, n1, c2, r3, n3, c4, r5, n5, r6, n6, r7, n7, r8, n8, c9, c10, c11, v12, v13, v14, e, q0, q1, q2, q3, q4, q5, q6, q7, q8, q9, q10, q11, q12, q13, q14, q15, q16, q17, q18, q19, q20, q21, q22, q23, q24, q25, q26, q27, q28, q29, t⟩ := h
  exact ⟨r0, n0, r1, n1, c2, r3, n3, c4, r5, n5, r6, n6, r7, n7, r8, n8, c9, c10, c11, v12, v13, v14, e, E.1 _ _ q0, q1, E.1 _ _ q2, q3, E.1 _ _ q4, q5, E.1 _ _ q6, q7, E.1 _ _ q8, q9, E.1 _ _ q10, q11, E.1 _ _ q12, q13, fun b hb => (q14 b hb).imp (fun n h => ⟨E.1 _ _ h.1, h.2⟩), fun b hb => (q15 b hb).imp (fun n h => ⟨E.1 _ _ h.1, h.2⟩), fun b hb => (q16 b hb).imp (fun n h => ⟨E.1 _ _ h.1, h.2⟩), q17, q18, q19, q20, q21, q22, q23, q24, q25, q26, q27, q28, q29, t⟩
def invX9 (g : Gm) (ws : va_W) (a : Nat) (fs : List Value) : Prop := ∃ (r0 : Nat) (r1 n1 : Nat) (r2 n2 : Nat) (r3 n3 : Nat) (r4 n4 : Nat) (r5 n5 : Nat), fs = [.ref r0, .ref r1, .ref r2, .ref r3, .ref r4, .ref r5] ∧ gC ws r0 7 ∧ gI ws r1 g.cI n1 ∧ n1 < 2147483648 ∧ gI ws r2 g.cZ n2 ∧ n2 < 2147483648 ∧ gI ws r3 g.cZ n3 ∧ n3 < 2147483648 ∧ gI ws r4 g.cI n4 ∧ n4 < 2147483648 ∧ gI ws r5 g.cI n5 ∧ n5 < 2147483648 ∧ n1 = 12 ∧ True
theorem invX9_mo {g : Gm} {ws ws' : va_W} {a : Nat} {fs : List Value} (E : gE ws ws') (h : invX9 g ws a fs) : invX9 g ws' a fs := by
  obtain ⟨r0, r1, n1, r2, n2, r3, n3, r4, n4, r5, n5, e, q0, q1, q2, q3, q4, q5, q6, q7, q8, q9, q10, q11, t⟩ := h
  exact ⟨r0, r1, n1, r2, n2, r3, n3, r4, n4, r5, n5, e, E.1 _ _ q0, E.1 _ _ q1, q2, E.1 _ _ q3, q4, E.1 _ _ q5, q6, E.1 _ _ q7, q8, E.1 _ _ q9, q10, q11, t⟩
def invX10 (g : Gm) (ws : va_W) (a : Nat) (fs : List Value) : Prop := ∃ (r0 n0 : Nat) (c1 : Int32) (c2 : Int32) (c3 : Int32) (c4 : Int32) (r5 n5 : Nat) (r6 n6 : Nat) (r7 n7 : Nat) (c8 : Int32) (r9 n9 : Nat) (r10 n10 : Nat) (r11 n11 : Nat) (r12 n12 : Nat) (r13 n13 : Nat) (c14 : Int32) (c15 : Int32) (c16 : Int32) (c17 : Int32), fs = [.ref r0, .int c1, .int c2, .int c3, .int c4, .ref r5, .ref r6, .ref r7, .int c8, .ref r9, .ref r10, .ref r11, .ref r12, .ref r13, .int c14, .int c15, .int c16, .int c17] ∧ gI ws r0 g.cB n0 ∧ n0 < 2147483648 ∧ gI ws r5 g.cI n5 ∧ n5 < 2147483648 ∧ gI ws r6 g.cI n6 ∧ n6 < 2147483648 ∧ gI ws r7 g.cI n7 ∧ n7 < 2147483648 ∧ gI ws r9 g.cI n9 ∧ n9 < 2147483648 ∧ gI ws r10 g.cI n10 ∧ n10 < 2147483648 ∧ gI ws r11 g.cI n11 ∧ n11 < 2147483648 ∧ gI ws r12 g.cI n12 ∧ n12 < 2147483648 ∧ gR ws r13 g.cR n13 ∧ n13 < 2147483648 ∧ (c15 = 0 ∨ c15 = 1) ∧ c4.toInt = n5 ∧ n6 = n5 ∧ n7 = n5 ∧ c8.toInt = n9 ∧ n10 = n9 ∧ n11 = n9 ∧ n12 = n9 ∧ n13 = n9 ∧ n9 ≤ 24 ∧ n5 ≤ 24 ∧ True
theorem invX10_mo {g : Gm} {ws ws' : va_W} {a : Nat} {fs : List Value} (E : gE ws ws') (h : invX10 g ws a fs) : invX10 g ws' a fs := by
  obtain ⟨r0, n0, c1, c2, c3, c4, r5, n5, r6, n6, r7, n7, c8, r9, n9, r10, n10, r11, n11, r12, n12, r13, n13, c14, c15, c16, c17, e, q0, q1, q2, q3, q4, q5, q6, q7, q8, q9, q10, q11, q12, q13, q14, q15, q16, q17, q18, q19, q20, q21, q22, q23, q24, q25, q26, q27, q28, t⟩ := h
  exact ⟨r0, n0, c1, c2, c3, c4, r5, n5, r6, n6, r7, n7, c8, r9, n9, r10, n10, r11, n11, r12, n12, r13, n13, c14, c15, c16, c17, e, E.1 _ _ q0, q1, E.1 _ _ q2, q3, E.1 _ _ q4, q5, E.1 _ _ q6, q7, E.1 _ _ q8, q9, E.1 _ _ q10, q11, E.1 _ _ q12, q13, E.1 _ _ q14, q15, E.1 _ _ q16, q17, q18, q19, q20, q21, q22, q23, q24, q25, q26, q27, q28, t⟩
def invX11 (g : Gm) (ws : va_W) (a : Nat) (fs : List Value) : Prop := ∃ (r0 : Nat) (r1 : Nat) (r2 : Nat) (r3 n3 : Nat) (r4 n4 : Nat) (c5 : Int32) (c6 : Int32) (v7 : Option Nat) (c8 : Int32) (c9 : Int32) (r10 n10 : Nat) (r11 n11 : Nat) (r12 n12 : Nat) (r13 n13 : Nat) (r14 : Nat) (v15 : Option Nat) (r16 n16 : Nat) (r17 n17 : Nat), fs = [.ref r0, .ref r1, .ref r2, .ref r3, .ref r4, .int c5, .int c6, va_rf v7, .int c8, .int c9, .ref r10, .ref r11, .ref r12, .ref r13, .ref r14, va_rf v15, .ref r16, .ref r17] ∧ gC ws r0 0 ∧ gC ws r1 0 ∧ gC ws r2 0 ∧ gI ws r3 g.cI n3 ∧ n3 < 2147483648 ∧ gI ws r4 g.cI n4 ∧ n4 < 2147483648 ∧ (c6 = 0 ∨ c6 = 1) ∧ (∀ b, v7 = some b → gC ws b 9) ∧ gI ws r10 g.cI n10 ∧ n10 < 2147483648 ∧ gI ws r11 g.cI n11 ∧ n11 < 2147483648 ∧ gI ws r12 g.cI n12 ∧ n12 < 2147483648 ∧ gI ws r13 g.cI n13 ∧ n13 < 2147483648 ∧ gC ws r14 4 ∧ (∀ b, v15 = some b → gC ws b 7) ∧ gI ws r16 g.cI n16 ∧ n16 < 2147483648 ∧ gI ws r17 g.cI n17 ∧ n17 < 2147483648 ∧ n3 = 500 ∧ n4 = 500 ∧ n10 = 24 ∧ n11 = 24 ∧ n12 = 24 ∧ n13 = 24 ∧ True
theorem invX11_mo {g : Gm} {ws ws' : va_W} {a : Nat} {fs : List Value} (E : gE ws ws') (h : invX11 g ws a fs) : invX11 g ws' a fs := by
  obtain ⟨r0, r1, r2, r3, n3, r4, n4, c5, c6, v7, c8, c9, r10, n10, r11, n11, r12, n12, r13, n13, r14, v15, r16, n16, r17, n17, e, q0, q1, q2, q3, q4, q5, q6, q7, q8, q9, q10, q11, q12, q13, q14, q15, q16, q17, q18, q19, q20, q21, q22, q23, q24, q25, q26, q27, q28, t⟩ := h
  exact ⟨r0, r1, r2, r3, n3, r4, n4, c5, c6, v7, c8, c9, r10, n10, r11, n11, r12, n12, r13, n13, r14, v15, r16, n16, r17, n17, e, E.1 _ _ q0, E.1 _ _ q1, E.1 _ _ q2, E.1 _ _ q3, q4, E.1 _ _ q5, q6, q7, fun b hb => E.1 _ _ (q8 b hb), E.1 _ _ q9, q10, E.1 _ _ q11, q12, E.1 _ _ q13, q14, E.1 _ _ q15, q16, E.1 _ _ q17, fun b hb => E.1 _ _ (q18 b hb), E.1 _ _ q19, q20, E.1 _ _ q21, q22, q23, q24, q25, q26, q27, q28, t⟩
def invX12 (g : Gm) (ws : va_W) (a : Nat) (fs : List Value) : Prop := ∃ (r0 : Nat) (r1 : Nat) (r2 : Nat) (r3 n3 : Nat) (r4 : Nat) (r5 : Nat) (r6 : Nat) (r7 : Nat) (r8 : Nat) (r9 : Nat) (c10 : Int32) (c11 : Int32) (c12 : Int32) (c13 : Int32) (c14 : Int32) (c15 : Int32) (c16 : Int32) (c17 : Int32), fs = [.ref r0, .ref r1, .ref r2, .ref r3, .ref r4, .ref r5, .ref r6, .ref r7, .ref r8, .ref r9, .int c10, .int c11, .int c12, .int c13, .int c14, .int c15, .int c16, .int c17] ∧ gC ws r0 0 ∧ gC ws r1 0 ∧ gC ws r2 0 ∧ gR ws r3 g.cU n3 ∧ n3 < 2147483648 ∧ gC ws r4 2 ∧ gC ws r5 1 ∧ gC ws r6 10 ∧ gC ws r7 5 ∧ gC ws r8 3 ∧ gC ws r9 8 ∧ n3 = 12 ∧ 0 ≤ c11.toInt ∧ c11.toInt ≤ 12 ∧ 0 ≤ c12.toInt ∧ c12.toInt ≤ 16 ∧ 0 ≤ c10.toInt ∧ c10.toInt ≤ 65536 ∧ True
theorem invX12_mo {g : Gm} {ws ws' : va_W} {a : Nat} {fs : List Value} (E : gE ws ws') (h : invX12 g ws a fs) : invX12 g ws' a fs := by
  obtain ⟨r0, r1, r2, r3, n3, r4, r5, r6, r7, r8, r9, c10, c11, c12, c13, c14, c15, c16, c17, e, q0, q1, q2, q3, q4, q5, q6, q7, q8, q9, q10, q11, q12, q13, q14, q15, q16, q17, t⟩ := h
  exact ⟨r0, r1, r2, r3, n3, r4, r5, r6, r7, r8, r9, c10, c11, c12, c13, c14, c15, c16, c17, e, E.1 _ _ q0, E.1 _ _ q1, E.1 _ _ q2, E.1 _ _ q3, q4, E.1 _ _ q5, E.1 _ _ q6, E.1 _ _ q7, E.1 _ _ q8, E.1 _ _ q9, E.1 _ _ q10, q11, q12, q13, q14, q15, q16, q17, t⟩
def inv (g : Gm) (ws : va_W) (a ci : Nat) (fs : List Value) : Prop := (ci = 0 → invX0 g ws a fs) ∧ (ci = 1 → invX1 g ws a fs) ∧ (ci = 2 → invX2 g ws a fs) ∧ (ci = 3 → invX3 g ws a fs) ∧ (ci = 4 → invX4 g ws a fs) ∧ (ci = 5 → invX5 g ws a fs) ∧ (ci = 6 → invX7 g ws a fs) ∧ (ci = 7 → invX8 g ws a fs) ∧ (ci = 8 → invX9 g ws a fs) ∧ (ci = 9 → invX10 g ws a fs) ∧ (ci = 10 → invX11 g ws a fs) ∧ (ci = 11 → invX12 g ws a fs)
theorem inv.hX0 {g : Gm} {ws : va_W} {a ci : Nat} {fs : List Value} (h : inv g ws a ci fs) : ci = 0 → invX0 g ws a fs := h.1
theorem inv.hX1 {g : Gm} {ws : va_W} {a ci : Nat} {fs : List Value} (h : inv g ws a ci fs) : ci = 1 → invX1 g ws a fs := h.2.1
theorem inv.hX2 {g : Gm} {ws : va_W} {a ci : Nat} {fs : List Value} (h : inv g ws a ci fs) : ci = 2 → invX2 g ws a fs := h.2.2.1
theorem inv.hX3 {g : Gm} {ws : va_W} {a ci : Nat} {fs : List Value} (h : inv g ws a ci fs) : ci = 3 → invX3 g ws a fs := h.2.2.2.1
theorem inv.hX4 {g : Gm} {ws : va_W} {a ci : Nat} {fs : List Value} (h : inv g ws a ci fs) : ci = 4 → invX4 g ws a fs := h.2.2.2.2.1
theorem inv.hX5 {g : Gm} {ws : va_W} {a ci : Nat} {fs : List Value} (h : inv g ws a ci fs) : ci = 5 → invX5 g ws a fs := h.2.2.2.2.2.1
theorem inv.hX7 {g : Gm} {ws : va_W} {a ci : Nat} {fs : List Value} (h : inv g ws a ci fs) : ci = 6 → invX7 g ws a fs := h.2.2.2.2.2.2.1
theorem inv.hX8 {g : Gm} {ws : va_W} {a ci : Nat} {fs : List Value} (h : inv g ws a ci fs) : ci = 7 → invX8 g ws a fs := h.2.2.2.2.2.2.2.1
theorem inv.hX9 {g : Gm} {ws : va_W} {a ci : Nat} {fs : List Value} (h : inv g ws a ci fs) : ci = 8 → invX9 g ws a fs := h.2.2.2.2.2.2.2.2.1
theorem inv.hX10 {g : Gm} {ws : va_W} {a ci : Nat} {fs : List Value} (h : inv g ws a ci fs) : ci = 9 → invX10 g ws a fs := h.2.2.2.2.2.2.2.2.2.1
theorem inv.hX11 {g : Gm} {ws : va_W} {a ci : Nat} {fs : List Value} (h : inv g ws a ci fs) : ci = 10 → invX11 g ws a fs := h.2.2.2.2.2.2.2.2.2.2.1
theorem inv.hX12 {g : Gm} {ws : va_W} {a ci : Nat} {fs : List Value} (h : inv g ws a ci fs) : ci = 11 → invX12 g ws a fs := h.2.2.2.2.2.2.2.2.2.2.2
theorem ivX0 {g : Gm} {ws : va_W} {a : Nat} {fs : List Value} (h : invX0 g ws a fs) : inv g ws a 0 fs := ⟨fun _ => h, fun e => absurd e (by decide), fun e => absurd e (by decide), fun e => absurd e (by decide), fun e => absurd e (by decide), fun e => absurd e (by decide), fun e => absurd e (by decide), fun e => absurd e (by decide), fun e => absurd e (by decide), fun e => absurd e (by decide), fun e => absurd e (by decide), fun e => absurd e (by decide)⟩
theorem ivX1 {g : Gm} {ws : va_W} {a : Nat} {fs : List Value} (h : invX1 g ws a fs) : inv g ws a 1 fs := ⟨fun e => absurd e (by decide), fun _ => h, fun e => absurd e (by decide), fun e => absurd e (by decide), fun e => absurd e (by decide), fun e => absurd e (by decide), fun e => absurd e (by decide), fun e => absurd e (by decide), fun e => absurd e (by decide), fun e => absurd e (by decide), fun e => absurd e (by decide), fun e => absurd e (by decide)⟩
theorem ivX2 {g : Gm} {ws : va_W} {a : Nat} {fs : List Value} (h : invX2 g ws a fs) : inv g ws a 2 fs := ⟨fun e => absurd e (by decide), fun e => absurd e (by decide), fun _ => h, fun e => absurd e (by decide), fun e => absurd e (by decide), fun e => absurd e (by decide), fun e => absurd e (by decide), fun e => absurd e (by decide), fun e => absurd e (by decide), fun e => absurd e (by decide), fun e => absurd e (by decide), fun e => absurd e (by decide)⟩
theorem ivX3 {g : Gm} {ws : va_W} {a : Nat} {fs : List Value} (h : invX3 g ws a fs) : inv g ws a 3 fs := ⟨fun e => absurd e (by decide), fun e => absurd e (by decide), fun e => absurd e (by decide), fun _ => h, fun e => absurd e (by decide), fun e => absurd e (by decide), fun e => absurd e (by decide), fun e => absurd e (by decide), fun e => absurd e (by decide), fun e => absurd e (by decide), fun e => absurd e (by decide), fun e => absurd e (by decide)⟩
theorem ivX4 {g : Gm} {ws : va_W} {a : Nat} {fs : List Value} (h : invX4 g ws a fs) : inv g ws a 4 fs := ⟨fun e => absurd e (by decide), fun e => absurd e (by decide), fun e => absurd e (by decide), fun e => absurd e (by decide), fun _ => h, fun e => absurd e (by decide), fun e => absurd e (by decide), fun e => absurd e (by decide), fun e => absurd e (by decide), fun e => absurd e (by decide), fun e => absurd e (by decide), fun e => absurd e (by decide)⟩
theorem ivX5 {g : Gm} {ws : va_W} {a : Nat} {fs : List Value} (h : invX5 g ws a fs) : inv g ws a 5 fs := ⟨fun e => absurd e (by decide), fun e => absurd e (by decide), fun e => absurd e (by decide), fun e => absurd e (by decide), fun e => absurd e (by decide), fun _ => h, fun e => absurd e (by decide), fun e => absurd e (by decide), fun e => absurd e (by decide), fun e => absurd e (by decide), fun e => absurd e (by decide), fun e => absurd e (by decide)⟩
theorem ivX7 {g : Gm} {ws : va_W} {a : Nat} {fs : List Value} (h : invX7 g ws a fs) : inv g ws a 6 fs := ⟨fun e => absurd e (by decide), fun e => absurd e (by decide), fun e => absurd e (by decide), fun e => absurd e (by decide), fun e => absurd e (by decide), fun e => absurd e (by decide), fun _ => h, fun e => absurd e (by decide), fun e => absurd e (by decide), fun e => absurd e (by decide), fun e => absurd e (by decide), fun e => absurd e (by decide)⟩
theorem ivX8 {g : Gm} {ws : va_W} {a : Nat} {fs : List Value} (h : invX8 g ws a fs) : inv g ws a 7 fs := ⟨fun e => absurd e (by decide), fun e => absurd e (by decide), fun e => absurd e (by decide), fun e => absurd e (by decide), fun e => absurd e (by decide), fun e => absurd e (by decide), fun e => absurd e (by decide), fun _ => h, fun e => absurd e (by decide), fun e => absurd e (by decide), fun e => absurd e (by decide), fun e => absurd e (by decide)⟩
theorem ivX9 {g : Gm} {ws : va_W} {a : Nat} {fs : List Value} (h : invX9 g ws a fs) : inv g ws a 8 fs := ⟨fun e => absurd e (by decide), fun e => absurd e (by decide), fun e => absurd e (by decide), fun e => absurd e (by decide), fun e => absurd e (by decide), fun e => absurd e (by decide), fun e => absurd e (by decide), fun e => absurd e (by decide), fun _ => h, fun e => absurd e (by decide), fun e => absurd e (by decide), fun e => absurd e (by decide)⟩
theorem ivX10 {g : Gm} {ws : va_W} {a : Nat} {fs : List Value} (h : invX10 g ws a fs) : inv g ws a 9 fs := ⟨fun e => absurd e (by decide), fun e => absurd e (by decide), fun e => absurd e (by decide), fun e => absurd e (by decide), fun e => absurd e (by decide), fun e => absurd e (by decide), fun e => absurd e (by decide), fun e => absurd e (by decide), fun e => absurd e (by decide), fun _ => h, fun e => absurd e (by decide), fun e => absurd e (by decide)⟩
theorem ivX11 {g : Gm} {ws : va_W} {a : Nat} {fs : List Value} (h : invX11 g ws a fs) : inv g ws a 10 fs := ⟨fun e => absurd e (by decide), fun e => absurd e (by decide), fun e => absurd e (by decide), fun e => absurd e (by decide), fun e => absurd e (by decide), fun e => absurd e (by decide), fun e => absurd e (by decide), fun e => absurd e (by decide), fun e => absurd e (by decide), fun e => absurd e (by decide), fun _ => h, fun e => absurd e (by decide)⟩
theorem ivX12 {g : Gm} {ws : va_W} {a : Nat} {fs : List Value} (h : invX12 g ws a fs) : inv g ws a 11 fs := ⟨fun e => absurd e (by decide), fun e => absurd e (by decide), fun e => absurd e (by decide), fun e => absurd e (by decide), fun e => absurd e (by decide), fun e => absurd e (by decide), fun e => absurd e (by decide), fun e => absurd e (by decide), fun e => absurd e (by decide), fun e => absurd e (by decide), fun e => absurd e (by decide), fun _ => h⟩
theorem inv.mo {g : Gm} {ws ws' : va_W} {a ci : Nat} {fs : List Value} (E : gE ws ws') (h : inv g ws a ci fs) : inv g ws' a ci fs := ⟨fun e => invX0_mo E (h.hX0 e), fun e => invX1_mo E (h.hX1 e), fun e => invX2_mo E (h.hX2 e), fun e => invX3_mo E (h.hX3 e), fun e => invX4_mo E (h.hX4 e), fun e => invX5_mo E (h.hX5 e), fun e => invX7_mo E (h.hX7 e), fun e => invX8_mo E (h.hX8 e), fun e => invX9_mo E (h.hX9 e), fun e => invX10_mo E (h.hX10 e), fun e => invX11_mo E (h.hX11 e), fun e => invX12_mo E (h.hX12 e)⟩
def rin (g : Gm) (ws : va_W) (c : ClassId) (f : Nat → Option Nat) : Prop := (c = g.cU → ∀ i b, f i = some b → gC ws b 9 ∧ full ws b) ∧ (c = g.cR → ∀ i b, f i = some b → gC ws b 7)
theorem rin.mo {g : Gm} {ws ws' : va_W} {c : ClassId} {f : Nat → Option Nat} (E : gE ws ws') (h : rin g ws c f) : rin g ws' c f := ⟨fun e i b q => ⟨E.1 _ _ (h.1 e i b q).1, (h.1 e i b q).2.mo E⟩, fun e i b q => E.1 _ _ (h.2 e i b q)⟩
def Good (g : Gm) (ws : va_W) : Prop := (∀ (k a ci : Nat) (fs : List Value), ows ws k a ci fs → inv g ws a ci fs) ∧ (∀ (k a : Nat) (c : ClassId) (n : Nat) (f : Nat → Option Nat), rws ws k a c n f → rin g ws c f) ∧ (∀ (k a n : Nat) (f : Nat → Int32), iws ws k a g.cB n f → ∀ i, fits .byte (.int (f i)) = true) ∧ (g.cI ≠ g.cB ∧ g.cZ ≠ g.cB ∧ g.cU ≠ g.cR) ∧ gU ws
theorem Good.u {g : Gm} {ws : va_W} (h : Good g ws) : gU ws := h.2.2.2.2
theorem Good_set {g : Gm} {ws ws' : va_W} {k a ci fi : Nat} {v : Value} {fs fs' : List Value} (e : ws' = ws.set k (a, .inr (ci, fs'))) (hk : ows ws k a ci fs) (E : gE ws ws') (hs : fs' = fs.set fi v) (hv : okv ws ci fi v) (hG : Good g ws) (hi : inv g ws a ci fs') : Good g ws' := by
  have hl := (List.getElem?_eq_some_iff.mp hk).1
  have U : gU ws' := gU_set e hk hs hv hG.u
  clear hs
  subst e
  refine ⟨fun j b di gs h => ?_, fun j b c n f h => ?_, fun j b n f h => ?_, hG.2.2.2.1, U⟩
  · by_cases hj : j = k
    · subst hj
      rw [ows, List.getElem?_set_self hl] at h
      cases h
      exact hi.mo E
    · rw [ows, List.getElem?_set_ne (Ne.symm hj)] at h
      exact (hG.1 j b di gs h).mo E
  · by_cases hj : j = k
    · subst hj
      rw [rws, List.getElem?_set_self hl] at h
      cases h
    · rw [rws, List.getElem?_set_ne (Ne.symm hj)] at h
      exact (hG.2.1 j b c n f h).mo E
  · by_cases hj : j = k
    · subst hj
      rw [iws, List.getElem?_set_self hl] at h
      cases h
    · rw [iws, List.getElem?_set_ne (Ne.symm hj)] at h
      exact hG.2.2.1 j b n f h
theorem Good_ar {g : Gm} {ws ws' : va_W} {k a : Nat} {x x' : ClassId × vp_A} (e : ws' = ws.set k (a, .inl x')) (hk : ws[k]? = some (a, .inl x)) (hs : cw (.inl x) (.inl x')) (hG : Good g ws) (hr : ∀ c n f, x' = (c, n, .inr (.inr (.inr (.inr f)))) → rin g ws c f) (hy : ∀ n f, x' = (g.cB, n, .inl f) → ∀ i, fits .byte (.int (f i)) = true) : Good g ws' := by
  have E : gE ws ws' := gE_set e hk hs
  have U : gU ws' := gU_ar e hk hs.1 E hG.u
  have hl := (List.getElem?_eq_some_iff.mp hk).1
  subst e
  refine ⟨fun j b di gs h => ?_, fun j b c n f h => ?_, fun j b n f h => ?_, hG.2.2.2.1, U⟩
  · by_cases hj : j = k
    · subst hj
      rw [ows, List.getElem?_set_self hl] at h
      cases h
    · rw [ows, List.getElem?_set_ne (Ne.symm hj)] at h
      exact (hG.1 j b di gs h).mo E
  · by_cases hj : j = k
    · subst hj
      rw [rws, List.getElem?_set_self hl] at h
      cases h
      exact (hr _ _ _ rfl).mo E
    · rw [rws, List.getElem?_set_ne (Ne.symm hj)] at h
      exact (hG.2.1 j b c n f h).mo E
  · by_cases hj : j = k
    · subst hj
      rw [iws, List.getElem?_set_self hl] at h
      cases h
      exact hy _ _ rfl
    · rw [iws, List.getElem?_set_ne (Ne.symm hj)] at h
      exact hG.2.2.1 j b n f h
theorem gE_ari {ws ws' : va_W} {k a n : Nat} {c : ClassId} {f f' : Nat → Int32} (e : ws' = ws.set k (a, .inl (c, n, .inl f'))) (hk : iws ws k a c n f) : gE ws ws' := gE_set e hk cw_i
theorem gE_arj {ws ws' : va_W} {k a n : Nat} {c : ClassId} {f f' : Nat → Int64} (e : ws' = ws.set k (a, .inl (c, n, .inr (.inl f')))) (hk : jws ws k a c n f) : gE ws ws' := gE_set e hk cw_j
theorem gE_arr {ws ws' : va_W} {k a n i v : Nat} {c : ClassId} {f : Nat → Option Nat} (e : ws' = ws.set k (a, .inl (c, n, .inr (.inr (.inr (.inr (va_up f i (some v)))))))) (hk : rws ws k a c n f) : gE ws ws' := gE_set e hk cw_r
theorem Good_arI {g : Gm} {ws ws' : va_W} {k a n : Nat} {f f' : Nat → Int32} (e : ws' = ws.set k (a, .inl (g.cI, n, .inl f'))) (hk : iws ws k a g.cI n f) (hG : Good g ws) : Good g ws' := Good_ar e hk cw_i hG (fun _ _ _ h => by cases h) (fun _ _ h => absurd (congrArg Prod.fst h) hG.2.2.2.1.1)
theorem Good_arZ {g : Gm} {ws ws' : va_W} {k a n : Nat} {f f' : Nat → Int32} (e : ws' = ws.set k (a, .inl (g.cZ, n, .inl f'))) (hk : iws ws k a g.cZ n f) (hG : Good g ws) : Good g ws' := Good_ar e hk cw_i hG (fun _ _ _ h => by cases h) (fun _ _ h => absurd (congrArg Prod.fst h) hG.2.2.2.1.2.1)
theorem fit_nar (x : Int32) : fits .byte (.int (vp_nar .byte x)) = true := fit_b x
theorem Good_arB {g : Gm} {ws ws' : va_W} {k a n i : Nat} {x : Int32} {f : Nat → Int32} (e : ws' = ws.set k (a, .inl (g.cB, n, .inl (upd f i (vp_nar .byte x))))) (hk : iws ws k a g.cB n f) (hG : Good g ws) : Good g ws' := Good_ar e hk cw_i hG (fun _ _ _ h => by cases h) (fun n' f' h j => by
  cases h
  by_cases hj : j = i
  · subst hj; unfold upd; rw [if_pos rfl]; exact fit_nar x
  · unfold upd; rw [if_neg hj]; exact hG.2.2.1 _ _ _ _ hk j)
theorem Good_arC {g : Gm} {ws ws' : va_W} {k a n k0 a0 n0 i j l : Nat} {f f0 : Nat → Int32} (e : ws' = ws.set k (a, .inl (g.cB, n, .inl (va_cpy f0 f i j l)))) (hk : iws ws k a g.cB n f) (hG : Good g ws) (hk0 : iws ws k0 a0 g.cB n0 f0) : Good g ws' := Good_ar e hk cw_i hG (fun _ _ _ h => by cases h) (fun n' f' h q => by
  cases h
  unfold va_cpy
  split
  · exact hG.2.2.1 _ _ _ _ hk0 _
  · exact hG.2.2.1 _ _ _ _ hk q)
theorem Good_arj {g : Gm} {ws ws' : va_W} {k a n : Nat} {c : ClassId} {f f' : Nat → Int64} (e : ws' = ws.set k (a, .inl (c, n, .inr (.inl f')))) (hk : jws ws k a c n f) (hG : Good g ws) : Good g ws' := Good_ar e hk cw_j hG (fun _ _ _ h => by cases h) (fun _ _ h => by cases h)
def gQ0 (g : Gm) (A : Nat → Prop) (ws : va_W) (_ : Unit) (t : State) : Prop := va_P (gD g) cl0 ws t.heap ∧ va_D A ws
def gQ1 (g : Gm) (F C : List (Nat × Nat)) (S : Option Nat) (A : Nat → Prop) (ws : va_W) (u : va_W) (t : State) : Prop := gE ws u ∧ gF F C S ws u ∧ Good g u ∧ va_P (gD g) cl0 u t.heap ∧ va_D A u
