/-! Graph at rest; the rows of the files -/
def EZ (N c : Int) (n : Nat) (f : Nat → Int32) : Prop := c ≤ 0 ∨ EW N c n f
def ER (N _c : Int) (n : Nat) (_f : Nat → Int32) : Prop := N ≤ n ∧ n ≤ 49152
def CL (c : Int) (n : Nat) (_f : Nat → Int32) : Prop := c ≤ n
def grR (ws : va_W) (h : Nat) : Prop := ∃ N : Int, aC4 ws h (EZ N) ∧ aC5 ws h (ER N) ∧ aC2 ws h CL ∧ aC8 ws h CL
def tpG (ws : va_W) (h : Nat) : Prop := ∃ (k r : Nat) (fs : List Value), ows ws k h 11 fs ∧ fs[8]? = some (.ref r) ∧ grR ws r
def rvM (ws : va_W) (u : Nat) : Prop := ∃ (ku rr kr n : Nat) (us : List Value) (c : ClassId) (f : Nat → Option Nat), ows ws ku u 9 us ∧ us[13]? = some (.ref rr) ∧ rws ws kr rr c n f ∧ ∀ i b, i < n → f i = some b → rowC ws b RV
def tpR (ws : va_W) (h : Nat) : Prop := ∃ (k ra ka n : Nat) (fs : List Value) (c : ClassId) (f : Nat → Option Nat), ows ws k h 11 fs ∧ fs[3]? = some (.ref ra) ∧ rws ws ka ra c n f ∧ ∀ i u, f i = some u → rvM ws u
def unI (ws : va_W) (h u : Nat) : Prop := ∃ (k ra ka n i : Nat) (fs : List Value) (c : ClassId) (f : Nat → Option Nat), ows ws k h 11 fs ∧ fs[3]? = some (.ref ra) ∧ rws ws ka ra c n f ∧ f i = some u
def rwT (ws : va_W) (h b : Nat) : Prop := ∃ u, unI ws h u ∧ rwI ws u b
section MOZ
variable {F C : List (Nat × Nat)} {S : Option Nat} {ws ws' : va_W} {h u : Nat}
theorem grR_mo (hF : gF F C S ws ws') (f1 : (3, 1) ∉ F) (f4 : (3, 4) ∉ F) (c4 : (3, 4) ∉ C) (f5 : (3, 5) ∉ F) (c5 : (3, 5) ∉ C) (f2 : (3, 2) ∉ F) (c2 : (3, 2) ∉ C) (f8 : (3, 8) ∉ F) (c8 : (3, 8) ∉ C) (q : grR ws h) : grR ws' h := by
  obtain ⟨N, q1, q2, q3, q4⟩ := q
  exact ⟨N, aC_mo hF f1 f4 c4 q1, aC_mo hF f1 f5 c5 q2, aC_mo hF f1 f2 c2 q3, aC_mo hF f1 f8 c8 q4⟩
theorem tpG_mo (hF : gF F C S ws ws') (g8 : (11, 8) ∉ F) (f1 : (3, 1) ∉ F) (f4 : (3, 4) ∉ F) (c4 : (3, 4) ∉ C) (f5 : (3, 5) ∉ F) (c5 : (3, 5) ∉ C) (f2 : (3, 2) ∉ F) (c2 : (3, 2) ∉ C) (f8 : (3, 8) ∉ F) (c8 : (3, 8) ∉ C) (q : tpG ws h) : tpG ws' h := by
  obtain ⟨k, r, fs, p1, p2, p3⟩ := q
  obtain ⟨fs', q1, q2, -⟩ := hF.1 _ _ _ _ p1
  exact ⟨k, r, fs', q1, (q2 8 g8).trans p2, grR_mo hF f1 f4 c4 f5 c5 f2 c2 f8 c8 p3⟩
theorem rvM_mo (hF : gF F C S ws ws') (h0 : (7, 0) ∉ F) (h1 : (7, 1) ∉ F) (h2 : (7, 2) ∉ F) (h3 : (7, 3) ∉ F) (h4 : (7, 4) ∉ F) (c0 : (7, 0) ∉ C) (c1 : (7, 1) ∉ C) (c3 : (7, 3) ∉ C) (f13 : (9, 13) ∉ F) (c13 : (9, 13) ∉ C) (q : rvM ws u) : rvM ws' u := by
  obtain ⟨ku, rr, kr, n, us, c, f, p1, p2, p3, p4⟩ := q
  obtain ⟨us', q1, q2, -⟩ := hF.1 _ _ _ _ p1
  exact ⟨ku, rr, kr, n, us', c, f, q1, (q2 13 f13).trans p2, hF.2.2 _ _ _ _ 13 _ _ _ p1 (Or.inl ⟨f13, c13⟩) p2 p3, fun i b hi hb => rowC_mo hF h0 h1 h2 h3 h4 c0 c1 c3 (p4 i b hi hb)⟩
theorem tpR_mo (hF : gF F C S ws ws') (h0 : (7, 0) ∉ F) (h1 : (7, 1) ∉ F) (h2 : (7, 2) ∉ F) (h3 : (7, 3) ∉ F) (h4 : (7, 4) ∉ F) (c0 : (7, 0) ∉ C) (c1 : (7, 1) ∉ C) (c3 : (7, 3) ∉ C) (f13 : (9, 13) ∉ F) (c13 : (9, 13) ∉ C) (g3 : (11, 3) ∉ F) (d3 : (11, 3) ∉ C) (q : tpR ws h) : tpR ws' h := by
  obtain ⟨k, ra, ka, n, fs, c, f, p1, p2, p3, p4⟩ := q
  obtain ⟨fs', q1, q2, -⟩ := hF.1 _ _ _ _ p1
  exact ⟨k, ra, ka, n, fs', c, f, q1, (q2 3 g3).trans p2, hF.2.2 _ _ _ _ 3 _ _ _ p1 (Or.inl ⟨g3, d3⟩) p2 p3, fun i u hu => rvM_mo hF h0 h1 h2 h3 h4 c0 c1 c3 f13 c13 (p4 i u hu)⟩
end MOZ
theorem tpR_u {A : Nat → Prop} {ws : va_W} {h u : Nat} (hD : va_D A ws) (q : tpR ws h) (r : unI ws h u) : rvM ws u := by
  obtain ⟨k, ra, ka, n, fs, c, f, p1, p2, p3, p4⟩ := q
  obtain ⟨k', ra', ka', n', i, fs', c', f', q1, q2, q3, q4⟩ := r
  obtain rfl := gO_un hD p1 q1
  rw [p2] at q2
  cases q2
  have e := hD.1 _ _ _ _ p3 q3 rfl
  subst e
  rw [rws, p3] at q3
  cases q3
  exact p4 i u q4
theorem rvM_b {A : Nat → Prop} {ws : va_W} {u b : Nat} (hD : va_D A ws) (q : rvM ws u) (r : rwI ws u b) : rowC ws b RV := by
  obtain ⟨ku, rr, kr, n, us, c, f, p1, p2, p3, p4⟩ := q
  obtain ⟨ku', rr', kr', n', i, us', c', f', q1, q2, q3, q4, q5⟩ := r
  obtain rfl := gO_un hD p1 q1
  rw [p2] at q2
  cases q2
  have e := hD.1 _ _ _ _ p3 q3 rfl
  subst e
  rw [rws, p3] at q3
  cases q3
  exact p4 i b q4 q5
theorem tpR_row {A : Nat → Prop} {ws : va_W} {h b : Nat} (hD : va_D A ws) (q : tpR ws h) (r : rwT ws h b) : rowC ws b RV := by
  obtain ⟨u, r1, r2⟩ := r
  exact rvM_b hD (tpR_u hD q r1) r2
theorem tpG_at {A : Nat → Prop} {ws : va_W} {k h r : Nat} {fs : List Value} (hD : va_D A ws) (hk : ows ws k h 11 fs) (h8 : fs[8]? = some (.ref r)) (q : tpG ws h) : grR ws r := by
  obtain ⟨k', r', fs', p1, p2, p3⟩ := q
  obtain rfl := gO_un hD hk p1
  rw [h8] at p2
  cases p2
  exact p3
theorem grR_n {A : Nat → Prop} {ws : va_W} {k h r2 r8 r5 k2 k8 k5 n2 n8 n5 : Nat} {fs : List Value} {c1 : Int32} {d2 d8 d5 : ClassId} {f2 f8 f5 : Nat → Int32} (hD : va_D A ws) (hk : ows ws k h 3 fs) (h1 : fs[1]? = some (.int c1)) (h2 : fs[2]? = some (.ref r2)) (h8 : fs[8]? = some (.ref r8)) (h5 : fs[5]? = some (.ref r5)) (a2 : iws ws k2 r2 d2 n2 f2) (a8 : iws ws k8 r8 d8 n8 f8) (a5 : iws ws k5 r5 d5 n5 f5) (q : grR ws h) : c1.toInt ≤ n2 ∧ c1.toInt ≤ n8 ∧ n5 ≤ 49152 := by
  obtain ⟨N, q1, q2, q3, q4⟩ := q
  exact ⟨aC_at hD hk h1 h2 a2 q3, aC_at hD hk h1 h8 a8 q4, (aC_at hD hk h1 h5 a5 q2).2⟩
