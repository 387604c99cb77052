/-! the names of a file have at most 100 letters -/
def vu (ws : va_W) (h : Nat) (f : Nat → Int32) (n : Nat) : Prop := ∃ (k u ku rd kd : Nat) (fs us : List Value) (c : ClassId), ows ws k h 10 fs ∧ fs[7]? = some (.ref u) ∧ ows ws ku u 9 us ∧ us[0]? = some (.ref rd) ∧ iws ws kd rd c n f
theorem vu_mo {F C : List (Nat × Nat)} {S : Option Nat} {ws ws' : va_W} {h n : Nat} {f : Nat → Int32} (hF : gF F C S ws ws') (f7 : (10, 7) ∉ F) (f0 : (9, 0) ∉ F) (c0 : (9, 0) ∉ C) (q : vu ws h f n) : vu ws' h f n := by
  obtain ⟨k, u, ku, rd, kd, fs, us, c, p1, p2, p3, p4, p5⟩ := q
  obtain ⟨fs', q1, q2, -⟩ := hF.1 _ _ _ _ p1
  obtain ⟨us', q3, q4, -⟩ := hF.1 _ _ _ _ p3
  exact ⟨k, u, ku, rd, kd, fs', us', c, q1, (q2 7 f7).trans p2, q3, (q4 0 f0).trans p4, hF.2.2 _ _ _ _ 0 _ _ _ p3 (Or.inl ⟨f0, c0⟩) p4 p5⟩
theorem vu_un {A : Nat → Prop} {ws : va_W} {k h u ku rd kd n n' : Nat} {fs us : List Value} {c : ClassId} {f f' : Nat → Int32} (hD : va_D A ws) (hk : ows ws k h 10 fs) (h7 : fs[7]? = some (.ref u)) (hu : ows ws ku u 9 us) (h0 : us[0]? = some (.ref rd)) (hf : iws ws kd rd c n f) (q : vu ws h f' n') : f' = f ∧ n' = n := by
  obtain ⟨k', u', ku', rd', kd', fs', us', c', p1, p2, p3, p4, p5⟩ := q
  obtain rfl := gO_un hD hk p1
  rw [h7] at p2
  cases p2
  obtain rfl := gO_un hD hu p3
  rw [h0] at p4
  cases p4
  have e2 := hD.1 _ _ _ _ hf p5 rfl
  subst e2
  rw [iws, hf] at p5
  cases p5
  exact ⟨rfl, rfl⟩
theorem vu_n {A : Nat → Prop} {ws : va_W} {k h u ku rd n n' : Nat} {fs us : List Value} {c : ClassId} {f' : Nat → Int32} (hD : va_D A ws) (hk : ows ws k h 10 fs) (h7 : fs[7]? = some (.ref u)) (hu : ows ws ku u 9 us) (h0 : us[0]? = some (.ref rd)) (hf : gI ws rd c n) (q : vu ws h f' n') : n' = n := by
  obtain ⟨k', u', ku', rd', kd', fs', us', c', p1, p2, p3, p4, p5⟩ := q
  obtain rfl := gO_un hD hk p1
  rw [h7] at p2
  cases p2
  obtain rfl := gO_un hD hu p3
  rw [h0] at p4
  cases p4
  exact gI_n hD (⟨kd', _, p5, rfl⟩ : gI ws rd c' n') hf
def jB (f : Nat → Int32) (n : Nat) (i : Int32) : Int32 := if i.toInt < 0 ∨ (n : Int) ≤ i.toInt then 0 else f i.toNatClampNeg &&& 255
/-- the name at a place has at most 100 letters -/
def nlP (ws : va_W) (h : Nat) (a : Int32) : Prop := ∃ (f : Nat → Int32) (n : Nat), vu ws h f n ∧ 0 ≤ (jB f n (a + 1) <<< ((8 : Int32) &&& 31) ||| jB f n (a + 2)).toInt ∧ (jB f n (a + 1) <<< ((8 : Int32) &&& 31) ||| jB f n (a + 2)).toInt ≤ 100
theorem nlP_mo {F C : List (Nat × Nat)} {S : Option Nat} {ws ws' : va_W} {h : Nat} {a : Int32} (hF : gF F C S ws ws') (f7 : (10, 7) ∉ F) (f0 : (9, 0) ∉ F) (c0 : (9, 0) ∉ C) (q : nlP ws h a) : nlP ws' h a := by
  obtain ⟨f, n, p1, p2⟩ := q
  exact ⟨f, n, vu_mo hF f7 f0 c0 p1, p2⟩
theorem nlP_of {ws : va_W} {h : Nat} {a r1 r2 z1 z2 w z : Int32} (h1 : ∀ (f : Nat → Int32) (n : Nat), vu ws h f n → r1 = jB f n z1) (h2 : ∀ (f : Nat → Int32) (n : Nat), vu ws h f n → r2 = jB f n z2) (e1 : z1 = a + 1) (e2 : z2 = a + 2) (ew : w = r1 <<< ((8 : Int32) &&& 31)) (ez : z = w ||| r2) (q : nlP ws h a) : 0 ≤ z.toInt ∧ z.toInt ≤ 100 := by
  obtain ⟨f, n, p1, p2⟩ := q
  rw [ez, ew, h1 _ _ p1, h2 _ _ p1, e1, e2]
  exact p2
