/-! the names that a file's rows of names have -/
def nlq (f : Nat → Int32) (n : Nat) (a : Int32) : Prop := 0 ≤ (jB f n (a + 1) <<< ((8 : Int32) &&& 31) ||| jB f n (a + 2)).toInt ∧ (jB f n (a + 1) <<< ((8 : Int32) &&& 31) ||| jB f n (a + 2)).toInt ≤ 100
def nlA (ws : va_W) (h j : Nat) : Prop := ∃ (f : Nat → Int32) (n k u ku r kr m : Nat) (fs us : List Value) (c : ClassId) (g : Nat → Int32), vu ws h f n ∧ ows ws k h 10 fs ∧ fs[7]? = some (.ref u) ∧ ows ws ku u 9 us ∧ us[j]? = some (.ref r) ∧ iws ws kr r c m g ∧ ∀ i : Nat, i < m → nlq f n (g i)
theorem nlA_mo {F C : List (Nat × Nat)} {S : Option Nat} {ws ws' : va_W} {h j : Nat} (hF : gF F C S ws ws') (f7 : (10, 7) ∉ F) (f0 : (9, 0) ∉ F) (c0 : (9, 0) ∉ C) (fj : (9, j) ∉ F) (cj : (9, j) ∉ C) (q : nlA ws h j) : nlA ws' h j := by
  obtain ⟨f, n, k, u, ku, r, kr, m, fs, us, c, g, p0, p1, p2, p3, p4, p5, p6⟩ := q
  obtain ⟨fs', q1, q2, -⟩ := hF.1 _ _ _ _ p1
  obtain ⟨us', q3, q4, -⟩ := hF.1 _ _ _ _ p3
  exact ⟨f, n, k, u, ku, r, kr, m, fs', us', c, g, vu_mo hF f7 f0 c0 p0, q1, (q2 7 f7).trans p2, q3, (q4 j fj).trans p4, hF.2.2 _ _ _ _ j _ _ _ p3 (Or.inl ⟨fj, cj⟩) p4 p5, p6⟩
theorem nlA_at {A : Nat → Prop} {ws : va_W} {k h u ku r kr m j : Nat} {fs us : List Value} {c : ClassId} {g : Nat → Int32} {i v : Int32} (hD : va_D A ws) (hk : ows ws k h 10 fs) (h7 : fs[7]? = some (.ref u)) (hu : ows ws ku u 9 us) (hj : us[j]? = some (.ref r)) (hr : iws ws kr r c m g) (e : v = g i.toNatClampNeg) (hi : 0 ≤ i.toInt ∧ i.toInt < m) (q : nlA ws h j) : nlP ws h v := by
  obtain ⟨f, n, k', u', ku', r', kr', m', fs', us', c', g', p0, p1, p2, p3, p4, p5, p6⟩ := q
  obtain rfl := gO_un hD hk p1
  rw [h7] at p2
  cases p2
  obtain rfl := gO_un hD hu p3
  rw [hj] at p4
  cases p4
  obtain ⟨-, rfl, rfl⟩ := iws_un hD hr p5
  exact ⟨f, n, p0, by rw [e]; exact p6 _ (by rw [cN]; omega)⟩
abbrev nlA5 (ws : va_W) (h : Nat) : Prop := nlA ws h 5
theorem nlA5_mo {F C : List (Nat × Nat)} {S : Option Nat} {ws ws' : va_W} {h : Nat} (hF : gF F C S ws ws') (f7 : (10, 7) ∉ F) (f0 : (9, 0) ∉ F) (c0 : (9, 0) ∉ C) (fj : (9, 5) ∉ F) (cj : (9, 5) ∉ C) (q : nlA5 ws h) : nlA5 ws' h := nlA_mo hF f7 f0 c0 fj cj q
abbrev nlA6 (ws : va_W) (h : Nat) : Prop := nlA ws h 6
theorem nlA6_mo {F C : List (Nat × Nat)} {S : Option Nat} {ws ws' : va_W} {h : Nat} (hF : gF F C S ws ws') (f7 : (10, 7) ∉ F) (f0 : (9, 0) ∉ F) (c0 : (9, 0) ∉ C) (fj : (9, 6) ∉ F) (cj : (9, 6) ∉ C) (q : nlA6 ws h) : nlA6 ws' h := nlA_mo hF f7 f0 c0 fj cj q
abbrev nlA9 (ws : va_W) (h : Nat) : Prop := nlA ws h 9
theorem nlA9_mo {F C : List (Nat × Nat)} {S : Option Nat} {ws ws' : va_W} {h : Nat} (hF : gF F C S ws ws') (f7 : (10, 7) ∉ F) (f0 : (9, 0) ∉ F) (c0 : (9, 0) ∉ C) (fj : (9, 9) ∉ F) (cj : (9, 9) ∉ C) (q : nlA9 ws h) : nlA9 ws' h := nlA_mo hF f7 f0 c0 fj cj q
abbrev nlA10 (ws : va_W) (h : Nat) : Prop := nlA ws h 10
theorem nlA10_mo {F C : List (Nat × Nat)} {S : Option Nat} {ws ws' : va_W} {h : Nat} (hF : gF F C S ws ws') (f7 : (10, 7) ∉ F) (f0 : (9, 0) ∉ F) (c0 : (9, 0) ∉ C) (fj : (9, 10) ∉ F) (cj : (9, 10) ∉ C) (q : nlA10 ws h) : nlA10 ws' h := nlA_mo hF f7 f0 c0 fj cj q
