/-! Writer ends a file -/
def onP (ws : va_W) (h b : Nat) : Prop := ∀ (k : Nat) (fs : List Value), ows ws k h 10 fs → fs[0]? ≠ some (.ref b) ∧ fs[1]? ≠ some (.ref b) ∧ fs[2]? ≠ some (.ref b)
theorem on_ne {ws : va_W} {k h b r j : Nat} {fs : List Value} (q : onP ws h b) (hk : ows ws k h 10 fs) (hj : fs[j]? = some (.ref r)) (h3 : j = 0 ∨ j = 1 ∨ j = 2) : r ≠ b := by
  rintro rfl
  obtain ⟨q0, q1, q2⟩ := q _ _ hk
  rcases h3 with e | e | e
  · exact q0 (e ▸ hj)
  · exact q1 (e ▸ hj)
  · exact q2 (e ▸ hj)
theorem wcP_ms {A : Nat → Prop} {F C : List (Nat × Nat)} {ws ws' : va_W} {k h x kx r0 r1 r2 : Nat} {fs xs : List Value} {a b c : Int} (hF : gF F C (some x) ws ws') (hD : va_D A ws) (hk : ows ws k h 10 fs) (h0 : fs[0]? = some (.ref r0)) (h1 : fs[1]? = some (.ref r1)) (h2 : fs[2]? = some (.ref r2)) (hx : ows ws kx x 0 xs) (n0 : r0 ≠ x) (n1 : r1 ≠ x) (n2 : r2 ≠ x) (q : wcP ws h a b c) : wcP ws' h a b c := by
  obtain ⟨k', s0, s1, s2, fs2, pc, p1, p2, p3, p4, m1, m2, m3, c0, c1, c2, p5⟩ := q
  obtain rfl := gO_un hD hk p1
  rw [h0] at p2
  cases p2
  rw [h1] at p3
  cases p3
  rw [h2] at p4
  cases p4
  have hh : h ≠ x := by
    rintro rfl
    have e1 := hD.1 _ _ _ _ hk hx rfl
    subst e1
    rw [ows, hk] at hx
    cases hx
  obtain ⟨fs', q1, -, q3⟩ := hF.1 _ _ _ _ p1
  rw [q3 x rfl hh] at q1
  exact ⟨k', r0, r1, r2, fs, pc, q1, h0, h1, h2, m1, m2, m3, cnt_s hF n0 c0, cnt_s hF n1 c1, cnt_s hF n2 c2, p5⟩
