/-! Writer: how much its three rows hold at most -/
def cnt (ws : va_W) (r : Nat) (a : Int) : Prop := ∃ (k : Nat) (fs : List Value) (c : Int32), ows ws k r 0 fs ∧ fs[1]? = some (.int c) ∧ c.toInt ≤ a
theorem cnt_of {A : Nat → Prop} {ws : va_W} {k r : Nat} {fs : List Value} {c : Int32} {a : Int} (hD : va_D A ws) (hk : ows ws k r 0 fs) (h1 : fs[1]? = some (.int c)) (q : cnt ws r a) : c.toInt ≤ a := by
  obtain ⟨k', fs', c', p1, p2, p3⟩ := q
  obtain rfl := gO_un hD hk p1
  rw [h1] at p2
  cases p2
  exact p3
theorem cnt_le {ws : va_W} {r : Nat} {a b : Int} (q : cnt ws r a) (h : a ≤ b) : cnt ws r b := by
  obtain ⟨k', fs', c', p1, p2, p3⟩ := q
  exact ⟨k', fs', c', p1, p2, by omega⟩
theorem cnt_s {F C : List (Nat × Nat)} {ws ws' : va_W} {r b : Nat} {a : Int} (hF : gF F C (some b) ws ws') (hn : r ≠ b) (q : cnt ws r a) : cnt ws' r a := by
  obtain ⟨k, fs, c, p1, p2, p3⟩ := q
  obtain ⟨fs', q1, -, q3⟩ := hF.1 _ _ _ _ p1
  rw [q3 b rfl hn] at q1
  exact ⟨k, fs, c, q1, p2, p3⟩
theorem cnt_mo {F C : List (Nat × Nat)} {S : Option Nat} {ws ws' : va_W} {r : Nat} {a : Int} (hF : gF F C S ws ws') (h1 : (0, 1) ∉ F) (q : cnt ws r a) : cnt ws' r a := by
  obtain ⟨k, fs, c, p1, p2, p3⟩ := q
  obtain ⟨fs', q1, q2, -⟩ := hF.1 _ _ _ _ p1
  exact ⟨k, fs', c, q1, (q2 1 h1).trans p2, p3⟩
theorem cnt_p {F C : List (Nat × Nat)} {S : Option Nat} {ws ws' : va_W} {r : Nat} {a b : Int} (hF : gF F C S ws ws') (hp : gP ws' r (fun fs => ∀ c : Int32, fs[1]? = some (.int c) → c.toInt ≤ b)) (hc : ∀ fs k, ows ws' k r 0 fs → ∃ c : Int32, fs[1]? = some (.int c)) (q : cnt ws r a) : cnt ws' r b := by
  obtain ⟨k, fs, c, p1, p2, p3⟩ := q
  obtain ⟨fs', q1, q2, -⟩ := hF.1 _ _ _ _ p1
  obtain ⟨c', hc'⟩ := hc _ _ q1
  exact ⟨k, fs', c', q1, hc', hp _ _ _ q1 c' hc'⟩
/-- the pool holds at most 103 bytes an entry, and a more -/
def wcP (ws : va_W) (h : Nat) (a b c : Int) : Prop := ∃ (k r0 r1 r2 : Nat) (fs : List Value) (pc : Int32), ows ws k h 10 fs ∧ fs[0]? = some (.ref r0) ∧ fs[1]? = some (.ref r1) ∧ fs[2]? = some (.ref r2) ∧ r0 ≠ r1 ∧ r0 ≠ r2 ∧ r1 ≠ r2 ∧ cnt ws r0 (103 * pc.toInt + a) ∧ cnt ws r1 b ∧ cnt ws r2 c ∧ fs[5]? = some (.int pc)
theorem wcP_mo {F C : List (Nat × Nat)} {S : Option Nat} {ws ws' : va_W} {h : Nat} {a b c : Int} (hF : gF F C S ws ws') (f0 : (10, 0) ∉ F) (f1 : (10, 1) ∉ F) (f2 : (10, 2) ∉ F) (g1 : (0, 1) ∉ F) (f5 : (10, 5) ∉ F) (q : wcP ws h a b c) : wcP ws' h a b c := by
  obtain ⟨k, r0, r1, r2, fs, pc, p1, p2, p3, p4, n1, n2, n3, c0, c1, c2, p5⟩ := q
  obtain ⟨fs', q1, q2, -⟩ := hF.1 _ _ _ _ p1
  exact ⟨k, r0, r1, r2, fs', pc, q1, (q2 0 f0).trans p2, (q2 1 f1).trans p3, (q2 2 f2).trans p4, n1, n2, n3, cnt_mo hF g1 c0, cnt_mo hF g1 c1, cnt_mo hF g1 c2, (q2 5 f5).trans p5⟩
theorem wcP_le {ws : va_W} {h : Nat} {a b c a' b' c' : Int} (h0 : a ≤ a') (h1 : b ≤ b') (h2 : c ≤ c') (q : wcP ws h a b c) : wcP ws h a' b' c' := by
  obtain ⟨k, r0, r1, r2, fs, pc, p1, p2, p3, p4, n1, n2, n3, c0, c1, c2, p5⟩ := q
  exact ⟨k, r0, r1, r2, fs, pc, p1, p2, p3, p4, n1, n2, n3, cnt_le c0 (by omega), cnt_le c1 h1, cnt_le c2 h2, p5⟩
/-- an entry more -/
theorem wcP_pc {A : Nat → Prop} {ws ws' : va_W} {k h : Nat} {fs fs' : List Value} {p p' : Int32} {a b c : Int} (ew : ws' = ws.set k (h, .inr (10, fs'))) (hD : va_D A ws) (hk : ows ws k h 10 fs) (hs : fs' = fs.set 5 (.int p')) (h5 : fs[5]? = some (.int p)) (hp : p.toInt + 1 ≤ p'.toInt) (q : wcP ws h a b c) : wcP ws' h (a - 103) b c := by
  obtain ⟨k', r0, r1, r2, fs2, pc, p1, p2, p3, p4, n1, n2, n3, c0, c1, c2, p5⟩ := q
  have e1 := hD.1 _ _ _ _ hk p1 rfl
  subst e1
  obtain ⟨-, -, e2⟩ := ows_one hk p1
  subst e2
  rw [h5] at p5
  cases p5
  have mv : ∀ {r : Nat} {x : Int}, cnt ws r x → cnt ws' r x := fun {r x} ⟨k1, f1, c1, y1, y2, y3⟩ => ⟨k1, f1, c1, gset_ob ew hk y1 (by decide), y2, y3⟩
  exact ⟨k, r0, r1, r2, fs', p', gset_self ew hk, by rw [hs, List.getElem?_set_ne (by decide)]; exact p2, by rw [hs, List.getElem?_set_ne (by decide)]; exact p3, by rw [hs, List.getElem?_set_ne (by decide)]; exact p4, n1, n2, n3, cnt_le (mv c0) (by omega), mv c1, mv c2, by rw [hs, List.getElem?_set_self (List.getElem?_eq_some_iff.mp h5).1]⟩
theorem iX0 {g : Gm} {ws : va_W} {r : Nat} (hG : Good g ws) : ∀ (fs : List Value) (k : Nat), ows ws k r 0 fs → ∃ c : Int32, fs[1]? = some (.int c) := fun fs k hk => by
  obtain ⟨r0, n0, c1, rfl, -⟩ := (hG.1 _ _ _ _ hk).hX0 rfl
  exact ⟨c1, rfl⟩
theorem wcP_u0 {A : Nat → Prop} {ws : va_W} {k h r kr : Nat} {fs gs : List Value} {x : Int32} {p : Int32} {a b c : Int} (hD : va_D A ws) (hk : ows ws k h 10 fs) (h0 : fs[0]? = some (.ref r)) (hr : ows ws kr r 0 gs) (h1 : gs[1]? = some (.int x)) (h5 : fs[5]? = some (.int p)) (q : wcP ws h a b c) : x.toInt ≤ 103 * p.toInt + a := by
  obtain ⟨k', r0, r1, r2, fs', pc, p1, p2, p3, p4, n1, n2, n3, c0, c1, c2, p5⟩ := q
  obtain rfl := gO_un hD hk p1
  rw [h0] at p2
  cases p2
  rw [h5] at p5
  cases p5
  exact cnt_of hD hr h1 c0
theorem wcP_0 {A : Nat → Prop} {g : Gm} {F C : List (Nat × Nat)} {ws ws' : va_W} {k h r : Nat} {fs : List Value} {p : Int32} {a b c m : Int} (hD : va_D A ws) (hG : Good g ws') (hF : gF F C (some r) ws ws') (f0 : (10, 0) ∉ F) (f1 : (10, 1) ∉ F) (f2 : (10, 2) ∉ F) (f5 : (10, 5) ∉ F) (hk : ows ws k h 10 fs) (h0 : fs[0]? = some (.ref r)) (h5 : fs[5]? = some (.int p)) (hp : gP ws' r (fun fs => ∀ c : Int32, fs[1]? = some (.int c) → c.toInt ≤ 103 * p.toInt + m)) (q : wcP ws h a b c) : wcP ws' h m b c := by
  obtain ⟨k', r0, r1, r2, fs', pc, p1, p2, p3, p4, n1, n2, n3, c0, c1, c2, p5⟩ := q
  obtain rfl := gO_un hD hk p1
  rw [h0] at p2
  cases p2
  rw [h5] at p5
  cases p5
  obtain ⟨fs2, q1, q2, -⟩ := hF.1 _ _ _ _ p1
  exact ⟨k', r, r1, r2, fs2, p, q1, (q2 0 f0).trans h0, (q2 1 f1).trans p3, (q2 2 f2).trans p4, n1, n2, n3, cnt_p hF hp (iX0 hG) c0, cnt_s hF n1.symm c1, cnt_s hF n2.symm c2, (q2 5 f5).trans h5⟩
theorem wcP_u1 {A : Nat → Prop} {ws : va_W} {k h r kr : Nat} {fs gs : List Value} {x : Int32} {a b c : Int} (hD : va_D A ws) (hk : ows ws k h 10 fs) (h0 : fs[1]? = some (.ref r)) (hr : ows ws kr r 0 gs) (h1 : gs[1]? = some (.int x)) (q : wcP ws h a b c) : x.toInt ≤ b := by
  obtain ⟨k', r0, r1, r2, fs', pc, p1, p2, p3, p4, n1, n2, n3, c0, c1, c2, p5⟩ := q
  obtain rfl := gO_un hD hk p1
  rw [h0] at p3
  cases p3
  exact cnt_of hD hr h1 c1
theorem wcP_1 {A : Nat → Prop} {g : Gm} {F C : List (Nat × Nat)} {ws ws' : va_W} {k h r : Nat} {fs : List Value} {a b c m : Int} (hD : va_D A ws) (hG : Good g ws') (hF : gF F C (some r) ws ws') (f0 : (10, 0) ∉ F) (f1 : (10, 1) ∉ F) (f2 : (10, 2) ∉ F) (f5 : (10, 5) ∉ F) (hk : ows ws k h 10 fs) (h0 : fs[1]? = some (.ref r)) (hp : gP ws' r (fun fs => ∀ c : Int32, fs[1]? = some (.int c) → c.toInt ≤ m)) (q : wcP ws h a b c) : wcP ws' h a m c := by
  obtain ⟨k', r0, r1, r2, fs', pc, p1, p2, p3, p4, n1, n2, n3, c0, c1, c2, p5⟩ := q
  obtain rfl := gO_un hD hk p1
  rw [h0] at p3
  cases p3
  obtain ⟨fs2, q1, q2, -⟩ := hF.1 _ _ _ _ p1
  exact ⟨k', r0, r, r2, fs2, pc, q1, (q2 0 f0).trans p2, (q2 1 f1).trans h0, (q2 2 f2).trans p4, n1, n2, n3, cnt_s hF n1 c0, cnt_p hF hp (iX0 hG) c1, cnt_s hF n3.symm c2, (q2 5 f5).trans p5⟩
theorem wcP_u2 {A : Nat → Prop} {ws : va_W} {k h r kr : Nat} {fs gs : List Value} {x : Int32} {a b c : Int} (hD : va_D A ws) (hk : ows ws k h 10 fs) (h0 : fs[2]? = some (.ref r)) (hr : ows ws kr r 0 gs) (h1 : gs[1]? = some (.int x)) (q : wcP ws h a b c) : x.toInt ≤ c := by
  obtain ⟨k', r0, r1, r2, fs', pc, p1, p2, p3, p4, n1, n2, n3, c0, c1, c2, p5⟩ := q
  obtain rfl := gO_un hD hk p1
  rw [h0] at p4
  cases p4
  exact cnt_of hD hr h1 c2
theorem wcP_2 {A : Nat → Prop} {g : Gm} {F C : List (Nat × Nat)} {ws ws' : va_W} {k h r : Nat} {fs : List Value} {a b c m : Int} (hD : va_D A ws) (hG : Good g ws') (hF : gF F C (some r) ws ws') (f0 : (10, 0) ∉ F) (f1 : (10, 1) ∉ F) (f2 : (10, 2) ∉ F) (f5 : (10, 5) ∉ F) (hk : ows ws k h 10 fs) (h0 : fs[2]? = some (.ref r)) (hp : gP ws' r (fun fs => ∀ c : Int32, fs[1]? = some (.int c) → c.toInt ≤ m)) (q : wcP ws h a b c) : wcP ws' h a b m := by
  obtain ⟨k', r0, r1, r2, fs', pc, p1, p2, p3, p4, n1, n2, n3, c0, c1, c2, p5⟩ := q
  obtain rfl := gO_un hD hk p1
  rw [h0] at p4
  cases p4
  obtain ⟨fs2, q1, q2, -⟩ := hF.1 _ _ _ _ p1
  exact ⟨k', r0, r1, r, fs2, pc, q1, (q2 0 f0).trans p2, (q2 1 f1).trans p3, (q2 2 f2).trans h0, n1, n2, n3, cnt_s hF n2 c0, cnt_s hF n3 c1, cnt_p hF hp (iX0 hG) c2, (q2 5 f5).trans p5⟩
