/-! Writer begins a file -/
def nlI (ws : va_W) (h j : Nat) : Prop := ∃ (f : Nat → Int32) (n k u ku : Nat) (fs us : List Value) (x : Int32), vu ws h f n ∧ ows ws k h 10 fs ∧ fs[7]? = some (.ref u) ∧ ows ws ku u 9 us ∧ us[j]? = some (.int x) ∧ nlq f n x
theorem nlI_mo {F C : List (Nat × Nat)} {S : Option Nat} {ws ws' : va_W} {h j : Nat} (hF : gF F C S ws ws') (f7 : (10, 7) ∉ F) (f0 : (9, 0) ∉ F) (c0 : (9, 0) ∉ C) (fj : (9, j) ∉ F) (q : nlI ws h j) : nlI ws' h j := by
  obtain ⟨f, n, k, u, ku, fs, us, x, p0, p1, p2, p3, p4, p5⟩ := q
  obtain ⟨fs', q1, q2, -⟩ := hF.1 _ _ _ _ p1
  obtain ⟨us', q3, q4, -⟩ := hF.1 _ _ _ _ p3
  exact ⟨f, n, k, u, ku, fs', us', x, vu_mo hF f7 f0 c0 p0, q1, (q2 7 f7).trans p2, q3, (q4 j fj).trans p4, p5⟩
theorem nlI_at {A : Nat → Prop} {ws : va_W} {k h u ku j : Nat} {fs us : List Value} {v : Int32} (hD : va_D A ws) (hk : ows ws k h 10 fs) (h7 : fs[7]? = some (.ref u)) (hu : ows ws ku u 9 us) (hj : us[j]? = some (.int v)) (q : nlI ws h j) : nlP ws h v := by
  obtain ⟨f, n, k', u', ku', fs', us', x, p0, p1, p2, p3, p4, p5⟩ := q
  obtain rfl := gO_un hD hk p1
  rw [h7] at p2
  cases p2
  obtain rfl := gO_un hD hu p3
  rw [hj] at p4
  cases p4
  exact ⟨f, n, p0, p5⟩
abbrev nlI2 (ws : va_W) (h : Nat) : Prop := nlI ws h 2
theorem nlI2_mo {F C : List (Nat × Nat)} {S : Option Nat} {ws ws' : va_W} {h : Nat} (hF : gF F C S ws ws') (f7 : (10, 7) ∉ F) (f0 : (9, 0) ∉ F) (c0 : (9, 0) ∉ C) (fj : (9, 2) ∉ F) (q : nlI2 ws h) : nlI2 ws' h := nlI_mo hF f7 f0 c0 fj q
abbrev nlI3 (ws : va_W) (h : Nat) : Prop := nlI ws h 3
theorem nlI3_mo {F C : List (Nat × Nat)} {S : Option Nat} {ws ws' : va_W} {h : Nat} (hF : gF F C S ws ws') (f7 : (10, 7) ∉ F) (f0 : (9, 0) ∉ F) (c0 : (9, 0) ∉ C) (fj : (9, 3) ∉ F) (q : nlI3 ws h) : nlI3 ws' h := nlI_mo hF f7 f0 c0 fj q
/-- a file whose names are short -/
def nuU (ws : va_W) (u : Nat) : Prop := ∃ (ku rd kd n : Nat) (us : List Value) (c : ClassId) (f : Nat → Int32), ows ws ku u 9 us ∧ us[0]? = some (.ref rd) ∧ iws ws kd rd c n f ∧ (∀ j, j ∈ [5, 6, 9, 10] → ∃ (r kr m : Nat) (c : ClassId) (g : Nat → Int32), us[j]? = some (.ref r) ∧ iws ws kr r c m g ∧ ∀ i : Nat, i < m → nlq f n (g i)) ∧ ∀ j, j ∈ [2, 3] → ∃ x : Int32, us[j]? = some (.int x) ∧ nlq f n x
theorem nuU_mo {F C : List (Nat × Nat)} {S : Option Nat} {ws ws' : va_W} {u : Nat} (hF : gF F C S ws ws') (f0 : (9, 0) ∉ F) (c0 : (9, 0) ∉ C) (f5 : (9, 5) ∉ F) (c5 : (9, 5) ∉ C) (f6 : (9, 6) ∉ F) (c6 : (9, 6) ∉ C) (f9 : (9, 9) ∉ F) (c9 : (9, 9) ∉ C) (f10 : (9, 10) ∉ F) (c10 : (9, 10) ∉ C) (f2 : (9, 2) ∉ F) (f3 : (9, 3) ∉ F) (q : nuU ws u) : nuU ws' u := by
  obtain ⟨ku, rd, kd, n, us, c, f, p1, p2, p3, p4, p5⟩ := q
  obtain ⟨us', q1, q2, -⟩ := hF.1 _ _ _ _ p1
  refine ⟨ku, rd, kd, n, us', c, f, q1, (q2 0 f0).trans p2, hF.2.2 _ _ _ _ 0 _ _ _ p1 (Or.inl ⟨f0, c0⟩) p2 p3, fun j hj => ?_, fun j hj => ?_⟩
  · obtain ⟨r, kr, m, c', g, w1, w2, w3⟩ := p4 j hj
    have hh : (9, j) ∉ F ∧ (9, j) ∉ C := by
      rcases hj with _ | ⟨_, hj⟩
      · exact ⟨f5, c5⟩
      · rcases hj with _ | ⟨_, hj⟩
        · exact ⟨f6, c6⟩
        · rcases hj with _ | ⟨_, hj⟩
          · exact ⟨f9, c9⟩
          · rcases hj with _ | ⟨_, hj⟩
            · exact ⟨f10, c10⟩
            · cases hj
    exact ⟨r, kr, m, c', g, (q2 j hh.1).trans w1, hF.2.2 _ _ _ _ j _ _ _ p1 (Or.inl hh) w1 w2, w3⟩
  · obtain ⟨x, w1, w2⟩ := p5 j hj
    have hh : (9, j) ∉ F := by
      rcases hj with _ | ⟨_, hj⟩
      · exact f2
      · rcases hj with _ | ⟨_, hj⟩
        · exact f3
        · cases hj
    exact ⟨x, (q2 j hh).trans w1, w2⟩
theorem nuU_A {ws : va_W} {k h u j : Nat} {fs : List Value} (hk : ows ws k h 10 fs) (h7 : fs[7]? = some (.ref u)) (hj : j ∈ [5, 6, 9, 10]) (q : nuU ws u) : nlA ws h j := by
  obtain ⟨ku, rd, kd, n, us, c, f, p1, p2, p3, p4, p5⟩ := q
  obtain ⟨r, kr, m, c', g, w1, w2, w3⟩ := p4 j hj
  exact ⟨f, n, k, u, ku, r, kr, m, fs, us, c', g, ⟨k, u, ku, rd, kd, fs, us, c, hk, h7, p1, p2, p3⟩, hk, h7, p1, w1, w2, w3⟩
theorem nuU_I {ws : va_W} {k h u j : Nat} {fs : List Value} (hk : ows ws k h 10 fs) (h7 : fs[7]? = some (.ref u)) (hj : j ∈ [2, 3]) (q : nuU ws u) : nlI ws h j := by
  obtain ⟨ku, rd, kd, n, us, c, f, p1, p2, p3, p4, p5⟩ := q
  obtain ⟨x, w1, w2⟩ := p5 j hj
  exact ⟨f, n, k, u, ku, fs, us, x, ⟨k, u, ku, rd, kd, fs, us, c, hk, h7, p1, p2, p3⟩, hk, h7, p1, w1, w2⟩
/-- the pool's numbers, before a file is begun -/
def enW (g : Gm) (ws : va_W) (h : Nat) : Prop := ∃ (k r kr n : Nat) (fs : List Value) (f : Nat → Int32), ows ws k h 10 fs ∧ fs[3]? = some (.ref r) ∧ iws ws kr r g.cI n f ∧ ∀ i : Nat, 0 ≤ (f i).toInt ∧ (f i).toInt ≤ 262144
theorem enW_mo {g : Gm} {F C : List (Nat × Nat)} {S : Option Nat} {ws ws' : va_W} {h : Nat} (hF : gF F C S ws ws') (f3 : (10, 3) ∉ F) (c3 : (10, 3) ∉ C) (q : enW g ws h) : enW g ws' h := by
  obtain ⟨k, r, kr, n, fs, f, p1, p2, p3, p4⟩ := q
  obtain ⟨fs', q1, q2, -⟩ := hF.1 _ _ _ _ p1
  exact ⟨k, r, kr, n, fs', f, q1, (q2 3 f3).trans p2, hF.2.2 _ _ _ _ 3 _ _ _ p1 (Or.inl ⟨f3, c3⟩) p2 p3, p4⟩
theorem enP_W {A : Nat → Prop} {g : Gm} {ws : va_W} {k h : Nat} {fs : List Value} {c : Int32} (hD : va_D A ws) (hk : ows ws k h 10 fs) (h5 : fs[5]? = some (.int c)) (hc : 1 ≤ c.toInt ∧ c.toInt ≤ 500) (q : enW g ws h) : enP g ws h := by
  obtain ⟨k', r, kr, n, fs', f, p1, p2, p3, p4⟩ := q
  obtain rfl := gO_un hD hk p1
  exact ⟨k', r, kr, n, fs, f, c, p1, p2, p3, h5, hc.1, hc.2, p4⟩
theorem wcP_pp {A : Nat → Prop} {ws ws' : va_W} {k h : Nat} {fs fs' : List Value} {p p' : Int32} {a b c a' : Int} (ew : ws' = ws.set k (h, .inr (10, fs'))) (hD : va_D A ws) (hk : ows ws k h 10 fs) (hs : fs' = fs.set 5 (.int p')) (h5 : fs[5]? = some (.int p)) (hp : 103 * p.toInt + a ≤ 103 * p'.toInt + a') (q : wcP ws h a b c) : wcP ws' h a' b c := by
  have hF : ∀ r, cnt ws r b → cnt ws r b := fun _ h => h
  obtain ⟨k', r0, r1, r2, fs2, pc, p1, p2, p3, p4, n1, n2, n3, c0, c1, c2, p5⟩ := q
  have e1 := hD.1 _ _ _ _ hk p1 rfl
  subst e1
  obtain ⟨-, -, e2⟩ := ows_one hk p1
  subst e2
  rw [h5] at p5
  cases p5
  have mv : ∀ (r : Nat) (x : Int), cnt ws r x → cnt ws' r x := fun r x hr => by
    obtain ⟨kr, gs, cc, w1, w2, w3⟩ := hr
    exact ⟨kr, gs, cc, gset_ob ew hk w1 (by decide), w2, w3⟩
  have g : ∀ j, j ≠ 5 → fs'[j]? = fs[j]? := fun j hj => by rw [hs, List.getElem?_set_ne (Ne.symm hj)]
  exact ⟨k, r0, r1, r2, fs', p', gset_self ew hk, (g 0 (by decide)).trans p2, (g 1 (by decide)).trans p3, (g 2 (by decide)).trans p4, n1, n2, n3, cnt_le (mv _ _ c0) hp, mv _ _ c1, mv _ _ c2, by rw [hs, List.getElem?_set_self (List.getElem?_eq_some_iff.mp h5).1]⟩
