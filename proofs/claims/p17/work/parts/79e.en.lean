/-! Writer's pool: where its entries begin -/
def enP (g : Gm) (ws : va_W) (h : Nat) : Prop := ∃ (k r kr n : Nat) (fs : List Value) (f : Nat → Int32) (pc : Int32), ows ws k h 10 fs ∧ fs[3]? = some (.ref r) ∧ iws ws kr r g.cI n f ∧ fs[5]? = some (.int pc) ∧ 1 ≤ pc.toInt ∧ pc.toInt ≤ 500 ∧ ∀ i : Nat, 0 ≤ (f i).toInt ∧ (f i).toInt ≤ 262144
theorem enP_mo {g : Gm} {F C : List (Nat × Nat)} {S : Option Nat} {ws ws' : va_W} {h : Nat} (hF : gF F C S ws ws') (f3 : (10, 3) ∉ F) (f5 : (10, 5) ∉ F) (c3 : (10, 3) ∉ C) (q : enP g ws h) : enP g ws' h := by
  obtain ⟨k, r, kr, n, fs, f, pc, p1, p2, p3, p4, p5, p6, p7⟩ := q
  obtain ⟨fs', q1, q2, -⟩ := hF.1 _ _ _ _ p1
  exact ⟨k, r, kr, n, fs', f, pc, q1, (q2 3 f3).trans p2, hF.2.2 _ _ _ _ 3 _ _ _ p1 (Or.inl ⟨f3, c3⟩) p2 p3, (q2 5 f5).trans p4, p5, p6, p7⟩
theorem enP_pc {A : Nat → Prop} {g : Gm} {ws : va_W} {k h : Nat} {fs : List Value} {c : Int32} (hD : va_D A ws) (hk : ows ws k h 10 fs) (h5 : fs[5]? = some (.int c)) (q : enP g ws h) : 1 ≤ c.toInt ∧ c.toInt ≤ 500 := by
  obtain ⟨k', r, kr, n, fs', f, pc, p1, p2, p3, p4, p5, p6, p7⟩ := q
  obtain rfl := gO_un hD hk p1
  rw [h5] at p4
  cases p4
  exact ⟨p5, p6⟩
theorem enP_at {A : Nat → Prop} {g : Gm} {ws : va_W} {k kr h r n i : Nat} {fs : List Value} {f : Nat → Int32} {v : Int32} (hD : va_D A ws) (hk : ows ws k h 10 fs) (h3 : fs[3]? = some (.ref r)) (hf : iws ws kr r g.cI n f) (e : v = f i) (q : enP g ws h) : 0 ≤ v.toInt ∧ v.toInt ≤ 262144 := by
  obtain ⟨k', r', kr', n', fs', f', pc, p1, p2, p3, p4, p5, p6, p7⟩ := q
  obtain rfl := gO_un hD hk p1
  rw [h3] at p2
  cases p2
  have e2 := hD.1 _ _ _ _ hf p3 rfl
  subst e2
  rw [iws, hf] at p3
  cases p3
  rw [e]
  exact p7 i
theorem enP_w {A : Nat → Prop} {g : Gm} {ws ws' : va_W} {k kr h r n i : Nat} {fs : List Value} {f : Nat → Int32} {x : Int32} (ew : ws' = ws.set kr (r, .inl (g.cI, n, .inl (upd f i x)))) (hD : va_D A ws) (hk : ows ws k h 10 fs) (h3 : fs[3]? = some (.ref r)) (hf : iws ws kr r g.cI n f) (hx : 0 ≤ x.toInt ∧ x.toInt ≤ 262144) (q : enP g ws h) : enP g ws' h := by
  obtain ⟨k', r', kr', n', fs', f', pc, p1, p2, p3, p4, p5, p6, p7⟩ := q
  obtain rfl := gO_un hD hk p1
  rw [h3] at p2
  cases p2
  have e2 := hD.1 _ _ _ _ hf p3 rfl
  subst e2
  rw [iws, hf] at p3
  cases p3
  refine ⟨k', r, kr, n, fs, upd f i x, pc, gset_arO ew hf p1, h3, gset_self ew hf, p4, p5, p6, fun j => ?_⟩
  unfold upd
  split
  · exact hx
  · exact p7 j
theorem enP_put {A : Nat → Prop} {g : Gm} {ws ws' : va_W} {k h : Nat} {fs fs' : List Value} {x : Int32} (ew : ws' = ws.set k (h, .inr (10, fs'))) (hD : va_D A ws) (hk : ows ws k h 10 fs) (hs : fs' = fs.set 5 (.int x)) (hx : 1 ≤ x.toInt ∧ x.toInt ≤ 500) (q : enP g ws h) : enP g ws' h := by
  obtain ⟨k', r', kr', n', fs2, f', pc, p1, p2, p3, p4, p5, p6, p7⟩ := q
  have e1 := hD.1 _ _ _ _ hk p1 rfl
  subst e1
  obtain ⟨-, -, e2⟩ := ows_one hk p1
  subst e2
  exact ⟨k, r', kr', n', fs', f', x, gset_self ew hk, by rw [hs, List.getElem?_set_ne (by decide)]; exact p2, gset_obI ew hk p3, by rw [hs, List.getElem?_set_self (List.getElem?_eq_some_iff.mp p4).1], hx.1, hx.2, p7⟩
