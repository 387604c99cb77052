/-! what a Reader and a CodeReader read, as functions of what stands in the file -/
def vw (ws : va_W) (h : Nat) (f : Nat → Int32) (e : Int32) (n : Nat) : Prop := ∃ (k r k0 : Nat) (fs : List Value) (c : ClassId), ows ws k h 6 fs ∧ fs[0]? = some (.ref r) ∧ fs[1]? = some (.int e) ∧ iws ws k0 r c n f
def vx (ws : va_W) (h : Nat) (f : Nat → Int32) (e : Int32) (n : Nat) (cd sz : Int32) : Prop := ∃ (k d : Nat) (fs : List Value), ows ws k h 2 fs ∧ fs[0]? = some (.ref d) ∧ fs[1]? = some (.int cd) ∧ fs[2]? = some (.int sz) ∧ vw ws d f e n
theorem vw_mo {F C : List (Nat × Nat)} {S : Option Nat} {ws ws' : va_W} {h n : Nat} {f : Nat → Int32} {e : Int32} (hF : gF F C S ws ws') (f0 : (6, 0) ∉ F) (f1 : (6, 1) ∉ F) (c0 : (6, 0) ∉ C) (q : vw ws h f e n) : vw ws' h f e n := by
  obtain ⟨k, r, k0, fs, c, p1, p2, p3, p4⟩ := q
  obtain ⟨fs', q1, q2, -⟩ := hF.1 _ _ _ _ p1
  exact ⟨k, r, k0, fs', c, q1, (q2 0 f0).trans p2, (q2 1 f1).trans p3, hF.2.2 _ _ _ _ 0 _ _ _ p1 (Or.inl ⟨f0, c0⟩) p2 p4⟩
theorem vx_mo {F C : List (Nat × Nat)} {S : Option Nat} {ws ws' : va_W} {h n : Nat} {f : Nat → Int32} {e cd sz : Int32} (hF : gF F C S ws ws') (f0 : (6, 0) ∉ F) (f1 : (6, 1) ∉ F) (c0 : (6, 0) ∉ C) (g0 : (2, 0) ∉ F) (g1 : (2, 1) ∉ F) (g2 : (2, 2) ∉ F) (q : vx ws h f e n cd sz) : vx ws' h f e n cd sz := by
  obtain ⟨k, d, fs, p1, p2, p3, p4, p5⟩ := q
  obtain ⟨fs', q1, q2, -⟩ := hF.1 _ _ _ _ p1
  exact ⟨k, d, fs', q1, (q2 0 g0).trans p2, (q2 1 g1).trans p3, (q2 2 g2).trans p4, vw_mo hF f0 f1 c0 p5⟩
theorem vw_un {A : Nat → Prop} {ws : va_W} {k h r k0 n n' : Nat} {fs : List Value} {c : ClassId} {f f' : Nat → Int32} {e e' : Int32} (hD : va_D A ws) (hk : ows ws k h 6 fs) (h0 : fs[0]? = some (.ref r)) (h1 : fs[1]? = some (.int e)) (hf : iws ws k0 r c n f) (q : vw ws h f' e' n') : f' = f ∧ e' = e ∧ n' = n := by
  obtain ⟨k', r', k0', fs', c', p1, p2, p3, p4⟩ := q
  obtain rfl := gO_un hD hk p1
  rw [h0] at p2
  cases p2
  rw [h1] at p3
  cases p3
  have e2 := hD.1 _ _ _ _ hf p4 rfl
  subst e2
  rw [iws, hf] at p4
  cases p4
  exact ⟨rfl, rfl, rfl⟩
theorem vw_n {A : Nat → Prop} {ws : va_W} {k h r n n' : Nat} {fs : List Value} {c : ClassId} {f' : Nat → Int32} {e e' : Int32} (hD : va_D A ws) (hk : ows ws k h 6 fs) (h0 : fs[0]? = some (.ref r)) (h1 : fs[1]? = some (.int e)) (hf : gI ws r c n) (q : vw ws h f' e' n') : e' = e ∧ n' = n := by
  obtain ⟨k', r', k0', fs', c', p1, p2, p3, p4⟩ := q
  obtain rfl := gO_un hD hk p1
  rw [h0] at p2
  cases p2
  rw [h1] at p3
  cases p3
  exact ⟨rfl, gI_n hD (⟨k0', _, p4, rfl⟩ : gI ws r c' n') hf⟩
theorem vx_un {A : Nat → Prop} {ws : va_W} {k h d n : Nat} {fs : List Value} {f : Nat → Int32} {e cd sz cd' sz' : Int32} (hD : va_D A ws) (hk : ows ws k h 2 fs) (h0 : fs[0]? = some (.ref d)) (h1 : fs[1]? = some (.int cd)) (h2 : fs[2]? = some (.int sz)) (q : vx ws h f e n cd' sz') : vw ws d f e n ∧ cd' = cd ∧ sz' = sz := by
  obtain ⟨k', d', fs', p1, p2, p3, p4, p5⟩ := q
  obtain rfl := gO_un hD hk p1
  rw [h0] at p2
  cases p2
  rw [h1] at p3
  cases p3
  rw [h2] at p4
  cases p4
  exact ⟨p5, rfl, rfl⟩
def jU1 (f : Nat → Int32) (e : Int32) (n : Nat) (i : Int32) : Int32 := if i.toInt < 0 ∨ e.toInt ≤ i.toInt ∨ (n : Int) ≤ i.toInt then 0 else f i.toNatClampNeg &&& 255
def jS4 (f : Nat → Int32) (e : Int32) (n : Nat) (i : Int32) : Int32 := if i.toInt < 0 ∨ (e - 4).toInt < i.toInt ∨ (n : Int) < e.toInt then 0 else f i.toNatClampNeg <<< ((24 : Int32) &&& 31) ||| (f (i + 1).toNatClampNeg &&& 255) <<< ((16 : Int32) &&& 31) ||| (f (i + 2).toNatClampNeg &&& 255) <<< ((8 : Int32) &&& 31) ||| (f (i + 3).toNatClampNeg &&& 255)
def kU1 (f : Nat → Int32) (e : Int32) (n : Nat) (cd sz o : Int32) : Int32 := if o.toInt < 0 ∨ sz.toInt ≤ o.toInt then 0 else jU1 f e n (cd + o)
def kS4 (f : Nat → Int32) (e : Int32) (n : Nat) (cd sz o : Int32) : Int32 := if o.toInt < 0 ∨ (sz - 4).toInt < o.toInt then 0 else jS4 f e n (cd + o)
def kNum (o : Int32) : Int32 := (o + 4) &&& (-4)
def kTab (f : Nat → Int32) (e : Int32) (n : Nat) (cd sz o : Int32) : Int32 := if sz.toInt < (kNum o + 12).toInt ∨ ((kS4 f e n cd sz (kNum o + 8)).toInt64 - (kS4 f e n cd sz (kNum o + 4)).toInt64).toInt < 0 ∨ 200 < ((kS4 f e n cd sz (kNum o + 8)).toInt64 - (kS4 f e n cd sz (kNum o + 4)).toInt64).toInt then 0 else kNum o + 16 + 4 * ((kS4 f e n cd sz (kNum o + 8)).toInt64 - (kS4 f e n cd sz (kNum o + 4)).toInt64).toInt32 - o
def kBad (f : Nat → Int32) (e : Int32) (n : Nat) (cd sz o : Int32) : Prop := ∃ k : Int32, 1 ≤ k.toInt ∧ k.toInt < (kS4 f e n cd sz (kNum o + 4)).toInt ∧ (kS4 f e n cd sz (kNum o + 8 + 8 * k)).toInt ≤ (kS4 f e n cd sz (kNum o + 8 * k)).toInt
noncomputable def kLook (f : Nat → Int32) (e : Int32) (n : Nat) (cd sz o : Int32) : Int32 := @ite Int32 (sz.toInt < (kNum o + 8).toInt ∨ (kS4 f e n cd sz (kNum o + 4)).toInt < 0 ∨ 200 < (kS4 f e n cd sz (kNum o + 4)).toInt ∨ sz.toInt < (kNum o + 8 + 8 * kS4 f e n cd sz (kNum o + 4)).toInt ∨ kBad f e n cd sz o) (Classical.propDecidable _) 0 (kNum o + 8 + 8 * kS4 f e n cd sz (kNum o + 4) - o)
def kWide (r : Int32) : Int32 := if r.toInt = 132 then 6 else if r.toInt = 21 ∨ r.toInt = 22 ∨ r.toInt = 25 ∨ r.toInt = 54 ∨ r.toInt = 55 ∨ r.toInt = 58 then 4 else 0
def kOps (t : Nat → Int32) (r : Int32) : Int32 := if r.toInt < 0 ∨ 202 ≤ r.toInt then 0 else t r.toNatClampNeg
noncomputable def kL0 (t : Nat → Int32) (f : Nat → Int32) (e : Int32) (n : Nat) (cd sz o : Int32) : Int32 := if (kU1 f e n cd sz o).toInt = 170 then kTab f e n cd sz o else if (kU1 f e n cd sz o).toInt = 171 then kLook f e n cd sz o else if (kU1 f e n cd sz o).toInt = 196 then kWide (kU1 f e n cd sz (o + 1)) else if (kU1 f e n cd sz o).toInt = 188 then (if (kU1 f e n cd sz (o + 1)).toInt = 10 then 2 else 0) else kOps t (kU1 f e n cd sz o)
noncomputable def kLen (t : Nat → Int32) (f : Nat → Int32) (e : Int32) (n : Nat) (cd sz o : Int32) : Int32 := if sz.toInt < (o + kL0 t f e n cd sz o).toInt then 0 else kL0 t f e n cd sz o
