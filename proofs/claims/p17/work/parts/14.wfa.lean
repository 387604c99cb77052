/-! of every method of the file -/
def vm (ws : va_W) (h : Nat) (f : Nat → Int32) (e : Int32) (n : Nat) (fc : Nat → Int32) (mc : Int32) : Prop := ∃ (k d kd r k0 nc : Nat) (fs ds : List Value) (c : ClassId), ows ws k h 2 fs ∧ fs[0]? = some (.ref d) ∧ vw ws d f e n ∧ ows ws kd d 6 ds ∧ ds[8]? = some (.int mc) ∧ ds[10]? = some (.ref r) ∧ iws ws k0 r c nc fc
theorem vm_mo {F C : List (Nat × Nat)} {S : Option Nat} {ws ws' : va_W} {h n : Nat} {f fc : Nat → Int32} {e mc : Int32} (hF : gF F C S ws ws') (f0 : (6, 0) ∉ F) (f1 : (6, 1) ∉ F) (c0 : (6, 0) ∉ C) (g0 : (2, 0) ∉ F) (f8 : (6, 8) ∉ F) (f10 : (6, 10) ∉ F) (c10 : (6, 10) ∉ C) (q : vm ws h f e n fc mc) : vm ws' h f e n fc mc := by
  obtain ⟨k, d, kd, r, k0, nc, fs, ds, c, p1, p2, p3, p4, p5, p6, p7⟩ := q
  obtain ⟨fs', q1, q2, -⟩ := hF.1 _ _ _ _ p1
  obtain ⟨ds', q3, q4, -⟩ := hF.1 _ _ _ _ p4
  exact ⟨k, d, kd, r, k0, nc, fs', ds', c, q1, (q2 0 g0).trans p2, vw_mo hF f0 f1 c0 p3, q3, (q4 8 f8).trans p5, (q4 10 f10).trans p6, hF.2.2 _ _ _ _ 10 _ _ _ p4 (Or.inl ⟨f10, c10⟩) p6 p7⟩
theorem vm_vw {A : Nat → Prop} {ws : va_W} {k h d n : Nat} {fs : List Value} {f fc : Nat → Int32} {e mc : Int32} (hD : va_D A ws) (hk : ows ws k h 2 fs) (h0 : fs[0]? = some (.ref d)) (q : vm ws h f e n fc mc) : vw ws d f e n := by
  obtain ⟨k', d', kd, r, k0, nc, fs', ds, c, p1, p2, p3, p4, p5, p6, p7⟩ := q
  obtain rfl := gO_un hD hk p1
  rw [h0] at p2
  cases p2
  exact p3
theorem vm_fc {A : Nat → Prop} {ws : va_W} {k h d kd r k0 n nc : Nat} {fs ds : List Value} {c : ClassId} {f fc fc' : Nat → Int32} {e mc : Int32} (hD : va_D A ws) (hk : ows ws k h 2 fs) (h0 : fs[0]? = some (.ref d)) (hd : ows ws kd d 6 ds) (h10 : ds[10]? = some (.ref r)) (hf : iws ws k0 r c nc fc) (q : vm ws h f e n fc' mc) : fc' = fc := by
  obtain ⟨k', d', kd', r', k0', nc', fs', ds', c', p1, p2, p3, p4, p5, p6, p7⟩ := q
  obtain rfl := gO_un hD hk p1
  rw [h0] at p2
  cases p2
  obtain rfl := gO_un hD hd p4
  rw [h10] at p6
  cases p6
  have e2 := hD.1 _ _ _ _ hf p7 rfl
  subst e2
  rw [iws, hf] at p7
  cases p7
  rfl
theorem vm_mc {A : Nat → Prop} {ws : va_W} {k h d kd n : Nat} {fs ds : List Value} {f fc : Nat → Int32} {e mc mc' : Int32} (hD : va_D A ws) (hk : ows ws k h 2 fs) (h0 : fs[0]? = some (.ref d)) (hd : ows ws kd d 6 ds) (h8 : ds[8]? = some (.int mc)) (q : vm ws h f e n fc mc') : mc' = mc := by
  obtain ⟨k', d', kd', r', k0', nc', fs', ds', c', p1, p2, p3, p4, p5, p6, p7⟩ := q
  obtain rfl := gO_un hD hk p1
  rw [h0] at p2
  cases p2
  obtain rfl := gO_un hD hd p4
  rw [h8] at p5
  cases p5
  rfl
def jSt (fc : Nat → Int32) (m : Int32) : Int32 := if m.toInt < 0 ∨ 24 ≤ m.toInt then 0 else fc m.toNatClampNeg
def jSz (f : Nat → Int32) (e : Int32) (n : Nat) (st : Int32) : Int32 := if (1200 : Int32) < jS4 f e n (st + 4) then 1200 else jS4 f e n (st + 4)
/-- what lookAt leaves -/
def lkP (ws u : va_W) (h : Nat) (m : Int32) : Prop := ∀ (f : Nat → Int32) (e : Int32) (n : Nat) (fc : Nat → Int32) (mc : Int32), vm ws h f e n fc mc → vx u h f e n (jSt fc m + 8) (jSz f e n (jSt fc m))
def wfM (g : Gm) (f : Nat → Int32) (e : Int32) (n : Nat) (fc : Nat → Int32) (m : Int32) : Prop := wfI g.tL f e n (jSt fc m + 8) (jSz f e n (jSt fc m)) 0
/-- of the methods below m -/
def wfP (g : Gm) (ws : va_W) (h : Nat) (m : Int32) : Prop := ∃ (f : Nat → Int32) (e : Int32) (n : Nat) (fc : Nat → Int32) (mc : Int32), vm ws h f e n fc mc ∧ ∀ i : Int32, 0 ≤ i.toInt → i.toInt < m.toInt → wfM g f e n fc i
def wfA (g : Gm) (ws : va_W) (h : Nat) : Prop := ∃ (f : Nat → Int32) (e : Int32) (n : Nat) (fc : Nat → Int32) (mc : Int32), vm ws h f e n fc mc ∧ ∀ i : Int32, 0 ≤ i.toInt → i.toInt < mc.toInt → wfM g f e n fc i
/-- in method m, at o -/
def wfS (g : Gm) (ws : va_W) (h : Nat) (m o : Int32) : Prop := ∃ (f : Nat → Int32) (e : Int32) (n : Nat) (fc : Nat → Int32) (mc : Int32), vm ws h f e n fc mc ∧ (∀ i : Int32, 0 ≤ i.toInt → i.toInt < m.toInt → wfM g f e n fc i) ∧ vx ws h f e n (jSt fc m + 8) (jSz f e n (jSt fc m)) ∧ (wfI g.tL f e n (jSt fc m + 8) (jSz f e n (jSt fc m)) o → wfM g f e n fc m)
section MO3
variable {g : Gm} {F C : List (Nat × Nat)} {S : Option Nat} {ws ws' : va_W} {h : Nat} {m o : Int32}
theorem wfP_mo (hF : gF F C S ws ws') (f0 : (6, 0) ∉ F) (f1 : (6, 1) ∉ F) (c0 : (6, 0) ∉ C) (g0 : (2, 0) ∉ F) (f8 : (6, 8) ∉ F) (f10 : (6, 10) ∉ F) (c10 : (6, 10) ∉ C) (q : wfP g ws h m) : wfP g ws' h m := by
  obtain ⟨f, e, n, fc, mc, p1, p2⟩ := q
  exact ⟨f, e, n, fc, mc, vm_mo hF f0 f1 c0 g0 f8 f10 c10 p1, p2⟩
theorem wfA_mo (hF : gF F C S ws ws') (f0 : (6, 0) ∉ F) (f1 : (6, 1) ∉ F) (c0 : (6, 0) ∉ C) (g0 : (2, 0) ∉ F) (f8 : (6, 8) ∉ F) (f10 : (6, 10) ∉ F) (c10 : (6, 10) ∉ C) (q : wfA g ws h) : wfA g ws' h := by
  obtain ⟨f, e, n, fc, mc, p1, p2⟩ := q
  exact ⟨f, e, n, fc, mc, vm_mo hF f0 f1 c0 g0 f8 f10 c10 p1, p2⟩
theorem wfS_mo (hF : gF F C S ws ws') (f0 : (6, 0) ∉ F) (f1 : (6, 1) ∉ F) (c0 : (6, 0) ∉ C) (g0 : (2, 0) ∉ F) (f8 : (6, 8) ∉ F) (f10 : (6, 10) ∉ F) (c10 : (6, 10) ∉ C) (g1 : (2, 1) ∉ F) (g2 : (2, 2) ∉ F) (q : wfS g ws h m o) : wfS g ws' h m o := by
  obtain ⟨f, e, n, fc, mc, p1, p2, p3, p4⟩ := q
  exact ⟨f, e, n, fc, mc, vm_mo hF f0 f1 c0 g0 f8 f10 c10 p1, p2, vx_mo hF f0 f1 c0 g0 g1 g2 p3, p4⟩
end MO3
theorem wfP_0 {g : Gm} {ws : va_W} {k h d kd r k0 kk rr n nc : Nat} {fs ds : List Value} {c cc : ClassId} {f fc : Nat → Int32} {e mc m : Int32} (hk : ows ws k h 2 fs) (h0 : fs[0]? = some (.ref d)) (hd : ows ws kd d 6 ds) (d0 : ds[0]? = some (.ref rr)) (d1 : ds[1]? = some (.int e)) (hf : iws ws kk rr cc n f) (h8 : ds[8]? = some (.int mc)) (h10 : ds[10]? = some (.ref r)) (hc : iws ws k0 r c nc fc) (hm : m.toInt ≤ 0) : wfP g ws h m := ⟨f, e, n, fc, mc, ⟨k, d, kd, r, k0, nc, fs, ds, c, hk, h0, ⟨kd, rr, kk, ds, cc, hd, d0, d1, hf⟩, hd, h8, h10, hc⟩, fun i h1 h2 => by omega⟩
/-- the method is looked at -/
theorem wfS_0 {g : Gm} {F C : List (Nat × Nat)} {S : Option Nat} {ws u : va_W} {h : Nat} {m : Int32} (hF : gF F C S ws u) (f0 : (6, 0) ∉ F) (f1 : (6, 1) ∉ F) (c0 : (6, 0) ∉ C) (g0 : (2, 0) ∉ F) (f8 : (6, 8) ∉ F) (f10 : (6, 10) ∉ F) (c10 : (6, 10) ∉ C) (q : wfP g ws h m) (hl : lkP ws u h m) : wfS g u h m 0 := by
  obtain ⟨f, e, n, fc, mc, p1, p2⟩ := q
  exact ⟨f, e, n, fc, mc, vm_mo hF f0 f1 c0 g0 f8 f10 c10 p1, p2, hl _ _ _ _ _ p1, fun z => z⟩
theorem wfS_st {g : Gm} {ws : va_W} {h : Nat} {m o r z : Int32} (hr : ∀ (f : Nat → Int32) (e : Int32) (n : Nat) (cd sz : Int32), vx ws h f e n cd sz → r = kLen g.tL f e n cd sz o) (hp : 0 < r.toInt) (hz : z = o + r) (hs : ∀ (f : Nat → Int32) (e : Int32) (n : Nat) (cd sz : Int32), vx ws h f e n cd sz → o.toInt < sz.toInt) (q : wfS g ws h m o) : wfS g ws h m z := by
  obtain ⟨f, e, n, fc, mc, p1, p2, p3, p4⟩ := q
  have e1 := hr _ _ _ _ _ p3
  refine ⟨f, e, n, fc, mc, p1, p2, p3, fun w => p4 (wfI.step (hs _ _ _ _ _ p3) (by rw [← e1]; exact hp) ?_)⟩
  rw [← e1, ← hz]
  exact w
theorem wfP_s {g : Gm} {ws : va_W} {h : Nat} {m m' o : Int32} (hm : m'.toInt = m.toInt + 1) (hs : ∀ (f : Nat → Int32) (e : Int32) (n : Nat) (cd sz : Int32), vx ws h f e n cd sz → sz.toInt ≤ o.toInt) (q : wfS g ws h m o) : wfP g ws h m' := by
  obtain ⟨f, e, n, fc, mc, p1, p2, p3, p4⟩ := q
  refine ⟨f, e, n, fc, mc, p1, fun i h1 h2 => ?_⟩
  by_cases hi : i.toInt < m.toInt
  · exact p2 i h1 hi
  · have ei : i = m := Int32.toInt_inj.mp (by omega)
    rw [ei]
    exact p4 (wfI.fin (hs _ _ _ _ _ p3))
theorem wfA_P {A : Nat → Prop} {g : Gm} {ws : va_W} {k h d kd : Nat} {fs ds : List Value} {mc m : Int32} (hD : va_D A ws) (hk : ows ws k h 2 fs) (h0 : fs[0]? = some (.ref d)) (hd : ows ws kd d 6 ds) (h8 : ds[8]? = some (.int mc)) (hm : mc.toInt ≤ m.toInt) (q : wfP g ws h m) : wfA g ws h := by
  obtain ⟨f, e, n, fc, mc', p1, p2⟩ := q
  have e1 := vm_mc hD hk h0 hd h8 p1
  subst e1
  exact ⟨f, e, n, fc, mc', p1, fun i h1 h2 => p2 i h1 (by omega)⟩
theorem vx_sz {A : Nat → Prop} {ws : va_W} {k h d : Nat} {fs : List Value} {cd sz : Int32} (hD : va_D A ws) (hk : ows ws k h 2 fs) (h0 : fs[0]? = some (.ref d)) (h1 : fs[1]? = some (.int cd)) (h2 : fs[2]? = some (.int sz)) (f : Nat → Int32) (e : Int32) (n : Nat) (cd' sz' : Int32) (q : vx ws h f e n cd' sz') : sz' = sz := (vx_un hD hk h0 h1 h2 q).2.2
/-- a method of a file that holds, looked at -/
theorem wfO_A {A : Nat → Prop} {g : Gm} {ws u : va_W} {k h d kd : Nat} {fs ds : List Value} {mc m : Int32} (hD : va_D A ws) (hk : ows ws k h 2 fs) (h0 : fs[0]? = some (.ref d)) (hd : ows ws kd d 6 ds) (h8 : ds[8]? = some (.int mc)) (hm : 0 ≤ m.toInt ∧ m.toInt < mc.toInt) (q : wfA g ws h) (hl : lkP ws u h m) : wfO g u h 0 := by
  obtain ⟨f, e, n, fc, mc', p1, p2⟩ := q
  have e1 := vm_mc hD hk h0 hd h8 p1
  subst e1
  exact ⟨f, e, n, _, _, hl _ _ _ _ _ p1, p2 m hm.1 hm.2⟩
