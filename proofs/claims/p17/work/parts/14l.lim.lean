/-! what the head of a method's code says: its size, its catches -/
def jU2 (f : Nat → Int32) (e : Int32) (n : Nat) (i : Int32) : Int32 := if i.toInt < 0 ∨ (e - 2).toInt < i.toInt ∨ (n : Int) < e.toInt then 0 else (f i.toNatClampNeg &&& 255) <<< ((8 : Int32) &&& 31) ||| (f (i + 1).toNatClampNeg &&& 255)
/-- what lookAt leaves of the catches -/
def lkC (ws u : va_W) (h : Nat) (m : Int32) : Prop := ∀ (f : Nat → Int32) (e : Int32) (n : Nat) (fc : Nat → Int32) (mc : Int32), vm ws h f e n fc mc → ∃ (k : Nat) (fs : List Value), ows u k h 2 fs ∧ fs[6]? = some (.int (jU2 f e n (jSt fc m + 8 + jSz f e n (jSt fc m))))
def lmX (f : Nat → Int32) (e : Int32) (n : Nat) (s : Int32) : Prop := 1 ≤ (jS4 f e n (s + 4)).toInt ∧ (jS4 f e n (s + 4)).toInt ≤ 1200 ∧ (jU2 f e n (s + 8 + jS4 f e n (s + 4))).toInt ≤ 16
def lmP (ws : va_W) (h : Nat) (m : Int32) : Prop := ∃ (f : Nat → Int32) (e : Int32) (n : Nat) (fc : Nat → Int32) (mc : Int32), vm ws h f e n fc mc ∧ ∀ i : Int32, 0 ≤ i.toInt → i.toInt < m.toInt → lmX f e n (jSt fc i)
def lmA (ws : va_W) (h : Nat) : Prop := ∃ (f : Nat → Int32) (e : Int32) (n : Nat) (fc : Nat → Int32) (mc : Int32), vm ws h f e n fc mc ∧ ∀ i : Int32, 0 ≤ i.toInt → i.toInt < mc.toInt → i.toInt < 24 → lmX f e n (jSt fc i)
section MO4
variable {F C : List (Nat × Nat)} {S : Option Nat} {ws ws' : va_W} {h : Nat} {m : Int32}
theorem lmP_mo (hF : gF F C S ws ws') (f0 : (6, 0) ∉ F) (f1 : (6, 1) ∉ F) (c0 : (6, 0) ∉ C) (g0 : (2, 0) ∉ F) (f8 : (6, 8) ∉ F) (f10 : (6, 10) ∉ F) (c10 : (6, 10) ∉ C) (q : lmP ws h m) : lmP ws' h m := by
  obtain ⟨f, e, n, fc, mc, p1, p2⟩ := q
  exact ⟨f, e, n, fc, mc, vm_mo hF f0 f1 c0 g0 f8 f10 c10 p1, p2⟩
theorem lmA_mo (hF : gF F C S ws ws') (f0 : (6, 0) ∉ F) (f1 : (6, 1) ∉ F) (c0 : (6, 0) ∉ C) (g0 : (2, 0) ∉ F) (f8 : (6, 8) ∉ F) (f10 : (6, 10) ∉ F) (c10 : (6, 10) ∉ C) (q : lmA ws h) : lmA ws' h := by
  obtain ⟨f, e, n, fc, mc, p1, p2⟩ := q
  exact ⟨f, e, n, fc, mc, vm_mo hF f0 f1 c0 g0 f8 f10 c10 p1, p2⟩
end MO4
theorem lmP_0 {ws : va_W} {k h d kd r k0 kk rr n nc : Nat} {fs ds : List Value} {c cc : ClassId} {f fc : Nat → Int32} {e mc m : Int32} (hk : ows ws k h 2 fs) (h0 : fs[0]? = some (.ref d)) (hd : ows ws kd d 6 ds) (d0 : ds[0]? = some (.ref rr)) (d1 : ds[1]? = some (.int e)) (hf : iws ws kk rr cc n f) (h8 : ds[8]? = some (.int mc)) (h10 : ds[10]? = some (.ref r)) (hc : iws ws k0 r c nc fc) (hm : m.toInt ≤ 0) : lmP ws h m := ⟨f, e, n, fc, mc, ⟨k, d, kd, r, k0, nc, fs, ds, c, hk, h0, ⟨kd, rr, kk, ds, cc, hd, d0, d1, hf⟩, hd, h8, h10, hc⟩, fun i h1 h2 => by omega⟩
/-- a method more -/
theorem lmP_s {ws : va_W} {h : Nat} {m m' x : Int32} (h0 : 0 ≤ m.toInt) (h24 : m.toInt < 24) (hm : m'.toInt = m.toInt + 1) (hx : ∀ (f : Nat → Int32) (e : Int32) (n : Nat) (fc : Nat → Int32) (mc : Int32), vm ws h f e n fc mc → fc m.toNatClampNeg = x ∧ lmX f e n x) (q : lmP ws h m) : lmP ws h m' := by
  obtain ⟨f, e, n, fc, mc, p1, p2⟩ := q
  refine ⟨f, e, n, fc, mc, p1, fun i h1 h2 => ?_⟩
  by_cases hi : i.toInt < m.toInt
  · exact p2 i h1 hi
  · have ei : i = m := Int32.toInt_inj.mp (by omega)
    rw [ei]
    obtain ⟨w1, w2⟩ := hx _ _ _ _ _ p1
    unfold jSt
    rw [if_neg (by omega), w1]
    exact w2
theorem lmA_P {A : Nat → Prop} {ws : va_W} {k h d kd : Nat} {fs ds : List Value} {mc m : Int32} (hD : va_D A ws) (hk : ows ws k h 2 fs) (h0 : fs[0]? = some (.ref d)) (hd : ows ws kd d 6 ds) (h8 : ds[8]? = some (.int mc)) (hm : mc.toInt ≤ m.toInt ∨ 24 ≤ m.toInt) (q : lmP ws h m) : lmA ws h := by
  obtain ⟨f, e, n, fc, mc', p1, p2⟩ := q
  have e1 := vm_mc hD hk h0 hd h8 p1
  subst e1
  exact ⟨f, e, n, fc, mc', p1, fun i h1 h2 h3 => p2 i h1 (by omega)⟩
/-- a method of such a file, looked at -/
theorem lmA_k {A A' : Nat → Prop} {ws u : va_W} {k h d kd k2 d2 : Nat} {fs ds us : List Value} {mc m cd sz cc : Int32} (hD : va_D A ws) (hk : ows ws k h 2 fs) (h0 : fs[0]? = some (.ref d)) (hd : ows ws kd d 6 ds) (h8 : ds[8]? = some (.int mc)) (hm : 0 ≤ m.toInt ∧ m.toInt < mc.toInt ∧ m.toInt < 24) (q : lmA ws h) (hl : lkP ws u h m) (hc : lkC ws u h m) (hD2 : va_D A' u) (hu : ows u k2 h 2 us) (u0 : us[0]? = some (.ref d2)) (u1 : us[1]? = some (.int cd)) (u2 : us[2]? = some (.int sz)) (u6 : us[6]? = some (.int cc)) : 1 ≤ sz.toInt ∧ cc.toInt ≤ 16 := by
  obtain ⟨f, e, n, fc, mc', p1, p2⟩ := q
  have e1 := vm_mc hD hk h0 hd h8 p1
  subst e1
  obtain ⟨q1, q2, q3⟩ := p2 m hm.1 hm.2.1 hm.2.2
  have w := (vx_un hD2 hu u0 u1 u2 (hl _ _ _ _ _ p1)).2.2
  have e2 : jSz f e n (jSt fc m) = jS4 f e n (jSt fc m + 4) := by
    unfold jSz
    rw [if_neg]
    intro h
    have := Int32.lt_iff_toInt_lt.mp h
    have e12 : (1200 : Int32).toInt = 1200 := by decide
    omega
  rw [e2] at w
  obtain ⟨k3, fs3, r1, r2⟩ := hc _ _ _ _ _ p1
  obtain rfl := gO_un hD2 hu r1
  rw [u6] at r2
  cases r2
  rw [e2]
  exact ⟨by rw [← w]; exact q1, q3⟩
/-- u4 of a file that is small: the int itself -/
theorem u4_i {x : Int32} {r : Int64} (h : r = x.toInt64 &&& 4294967295) (h1 : 1 ≤ r.toInt) (h2 : r.toInt ≤ 1200) : r.toInt32 = x ∧ x.toInt = r.toInt := by
  have e : r.toInt32 = x := by
    rw [h, Int64.toInt32_and, Int32.toInt32_toInt64]
    have : (4294967295 : Int64).toInt32 = -1 := by decide
    rw [this]
    exact Int32.and_neg_one
  have := l_2i e
  exact ⟨e, by omega⟩
