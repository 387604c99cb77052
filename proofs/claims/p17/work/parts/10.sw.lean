/-! what Row's readers answer -/
def opX (ws : va_W) (b : Nat) (i r : Int32) : Prop := ∀ (k ro ko n : Nat) (fs : List Value) (c : ClassId) (fo : Nat → Int32) (cnt : Int32), ows ws k b 7 fs → fs[0]? = some (.ref ro) → fs[2]? = some (.int cnt) → iws ws ko ro c n fo → (0 ≤ i.toInt ∧ i.toInt < cnt.toInt ∧ r = fo i.toNatClampNeg) ∨ ((i.toInt < 0 ∨ cnt.toInt ≤ i.toInt) ∧ r = -1)
def agX (ws : va_W) (b : Nat) (i : Int32) (r : Int64) : Prop := ∀ (k ro ko n : Nat) (fs : List Value) (c : ClassId) (fo : Nat → Int64) (cnt : Int32), ows ws k b 7 fs → fs[1]? = some (.ref ro) → fs[2]? = some (.int cnt) → jws ws ko ro c n fo → (0 ≤ i.toInt ∧ i.toInt < cnt.toInt ∧ r = fo i.toNatClampNeg) ∨ ((i.toInt < 0 ∨ cnt.toInt ≤ i.toInt) ∧ r = 0)
def tbX (ws : va_W) (b : Nat) (i r : Int32) : Prop := ∀ (k ro ko n : Nat) (fs : List Value) (c : ClassId) (fo : Nat → Int32) (cnt : Int32), ows ws k b 7 fs → fs[3]? = some (.ref ro) → fs[4]? = some (.int cnt) → iws ws ko ro c n fo → (0 ≤ i.toInt ∧ i.toInt < cnt.toInt ∧ r = fo i.toNatClampNeg) ∨ ((i.toInt < 0 ∨ cnt.toInt ≤ i.toInt) ∧ r = 0)
section RX
variable {A : Nat → Prop} {ws : va_W} {k b ro ko n : Nat} {fs : List Value} {c : ClassId} {cnt i r : Int32}
theorem opX_out (hD : va_D A ws) (hk : ows ws k b 7 fs) (h2 : fs[2]? = some (.int cnt)) (h : i.toInt < 0 ∨ cnt.toInt ≤ i.toInt) : opX ws b i (-1) := fun k' ro' ko' n' fs' c' fo' cnt' q1 q2 q3 q4 => by
  obtain rfl := gO_un hD hk q1
  rw [h2] at q3
  cases q3
  exact Or.inr ⟨h, rfl⟩
theorem opX_in {fo : Nat → Int32} (hD : va_D A ws) (hk : ows ws k b 7 fs) (h0 : fs[0]? = some (.ref ro)) (h2 : fs[2]? = some (.int cnt)) (hf : iws ws ko ro c n fo) (h : 0 ≤ i.toInt ∧ i.toInt < cnt.toInt) (e : r = fo i.toNatClampNeg) : opX ws b i r := fun k' ro' ko' n' fs' c' fo' cnt' q1 q2 q3 q4 => by
  obtain rfl := gO_un hD hk q1
  rw [h2] at q3
  cases q3
  rw [h0] at q2
  cases q2
  have e2 := hD.1 _ _ _ _ hf q4 rfl
  subst e2
  rw [iws, hf] at q4
  cases q4
  exact Or.inl ⟨h.1, h.2, e⟩
theorem tbX_out (hD : va_D A ws) (hk : ows ws k b 7 fs) (h2 : fs[4]? = some (.int cnt)) (h : i.toInt < 0 ∨ cnt.toInt ≤ i.toInt) : tbX ws b i 0 := fun k' ro' ko' n' fs' c' fo' cnt' q1 q2 q3 q4 => by
  obtain rfl := gO_un hD hk q1
  rw [h2] at q3
  cases q3
  exact Or.inr ⟨h, rfl⟩
theorem tbX_in {fo : Nat → Int32} (hD : va_D A ws) (hk : ows ws k b 7 fs) (h0 : fs[3]? = some (.ref ro)) (h2 : fs[4]? = some (.int cnt)) (hf : iws ws ko ro c n fo) (h : 0 ≤ i.toInt ∧ i.toInt < cnt.toInt) (e : r = fo i.toNatClampNeg) : tbX ws b i r := fun k' ro' ko' n' fs' c' fo' cnt' q1 q2 q3 q4 => by
  obtain rfl := gO_un hD hk q1
  rw [h2] at q3
  cases q3
  rw [h0] at q2
  cases q2
  have e2 := hD.1 _ _ _ _ hf q4 rfl
  subst e2
  rw [iws, hf] at q4
  cases q4
  exact Or.inl ⟨h.1, h.2, e⟩
theorem agX_out (hD : va_D A ws) (hk : ows ws k b 7 fs) (h2 : fs[2]? = some (.int cnt)) (h : i.toInt < 0 ∨ cnt.toInt ≤ i.toInt) : agX ws b i 0 := fun k' ro' ko' n' fs' c' fo' cnt' q1 q2 q3 q4 => by
  obtain rfl := gO_un hD hk q1
  rw [h2] at q3
  cases q3
  exact Or.inr ⟨h, rfl⟩
theorem agX_in {fo : Nat → Int64} {r : Int64} (hD : va_D A ws) (hk : ows ws k b 7 fs) (h0 : fs[1]? = some (.ref ro)) (h2 : fs[2]? = some (.int cnt)) (hf : jws ws ko ro c n fo) (h : 0 ≤ i.toInt ∧ i.toInt < cnt.toInt) (e : r = fo i.toNatClampNeg) : agX ws b i r := fun k' ro' ko' n' fs' c' fo' cnt' q1 q2 q3 q4 => by
  obtain rfl := gO_un hD hk q1
  rw [h2] at q3
  cases q3
  rw [h0] at q2
  cases q2
  have e2 := hD.1 _ _ _ _ hf q4 rfl
  subst e2
  rw [jws, hf] at q4
  cases q4
  exact Or.inl ⟨h.1, h.2, e⟩
end RX
theorem tc_ok {ws : va_W} {b : Nat} {i o z r : Int32} {a : Int64} (q : swR ws b) (ho : opX ws b i o) (hs : o.toInt = 170 ∨ o.toInt = 171) (ha : agX ws b i a) (hz : a.toInt32 = z) (ht : tbX ws b z r) : r.toInt ≠ -2147483648 := by
  obtain ⟨k, ro, ra, rt, ko, ka, kt, no, na, nt, fs, co, ca, ct, fo, fa, ft, cnt, tc, p0, p1, p2, p3, p4, p5, p6, p7, p8, p9⟩ := q
  have cl : ∀ x : Int32, x.toNatClampNeg = x.toInt.toNat := fun _ => rfl
  rcases ho _ _ _ _ _ _ _ _ p0 p1 p3 p6 with ⟨h1, h2, h3⟩ | ⟨-, h3⟩
  · rcases ha _ _ _ _ _ _ _ _ p0 p2 p3 p7 with ⟨-, -, h4⟩ | ⟨h4, -⟩
    · rcases ht _ _ _ _ _ _ _ _ p0 p4 p5 p8 with ⟨h5, h6, h7⟩ | ⟨-, h7⟩
      · have w := p9 i.toNatClampNeg (by rw [cl]; omega) (by
          rw [← h3]
          rcases hs with hs | hs
          · exact Or.inl (Int32.toInt_inj.mp hs)
          · exact Or.inr (Int32.toInt_inj.mp hs)) z.toInt (by rw [← h4, hz]) h5 h6
        rw [h7, cl]
        exact w
      · rw [h7]; decide
    · omega
  · rw [h3] at hs
    exact absurd hs (by decide)
theorem swC_at {A : Nat → Prop} {ws : va_W} {k h b : Nat} {fs : List Value} (hD : va_D A ws) (hk : ows ws k h 5 fs) (h12 : fs[12]? = some (.ref b)) (q : swC ws h) : swR ws b := by
  obtain ⟨k', b', fs', p1, p2, p3⟩ := q
  obtain rfl := gO_un hD hk p1
  rw [h12] at p2
  cases p2
  exact p3
