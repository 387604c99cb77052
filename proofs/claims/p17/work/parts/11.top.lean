/-! what holds of the whole between calls: the machine's file has tame switches -/
def tpM (ws : va_W) (h : Nat) : Prop := ∃ (k m km : Nat) (fs ms : List Value) (v : Option Nat), ows ws k h 11 fs ∧ fs[7]? = some (.ref m) ∧ ows ws km m 5 ms ∧ ms[0]? = some (va_rf v) ∧ ∀ u, v = some u → swM ws u
theorem tpM_mo {F C : List (Nat × Nat)} {S : Option Nat} {ws ws' : va_W} {h : Nat} (hF : gF F C S ws ws') (h0 : (7, 0) ∉ F) (h1 : (7, 1) ∉ F) (h2 : (7, 2) ∉ F) (h3 : (7, 3) ∉ F) (h4 : (7, 4) ∉ F) (c0 : (7, 0) ∉ C) (c1 : (7, 1) ∉ C) (c3 : (7, 3) ∉ C) (f13 : (9, 13) ∉ F) (c13 : (9, 13) ∉ C) (f0 : (5, 0) ∉ F) (f7 : (11, 7) ∉ F) (q : tpM ws h) : tpM ws' h := by
  obtain ⟨k, m, km, fs, ms, v, p1, p2, p3, p4, p5⟩ := q
  obtain ⟨fs', q1, q2, -⟩ := hF.1 _ _ _ _ p1
  obtain ⟨ms', q3, q4, -⟩ := hF.1 _ _ _ _ p3
  exact ⟨k, m, km, fs', ms', v, q1, (q2 7 f7).trans p2, q3, (q4 0 f0).trans p4, fun u hu => swM_mo hF h0 h1 h2 h3 h4 c0 c1 c3 f13 c13 (p5 u hu)⟩
theorem tpM_u {A : Nat → Prop} {ws : va_W} {k km h m u : Nat} {fs ms : List Value} (hD : va_D A ws) (hk : ows ws k h 11 fs) (h7 : fs[7]? = some (.ref m)) (hm : ows ws km m 5 ms) (h0 : ms[0]? = some (.ref u)) (q : tpM ws h) : swU ws m := by
  obtain ⟨k', m', km', fs', ms', v, p1, p2, p3, p4, p5⟩ := q
  obtain rfl := gO_un hD hk p1
  rw [h7] at p2
  cases p2
  obtain rfl := gO_un hD hm p3
  rw [h0] at p4
  have e := fe_qr p4.symm
  exact ⟨_, u, _, hm, h0, p5 u e⟩
def tpA (g : Gm) (ws : va_W) (h : Nat) : Prop := ∃ (k m : Nat) (fs : List Value), ows ws k h 11 fs ∧ fs[7]? = some (.ref m) ∧ arP g ws m
theorem tpA_mo {g : Gm} {F C : List (Nat × Nat)} {S : Option Nat} {ws ws' : va_W} {h : Nat} (hF : gF F C S ws ws') (hE : gE ws ws') (f4 : (5, 4) ∉ F) (f5 : (5, 5) ∉ F) (f7 : (11, 7) ∉ F) (q : tpA g ws h) : tpA g ws' h := by
  obtain ⟨k, m, fs, p1, p2, p3⟩ := q
  obtain ⟨fs', q1, q2, -⟩ := hF.1 _ _ _ _ p1
  exact ⟨k, m, fs', q1, (q2 7 f7).trans p2, arP_mo hF hE f4 f5 p3⟩
theorem tpA_u {A : Nat → Prop} {g : Gm} {ws : va_W} {k h m : Nat} {fs : List Value} (hD : va_D A ws) (hk : ows ws k h 11 fs) (h7 : fs[7]? = some (.ref m)) (q : tpA g ws h) : arP g ws m := by
  obtain ⟨k', m', fs', p1, p2, p3⟩ := q
  obtain rfl := gO_un hD hk p1
  rw [h7] at p2
  cases p2
  exact p3
