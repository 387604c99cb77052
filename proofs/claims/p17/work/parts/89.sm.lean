/-! Smith: its row, and all others -/
def KR (ws u : va_W) (b : Nat) : Prop := ∀ (r : Nat) (P : RP), r ≠ b → rowC ws r P → rowC u r P
def KS (ws u : va_W) (h : Nat) : Prop := ∀ (k b : Nat) (fs : List Value), ows ws k h 8 fs → fs[0]? = some (.ref b) → KR ws u b
theorem KR_rf {ws : va_W} {b : Nat} : KR ws ws b := fun _ _ _ q => q
theorem KR.tr {ws u v : va_W} {b : Nat} (h : KR ws u b) (h2 : KR u v b) : KR ws v b := fun r P hn q => h2 r P hn (h r P hn q)
theorem KR_s {F C : List (Nat × Nat)} {ws u : va_W} {b : Nat} (hF : gF F C (some b) ws u) : KR ws u b := fun _ _ hn q => rowC_ms hF hn q
theorem KR_mo {F C : List (Nat × Nat)} {S : Option Nat} {ws w w' : va_W} {b : Nat} (hF : gF F C S w w') (h0 : (7, 0) ∉ F) (h1 : (7, 1) ∉ F) (h2 : (7, 2) ∉ F) (h3 : (7, 3) ∉ F) (h4 : (7, 4) ∉ F) (c0 : (7, 0) ∉ C) (c1 : (7, 1) ∉ C) (c3 : (7, 3) ∉ C) (q : KR ws w b) : KR ws w' b := fun r P hn q0 => rowC_mo hF h0 h1 h2 h3 h4 c0 c1 c3 (q r P hn q0)
def smR (ws : va_W) (h : Nat) : Prop := ∃ (k b : Nat) (fs : List Value), ows ws k h 8 fs ∧ fs[0]? = some (.ref b) ∧ rowC ws b RW
theorem smR_mo {F C : List (Nat × Nat)} {S : Option Nat} {ws ws' : va_W} {h : Nat} (hF : gF F C S ws ws') (g0 : (8, 0) ∉ F) (h0 : (7, 0) ∉ F) (h1 : (7, 1) ∉ F) (h2 : (7, 2) ∉ F) (h3 : (7, 3) ∉ F) (h4 : (7, 4) ∉ F) (c0 : (7, 0) ∉ C) (c1 : (7, 1) ∉ C) (c3 : (7, 3) ∉ C) (q : smR ws h) : smR ws' h := by
  obtain ⟨k, b, fs, p1, p2, p3⟩ := q
  obtain ⟨fs', q1, q2, -⟩ := hF.1 _ _ _ _ p1
  exact ⟨k, b, fs', q1, (q2 0 g0).trans p2, rowC_mo hF h0 h1 h2 h3 h4 c0 c1 c3 p3⟩
theorem smR_at {A : Nat → Prop} {ws : va_W} {k h b : Nat} {fs : List Value} (hD : va_D A ws) (hk : ows ws k h 8 fs) (h0 : fs[0]? = some (.ref b)) (q : smR ws h) : rowC ws b RW := by
  obtain ⟨k', b', fs', p1, p2, p3⟩ := q
  obtain rfl := gO_un hD hk p1
  rw [h0] at p2
  cases p2
  exact p3
theorem KS_of {A : Nat → Prop} {ws u : va_W} {k h b : Nat} {fs : List Value} (hD : va_D A ws) (hk : ows ws k h 8 fs) (h0 : fs[0]? = some (.ref b)) (q : KR ws u b) : KS ws u h := fun k' b' fs' p1 p2 => by
  obtain rfl := gO_un hD hk p1
  rw [h0] at p2
  cases p2
  exact q
def stQ (P : RP) (i o : Int32) (a : Int64) : RP := fun fo fa ft c t => P fo fa ft c t ∨ stO P i o a fo fa ft c t
theorem sto_rw {i o : Int32} {a : Int64} {fo : Nat → Int32} {fa : Nat → Int64} {ft : Nat → Int32} {c t : Int} (w : stQ RW i o a fo fa ft c t) (h : o.toInt ≠ 170 ∧ o.toInt ≠ 171) : RW fo fa ft c t := by
  rcases w with w | ⟨fo0, fa0, w1, rfl, rfl⟩
  · exact w
  · exact w1.set (k := i.toNatClampNeg) (fun _ h => upd_ne h) (fun _ h => updL_ne h) (by rw [upd_eq]; exact swO_no h)
/-- all rows stay; Smith's own is the old one or a new one -/
def KA (ws u : va_W) : Prop := ∀ (r : Nat) (P : RP), rowC ws r P → rowC u r P
theorem KA_rf {ws : va_W} : KA ws ws := fun _ _ q => q
theorem KA_mo {F C : List (Nat × Nat)} {S : Option Nat} {ws w w' : va_W} (hF : gF F C S w w') (h0 : (7, 0) ∉ F) (h1 : (7, 1) ∉ F) (h2 : (7, 2) ∉ F) (h3 : (7, 3) ∉ F) (h4 : (7, 4) ∉ F) (c0 : (7, 0) ∉ C) (c1 : (7, 1) ∉ C) (c3 : (7, 3) ∉ C) (q : KA ws w) : KA ws w' := fun r P q0 => rowC_mo hF h0 h1 h2 h3 h4 c0 c1 c3 (q r P q0)
def frW (ws u : va_W) (h : Nat) : Prop := ∀ (k b : Nat) (fs : List Value), ows u k h 8 fs → fs[0]? = some (.ref b) → (∃ (k0 : Nat) (fs0 : List Value), ows ws k0 h 8 fs0 ∧ fs0[0]? = some (.ref b)) ∨ ∀ ci : Nat, ¬ gC ws b ci
def nsR (ws : va_W) (h r : Nat) : Prop := ∀ (k b : Nat) (fs : List Value), ows ws k h 8 fs → fs[0]? = some (.ref b) → r ≠ b
theorem frW_of {A : Nat → Prop} {ws u : va_W} {k h b : Nat} {fs : List Value} (hD : va_D A u) (hk : ows u k h 8 fs) (h0 : fs[0]? = some (.ref b)) (q : (∃ (k0 : Nat) (fs0 : List Value), ows ws k0 h 8 fs0 ∧ fs0[0]? = some (.ref b)) ∨ ∀ ci : Nat, ¬ gC ws b ci) : frW ws u h := fun k' b' fs' p1 p2 => by
  obtain rfl := gO_un hD hk p1
  rw [h0] at p2
  cases p2
  exact q
theorem no_gC {ws : va_W} {q ci : Nat} (hn : ∀ (k : Nat) (y : Nat × va_E), ws[k]? = some y → y.1 ≠ q) : ¬ gC ws q ci := by
  intro h
  obtain ⟨k, fs, hk⟩ := gC_of h
  exact hn _ _ hk rfl
theorem ne_frW {ws u : va_W} {k h b r ci : Nat} {fs : List Value} (q : frW ws u h) (hn : nsR ws h r) (hr : gC ws r ci) (hk : ows u k h 8 fs) (h0 : fs[0]? = some (.ref b)) : r ≠ b := by
  rcases q _ _ _ hk h0 with ⟨k0, fs0, p1, p2⟩ | p
  · exact hn _ _ _ p1 p2
  · rintro rfl
    exact p _ hr
def smW (ws : va_W) (h : Nat) : Prop := ∃ (k b kb r0 r3 n0 n3 : Nat) (fs gs : List Value) (c0 c3 : ClassId), ows ws k h 8 fs ∧ fs[0]? = some (.ref b) ∧ ows ws kb b 7 gs ∧ gs[0]? = some (.ref r0) ∧ gs[3]? = some (.ref r3) ∧ gI ws r0 c0 n0 ∧ gI ws r3 c3 n3 ∧ 1296 ≤ n0 ∧ 1200 ≤ n3
theorem smW_mo {F C : List (Nat × Nat)} {S : Option Nat} {ws ws' : va_W} {h : Nat} (hF : gF F C S ws ws') (hE : gE ws ws') (g0 : (8, 0) ∉ F) (f0 : (7, 0) ∉ F) (f3 : (7, 3) ∉ F) (q : smW ws h) : smW ws' h := by
  obtain ⟨k, b, kb, r0, r3, n0, n3, fs, gs, c0, c3, p1, p2, p3, p4, p5, p6, p7, p8⟩ := q
  obtain ⟨fs', q1, q2, -⟩ := hF.1 _ _ _ _ p1
  obtain ⟨gs', q3, q4, -⟩ := hF.1 _ _ _ _ p3
  exact ⟨k, b, kb, r0, r3, n0, n3, fs', gs', c0, c3, q1, (q2 0 g0).trans p2, q3, (q4 0 f0).trans p4, (q4 3 f3).trans p5, hE.1 _ _ p6, hE.1 _ _ p7, p8⟩
theorem smW_at {A : Nat → Prop} {ws : va_W} {k h b kb r0 r3 n0 n3 : Nat} {fs gs : List Value} {c0 c3 : ClassId} (hD : va_D A ws) (hk : ows ws k h 8 fs) (h0 : fs[0]? = some (.ref b)) (hb : ows ws kb b 7 gs) (g0 : gs[0]? = some (.ref r0)) (g3 : gs[3]? = some (.ref r3)) (a0 : gI ws r0 c0 n0) (a3 : gI ws r3 c3 n3) (q : smW ws h) : 1296 ≤ n0 ∧ 1200 ≤ n3 := by
  obtain ⟨k', b', kb', r0', r3', n0', n3', fs', gs', c0', c3', p1, p2, p3, p4, p5, p6, p7, p8⟩ := q
  obtain rfl := gO_un hD hk p1
  rw [h0] at p2
  cases p2
  obtain rfl := gO_un hD hb p3
  rw [g0] at p4
  cases p4
  rw [g3] at p5
  cases p5
  have e0 := gI_n hD a0 p6
  have e3 := gI_n hD a3 p7
  omega
/-- what a call leaves of all rows but Smith's -/
def KM (ws u : va_W) (h : Nat) : Prop := ∀ (r : Nat) (P : RP), nsR ws h r → rowC ws r P → rowC u r P
theorem KM_of {ws w u : va_W} {k h b : Nat} {fs : List Value} (q : frW ws w h) (ka : KA ws w) (hk : ows w k h 8 fs) (h0 : fs[0]? = some (.ref b)) (kr : KR w u b) : KM ws u h := fun r P hn q0 => kr r P (ne_frW (ci := 7) q hn (by
  obtain ⟨k, ro, ra, rt, ko, ka, kt, no, na, nt, fs, co, ca, ct, fo, fa, ft, cnt, tc, p0, -⟩ := q0
  exact ⟨k, _, p0, rfl⟩) hk h0) (ka r P q0)
