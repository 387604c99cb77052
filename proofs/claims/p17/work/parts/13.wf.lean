/-! the instructions of a method follow one another to its end -/
def wfI (t f : Nat → Int32) (e : Int32) (n : Nat) (cd sz o : Int32) : Prop := ∀ P : Int32 → Prop, (∀ o : Int32, sz.toInt ≤ o.toInt → P o) → (∀ o : Int32, o.toInt < sz.toInt → 0 < (kLen t f e n cd sz o).toInt → P (o + kLen t f e n cd sz o) → P o) → P o
theorem wfI.fin {t f : Nat → Int32} {e : Int32} {n : Nat} {cd sz o : Int32} (h : sz.toInt ≤ o.toInt) : wfI t f e n cd sz o := fun _ h1 _ => h1 o h
theorem wfI.step {t f : Nat → Int32} {e : Int32} {n : Nat} {cd sz o : Int32} (h1 : o.toInt < sz.toInt) (h2 : 0 < (kLen t f e n cd sz o).toInt) (h3 : wfI t f e n cd sz (o + kLen t f e n cd sz o)) : wfI t f e n cd sz o := fun P p1 p2 => p2 o h1 h2 (h3 P p1 p2)
theorem wfI.inv {t f : Nat → Int32} {e : Int32} {n : Nat} {cd sz o : Int32} (h : wfI t f e n cd sz o) (ho : o.toInt < sz.toInt) : 0 < (kLen t f e n cd sz o).toInt ∧ wfI t f e n cd sz (o + kLen t f e n cd sz o) := by
  have w := h (fun o => sz.toInt ≤ o.toInt ∨ (0 < (kLen t f e n cd sz o).toInt ∧ wfI t f e n cd sz (o + kLen t f e n cd sz o))) (fun o h => Or.inl h) (fun o h1 h2 h3 => Or.inr ⟨h2, by
    rcases h3 with h3 | ⟨h3, h4⟩
    · exact wfI.fin h3
    · by_cases hz : sz.toInt ≤ (o + kLen t f e n cd sz o).toInt
      · exact wfI.fin hz
      · exact wfI.step (by omega) h3 h4⟩)
  rcases w with w | w
  · omega
  · exact w
/-- at the method that is looked at: from o on -/
def wfO (g : Gm) (ws : va_W) (h : Nat) (o : Int32) : Prop := ∃ (f : Nat → Int32) (e : Int32) (n : Nat) (cd sz : Int32), vx ws h f e n cd sz ∧ wfI g.tL f e n cd sz o
theorem wfO_mo {g : Gm} {F C : List (Nat × Nat)} {S : Option Nat} {ws ws' : va_W} {h : Nat} {o : Int32} (hF : gF F C S ws ws') (f0 : (6, 0) ∉ F) (f1 : (6, 1) ∉ F) (c0 : (6, 0) ∉ C) (g0 : (2, 0) ∉ F) (g1 : (2, 1) ∉ F) (g2 : (2, 2) ∉ F) (q : wfO g ws h o) : wfO g ws' h o := by
  obtain ⟨f, e, n, cd, sz, p1, p2⟩ := q
  exact ⟨f, e, n, cd, sz, vx_mo hF f0 f1 c0 g0 g1 g2 p1, p2⟩
/-- one instruction on -/
theorem wfO_st {A : Nat → Prop} {g : Gm} {ws : va_W} {k h d : Nat} {fs : List Value} {cd sz o r z m : Int32} (hD : va_D A ws) (hk : ows ws k h 2 fs) (h0 : fs[0]? = some (.ref d)) (h1 : fs[1]? = some (.int cd)) (h2 : fs[2]? = some (.int sz)) (hr : ∀ (f : Nat → Int32) (e : Int32) (n : Nat) (cd sz : Int32), vx ws h f e n cd sz → r = kLen g.tL f e n cd sz o) (ho : o.toInt < sz.toInt) (hm : 0 < r.toInt → m.toInt = r.toInt) (hz : z = o + m) (q : wfO g ws h o) : 0 < r.toInt ∧ wfO g ws h z := by
  obtain ⟨f, e, n, cd', sz', p1, p2⟩ := q
  have hu := vx_un hD hk h0 h1 h2 p1
  have e1 := hr _ _ _ _ _ p1
  have ho' : o.toInt < sz'.toInt := by rw [hu.2.2]; exact ho
  obtain ⟨q1, q2⟩ := p2.inv ho'
  rw [← e1] at q1 q2
  have em : m = r := Int32.toInt_inj.mp (hm q1)
  exact ⟨q1, f, e, n, cd', sz', p1, by rw [hz, em]; exact q2⟩
/-- the fields op and arg -/
def opF (ws : va_W) (h : Nat) (o : Int32) (a : Int64) : Prop := ∃ (k : Nat) (fs : List Value), ows ws k h 2 fs ∧ fs[9]? = some (.int o) ∧ fs[10]? = some (.long a)
theorem opF_mo {F C : List (Nat × Nat)} {S : Option Nat} {ws ws' : va_W} {h : Nat} {o : Int32} {a : Int64} (hF : gF F C S ws ws') (f9 : (2, 9) ∉ F) (f10 : (2, 10) ∉ F) (q : opF ws h o a) : opF ws' h o a := by
  obtain ⟨k, fs, p1, p2, p3⟩ := q
  obtain ⟨fs', q1, q2, -⟩ := hF.1 _ _ _ _ p1
  exact ⟨k, fs', q1, (q2 9 f9).trans p2, (q2 10 f10).trans p3⟩
theorem opF_un {A : Nat → Prop} {ws : va_W} {k h : Nat} {fs : List Value} {o o' : Int32} {a a' : Int64} (hD : va_D A ws) (hk : ows ws k h 2 fs) (h9 : fs[9]? = some (.int o)) (h10 : fs[10]? = some (.long a)) (q : opF ws h o' a') : o' = o ∧ a' = a := by
  obtain ⟨k', fs', p1, p2, p3⟩ := q
  obtain rfl := gO_un hD hk p1
  rw [h9] at p2
  cases p2
  rw [h10] at p3
  cases p3
  exact ⟨rfl, rfl⟩
def isS (o : Int32) : Prop := o.toInt = 170 ∨ o.toInt = 171
/-- what decode leaves -/
def dcP (ws u : va_W) (h : Nat) (x : Int32) : Prop := ∃ (o : Int32) (a : Int64), opF u h o a ∧ (isS o → ∀ (f : Nat → Int32) (e : Int32) (n : Nat) (cd sz : Int32), vx ws h f e n cd sz → (o = kU1 f e n cd sz x ∧ a = (kNum x).toInt64) ∨ ((kU1 f e n cd sz x).toInt = 196 ∧ o = kU1 f e n cd sz (x + 1)))
def dlP (ws u : va_W) (h : Nat) (x : Int32) : Prop := ∃ (o : Int32) (a : Int64), opF u h o a ∧ (isS o → (∃ a', opF ws h o a') ∨ ∀ (f : Nat → Int32) (e : Int32) (n : Nat) (cd sz : Int32), vx ws h f e n cd sz → o = kU1 f e n cd sz x ∨ ((kU1 f e n cd sz x).toInt = 196 ∧ o = kU1 f e n cd sz (x + 1)))
def kCnt (o : Int32) (f : Nat → Int32) (e : Int32) (n : Nat) (cd sz q : Int32) : Int32 := if o.toInt = 170 then kS4 f e n cd sz (q + 8) - kS4 f e n cd sz (q + 4) + 1 else kS4 f e n cd sz (q + 4)
theorem kNum_b {o : Int32} (ho : 0 ≤ o.toInt ∧ o.toInt ≤ 2000) : o.toInt + 1 ≤ (kNum o).toInt ∧ (kNum o).toInt ≤ o.toInt + 4 := by
  obtain ⟨y, hy⟩ : ∃ y : Int32, y = o + 4 := ⟨_, rfl⟩
  have h1 := i_m4 (z := kNum o) (x := y) (y := -4) (by rw [hy]; rfl) rfl
  obtain ⟨q, hq⟩ := i_add hy
  have e4 : (4 : Int32).toInt = 4 := by decide
  have h2 := i_rg y
  omega
theorem i_subW {x y : Int32} {d : Int} (h : x.toInt64.toInt - y.toInt64.toInt = d) (h0 : 0 ≤ d) (h1 : d ≤ 1000) : (x - y).toInt = d := by
  have e1 : x.toInt64.toInt = x.toInt := Int32.toInt_toInt64 x
  have e2 : y.toInt64.toInt = y.toInt := Int32.toInt_toInt64 y
  obtain ⟨q, hq⟩ := i_sub (rfl : x - y = x - y)
  have h2 := i_rg (x - y)
  omega
theorem l_subW {x y : Int32} : (x.toInt64 - y.toInt64).toInt = x.toInt64.toInt - y.toInt64.toInt := by
  have e1 : x.toInt64.toInt = x.toInt := Int32.toInt_toInt64 x
  have e2 : y.toInt64.toInt = y.toInt := Int32.toInt_toInt64 y
  have h1 := i_rg x
  have h2 := i_rg y
  rw [Int64.toInt_sub]
  apply Int.bmod_eq_of_le <;> omega
/-- how much room the table of a switch takes -/
theorem tab_room {t f : Nat → Int32} {e : Int32} {n : Nat} {cd sz o : Int32} (ho : 0 ≤ o.toInt ∧ o.toInt ≤ 1200) (hL : 0 < (kLen t f e n cd sz o).toInt) (hu : (kU1 f e n cd sz o).toInt = 170) : 1 ≤ (kS4 f e n cd sz (kNum o + 8) - kS4 f e n cd sz (kNum o + 4) + 1).toInt ∧ (kS4 f e n cd sz (kNum o + 8) - kS4 f e n cd sz (kNum o + 4) + 1).toInt ≤ 201 ∧ (kS4 f e n cd sz (kNum o + 8) - kS4 f e n cd sz (kNum o + 4) + 1).toInt + 3 ≤ (kLen t f e n cd sz o).toInt := by
  have z0 : (0 : Int32).toInt = 0 := by decide
  unfold kLen at hL ⊢
  split at hL
  · omega
  · rename_i h1
    rw [if_neg h1]
    have e0 : kL0 t f e n cd sz o = kTab f e n cd sz o := by unfold kL0; rw [if_pos hu]
    rw [e0] at hL ⊢
    unfold kTab at hL ⊢
    split at hL
    · omega
    · rename_i h2
      rw [if_neg h2]
      have hn := kNum_b (o := o) ⟨ho.1, by omega⟩
      generalize kS4 f e n cd sz (kNum o + 8) = a at h2 hL ⊢
      generalize kS4 f e n cd sz (kNum o + 4) = b at h2 hL ⊢
      generalize kNum o = q at hn hL ⊢
      have hd : 0 ≤ (a.toInt64 - b.toInt64).toInt ∧ (a.toInt64 - b.toInt64).toInt ≤ 200 := by omega
      have hw : (a - b).toInt = (a.toInt64 - b.toInt64).toInt := by rw [l_subW] at hd ⊢; exact i_subW rfl hd.1 (by omega)
      obtain ⟨s, hs⟩ : ∃ s : Int64, s = a.toInt64 - b.toInt64 := ⟨_, rfl⟩
      rw [← hs] at hd hw hL ⊢
      obtain ⟨y, hy⟩ : ∃ y : Int32, y = s.toInt32 := ⟨_, rfl⟩
      have hy1 := l_2i hy.symm
      rw [← hy] at hL ⊢
      obtain ⟨m, hm⟩ : ∃ m : Int32, m = 4 * y := ⟨_, rfl⟩
      have hm1 := i_mulL (c := 4) (K := 500000000) hm (by decide) (by decide) (by decide) (by decide)
      rw [← hm] at hL ⊢
      obtain ⟨v, hv⟩ : ∃ v : Int32, v = q + 16 := ⟨_, rfl⟩
      obtain ⟨u1, hv1⟩ := i_add hv
      rw [← hv] at hL ⊢
      obtain ⟨w, hw9⟩ : ∃ w : Int32, w = v + m := ⟨_, rfl⟩
      obtain ⟨u2, hw2⟩ := i_add hw9
      rw [← hw9] at hL ⊢
      obtain ⟨x, hx⟩ : ∃ x : Int32, x = w - o := ⟨_, rfl⟩
      obtain ⟨u3, hx1⟩ := i_sub hx
      rw [← hx] at hL ⊢
      obtain ⟨c, hc⟩ : ∃ c : Int32, c = a - b + 1 := ⟨_, rfl⟩
      obtain ⟨u4, hc1⟩ := i_add hc
      rw [← hc]
      have e16 : (16 : Int32).toInt = 16 := by decide
      have e1 : (1 : Int32).toInt = 1 := by decide
      have g1 := i_rg v
      have g2 := i_rg w
      have g3 := i_rg x
      have g4 := i_rg c
      have g5 := i_rg y
      have g6 := i_rg m
      omega
theorem look_room {t f : Nat → Int32} {e : Int32} {n : Nat} {cd sz o : Int32} (ho : 0 ≤ o.toInt ∧ o.toInt ≤ 1200) (hL : 0 < (kLen t f e n cd sz o).toInt) (hu : (kU1 f e n cd sz o).toInt = 171) : 0 ≤ (kS4 f e n cd sz (kNum o + 4)).toInt ∧ (kS4 f e n cd sz (kNum o + 4)).toInt ≤ 200 ∧ 2 * (kS4 f e n cd sz (kNum o + 4)).toInt + 3 ≤ (kLen t f e n cd sz o).toInt := by
  have z0 : (0 : Int32).toInt = 0 := by decide
  unfold kLen at hL ⊢
  split at hL
  · omega
  · rename_i h1
    rw [if_neg h1]
    have e0 : kL0 t f e n cd sz o = kLook f e n cd sz o := by unfold kL0; rw [if_neg (by omega), if_pos hu]
    rw [e0] at hL ⊢
    unfold kLook at hL ⊢
    split at hL
    · omega
    · rename_i h2
      rw [if_neg h2]
      have h3 : ¬ (kS4 f e n cd sz (kNum o + 4)).toInt < 0 := fun h => h2 (Or.inr (Or.inl h))
      have h4 : ¬ 200 < (kS4 f e n cd sz (kNum o + 4)).toInt := fun h => h2 (Or.inr (Or.inr (Or.inl h)))
      clear h2
      have hn := kNum_b (o := o) ⟨ho.1, by omega⟩
      generalize kS4 f e n cd sz (kNum o + 4) = b at h3 h4 hL ⊢
      generalize kNum o = q at hn hL ⊢
      obtain ⟨m, hm⟩ : ∃ m : Int32, m = 8 * b := ⟨_, rfl⟩
      have hm1 := i_mulL (c := 8) (K := 250000000) hm (by decide) (by decide) (by decide) (by decide)
      rw [← hm] at hL ⊢
      obtain ⟨v, hv⟩ : ∃ v : Int32, v = q + 8 := ⟨_, rfl⟩
      obtain ⟨u1, hv1⟩ := i_add hv
      rw [← hv] at hL ⊢
      obtain ⟨w, hw9⟩ : ∃ w : Int32, w = v + m := ⟨_, rfl⟩
      obtain ⟨u2, hw2⟩ := i_add hw9
      rw [← hw9] at hL ⊢
      obtain ⟨x, hx⟩ : ∃ x : Int32, x = w - o := ⟨_, rfl⟩
      obtain ⟨u3, hx1⟩ := i_sub hx
      rw [← hx] at hL ⊢
      have e8 : (8 : Int32).toInt = 8 := by decide
      have g1 := i_rg v
      have g2 := i_rg w
      have g3 := i_rg x
      have g6 := i_rg m
      omega
/-- a wide that is no switch -/
theorem wide_no {t f : Nat → Int32} {e : Int32} {n : Nat} {cd sz x : Int32} (hL : 0 < (kLen t f e n cd sz x).toInt) (hu : (kU1 f e n cd sz x).toInt = 196) (hs : isS (kU1 f e n cd sz (x + 1))) : False := by
  have z0 : (0 : Int32).toInt = 0 := by decide
  unfold kLen at hL
  split at hL
  · omega
  · have e0 : kL0 t f e n cd sz x = 0 := by
      unfold kL0
      rw [if_neg (by omega), if_neg (by omega), if_pos hu]
      unfold kWide
      unfold isS at hs
      rw [if_neg (by omega), if_neg (by omega)]
    rw [e0] at hL
    omega
/-- a switch of tableRoom: what its table takes is no more than its bytes -/
theorem sw_room {A : Nat → Prop} {g : Gm} {wa ws : va_W} {k h d : Nat} {fs : List Value} {cd sz op o z r c : Int32} {a : Int64} (hD : va_D A ws) (hk : ows ws k h 2 fs) (h0 : fs[0]? = some (.ref d)) (h1 : fs[1]? = some (.int cd)) (h2 : fs[2]? = some (.int sz)) (h9 : fs[9]? = some (.int op)) (h10 : fs[10]? = some (.long a)) (hdc : dcP wa ws h o) (q : wfO g wa h o) (hmo : ∀ (f : Nat → Int32) (e : Int32) (n : Nat) (cd sz : Int32), vx wa h f e n cd sz → vx ws h f e n cd sz) (hL : ∀ (f : Nat → Int32) (e : Int32) (n : Nat) (cd sz : Int32), vx ws h f e n cd sz → r = kLen g.tL f e n cd sz o) (hc : ∀ (f : Nat → Int32) (e : Int32) (n : Nat) (cd sz : Int32) (o : Int32) (a : Int64), vx ws h f e n cd sz → opF ws h o a → c = kCnt o f e n cd sz z) (hop : isS op) (hz : a.toInt32 = z) (hs : o.toInt < sz.toInt) (ho : 0 ≤ o.toInt ∧ o.toInt ≤ 1200) : (op.toInt = 170 → 1 ≤ c.toInt ∧ c.toInt ≤ 201 ∧ c.toInt + 3 ≤ r.toInt) ∧ (op.toInt ≠ 170 → 0 ≤ c.toInt ∧ c.toInt ≤ 200 ∧ 2 * c.toInt + 3 ≤ r.toInt) := by
  obtain ⟨f, e, n, cd', sz', p1, p2⟩ := q
  have p3 := hmo _ _ _ _ _ p1
  have hu := vx_un hD hk h0 h1 h2 p3
  have eL := hL _ _ _ _ _ p3
  obtain ⟨q1, -⟩ := p2.inv (by rw [hu.2.2]; exact hs)
  have ec := hc _ _ _ _ _ op a p3 ⟨k, fs, hk, h9, h10⟩
  obtain ⟨o', a', d1, d2⟩ := hdc
  obtain ⟨rfl, rfl⟩ := opF_un hD hk h9 h10 d1
  rw [eL]
  rcases d2 hop _ _ _ _ _ p1 with ⟨w1, w2⟩ | ⟨w1, w2⟩
  · have ez : z = kNum o := by rw [← hz, w2, Int32.toInt32_toInt64]
    subst ez
    rw [ec]
    refine ⟨fun h170 => ?_, fun hn => ?_⟩
    · unfold kCnt
      rw [if_pos h170]
      exact tab_room ho q1 (by rw [← w1]; exact h170)
    · unfold kCnt
      rw [if_neg hn]
      have h171 : o'.toInt = 171 := hop.resolve_left hn
      exact look_room ho q1 (by rw [← w1]; exact h171)
  · exact absurd (wide_no q1 w1 (by rw [← w2]; exact hop)) (fun h => h)
/-- what decodeLocal leaves, in decode -/
theorem dc_l {A : Nat → Prop} {ws wk u : va_W} {k h : Nat} {fs : List Value} {x ru : Int32} {l : Int64} (hD : va_D A wk) (hk : ows wk k h 2 fs) (h9 : fs[9]? = some (.int ru)) (h10 : fs[10]? = some (.long l)) (hu : ∀ (f : Nat → Int32) (e : Int32) (n : Nat) (cd sz : Int32), vx ws h f e n cd sz → ru = kU1 f e n cd sz x) (hn : ¬ isS ru) (hmo : ∀ (f : Nat → Int32) (e : Int32) (n : Nat) (cd sz : Int32), vx ws h f e n cd sz → vx wk h f e n cd sz) (hl : dlP wk u h x) : dcP ws u h x := by
  obtain ⟨o, a, p, d⟩ := hl
  refine ⟨o, a, p, fun hs f e n cd sz q => ?_⟩
  rcases d hs with ⟨a8, w8⟩ | w8
  · have e1 := (opF_un hD hk h9 h10 w8).1
    rw [e1] at hs
    exact absurd hs hn
  · rcases w8 _ _ _ _ _ (hmo _ _ _ _ _ q) with w7 | w7
    · rw [w7, ← hu _ _ _ _ _ q] at hs
      exact absurd hs hn
    · exact Or.inr w7
/-- an instruction does not pass the end -/
theorem wfO_le {A : Nat → Prop} {g : Gm} {ws : va_W} {k h d : Nat} {fs : List Value} {cd sz o r : Int32} (hD : va_D A ws) (hk : ows ws k h 2 fs) (h0 : fs[0]? = some (.ref d)) (h1 : fs[1]? = some (.int cd)) (h2 : fs[2]? = some (.int sz)) (hr : ∀ (f : Nat → Int32) (e : Int32) (n : Nat) (cd sz : Int32), vx ws h f e n cd sz → r = kLen g.tL f e n cd sz o) (ho : 0 ≤ o.toInt ∧ o.toInt ≤ 1200) (hp : 0 < r.toInt) (h9 : r.toInt ≤ 2000) (q : wfO g ws h o) : o.toInt + r.toInt ≤ sz.toInt := by
  obtain ⟨f, e, n, cd', sz', p1, p2⟩ := q
  have hu := vx_un hD hk h0 h1 h2 p1
  have e1 := hr _ _ _ _ _ p1
  rw [hu.2.2] at e1
  have z0 : (0 : Int32).toInt = 0 := by decide
  unfold kLen at e1
  split at e1
  · rw [e1] at hp
    omega
  · rename_i hn
    rw [← e1] at hn
    obtain ⟨y, hy⟩ : ∃ y : Int32, y = o + r := ⟨_, rfl⟩
    obtain ⟨u, hu2⟩ := i_add hy
    have g1 := i_rg y
    rw [← hy] at hn
    omega
