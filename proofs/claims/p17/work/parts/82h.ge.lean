/-! Graph: how many edges there can be; how they are counted -/
def RV (fo : Nat → Int32) (fa : Nat → Int64) (ft : Nat → Int32) (c t : Int) : Prop := RW fo fa ft c t ∧ 1 ≤ c
def TCx (i r : Int) (fo : Nat → Int32) (fa : Nat → Int64) (ft : Nat → Int32) (c t : Int) : Prop := r ≤ 1 ∨ (0 ≤ i ∧ i < c ∧ swO (fo i.toNat) ∧ (rT fa i.toNat < 0 ∨ t ≤ rT fa i.toNat ∨ r = rM fa ft i.toNat))
section RO
variable {A : Nat → Prop} {ws : va_W} {k b ro ra rt ko ka kt no na nt : Nat} {fs : List Value} {co ca ct : ClassId} {fo : Nat → Int32} {fa : Nat → Int64} {ft : Nat → Int32} {cnt tc : Int32} {P Q : (Nat → Int32) → (Nat → Int64) → (Nat → Int32) → Int → Int → Prop}
theorem rowC_of (hk : ows ws k b 7 fs) (h0 : fs[0]? = some (.ref ro)) (h1 : fs[1]? = some (.ref ra)) (h2 : fs[2]? = some (.int cnt)) (h3 : fs[3]? = some (.ref rt)) (h4 : fs[4]? = some (.int tc)) (ho : iws ws ko ro co no fo) (ha : jws ws ka ra ca na fa) (ht : iws ws kt rt ct nt ft) (hP : P fo fa ft cnt.toInt tc.toInt) : rowC ws b P := ⟨k, ro, ra, rt, ko, ka, kt, no, na, nt, fs, co, ca, ct, fo, fa, ft, cnt, tc, hk, h0, h1, h2, h3, h4, ho, ha, ht, hP⟩
theorem rowC_at (hD : va_D A ws) (hk : ows ws k b 7 fs) (h0 : fs[0]? = some (.ref ro)) (h1 : fs[1]? = some (.ref ra)) (h2 : fs[2]? = some (.int cnt)) (h3 : fs[3]? = some (.ref rt)) (h4 : fs[4]? = some (.int tc)) (ho : iws ws ko ro co no fo) (ha : jws ws ka ra ca na fa) (ht : iws ws kt rt ct nt ft) (q : rowC ws b P) : P fo fa ft cnt.toInt tc.toInt := by
  obtain ⟨k', ro', ra', rt', ko', ka', kt', no', na', nt', fs', co', ca', ct', fo', fa', ft', cnt', tc', p0, p1, p2, p3, p4, p5, p6, p7, p8, p9⟩ := q
  obtain rfl := gO_un hD hk p0
  rw [h0] at p1
  cases p1
  rw [h1] at p2
  cases p2
  rw [h2] at p3
  cases p3
  rw [h3] at p4
  cases p4
  rw [h4] at p5
  cases p5
  obtain ⟨-, -, rfl⟩ := iws_un hD ho p6
  obtain ⟨-, -, rfl⟩ := iws_un hD ht p8
  have e2 := hD.1 _ _ _ _ ha p7 rfl
  subst e2
  rw [jws, ha] at p7
  cases p7
  exact p9
theorem rowC_and (hD : va_D A ws) (q1 : rowC ws b P) (q2 : rowC ws b Q) : rowC ws b (fun fo fa ft c t => P fo fa ft c t ∧ Q fo fa ft c t) := by
  obtain ⟨k', ro', ra', rt', ko', ka', kt', no', na', nt', fs', co', ca', ct', fo', fa', ft', cnt', tc', p0, p1, p2, p3, p4, p5, p6, p7, p8, p9⟩ := q1
  exact ⟨k', ro', ra', rt', ko', ka', kt', no', na', nt', fs', co', ca', ct', fo', fa', ft', cnt', tc', p0, p1, p2, p3, p4, p5, p6, p7, p8, p9, rowC_at hD p0 p1 p2 p3 p4 p5 p6 p7 p8 q2⟩
theorem tc_x2 {i o z r : Int32} {a : Int64} (hk : ows ws k b 7 fs) (h0 : fs[0]? = some (.ref ro)) (h1 : fs[1]? = some (.ref ra)) (h2 : fs[2]? = some (.int cnt)) (h3 : fs[3]? = some (.ref rt)) (h4 : fs[4]? = some (.int tc)) (ho : iws ws ko ro co no fo) (ha : jws ws ka ra ca na fa) (ht : iws ws kt rt ct nt ft) (qo : opX ws b i o) (hs : o.toInt = 170 ∨ o.toInt = 171) (qa : agX ws b i a) (hz : a.toInt32 = z) (qt : tbX ws b z r) : rowC ws b (TCx i.toInt r.toInt) := by
  refine rowC_of hk h0 h1 h2 h3 h4 ho ha ht (Or.inr ?_)
  rcases qo _ _ _ _ _ _ _ _ hk h0 h2 ho with ⟨w1, w2, w3⟩ | ⟨-, w3⟩
  · have e1 : rT fa i.toInt.toNat = z.toInt := by
      rcases qa _ _ _ _ _ _ _ _ hk h1 h2 ha with ⟨-, -, w4⟩ | ⟨w4, -⟩
      · unfold rT
        rw [← cN, ← w4, hz]
      · omega
    refine ⟨w1, w2, ?_, ?_⟩
    · rw [← cN, ← w3]
      rcases hs with hs | hs
      · exact Or.inl (Int32.toInt_inj.mp hs)
      · exact Or.inr (Int32.toInt_inj.mp hs)
    · rw [e1]
      rcases qt _ _ _ _ _ _ _ _ hk h3 h4 ht with ⟨-, -, w7⟩ | ⟨w7 | w7, -⟩
      · refine Or.inr (Or.inr ?_)
        unfold rM
        rw [e1, w7, cN]
      · exact Or.inl w7
      · exact Or.inr (Or.inl w7)
  · rw [w3] at hs
    exact absurd hs (by decide)
end RO
/-- the last of a block -/
def LA (b m r c : Int) (_n : Nat) (f : Nat → Int32) : Prop := (b + 1 < c → r + 1 = (f (b + 1).toNat).toInt) ∧ (c ≤ b + 1 → r + 1 = m)
theorem LA_1 {b m r c : Int} {n : Nat} {f : Nat → Int32} {v z : Int32} (e : v = f z.toNatClampNeg) (hz : z.toInt = b + 1) (hr : r + 1 = v.toInt) (hc : b + 1 < c) : LA b m r c n f := ⟨fun _ => by rw [hr, e, cN, hz], fun h => by omega⟩
theorem LA_2 {b m r c : Int} {n : Nat} {f : Nat → Int32} (hr : r + 1 = m) (hc : c ≤ b + 1) : LA b m r c n f := ⟨fun h => by omega, fun _ => hr⟩
/-- the row that is drawn -/
def rwG (ws : va_W) (h : Nat) : Prop := ∃ (k b : Nat) (fs : List Value), ows ws k h 3 fs ∧ fs[0]? = some (.ref b) ∧ rowC ws b RV
def edB (ws : va_W) (h : Nat) (b n : Int32) : Prop := ∃ (k row r ks ns : Nat) (fs : List Value) (c1 : Int32) (cs : ClassId) (f : Nat → Int32), ows ws k h 3 fs ∧ fs[0]? = some (.ref row) ∧ fs[1]? = some (.int c1) ∧ fs[2]? = some (.ref r) ∧ iws ws ks r cs ns f ∧ rowC ws row (fun fo fa ft c t => RW fo fa ft c t ∧ ∃ E : Int, 0 ≤ E ∧ E ≤ t ∧ n.toInt ≤ 18 * b.toInt + E ∧ ∀ i : Nat, (i : Int) < c → swO (fo i) → b.toInt < c1.toInt → (f b.toInt.toNat).toInt ≤ i → E ≤ rT fa i)
section MOG
variable {F C : List (Nat × Nat)} {S : Option Nat} {ws ws' : va_W} {h : Nat} {b n : Int32}
theorem rwG_mo (hF : gF F C S ws ws') (g0 : (3, 0) ∉ F) (h0 : (7, 0) ∉ F) (h1 : (7, 1) ∉ F) (h2 : (7, 2) ∉ F) (h3 : (7, 3) ∉ F) (h4 : (7, 4) ∉ F) (c0 : (7, 0) ∉ C) (c1 : (7, 1) ∉ C) (c3 : (7, 3) ∉ C) (q : rwG ws h) : rwG ws' h := by
  obtain ⟨k, b, fs, p1, p2, p3⟩ := q
  obtain ⟨fs', q1, q2, -⟩ := hF.1 _ _ _ _ p1
  exact ⟨k, b, fs', q1, (q2 0 g0).trans p2, rowC_mo hF h0 h1 h2 h3 h4 c0 c1 c3 p3⟩
theorem edB_mo (hF : gF F C S ws ws') (g0 : (3, 0) ∉ F) (g1 : (3, 1) ∉ F) (g2 : (3, 2) ∉ F) (d2 : (3, 2) ∉ C) (h0 : (7, 0) ∉ F) (h1 : (7, 1) ∉ F) (h2 : (7, 2) ∉ F) (h3 : (7, 3) ∉ F) (h4 : (7, 4) ∉ F) (c0 : (7, 0) ∉ C) (c1 : (7, 1) ∉ C) (c3 : (7, 3) ∉ C) (q : edB ws h b n) : edB ws' h b n := by
  obtain ⟨k, row, r, ks, ns, fs, c1', cs, f, p1, p2, p3, p4, p5, p6⟩ := q
  obtain ⟨fs', q1, q2, -⟩ := hF.1 _ _ _ _ p1
  exact ⟨k, row, r, ks, ns, fs', c1', cs, f, q1, (q2 0 g0).trans p2, (q2 1 g1).trans p3, (q2 2 g2).trans p4, hF.2.2 _ _ _ _ 2 _ _ _ p1 (Or.inl ⟨g2, d2⟩) p4 p5, rowC_mo hF h0 h1 h2 h3 h4 c0 c1 c3 p6⟩
end MOG
theorem edB_0 {A : Nat → Prop} {ws : va_W} {k h row r ks ns : Nat} {fs : List Value} {c1 b n : Int32} {cs : ClassId} {f : Nat → Int32} (hD : va_D A ws) (hk : ows ws k h 3 fs) (h0 : fs[0]? = some (.ref row)) (h1 : fs[1]? = some (.int c1)) (h2 : fs[2]? = some (.ref r)) (hf : iws ws ks r cs ns f) (hb : 0 ≤ b.toInt) (hn : n.toInt ≤ 0) (ht : rowC ws row (fun _ _ _ _ t => 0 ≤ t)) (q : rwG ws h) : edB ws h b n := by
  obtain ⟨k', b', fs', p1, p2, p3⟩ := q
  obtain rfl := gO_un hD hk p1
  rw [h0] at p2
  cases p2
  refine ⟨k, row, r, ks, ns, fs, c1, cs, f, hk, h0, h1, h2, hf, rowC_im (rowC_and hD p3 ht) (fun fo fa ft c t w => ⟨w.1.1, 0, Int.le_refl _, w.2, by omega, fun i hi hs _ _ => (w.1.1.1 i hi hs).1⟩)⟩
theorem edB_le {A : Nat → Prop} {ws : va_W} {k h row kr : Nat} {fs gs : List Value} {b n tc : Int32} (hD : va_D A ws) (hk : ows ws k h 3 fs) (h0 : fs[0]? = some (.ref row)) (hr : ows ws kr row 7 gs) (h4 : gs[4]? = some (.int tc)) (q : edB ws h b n) : n.toInt ≤ 18 * b.toInt + tc.toInt := by
  obtain ⟨k', row', r, ks, ns, fs', c1', cs, f, p1, p2, p3, p4, p5, p6⟩ := q
  obtain rfl := gO_un hD hk p1
  rw [h0] at p2
  cases p2
  obtain ⟨k2, ro, ra, rt, ko, ka, kt, no, na, nt, gs', co, ca, ct, fo, fa, ft, cnt, tc', w0, w1, w2, w3, w4, w5, w6, w7, w8, w9⟩ := p6
  obtain rfl := gO_un hD hr w0
  rw [h4] at w5
  cases w5
  obtain ⟨-, E, e1, e2, e3, -⟩ := w9
  omega
/-- what the last of the block adds -/
theorem edB_t {A : Nat → Prop} {ws : va_W} {k h row kr r ks ns : Nat} {fs gs : List Value} {b n tc c1 : Int32} {cs : ClassId} {f : Nat → Int32} {m l t : Int} (hD : va_D A ws) (hk : ows ws k h 3 fs) (h0 : fs[0]? = some (.ref row)) (h1 : fs[1]? = some (.int c1)) (h2 : fs[2]? = some (.ref r)) (hf : iws ws ks r cs ns f) (hr : ows ws kr row 7 gs) (h4 : gs[4]? = some (.int tc)) (hb : 0 ≤ b.toInt ∧ b.toInt < c1.toInt) (ql : aC2 ws h (LA b.toInt m l)) (qs : aC2 ws h (S2 m)) (qt : rowC ws row (TCx l t)) (q : edB ws h b n) : t ≤ 1 ∨ n.toInt + t + 2 ≤ 18 * b.toInt + tc.toInt := by
  obtain ⟨k', row', r', ks', ns', fs', c1', cs', f', p1, p2, p3, p4, p5, p6⟩ := q
  obtain rfl := gO_un hD hk p1
  rw [h0] at p2
  cases p2
  rw [h1] at p3
  cases p3
  rw [h2] at p4
  cases p4
  obtain rfl : f = f' := (iws_un hD hf p5).2.2.symm
  have wl := aC_at hD hk h1 h2 hf ql
  have wS := aC_at hD hk h1 h2 hf qs
  obtain ⟨k2, ro, ra, rt, ko, ka, kt, no, na, nt, gs', co, ca, ct, fo, fa, ft, cnt, tc', w0, w1, w2, w3, w4, w5, w6, w7, w8, ⟨w9, E, e1, e2, e3, e4⟩, wt⟩ := rowC_and hD p6 qt
  obtain rfl := gO_un hD hr w0
  rw [h4] at w5
  cases w5
  rcases wt with wt | ⟨i1, i2, i3, i4⟩
  · exact Or.inl wt
  · right
    have a0 := (wS.2.1 b.toInt.toNat (by omega))
    have a1 : (f b.toInt.toNat).toInt ≤ l := by
      by_cases z : b.toInt + 1 < c1.toInt
      · have := wl.1 z
        have s2 := wS.2.2 b.toInt.toNat (b.toInt + 1).toNat (by omega) (by omega)
        omega
      · have := wl.2 (by omega)
        omega
    have a2 := e4 l.toNat (by omega) i3 hb.2 (by omega)
    obtain ⟨r1, r2, r3, r4⟩ := w9.1 l.toNat (by omega) i3
    have r5 : rT fa l.toNat + rM fa ft l.toNat + 2 ≤ rE fo fa ft l.toNat := by
      unfold rE
      split <;> omega
    have et : t = rM fa ft l.toNat := by omega
    omega
theorem edB_s {A : Nat → Prop} {ws : va_W} {k h row r ks ns : Nat} {fs : List Value} {b n b' n' c1 : Int32} {cs : ClassId} {f : Nat → Int32} {m l t : Int} (hD : va_D A ws) (hk : ows ws k h 3 fs) (h0 : fs[0]? = some (.ref row)) (h1 : fs[1]? = some (.int c1)) (h2 : fs[2]? = some (.ref r)) (hf : iws ws ks r cs ns f) (hb : 0 ≤ b.toInt ∧ b.toInt < c1.toInt) (hb' : b'.toInt = b.toInt + 1) (hn : n'.toInt ≤ n.toInt + 17 ∨ n'.toInt ≤ n.toInt + 17 + t) (ql : aC2 ws h (LA b.toInt m l)) (qs : aC2 ws h (S2 m)) (qt : rowC ws row (TCx l t)) (q : edB ws h b n) : edB ws h b' n' := by
  obtain ⟨k', row', r', ks', ns', fs', c1', cs', f', p1, p2, p3, p4, p5, p6⟩ := q
  obtain rfl := gO_un hD hk p1
  rw [h0] at p2
  cases p2
  rw [h1] at p3
  cases p3
  rw [h2] at p4
  cases p4
  obtain rfl : f = f' := (iws_un hD hf p5).2.2.symm
  have wl := aC_at hD hk h1 h2 hf ql
  have wS := aC_at hD hk h1 h2 hf qs
  refine ⟨k, row, r, ks, ns, fs, c1, cs, f, hk, h0, h1, h2, hf, rowC_im (rowC_and hD p6 qt) (fun fo fa ft c tc w => ?_)⟩
  obtain ⟨⟨w9, E, e1, e2, e3, e4⟩, wt⟩ := w
  have up : b'.toInt < c1.toInt → (f b.toInt.toNat).toInt < (f b'.toInt.toNat).toInt := fun z => wS.2.2 _ _ (by omega) (by omega)
  by_cases ht : t ≤ 1
  · exact ⟨w9, E, e1, e2, by omega, fun i hi hs z1 z2 => e4 i hi hs hb.2 (by have := up z1; omega)⟩
  · rcases wt with wt | ⟨i1, i2, i3, i4⟩
    · omega
    · have a0 := (wS.2.1 b.toInt.toNat (by omega))
      have a1 : (f b.toInt.toNat).toInt ≤ l := by
        by_cases z : b.toInt + 1 < c1.toInt
        · have := wl.1 z
          have s2 := wS.2.2 b.toInt.toNat (b.toInt + 1).toNat (by omega) (by omega)
          omega
        · have := wl.2 (by omega)
          omega
      have a2 := e4 l.toNat (by omega) i3 hb.2 (by omega)
      obtain ⟨r1, r2, r3, r4⟩ := w9.1 l.toNat (by omega) i3
      have r5 : rT fa l.toNat + rM fa ft l.toNat + 2 ≤ rE fo fa ft l.toNat := by
        unfold rE
        split <;> omega
      have et : t = rM fa ft l.toNat := by omega
      refine ⟨w9, rE fo fa ft l.toNat, by omega, r4, by omega, fun i hi hs z1 z2 => ?_⟩
      have b1 := wl.1 (by omega)
      rw [hb'] at z2
      exact w9.2 l.toNat i (by omega) hi i3 hs
theorem edB_m {A : Nat → Prop} {ws : va_W} {k h row kr r ks ns : Nat} {fs gs : List Value} {b n tc c1 : Int32} {cs : ClassId} {f : Nat → Int32} {m l t : Int} (hD : va_D A ws) (hk : ows ws k h 3 fs) (h0 : fs[0]? = some (.ref row)) (h1 : fs[1]? = some (.int c1)) (h2 : fs[2]? = some (.ref r)) (hf : iws ws ks r cs ns f) (hr : ows ws kr row 7 gs) (h4 : gs[4]? = some (.int tc)) (hb : 0 ≤ b.toInt ∧ b.toInt < c1.toInt) (ql : aC2 ws h (LA b.toInt m l)) (qs : aC2 ws h (S2 m)) (qt : rowC ws row (TCx l t)) (q : edB ws h b n) : ∃ tm : Int, 0 ≤ tm ∧ t ≤ tm ∧ n.toInt + tm ≤ 18 * b.toInt + tc.toInt + 1 ∧ Hide (tm = t ∨ tm = 0) := by
  have w1 := edB_t hD hk h0 h1 h2 hf hr h4 hb ql qs qt q
  have w2 := edB_le hD hk h0 hr h4 q
  by_cases z : t < 0
  · exact ⟨0, by omega, by omega, by omega, hide (Or.inr rfl)⟩
  · exact ⟨t, by omega, by omega, by omega, hide (Or.inl rfl)⟩
theorem edB_s2 {A : Nat → Prop} {ws : va_W} {k h row r ks ns : Nat} {fs : List Value} {b n b' n' c1 : Int32} {cs : ClassId} {f : Nat → Int32} {m l t tm : Int} (hD : va_D A ws) (hk : ows ws k h 3 fs) (h0 : fs[0]? = some (.ref row)) (h1 : fs[1]? = some (.int c1)) (h2 : fs[2]? = some (.ref r)) (hf : iws ws ks r cs ns f) (hb : 0 ≤ b.toInt ∧ b.toInt < c1.toInt) (hb' : b'.toInt = b.toInt + 1) (ht : Hide (tm = t ∨ tm = 0)) (hn : n'.toInt ≤ n.toInt + 17 + tm) (ql : aC2 ws h (LA b.toInt m l)) (qs : aC2 ws h (S2 m)) (qt : rowC ws row (TCx l t)) (q : edB ws h b n) : edB ws h b' n' := edB_s hD hk h0 h1 h2 hf hb hb' (by have := ht.out; omega) ql qs qt q
def B5 (N c : Int) (n : Nat) (f : Nat → Int32) : Prop := 0 ≤ N ∧ N ≤ n ∧ n ≤ 49152 ∧ BK N c n f
def E49 (_c : Int) (n : Nat) (_f : Nat → Int32) : Prop := n ≤ 49152
theorem B5_in {N c : Int} {n : Nat} {f : Nat → Int32} {i v : Int32} (h : B5 N c n f) (e : v = f i.toNatClampNeg) (hi : 0 ≤ i.toInt ∧ i.toInt < N) : 0 ≤ v.toInt ∧ v.toInt < c := BK_in h.2.2.2 e hi
theorem B5_n {N c : Int} {n : Nat} {f : Nat → Int32} (h : B5 N c n f) : 0 ≤ N ∧ N ≤ n ∧ n ≤ 49152 := ⟨h.1, h.2.1, h.2.2.1⟩
theorem B5.cp {N c : Int} {n n' : Nat} {f f' : Nat → Int32} (h : B5 N c n f) (hn : n ≤ n') (h9 : n' ≤ 49152) (he : ∀ i : Nat, i < n → i < n' → f' i = f i) : B5 N c n' f' := ⟨h.1, by have := h.2.1; omega, h9, fun i hi => by
  have := h.2.1
  rw [he i (by omega) (by omega)]
  exact h.2.2.2 i hi⟩
theorem B5.st {N c : Int} {n i : Nat} {f : Nat → Int32} {x : Int32} (h : B5 N c n f) (hi : (i : Int) = N) (hn : N < n) (hx : 0 ≤ x.toInt ∧ x.toInt < c) : B5 (N + 1) c n (upd f i x) := ⟨by have := h.1; omega, by omega, h.2.2.1, h.2.2.2.st (Or.inr ⟨hi, rfl⟩) hx⟩
