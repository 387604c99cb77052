/-! Machine: the methods that run in one another are methods of its file -/
def frQ (g : Gm) (ws : va_W) (h : Nat) (e : Int) : Prop := ∃ (nf k u fr kf ku : Nat) (fs us : List Value) (f : Nat → Int32) (mc : Int32), ows ws k h 5 fs ∧ fs[0]? = some (.ref u) ∧ fs[10]? = some (.ref fr) ∧ iws ws kf fr g.cI nf f ∧ ows ws ku u 9 us ∧ us[8]? = some (.int mc) ∧ ∀ d : Nat, (d : Int) < e → 0 ≤ (f (3 * d)).toInt ∧ (f (3 * d)).toInt < mc.toInt
def frP (g : Gm) (ws : va_W) (h : Nat) : Prop := ∃ (k : Nat) (fs : List Value) (dp : Int32), ows ws k h 5 fs ∧ fs[11]? = some (.int dp) ∧ frQ g ws h (dp.toInt + 1)
def frB (g : Gm) (ws : va_W) (h : Nat) : Prop := ∃ (k : Nat) (fs : List Value) (dp : Int32), ows ws k h 5 fs ∧ fs[11]? = some (.int dp) ∧ frQ g ws h dp.toInt
def inM (ws : va_W) (u : Nat) (m : Int32) : Prop := ∃ (k : Nat) (us : List Value) (mc : Int32), ows ws k u 9 us ∧ us[8]? = some (.int mc) ∧ 0 ≤ m.toInt ∧ m.toInt < mc.toInt
def inU (ws : va_W) (h : Nat) (m : Int32) : Prop := ∃ (k u : Nat) (fs : List Value), ows ws k h 5 fs ∧ fs[0]? = some (.ref u) ∧ inM ws u m
section MO
variable {g : Gm} {F C : List (Nat × Nat)} {S : Option Nat} {ws ws' : va_W} {h u : Nat} {m : Int32} {e : Int}
theorem inM_mo (hF : gF F C S ws ws') (h1 : (9, 8) ∉ F) (q : inM ws u m) : inM ws' u m := by
  obtain ⟨k, us, mc, p1, p2, p3⟩ := q
  obtain ⟨us', q1, q2, -⟩ := hF.1 _ _ _ _ p1
  exact ⟨k, us', mc, q1, (q2 8 h1).trans p2, p3⟩
theorem inU_mo (hF : gF F C S ws ws') (h0 : (5, 0) ∉ F) (h1 : (9, 8) ∉ F) (q : inU ws h m) : inU ws' h m := by
  obtain ⟨k, u, fs, p1, p2, p3⟩ := q
  obtain ⟨fs', q1, q2, -⟩ := hF.1 _ _ _ _ p1
  exact ⟨k, u, fs', q1, (q2 0 h0).trans p2, inM_mo hF h1 p3⟩
theorem frQ_mo (hF : gF F C S ws ws') (h0 : (5, 0) ∉ F) (h10 : (5, 10) ∉ F) (h1 : (9, 8) ∉ F) (hC : (5, 10) ∉ C) (q : frQ g ws h e) : frQ g ws' h e := by
  obtain ⟨nf, k, u, fr, kf, ku, fs, us, f, mc, p1, p2, p3, p4, p5, p6, p7⟩ := q
  obtain ⟨fs', q1, q2, -⟩ := hF.1 _ _ _ _ p1
  obtain ⟨us', q3, q4, -⟩ := hF.1 _ _ _ _ p5
  exact ⟨nf, k, u, fr, kf, ku, fs', us', f, mc, q1, (q2 0 h0).trans p2, (q2 10 h10).trans p3, hF.2.2 _ _ _ _ 10 _ _ _ p1 (Or.inl ⟨h10, hC⟩) p3 p4, q3, (q4 8 h1).trans p6, p7⟩
theorem frP_mo (hF : gF F C S ws ws') (h0 : (5, 0) ∉ F) (h10 : (5, 10) ∉ F) (h11 : (5, 11) ∉ F) (h1 : (9, 8) ∉ F) (hC : (5, 10) ∉ C) (q : frP g ws h) : frP g ws' h := by
  obtain ⟨k, fs, dp, p1, p2, p3⟩ := q
  obtain ⟨fs', q1, q2, -⟩ := hF.1 _ _ _ _ p1
  exact ⟨k, fs', dp, q1, (q2 11 h11).trans p2, frQ_mo hF h0 h10 h1 hC p3⟩
theorem frB_mo (hF : gF F C S ws ws') (h0 : (5, 0) ∉ F) (h10 : (5, 10) ∉ F) (h11 : (5, 11) ∉ F) (h1 : (9, 8) ∉ F) (hC : (5, 10) ∉ C) (q : frB g ws h) : frB g ws' h := by
  obtain ⟨k, fs, dp, p1, p2, p3⟩ := q
  obtain ⟨fs', q1, q2, -⟩ := hF.1 _ _ _ _ p1
  exact ⟨k, fs', dp, q1, (q2 11 h11).trans p2, frQ_mo hF h0 h10 h1 hC p3⟩
end MO
theorem frQ_le {g : Gm} {ws : va_W} {h : Nat} {e e' : Int} (q : frQ g ws h e) (hl : e' ≤ e) : frQ g ws h e' := by
  obtain ⟨nf, k, u, fr, kf, ku, fs, us, f, mc, p1, p2, p3, p4, p5, p6, p7⟩ := q
  exact ⟨nf, k, u, fr, kf, ku, fs, us, f, mc, p1, p2, p3, p4, p5, p6, fun d hd => p7 d (by omega)⟩
/-- the rows of a full file are there -/
theorem full_at {A : Nat → Prop} {ws : va_W} {k kr b r n i : Nat} {c : ClassId} {f : Nat → Option Nat} {fs : List Value} (hD : va_D A ws) (hk : ows ws k b 9 fs) (h13 : fs[13]? = some (.ref r)) (hr : rws ws kr r c n f) (hF : full ws b) (hi : i < n) : ∃ b, f i = some b := by
  obtain ⟨r', n', c', ⟨k', fs', q1, q2⟩, q3, q4⟩ := hF
  have e := gO_un hD hk q1
  subst e
  rw [h13] at q2
  cases q2
  have hn : n' = n := gI_n hD q3 (⟨kr, _, hr, rfl⟩ : gS ws r (.inl (c, n, 4)))
  subst hn
  obtain ⟨k2, c2, n2, f2, b2, q5, q6⟩ := q4 i hi
  have e2 := hD.1 _ _ _ _ hr q5 rfl
  subst e2
  rw [rws, hr] at q5
  cases q5
  exact ⟨b2, q6⟩
theorem inM_of {A : Nat → Prop} {ws : va_W} {k b : Nat} {m mc : Int32} {fs : List Value} (hD : va_D A ws) (hk : ows ws k b 9 fs) (h8 : fs[8]? = some (.int mc)) (q : inM ws b m) : 0 ≤ m.toInt ∧ m.toInt < mc.toInt := by
  obtain ⟨k', us, mc', p1, p2, p3⟩ := q
  have e := gO_un hD hk p1
  subst e
  rw [h8] at p2
  cases p2
  exact p3
theorem inU_of {A : Nat → Prop} {ws : va_W} {k h u : Nat} {m : Int32} {fs : List Value} (hD : va_D A ws) (hk : ows ws k h 5 fs) (h0 : fs[0]? = some (.ref u)) (q : inU ws h m) : inM ws u m := by
  obtain ⟨k', u', fs', p1, p2, p3⟩ := q
  have e := gO_un hD hk p1
  subst e
  rw [h0] at p2
  cases p2
  exact p3
/-- what a frame names is a method -/
theorem frP_at {A : Nat → Prop} {g : Gm} {ws : va_W} {nf k kf h fr i : Nat} {dp : Int32} {f : Nat → Int32} {fs : List Value} (hD : va_D A ws) (hk : ows ws k h 5 fs) (h10 : fs[10]? = some (.ref fr)) (h11 : fs[11]? = some (.int dp)) (hf : iws ws kf fr g.cI nf f) (hi : (i : Int) = 3 * dp.toInt) (h0 : 0 ≤ dp.toInt) (q : frP g ws h) : inU ws h (f i) := by
  obtain ⟨k', fs', dp', p1, p2, nf2, k2, u, fr2, kf2, ku, fs2, us, f2, mc, q1, q2, q3, q4, q5, q6, q7⟩ := q
  have e := gO_un hD hk p1
  subst e
  have e := gO_un hD hk q1
  subst e
  rw [h11] at p2
  cases p2
  rw [h10] at q3
  cases q3
  have e2 := hD.1 _ _ _ _ hf q4 rfl
  subst e2
  rw [iws, hf] at q4
  cases q4
  have h9 := q7 dp.toInt.toNat (by omega)
  have e3 : 3 * dp.toInt.toNat = i := by omega
  rw [e3] at h9
  exact ⟨k, u, fs, hk, q2, ku, us, mc, q5, q6, h9⟩
/-- a frame is written -/
theorem frQ_w {A : Nat → Prop} {g : Gm} {ws ws' : va_W} {nf k kf h fr i : Nat} {x : Int32} {e : Int} {f : Nat → Int32} {fs : List Value} (ew : ws' = ws.set kf (fr, .inl (g.cI, nf, .inl (upd f i x)))) (hD : va_D A ws) (hk : ows ws k h 5 fs) (h10 : fs[10]? = some (.ref fr)) (hf : iws ws kf fr g.cI nf f) (hx : (∃ d : Nat, i = 3 * d + 1 ∨ i = 3 * d + 2) ∨ inU ws h x) (q : frQ g ws h e) : frQ g ws' h e := by
  obtain ⟨nf2, k2, u, fr2, kf2, ku, fs2, us, f2, mc, q1, q2, q3, q4, q5, q6, q7⟩ := q
  have e1 := gO_un hD hk q1
  subst e1
  rw [h10] at q3
  cases q3
  have e2 := hD.1 _ _ _ _ hf q4 rfl
  subst e2
  rw [iws, hf] at q4
  cases q4
  refine ⟨nf, k2, u, fr, kf, ku, fs, us, upd f i x, mc, gset_arO ew hf q1, q2, h10, gset_self ew hf, gset_arO ew hf q5, q6, fun d hd => ?_⟩
  unfold upd
  split
  · rename_i hh
    rcases hx with ⟨d', hd'⟩ | hx
    · omega
    · exact inM_of hD q5 q6 (inU_of hD hk q2 hx)
  · exact q7 d hd
theorem frQ_w1 {A : Nat → Prop} {g : Gm} {ws ws' : va_W} {nf k kf h fr i : Nat} {x : Int32} {e : Int} {f : Nat → Int32} {fs : List Value} (ew : ws' = ws.set kf (fr, .inl (g.cI, nf, .inl (upd f i x)))) (hD : va_D A ws) (hk : ows ws k h 5 fs) (h10 : fs[10]? = some (.ref fr)) (hf : iws ws kf fr g.cI nf f) (hx : inU ws h x) (hi : (i : Int) = 3 * e) (q : frQ g ws h e) : frQ g ws' h (e + 1) := by
  obtain ⟨nf2, k2, u, fr2, kf2, ku, fs2, us, f2, mc, q1, q2, q3, q4, q5, q6, q7⟩ := q
  have e1 := gO_un hD hk q1
  subst e1
  rw [h10] at q3
  cases q3
  have e2 := hD.1 _ _ _ _ hf q4 rfl
  subst e2
  rw [iws, hf] at q4
  cases q4
  refine ⟨nf, k2, u, fr, kf, ku, fs, us, upd f i x, mc, gset_arO ew hf q1, q2, h10, gset_self ew hf, gset_arO ew hf q5, q6, fun d hd => ?_⟩
  unfold upd
  split
  · exact inM_of hD q5 q6 (inU_of hD hk q2 hx)
  · exact q7 d (by omega)
def sfP (g : Gm) (ws u : va_W) (h : Nat) (w x : Int32) : Prop := (∀ e, frQ g ws h e → (0 < w.toInt ∨ inU ws h x) → frQ g u h e) ∧ (frB g ws h → w.toInt = 0 → inU ws h x → frP g u h)
theorem sf_of {A : Nat → Prop} {g : Gm} {ws ws' : va_W} {nf k kf h fr i : Nat} {w x dp : Int32} {f : Nat → Int32} {fs : List Value} (ew : ws' = ws.set kf (fr, .inl (g.cI, nf, .inl (upd f i x)))) (hD : va_D A ws) (hk : ows ws k h 5 fs) (h10 : fs[10]? = some (.ref fr)) (h11 : fs[11]? = some (.int dp)) (hf : iws ws kf fr g.cI nf f) (hi : (i : Int) = 3 * dp.toInt + w.toInt) (h0 : 0 ≤ dp.toInt) (hw : 0 ≤ w.toInt ∧ w.toInt ≤ 2) : sfP g ws ws' h w x := by
  refine ⟨fun e q hx => frQ_w ew hD hk h10 hf ?_ q, fun q hw0 hx => ?_⟩
  · rcases hx with hx | hx
    · exact Or.inl ⟨dp.toInt.toNat, by omega⟩
    · exact Or.inr hx
  · obtain ⟨k', fs', dp', p1, p2, p3⟩ := q
    have e1 := gO_un hD hk p1
    subst e1
    rw [h11] at p2
    cases p2
    exact ⟨k', fs, dp, gset_arO ew hf p1, h11, frQ_w1 ew hD hk h10 hf hx (by omega) p3⟩
theorem frP_q {g : Gm} {ws ws' : va_W} {h : Nat} {F C : List (Nat × Nat)} {S : Option Nat} (hF : gF F C S ws ws') (h11 : (5, 11) ∉ F) (hs : ∀ e, frQ g ws h e → frQ g ws' h e) (q : frP g ws h) : frP g ws' h := by
  obtain ⟨k, fs, dp, p1, p2, p3⟩ := q
  obtain ⟨fs', q1, q2, -⟩ := hF.1 _ _ _ _ p1
  exact ⟨k, fs', dp, q1, (q2 11 h11).trans p2, hs _ p3⟩
/-- the depth is set -/
theorem frQ_d {g : Gm} {ws ws' : va_W} {k h : Nat} {v : Value} {fs fs' : List Value} {e : Int} (ew : ws' = ws.set k (h, .inr (5, fs'))) (hk : ows ws k h 5 fs) (hs : fs' = fs.set 11 v) (q : frQ g ws h e) (hD : ∀ k' gs, ows ws k' h 5 gs → k' = k) : frQ g ws' h e := by
  obtain ⟨nf, k2, u, fr, kf, ku, fs2, us, f, mc, q1, q2, q3, q4, q5, q6, q7⟩ := q
  have e1 := hD _ _ q1
  subst e1
  obtain ⟨-, -, e2⟩ := ows_one hk q1
  subst e2
  exact ⟨nf, k2, u, fr, kf, ku, fs', us, f, mc, gset_self ew hk, by rw [hs, List.getElem?_set_ne (by decide)]; exact q2, by rw [hs, List.getElem?_set_ne (by decide)]; exact q3, gset_obI ew hk q4, gset_ob ew hk q5 (by decide), q6, q7⟩
theorem gO_k {A : Nat → Prop} {ws : va_W} {k a ci : Nat} {fs : List Value} (hD : va_D A ws) (hk : ows ws k a ci fs) : ∀ k' gs, ows ws k' a ci gs → k' = k := fun k' gs h => (hD.1 _ _ _ _ hk h rfl).symm
theorem frP_down {A : Nat → Prop} {g : Gm} {ws ws' : va_W} {k h : Nat} {d d' : Int32} {fs fs' : List Value} (ew : ws' = ws.set k (h, .inr (5, fs'))) (hD : va_D A ws) (hk : ows ws k h 5 fs) (hs : fs' = fs.set 11 (.int d')) (h11 : fs[11]? = some (.int d)) (hl : d'.toInt ≤ d.toInt) (q : frP g ws h) : frP g ws' h := by
  obtain ⟨k2, fs2, dp, q1, q2, q3⟩ := q
  have e1 := gO_un hD hk q1
  subst e1
  rw [h11] at q2
  cases q2
  exact ⟨k, fs', d', gset_self ew hk, by rw [hs, List.getElem?_set_self (List.getElem?_eq_some_iff.mp h11).1], frQ_le (frQ_d ew hk hs q3 (gO_k hD hk)) (by omega)⟩
theorem frB_up {A : Nat → Prop} {g : Gm} {ws ws' : va_W} {k h : Nat} {d d' : Int32} {fs fs' : List Value} (ew : ws' = ws.set k (h, .inr (5, fs'))) (hD : va_D A ws) (hk : ows ws k h 5 fs) (hs : fs' = fs.set 11 (.int d')) (h11 : fs[11]? = some (.int d)) (hl : d'.toInt = d.toInt + 1) (q : frP g ws h) : frB g ws' h := by
  obtain ⟨k2, fs2, dp, q1, q2, q3⟩ := q
  have e1 := gO_un hD hk q1
  subst e1
  rw [h11] at q2
  cases q2
  exact ⟨k, fs', d', gset_self ew hk, by rw [hs, List.getElem?_set_self (List.getElem?_eq_some_iff.mp h11).1], frQ_le (frQ_d ew hk hs q3 (gO_k hD hk)) (by omega)⟩
theorem frB_0 {g : Gm} {ws : va_W} {nf k h u fr kf ku : Nat} {mc d : Int32} {f : Nat → Int32} {fs us : List Value} (hk : ows ws k h 5 fs) (h0 : fs[0]? = some (.ref u)) (h10 : fs[10]? = some (.ref fr)) (h11 : fs[11]? = some (.int d)) (hd : d.toInt = 0) (hf : iws ws kf fr g.cI nf f) (hu : ows ws ku u 9 us) (h8 : us[8]? = some (.int mc)) : frB g ws h := ⟨k, fs, d, hk, h11, nf, k, u, fr, kf, ku, fs, us, f, mc, hk, h0, h10, hf, hu, h8, fun n hn => absurd hn (by omega)⟩
/-! what stands in a Row -/
def rowC (ws : va_W) (b : Nat) (P : (Nat → Int32) → (Nat → Int64) → (Nat → Int32) → Int → Int → Prop) : Prop := ∃ (k ro ra rt ko ka kt no na nt : Nat) (fs : List Value) (co ca ct : ClassId) (fo : Nat → Int32) (fa : Nat → Int64) (ft : Nat → Int32) (cnt tc : Int32), ows ws k b 7 fs ∧ fs[0]? = some (.ref ro) ∧ fs[1]? = some (.ref ra) ∧ fs[2]? = some (.int cnt) ∧ fs[3]? = some (.ref rt) ∧ fs[4]? = some (.int tc) ∧ iws ws ko ro co no fo ∧ jws ws ka ra ca na fa ∧ iws ws kt rt ct nt ft ∧ P fo fa ft cnt.toInt tc.toInt
theorem rowC_mo {P : (Nat → Int32) → (Nat → Int64) → (Nat → Int32) → Int → Int → Prop} {F C : List (Nat × Nat)} {S : Option Nat} {ws ws' : va_W} {b : Nat} (hF : gF F C S ws ws') (h0 : (7, 0) ∉ F) (h1 : (7, 1) ∉ F) (h2 : (7, 2) ∉ F) (h3 : (7, 3) ∉ F) (h4 : (7, 4) ∉ F) (c0 : (7, 0) ∉ C) (c1 : (7, 1) ∉ C) (c3 : (7, 3) ∉ C) (q : rowC ws b P) : rowC ws' b P := by
  obtain ⟨k, ro, ra, rt, ko, ka, kt, no, na, nt, fs, co, ca, ct, fo, fa, ft, cnt, tc, p0, p1, p2, p3, p4, p5, p6, p7, p8, p9⟩ := q
  obtain ⟨fs', q1, q2, -⟩ := hF.1 _ _ _ _ p0
  exact ⟨k, ro, ra, rt, ko, ka, kt, no, na, nt, fs', co, ca, ct, fo, fa, ft, cnt, tc, q1, (q2 0 h0).trans p1, (q2 1 h1).trans p2, (q2 2 h2).trans p3, (q2 3 h3).trans p4, (q2 4 h4).trans p5, hF.2.2 _ _ _ _ 0 _ _ _ p0 (Or.inl ⟨h0, c0⟩) p1 p6, hF.2.2 _ _ _ _ 1 _ _ _ p0 (Or.inl ⟨h1, c1⟩) p2 p7, hF.2.2 _ _ _ _ 3 _ _ _ p0 (Or.inl ⟨h3, c3⟩) p4 p8, p9⟩
/-- a switch has no monstrous number of targets -/
def SW (fo : Nat → Int32) (fa : Nat → Int64) (ft : Nat → Int32) (cnt tc : Int) : Prop := ∀ i : Nat, (i : Int) < cnt → fo i = 170 ∨ fo i = 171 → ∀ t : Int, t = (fa i).toInt32.toInt → 0 ≤ t → t < tc → (ft t.toNat).toInt ≠ -2147483648
def swR (ws : va_W) (b : Nat) : Prop := rowC ws b SW
def swM (ws : va_W) (u : Nat) : Prop := ∃ (ku rr kr n : Nat) (us : List Value) (c : ClassId) (f : Nat → Option Nat), ows ws ku u 9 us ∧ us[13]? = some (.ref rr) ∧ rws ws kr rr c n f ∧ ∀ i b, i < n → f i = some b → swR ws b
def swU (ws : va_W) (h : Nat) : Prop := ∃ (k u : Nat) (fs : List Value), ows ws k h 5 fs ∧ fs[0]? = some (.ref u) ∧ swM ws u
def swC (ws : va_W) (h : Nat) : Prop := ∃ (k b : Nat) (fs : List Value), ows ws k h 5 fs ∧ fs[12]? = some (.ref b) ∧ swR ws b
def rwI (ws : va_W) (u b : Nat) : Prop := ∃ (ku rr kr n i : Nat) (us : List Value) (c : ClassId) (f : Nat → Option Nat), ows ws ku u 9 us ∧ us[13]? = some (.ref rr) ∧ rws ws kr rr c n f ∧ i < n ∧ f i = some b
section MO2
variable {F C : List (Nat × Nat)} {S : Option Nat} {ws ws' : va_W} {h u b : Nat}
theorem swR_mo (hF : gF F C S ws ws') (h0 : (7, 0) ∉ F) (h1 : (7, 1) ∉ F) (h2 : (7, 2) ∉ F) (h3 : (7, 3) ∉ F) (h4 : (7, 4) ∉ F) (c0 : (7, 0) ∉ C) (c1 : (7, 1) ∉ C) (c3 : (7, 3) ∉ C) (q : swR ws b) : swR ws' b := rowC_mo hF h0 h1 h2 h3 h4 c0 c1 c3 q
theorem swM_mo (hF : gF F C S ws ws') (h0 : (7, 0) ∉ F) (h1 : (7, 1) ∉ F) (h2 : (7, 2) ∉ F) (h3 : (7, 3) ∉ F) (h4 : (7, 4) ∉ F) (c0 : (7, 0) ∉ C) (c1 : (7, 1) ∉ C) (c3 : (7, 3) ∉ C) (f13 : (9, 13) ∉ F) (c13 : (9, 13) ∉ C) (q : swM ws u) : swM ws' u := by
  obtain ⟨ku, rr, kr, n, us, c, f, p1, p2, p3, p4⟩ := q
  obtain ⟨us', q1, q2, -⟩ := hF.1 _ _ _ _ p1
  exact ⟨ku, rr, kr, n, us', c, f, q1, (q2 13 f13).trans p2, hF.2.2 _ _ _ _ 13 _ _ _ p1 (Or.inl ⟨f13, c13⟩) p2 p3, fun i b hi hb => swR_mo hF h0 h1 h2 h3 h4 c0 c1 c3 (p4 i b hi hb)⟩
theorem swU_mo (hF : gF F C S ws ws') (h0 : (7, 0) ∉ F) (h1 : (7, 1) ∉ F) (h2 : (7, 2) ∉ F) (h3 : (7, 3) ∉ F) (h4 : (7, 4) ∉ F) (c0 : (7, 0) ∉ C) (c1 : (7, 1) ∉ C) (c3 : (7, 3) ∉ C) (f13 : (9, 13) ∉ F) (c13 : (9, 13) ∉ C) (f0 : (5, 0) ∉ F) (q : swU ws h) : swU ws' h := by
  obtain ⟨k, u, fs, p1, p2, p3⟩ := q
  obtain ⟨fs', q1, q2, -⟩ := hF.1 _ _ _ _ p1
  exact ⟨k, u, fs', q1, (q2 0 f0).trans p2, swM_mo hF h0 h1 h2 h3 h4 c0 c1 c3 f13 c13 p3⟩
theorem swC_mo (hF : gF F C S ws ws') (h0 : (7, 0) ∉ F) (h1 : (7, 1) ∉ F) (h2 : (7, 2) ∉ F) (h3 : (7, 3) ∉ F) (h4 : (7, 4) ∉ F) (c0 : (7, 0) ∉ C) (c1 : (7, 1) ∉ C) (c3 : (7, 3) ∉ C) (f12 : (5, 12) ∉ F) (q : swC ws h) : swC ws' h := by
  obtain ⟨k, b, fs, p1, p2, p3⟩ := q
  obtain ⟨fs', q1, q2, -⟩ := hF.1 _ _ _ _ p1
  exact ⟨k, b, fs', q1, (q2 12 f12).trans p2, swR_mo hF h0 h1 h2 h3 h4 c0 c1 c3 p3⟩
end MO2
theorem swU_at {A : Nat → Prop} {ws : va_W} {k h u b : Nat} {fs : List Value} (hD : va_D A ws) (hk : ows ws k h 5 fs) (h0 : fs[0]? = some (.ref u)) (q : swU ws h) (r : rwI ws u b) : swR ws b := by
  obtain ⟨k', u', fs', p1, p2, ku, rr, kr, n, us, c, f, p3, p4, p5, p6⟩ := q
  have e := gO_un hD hk p1
  subst e
  rw [h0] at p2
  cases p2
  obtain ⟨ku2, rr2, kr2, n2, i, us2, c2, f2, q1, q2, q3, q4, q5⟩ := r
  have e := gO_un hD p3 q1
  subst e
  rw [p4] at q2
  cases q2
  have e2 := hD.1 _ _ _ _ p5 q3 rfl
  subst e2
  rw [rws, p5] at q3
  cases q3
  exact p6 i b q4 q5
/-- measures of fields -/
def lk (ws : va_W) (a : Nat) : Option va_E := (ws.find? (fun x => x.1 == a)).map (·.2)
theorem lk_of {A : Nat → Prop} {ws : va_W} {k a : Nat} {x : va_E} (hD : va_D A ws) (hk : ws[k]? = some (a, x)) : lk ws a = some x := by
  have key : ∀ (l : va_W) (k : Nat), (∀ (i j : Nat) (y z : Nat × va_E), l[i]? = some y → l[j]? = some z → y.1 = z.1 → i = j) → l[k]? = some (a, x) → (l.find? (fun x => x.1 == a)) = some (a, x) := by
    intro l
    induction l with
    | nil => intro k _ h; cases h
    | cons y t ih =>
      intro k hu h
      rw [List.find?_cons]
      cases k with
      | zero =>
        have h : some y = some (a, x) := h
        cases h
        simp
      | succ k =>
        have hne : (y.1 == a) = false := by
          rw [beq_eq_false_iff_ne]
          intro e
          exact absurd (hu 0 (k + 1) y (a, x) rfl h e) (by omega)
        rw [hne]
        exact ih k (fun i j y z h1 h2 h3 => by have := hu (i + 1) (j + 1) y z h1 h2 h3; omega) h
  unfold lk
  rw [key ws k hD.1 hk]
  rfl
def fI (ws : va_W) (a j : Nat) : Int := match lk ws a with
  | some (.inr (_, fs)) => (match fs[j]? with | some (.int c) => c.toInt | _ => 0)
  | _ => 0
theorem fI_of {A : Nat → Prop} {ws : va_W} {k a ci j : Nat} {c : Int32} {fs : List Value} (hD : va_D A ws) (hk : ows ws k a ci fs) (hj : fs[j]? = some (.int c)) : fI ws a j = c.toInt := by
  unfold fI
  rw [lk_of hD hk]
  simp only [hj]
theorem i_inN {x : Int32} {n : Nat} (h : 0 ≤ x.toInt ∧ x.toInt < n) : x.toNatClampNeg < n := by
  have : x.toNatClampNeg = x.toInt.toNat := rfl
  omega
/-- there is room for the next array's beginning -/
def arP (g : Gm) (ws : va_W) (h : Nat) : Prop := ∃ (k r n : Nat) (fs : List Value) (c : Int32), ows ws k h 5 fs ∧ fs[4]? = some (.ref r) ∧ fs[5]? = some (.int c) ∧ gI ws r g.cI n ∧ c.toInt < n
theorem arP_mo {g : Gm} {F C : List (Nat × Nat)} {S : Option Nat} {ws ws' : va_W} {h : Nat} (hF : gF F C S ws ws') (hE : gE ws ws') (f4 : (5, 4) ∉ F) (f5 : (5, 5) ∉ F) (q : arP g ws h) : arP g ws' h := by
  obtain ⟨k, r, n, fs, c, p1, p2, p3, p4, p5⟩ := q
  obtain ⟨fs', q1, q2, -⟩ := hF.1 _ _ _ _ p1
  exact ⟨k, r, n, fs', c, q1, (q2 4 f4).trans p2, (q2 5 f5).trans p3, hE.1 _ _ p4, p5⟩
theorem arP_of {A : Nat → Prop} {g : Gm} {ws : va_W} {k h r n : Nat} {c : Int32} {fs : List Value} (hD : va_D A ws) (hk : ows ws k h 5 fs) (h4 : fs[4]? = some (.ref r)) (h5 : fs[5]? = some (.int c)) (hr : gI ws r g.cI n) (q : arP g ws h) : c.toInt < n := by
  obtain ⟨k', r', n', fs', c', p1, p2, p3, p4, p5⟩ := q
  obtain rfl := gO_un hD hk p1
  rw [h4] at p2
  cases p2
  rw [h5] at p3
  cases p3
  have e := gI_n hD p4 hr
  omega
