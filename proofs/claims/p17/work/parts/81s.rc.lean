/-! a Row is written: op, arg, table, count, tableCount -/
section RCW
variable {A : Nat → Prop} {ws ws' : va_W} {k b : Nat} {fs : List Value} {P Q : (Nat → Int32) → (Nat → Int64) → (Nat → Int32) → Int → Int → Prop}
theorem rowC_im (q : rowC ws b P) (h : ∀ fo fa ft c t, P fo fa ft c t → Q fo fa ft c t) : rowC ws b Q := by
  obtain ⟨k, ro, ra, rt, ko, ka, kt, no, na, nt, fs, co, ca, ct, fo, fa, ft, cnt, tc, p0, p1, p2, p3, p4, p5, p6, p7, p8, p9⟩ := q
  exact ⟨k, ro, ra, rt, ko, ka, kt, no, na, nt, fs, co, ca, ct, fo, fa, ft, cnt, tc, p0, p1, p2, p3, p4, p5, p6, p7, p8, h _ _ _ _ _ p9⟩
/-- two fields of one object have two arrays -/
theorem uq_ne {z : ClassId × Nat × Nat} {r r' i j : Nat} (hU : gU ws) (hk : ows ws k b 7 fs) (hi : fs[i]? = some (.ref r)) (hj : fs[j]? = some (.ref r')) (hr : gS ws r (.inl z)) (hn : i ≠ j) : r ≠ r' := by
  rintro rfl
  rcases hU.1 _ _ _ _ _ _ _ _ _ _ _ hk hk hi hj ⟨z, hr⟩ with ⟨-, e⟩ | ⟨⟨e | e, -⟩, -⟩
  · exact hn e
  · exact absurd e (by decide)
  · exact absurd e (by decide)
theorem get_ne {kk kx r r' : Nat} {x y z : ClassId × vp_A} (ew : ws' = ws.set kk (r, .inl y)) (hk : ws[kk]? = some (r, .inl x)) (hx : ws[kx]? = some (r', .inl z)) (hn : r ≠ r') : ws'[kx]? = some (r', .inl z) := by
  have : kk ≠ kx := by
    rintro rfl
    rw [hk] at hx
    cases hx
    exact hn rfl
  rw [ew, List.getElem?_set_ne this]
  exact hx
theorem rowC_o {ro ko n i : Nat} {c : ClassId} {f : Nat → Int32} {x : Int32} (ew : ws' = ws.set ko (ro, .inl (c, n, .inl (upd f i x)))) (hD : va_D A ws) (hU : gU ws) (hk : ows ws k b 7 fs) (h0 : fs[0]? = some (.ref ro)) (hf : iws ws ko ro c n f) (q : rowC ws b P) (hPQ : ∀ fo fa ft cnt tc, P fo fa ft cnt tc → Q (upd fo i x) fa ft cnt tc) : rowC ws' b Q := by
  obtain ⟨k', ro', ra, rt, ko', ka, kt, no, na, nt, fs', co, ca, ct, fo, fa, ft, cnt, tc, p0, p1, p2, p3, p4, p5, p6, p7, p8, p9⟩ := q
  obtain rfl := gO_un hD hk p0
  rw [h0] at p1
  cases p1
  have e2 := hD.1 _ _ _ _ hf p6 rfl
  subst e2
  rw [iws, hf] at p6
  cases p6
  have hr : gS ws ro (.inl (c, n, 0)) := ⟨_, _, hf, rfl⟩
  exact ⟨k', ro, ra, rt, ko, ka, kt, n, na, nt, fs, c, ca, ct, _, fa, ft, cnt, tc, gset_arO ew hf p0, h0, p2, p3, p4, p5, gset_self ew hf, get_ne ew hf p7 (uq_ne hU hk h0 p2 hr (by decide)), get_ne ew hf p8 (uq_ne hU hk h0 p4 hr (by decide)), hPQ _ _ _ _ _ p9⟩
theorem rowC_t {rt kt n i : Nat} {c : ClassId} {f : Nat → Int32} {x : Int32} (ew : ws' = ws.set kt (rt, .inl (c, n, .inl (upd f i x)))) (hD : va_D A ws) (hU : gU ws) (hk : ows ws k b 7 fs) (h3 : fs[3]? = some (.ref rt)) (hf : iws ws kt rt c n f) (q : rowC ws b P) (hPQ : ∀ fo fa ft cnt tc, P fo fa ft cnt tc → Q fo fa (upd ft i x) cnt tc) : rowC ws' b Q := by
  obtain ⟨k', ro, ra, rt', ko, ka, kt', no, na, nt, fs', co, ca, ct, fo, fa, ft, cnt, tc, p0, p1, p2, p3, p4, p5, p6, p7, p8, p9⟩ := q
  obtain rfl := gO_un hD hk p0
  rw [h3] at p4
  cases p4
  have e2 := hD.1 _ _ _ _ hf p8 rfl
  subst e2
  rw [iws, hf] at p8
  cases p8
  have hr : gS ws rt (.inl (c, n, 0)) := ⟨_, _, hf, rfl⟩
  exact ⟨k', ro, ra, rt, ko, ka, kt, no, na, n, fs, co, ca, c, fo, fa, _, cnt, tc, gset_arO ew hf p0, p1, p2, p3, h3, p5, get_ne ew hf p6 (uq_ne hU hk h3 p1 hr (by decide)), get_ne ew hf p7 (uq_ne hU hk h3 p2 hr (by decide)), gset_self ew hf, hPQ _ _ _ _ _ p9⟩
theorem rowC_a {ra ka n i : Nat} {c : ClassId} {f : Nat → Int64} {x : Int64} (ew : ws' = ws.set ka (ra, .inl (c, n, .inr (.inl (vp_updL f i x))))) (hD : va_D A ws) (hU : gU ws) (hk : ows ws k b 7 fs) (h1 : fs[1]? = some (.ref ra)) (hf : jws ws ka ra c n f) (q : rowC ws b P) (hPQ : ∀ fo fa ft cnt tc, P fo fa ft cnt tc → Q fo (vp_updL fa i x) ft cnt tc) : rowC ws' b Q := by
  obtain ⟨k', ro, ra', rt, ko, ka', kt, no, na, nt, fs', co, ca, ct, fo, fa, ft, cnt, tc, p0, p1, p2, p3, p4, p5, p6, p7, p8, p9⟩ := q
  obtain rfl := gO_un hD hk p0
  rw [h1] at p2
  cases p2
  have e2 := hD.1 _ _ _ _ hf p7 rfl
  subst e2
  rw [jws, hf] at p7
  cases p7
  have hr : gS ws ra (.inl (c, n, 1)) := ⟨_, _, hf, rfl⟩
  exact ⟨k', ro, ra, rt, ko, ka, kt, no, n, nt, fs, co, c, ct, fo, _, ft, cnt, tc, gset_arO ew hf p0, p1, h1, p3, p4, p5, get_ne ew hf p6 (uq_ne hU hk h1 p1 hr (by decide)), gset_self ew hf, get_ne ew hf p8 (uq_ne hU hk h1 p4 hr (by decide)), hPQ _ _ _ _ _ p9⟩
theorem rowC_n {fs' : List Value} {x : Int32} (ew : ws' = ws.set k (b, .inr (7, fs'))) (hD : va_D A ws) (hk : ows ws k b 7 fs) (hs : fs' = fs.set 2 (.int x)) {c0 : Int32} (h2 : fs[2]? = some (.int c0)) (q : rowC ws b P) (hPQ : ∀ fo fa ft tc, P fo fa ft c0.toInt tc → Q fo fa ft x.toInt tc) : rowC ws' b Q := by
  obtain ⟨k', ro, ra, rt, ko, ka, kt, no, na, nt, fs2, co, ca, ct, fo, fa, ft, cnt, tc, p0, p1, p2, p3, p4, p5, p6, p7, p8, p9⟩ := q
  have e1 := hD.1 _ _ _ _ hk p0 rfl
  subst e1
  obtain ⟨-, -, e2⟩ := ows_one hk p0
  subst e2
  rw [h2] at p3
  cases p3
  have g : ∀ j, j ≠ 2 → fs'[j]? = fs[j]? := fun j hj => by rw [hs, List.getElem?_set_ne (Ne.symm hj)]
  exact ⟨k, ro, ra, rt, ko, ka, kt, no, na, nt, fs', co, ca, ct, fo, fa, ft, x, tc, gset_self ew hk, (g 0 (by decide)).trans p1, (g 1 (by decide)).trans p2, by rw [hs, List.getElem?_set_self (List.getElem?_eq_some_iff.mp h2).1], (g 3 (by decide)).trans p4, (g 4 (by decide)).trans p5, gset_obI ew hk p6, gset_obI ew hk p7, gset_obI ew hk p8, hPQ _ _ _ _ p9⟩
theorem rowC_m {fs' : List Value} {x : Int32} (ew : ws' = ws.set k (b, .inr (7, fs'))) (hD : va_D A ws) (hk : ows ws k b 7 fs) (hs : fs' = fs.set 4 (.int x)) {c0 : Int32} (h4 : fs[4]? = some (.int c0)) (q : rowC ws b P) (hPQ : ∀ fo fa ft cnt, P fo fa ft cnt c0.toInt → Q fo fa ft cnt x.toInt) : rowC ws' b Q := by
  obtain ⟨k', ro, ra, rt, ko, ka, kt, no, na, nt, fs2, co, ca, ct, fo, fa, ft, cnt, tc, p0, p1, p2, p3, p4, p5, p6, p7, p8, p9⟩ := q
  have e1 := hD.1 _ _ _ _ hk p0 rfl
  subst e1
  obtain ⟨-, -, e2⟩ := ows_one hk p0
  subst e2
  rw [h4] at p5
  cases p5
  have g : ∀ j, j ≠ 4 → fs'[j]? = fs[j]? := fun j hj => by rw [hs, List.getElem?_set_ne (Ne.symm hj)]
  exact ⟨k, ro, ra, rt, ko, ka, kt, no, na, nt, fs', co, ca, ct, fo, fa, ft, cnt, x, gset_self ew hk, (g 0 (by decide)).trans p1, (g 1 (by decide)).trans p2, (g 2 (by decide)).trans p3, (g 3 (by decide)).trans p4, by rw [hs, List.getElem?_set_self (List.getElem?_eq_some_iff.mp h4).1], gset_obI ew hk p6, gset_obI ew hk p7, gset_obI ew hk p8, hPQ _ _ _ _ p9⟩
end RCW
/-- an instruction more that is no switch -/
theorem RW.add1 {fo : Nat → Int32} {fa : Nat → Int64} {ft : Nat → Int32} {cnt c2 tc : Int} {k : Nat} (h : RW fo fa ft cnt tc) (hk : (k : Int) = cnt) (hc : c2 = cnt + 1) (hs : ¬ swO (fo k)) : RW fo fa ft c2 tc := by
  have e : ∀ i : Nat, (i : Int) < c2 → swO (fo i) → (i : Int) < cnt := fun i hi hsi => by
    by_cases w : i = k
    · rw [w] at hsi; exact absurd hsi hs
    · omega
  exact ⟨fun i hi hsi => h.1 i (e i hi hsi) hsi, fun i j hij hj hsi hsj => h.2 i j hij (e j hj hsj) hsi hsj⟩
theorem swO_no {x : Int32} (h : x.toInt ≠ 170 ∧ x.toInt ≠ 171) : ¬ swO x := by
  rintro (e | e)
  · exact h.1 (by rw [e]; decide)
  · exact h.2 (by rw [e]; decide)
theorem rowC_fix {A : Nat → Prop} {ws : va_W} {k b : Nat} {fs : List Value} {P : (Nat → Int32) → (Nat → Int64) → (Nat → Int32) → Int → Int → Prop} {c0 t0 : Int32} (hD : va_D A ws) (hk : ows ws k b 7 fs) (h2 : fs[2]? = some (.int c0)) (h4 : fs[4]? = some (.int t0)) (q : rowC ws b P) : rowC ws b (fun fo fa ft c t => P fo fa ft c t ∧ c = c0.toInt ∧ t = t0.toInt) := by
  obtain ⟨k, ro, ra, rt, ko, ka, kt, no, na, nt, fs', co, ca, ct, fo, fa, ft, cnt, tc, p0, p1, p2, p3, p4, p5, p6, p7, p8, p9⟩ := q
  obtain rfl := gO_un hD hk p0
  rw [h2] at p3
  cases p3
  rw [h4] at p5
  cases p5
  exact ⟨k, ro, ra, rt, ko, ka, kt, no, na, nt, fs, co, ca, ct, fo, fa, ft, c0, t0, p0, p1, p2, h2, p4, h4, p6, p7, p8, p9, rfl, rfl⟩
def RWn (i : Int32) (fo : Nat → Int32) (fa : Nat → Int64) (ft : Nat → Int32) (c t : Int) : Prop := RW fo fa ft c t ∧ ¬ swO (fo i.toNatClampNeg)
theorem upd_ne {f : Nat → Int32} {i j : Nat} {x : Int32} (h : j ≠ i) : upd f i x j = f j := by unfold upd; rw [if_neg h]
theorem upd_eq {f : Nat → Int32} {i : Nat} {x : Int32} : upd f i x i = x := by unfold upd; rw [if_pos rfl]
theorem updL_ne {f : Nat → Int64} {i j : Nat} {x : Int64} (h : j ≠ i) : vp_updL f i x j = f j := by unfold vp_updL; rw [if_neg h]
