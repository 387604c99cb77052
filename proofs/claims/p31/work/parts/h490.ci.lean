/-! between two calls: what its parts are left as -/
section CIA
variable {B B' : Nat × Nat} {K L : List Nat} {F : List (Nat × Nat)} {A S u v U V : MS} {i j p q r t P : Nat}
def noK (L K : List Nat) : Bool := K.all (fun x => !L.contains x)
theorem noK_n (h : noK L K = true) (m : L.contains t = true) : K.contains t = false := by
  cases e : K.contains t with
  | false => rfl
  | true =>
    have := List.all_eq_true.mp h _ (List.contains_iff_mem.mp e)
    rw [m] at this
    cases this
def noF (t : Nat) (F : List (Nat × Nat)) : Bool := F.all (fun y => y.1 != t)
theorem noF_n (h : noF t F = true) : F.contains (t, j) = false := by
  cases e : F.contains (t, j) with
  | false => rfl
  | true =>
    have := List.all_eq_true.mp h _ (List.contains_iff_mem.mp e)
    simp at this
theorem wfC.k7 (w : wfC S) : qT S 7 = 5 := (w.2.1 (0, 3, 7, 5, 12) (by decide)).2.1
theorem wfC.k0 (w : wfC S) : qT S 0 = 51 := w.1
/-- a Row with its catches, out of a frame -/
theorem rC.fr (w : wfC S) (k : qT S r = 47) (R : RwK S r) (f : cfr K F S u) (hK : okM K = true) (hF : okL LMr F = true) (hA : okO F = true) (h4 : noK [224, 225, 226] K = true) (h5 : okL [(47, 5), (47, 6), (47, 7), (47, 9)] F = true) : rC S u r := by
  have k0 : K.contains 47 = false := okM_n hK (by decide)
  have a : ∀ {b t : Nat}, qT S b = t → ([224, 225, 226] : List Nat).contains t = true → 100 ≤ t → qI u b = qI S b := fun {b t} e m ht => by
    funext j
    exact (f.2.2 b j (by rw [e]; omega) (by rw [e]; exact noK_n h4 m) (by rw [e]; exact okO_n hA (Or.inr ht))).1
  exact ⟨rSm.fr w k R f hK hF hA, f.kI k k0 (okL_n h5 (by decide)), ⟨qO_eq (f.kO k k0 (okL_n h5 (by decide))), qO_eq (f.kO k k0 (okL_n h5 (by decide))), qO_eq (f.kO k k0 (okL_n h5 (by decide)))⟩, a (w.ref R.1.2.2.2.1 k : qT S (qO S r 5) = 224) (by decide) (by decide), a (w.ref R.1.2.2.2.2.1 k : qT S (qO S r 6) = 225) (by decide) (by decide), a (w.ref R.1.2.2.2.2.2.1 k : qT S (qO S r 7) = 226) (by decide) (by decide)⟩
theorem rC.rw (w : wfC S) (k : qT S q = 47) (R : RwK S q) (h : ∀ a j : Nat, q ≤ a → a < q + 8 → rowA (qT S a) = true → qI u a j = qI S a j ∧ qJ u a j = qJ S a j ∧ qR u a j = qR S a j) : rC S u q := by
  have kd := R.kd w k
  have at' := R.at w k
  have f0 := fun j => h q j (by omega) (by omega) (by rw [k]; rfl)
  have f1 := fun j => h (q + 1) j (by omega) (by omega) (by rw [kd.1]; rfl)
  have f2 := fun j => h (q + 2) j (by omega) (by omega) (by rw [kd.2.1]; rfl)
  have f3 := fun j => h (q + 3) j (by omega) (by omega) (by rw [kd.2.2.1]; rfl)
  have f4 := fun j => h (q + 4) j (by omega) (by omega) (by rw [kd.2.2.2.1]; rfl)
  have f5 := fun j => h (q + 5) j (by omega) (by omega) (by rw [kd.2.2.2.2.1]; rfl)
  have f6 := fun j => h (q + 6) j (by omega) (by omega) (by rw [kd.2.2.2.2.2.1]; rfl)
  refine ⟨⟨⟨(f0 2).1, (f0 4).1⟩, ⟨qO_eq (f0 0).2.2, qO_eq (f0 1).2.2, qO_eq (f0 3).2.2⟩, ?_, ?_, ?_⟩, (f0 9).1, ⟨qO_eq (f0 5).2.2, qO_eq (f0 6).2.2, qO_eq (f0 7).2.2⟩, ?_, ?_, ?_⟩
  · rw [at'.1]; exact funext (fun j => (f1 j).1)
  · rw [at'.2.1]; exact funext (fun j => (f2 j).2.1)
  · rw [at'.2.2.1]; exact funext (fun j => (f3 j).1)
  · rw [at'.2.2.2.1]; exact funext (fun j => (f4 j).1)
  · rw [at'.2.2.2.2.1]; exact funext (fun j => (f5 j).1)
  · rw [at'.2.2.2.2.2.1]; exact funext (fun j => (f6 j).1)
theorem rOld.rc (o : rOld S u) (w : wfC S) (k : qT S q = 47) (R : RwK S q) : rC S u q := rC.rw w k R (fun a j _ _ h => o a j h)
theorem rfr.rc (f : rfr P S u) (w : wfC S) (k : qT S q = 47) (R : RwK S q) (ap : q + 8 ≤ P ∨ P + 8 ≤ q) : rC S u q := rC.rw w k R (fun a j h1 h2 h => f a j h (by omega))
/-- the Units as they were, but for what verify() finds -/
def uOk (S u : MS) : Prop := ∀ a j : Nat, unitA (qT S a) = true → (qT S a = 49 → j < 14) → qI u a j = qI S a j ∧ qR u a j = qR S a j
theorem uOld.ok (h : uOld S u) : uOk S u := fun a j ha _ => h a j ha
def LuK : List Nat := [49, 105, 231, 232, 234, 235, 6, 233, 236, 237]
def LuF : List (Nat × Nat) := [(49, 0), (49, 1), (49, 2), (49, 3), (49, 4), (49, 5), (49, 6), (49, 7), (49, 8), (49, 9), (49, 10), (49, 11), (49, 12), (49, 13)]
theorem LuF_c : ∀ j, j < 14 → LuF.contains (49, j) = true := by decide
theorem unitA_k (h : unitA t = true) : LuK.contains t = true ∧ (t = 49 ∨ t < 40 ∨ 100 ≤ t) := by
  unfold unitA at h
  simp at h
  rcases h with ((((((((h | h) | h) | h) | h) | h) | h) | h) | h) | h <;> subst h <;> decide
theorem uOk.fr (f : cfr K F S u) (hK : noK LuK K = true) (hF : okL LuF F = true) (hA : okO F = true) : uOk S u := fun a j ha hj => by
  obtain ⟨m, ht⟩ := unitA_k ha
  have h0 : qT S a ≠ 0 := fun z => by rw [z] at ha; cases ha
  have := f.2.2 a j h0 (noK_n hK m) (by
    rcases ht with e | e
    · rw [e]; exact okL_n hF (LuF_c j (hj e))
    · exact okO_n hA e)
  exact ⟨this.1, this.2.2⟩
theorem uOk.tr (h : uOk S u) (s : shx S u) (k : uOk u v) : uOk S v := fun a j ha hj => by
  have e := (s.1 a (fun z => by rw [z] at ha; cases ha)).1
  obtain ⟨h1, h2⟩ := h a j ha hj
  obtain ⟨k1, k2⟩ := k a j (by rw [e]; exact ha) (by rw [e]; exact hj)
  exact ⟨k1.trans h1, k2.trans h2⟩
theorem NmU.mvk (w : wfC S) (k : qT S p = 49) (R : UnK S p) (h : NmU S p) (o : uOk S u) (s : shx S u) : NmU u p := by
  have f0 : ∀ j, j < 14 → qI u p j = qI S p j ∧ qR u p j = qR S p j := fun j hj => o p j (by rw [k]; rfl) (fun _ => hj)
  have q : ∀ j, j < 14 → qO u p j = qO S p j := fun j hj => qO_eq (f0 j hj).2
  obtain ⟨⟨a0, a5, a6, a7, a9, a10, a11, a12, a13⟩, _⟩ := R
  have k0 : qT S (qO S p 0) = 105 := w.ref a0 k
  have c : ∀ (j t : Nat), j < 14 → qT S (qO S p j) = t → unitA t = true → t ≠ 49 → qI u (qO u p j) = qI S (qO S p j) := fun j t hj e ht h9 => by
    rw [q j hj]; funext i; exact (o _ i (by rw [e]; exact ht) (fun z => absurd (e.symm.trans z) h9)).1
  have c0 := c 0 105 (by decide) k0 rfl (by decide)
  have c5 := c 5 231 (by decide) (w.ref a5 k) rfl (by decide)
  have c6 := c 6 232 (by decide) (w.ref a6 k) rfl (by decide)
  have c9 := c 9 234 (by decide) (w.ref a9 k) rfl (by decide)
  have c10 := c 10 235 (by decide) (w.ref a10 k) rfl (by decide)
  have n0 : qN u (qO u p 0) = qN S (qO S p 0) := by rw [q 0 (by decide), (s.1 _ (by rw [k0]; decide)).2]
  have m : ∀ a, uNm u p a ↔ uNm S p a := fun a => by unfold uNm; rw [c0, n0]
  obtain ⟨⟨h1, h2⟩, h3, h4⟩ := h
  refine ⟨⟨?_, ?_⟩, fun j hj => ?_, fun j hj => ?_⟩
  · rw [m, (f0 2 (by decide)).1]; exact h1
  · rw [m, (f0 3 (by decide)).1]; exact h2
  · rw [m, m, c5, c6]; rw [(f0 4 (by decide)).1] at hj; exact h3 j hj
  · rw [m, m, c9, c10]; rw [(f0 8 (by decide)).1] at hj; exact h4 j hj
/-- a Row with its number and its stack -/
def rKm (S u : MS) (r : Nat) : Prop := rC S u r ∧ qI u r 10 = qI S r 10 ∧ qI u r 11 = qI S r 11
theorem rKm.rf : rKm S S r := ⟨rC.rf, rfl, rfl⟩
theorem rKm.tr (h : rKm S u r) (k : rKm u v r) : rKm S v r := ⟨h.1.tr k.1, k.2.1.trans h.2.1, k.2.2.trans h.2.2⟩
theorem rOld.rk (o : rOld S u) (w : wfC S) (k : qT S q = 47) (R : RwK S q) : rKm S u q := ⟨o.rc w k R, (o q 10 (by rw [k]; rfl)).1, (o q 11 (by rw [k]; rfl)).1⟩
theorem rfr.rk (f : rfr P S u) (w : wfC S) (k : qT S q = 47) (R : RwK S q) (ap : q + 8 ≤ P ∨ P + 8 ≤ q) : rKm S u q := ⟨f.rc w k R ap, (f q 10 (by rw [k]; rfl) (by omega)).1, (f q 11 (by rw [k]; rfl) (by omega)).1⟩
/-- what every call leaves of Units and Rows -/
def MvR (S u : MS) : Prop := shx S u ∧ uOk S u ∧ (∀ r, qT S r = 47 → r ≠ qO S 66 0 → rKm S u r) ∧ (qO u 66 0 = qO S 66 0 ∨ qT S (qO u 66 0) = 0)
theorem MvR.rf : MvR S S := ⟨shx.rf, fun _ _ _ _ => ⟨rfl, rfl⟩, fun _ _ _ => rKm.rf, Or.inl rfl⟩
theorem MvR.tr (h : MvR S u) (k : MvR u v) : MvR S v := by
  obtain ⟨h1, h2, h3, h4⟩ := h
  obtain ⟨k1, k2, k3, k4⟩ := k
  refine ⟨h1.tr k1, h2.tr h1 k2, fun r kr ne => (h3 r kr ne).tr (k3 r (h1.T kr (by decide)) ?_), ?_⟩
  · rcases h4 with e | e
    · rw [e]; exact ne
    · intro z; rw [← z, kr] at e; cases e
  · rcases k4 with e | e
    · rw [e]; exact h4
    · by_cases z : qT S (qO v 66 0) = 0
      · exact Or.inr z
      · exact absurd (((h1.1 _ z).1).symm.trans e) z
/-- a Unit that was there already is as it was -/
def oU (A S : MS) (p : Nat) : Prop := qT A p = 49 → (∀ j, j < 14 → qI S p j = qI A p j ∧ qR S p j = qR A p j) ∧ (∀ i, qR S (qO A p 13) i = qR A (qO A p 13) i) ∧ (qI S (qO A p 7) = qI A (qO A p 7) ∧ qI S (qO A p 11) = qI A (qO A p 11) ∧ qI S (qO A p 12) = qI A (qO A p 12)) ∧ ∀ (m r : Nat), (m : Int) < (qI A p 8).toInt → qR A (qO A p 13) m = some r → rKm A S r
/-- a new Unit has new Rows -/
def nU (A S : MS) (p : Nat) : Prop := qT A p = 0 → ∀ (m r : Nat), (m : Int) < (qI S p 8).toInt → qR S (qO S p 13) m = some r → qT A r = 0
/-- a Unit whose Rows are not Smith's -/
def UN (A : MS) (S : MS) (p : Nat) : Prop := UtK S p ∧ NsR S p ∧ GdU S p ∧ oU A S p ∧ nU A S p
theorem rKm.gd {M : Int} (h : rKm S u r) (g : GdR M S r) : GdR M u r := g.mv h.1.1 h.1.2.1 h.2.1 (by rw [h.1.2.2.1.2.2, h.1.2.2.2.2.2])
theorem uOk.kd (w : wfC S) (k : qT S p = 49) (R : UnK S p) (o : uOk S u) (s : shx S u) (h : KdU S p) : KdU u p := fun x => by
  have f7 := o p 7 (by rw [k]; rfl) (fun _ => by decide)
  have o7 : qO u p 7 = qO S p 7 := qO_eq f7.2
  have k7 : qT S (qO S p 7) = 233 := w.ref R.1.2.2.2.1 k
  have n7 : qN u (qO S p 7) = qN S (qO S p 7) := (s.1 _ (by rw [k7]; decide)).2
  have i7 : qI u (qO S p 7) = qI S (qO S p 7) := funext fun j => (o _ j (by rw [k7]; rfl) (fun z => by rw [k7] at z; cases z)).1
  have e : fX10_kindOfField u p x = fX10_kindOfField S p x := by unfold fX10_kindOfField; rw [o7, n7, i7]; rfl
  rw [e]
  exact h x
theorem UN.mv (w : wfC S) (g : ShC B S) (k : qT S p = 49) (h : UN A S p) (m : MvR S u) : UN A u p := by
  obtain ⟨s, o, rows, sm⟩ := m
  have R := g.unit k
  have f0 : ∀ j, j < 14 → qI u p j = qI S p j ∧ qR u p j = qR S p j := fun j hj => o p j (by rw [k]; rfl) (fun _ => hj)
  have k13 : qT S (qO S p 13) = 6 := w.ref R.1.2.2.2.2.2.2.2.2 k
  have e13 : ∀ j, qR u (qO u p 13) j = qR S (qO S p 13) j := fun j => by
    rw [qO_eq (f0 13 (by decide)).2, (o _ j (by rw [k13]; rfl) (fun z => by rw [k13] at z; cases z)).2]
  refine ⟨⟨h.1.1.mvk w k R o s, fun j hj => ?_⟩, fun j r hj hr => ?_, ?_, fun kA => ?_, fun z m r hm hr => ?_⟩
  · rw [(f0 8 (by decide)).1] at hj
    obtain ⟨r, e, hr⟩ := h.1.2 j hj
    exact ⟨r, by rw [e13]; exact e, hr.mv (rows r (w.ref e k13) (h.2.1 j r hj e)).1.1⟩
  · rw [(f0 8 (by decide)).1] at hj
    rw [e13] at hr
    have ne := h.2.1 j r hj hr
    have kr : qT S r = 47 := w.ref hr k13
    rcases sm with e | e
    · rw [e]; exact ne
    · intro z; rw [← z, kr] at e; cases e
  · refine ⟨uOk.kd w k R o s h.2.2.1.1, fun m r hm hr => ?_⟩
    rw [(f0 8 (by decide)).1] at hm ⊢
    rw [e13] at hr
    have rk := rows r (w.ref hr k13) (h.2.1 m r hm hr)
    obtain ⟨g1, g2⟩ := h.2.2.1.2 m r hm hr
    exact ⟨rk.gd g1, by rw [rk.2.2]; exact g2⟩
  · obtain ⟨a1, a2, ⟨a3, a4, a5⟩, a6⟩ := h.2.2.2.1 kA
    have o13 : qO S p 13 = qO A p 13 := qO_eq (a1 13 (by decide)).2
    have o7 : qO S p 7 = qO A p 7 := qO_eq (a1 7 (by decide)).2
    have o11 : qO S p 11 = qO A p 11 := qO_eq (a1 11 (by decide)).2
    have o12 : qO S p 12 = qO A p 12 := qO_eq (a1 12 (by decide)).2
    have p13 : qO u p 13 = qO S p 13 := qO_eq (f0 13 (by decide)).2
    have cc : ∀ (j t : Nat), qT S (qO S p j) = t → unitA t = true → t ≠ 49 → qI u (qO S p j) = qI S (qO S p j) := fun j t e ht h9 => funext fun i => (o _ i (by rw [e]; exact ht) (fun z => absurd (e.symm.trans z) h9)).1
    have c7 := cc 7 233 (w.ref R.1.2.2.2.1 k) rfl (by decide)
    have c11 := cc 11 236 (w.ref R.1.2.2.2.2.2.2.1 k) rfl (by decide)
    have c12 := cc 12 237 (w.ref R.1.2.2.2.2.2.2.2.1 k) rfl (by decide)
    rw [o7] at c7
    rw [o11] at c11
    rw [o12] at c12
    refine ⟨fun j hj => ⟨(f0 j hj).1.trans (a1 j hj).1, (f0 j hj).2.trans (a1 j hj).2⟩, fun i => ?_, ⟨c7.trans a3, c11.trans a4, c12.trans a5⟩, fun m r hm hr => ?_⟩
    · have := e13 i
      rw [p13, o13] at this
      exact this.trans (a2 i)
    · have rS : qR S (qO S p 13) m = some r := by rw [o13, a2]; exact hr
      have mS : (m : Int) < (qI S p 8).toInt := by rw [(a1 8 (by decide)).1]; exact hm
      exact (a6 m r hm hr).tr (rows r (w.ref rS k13) (h.2.1 m r mS rS))
  · rw [(f0 8 (by decide)).1] at hm
    rw [e13] at hr
    exact h.2.2.2.2 z m r hm hr
theorem UN.full (h : UN A S p) : FullU S p := fun m hm => by
  obtain ⟨r, e, hr⟩ := h.1.2 m hm
  exact ⟨r, e, hr.1.1.full⟩
theorem MvR.fr (w : wfC S) (g : ShC B S) (f : cfr K F S u) (hK : noK (LuK ++ [222, 223, 406, 224, 225, 226, 47, 217, 45, 48]) K = true) (hF : okL (LuF ++ [(47, 0), (47, 1), (47, 2), (47, 3), (47, 4), (47, 5), (47, 6), (47, 7), (47, 9), (47, 10), (47, 11), (48, 0)]) F = true) (hA : okO F = true) : MvR S u := by
  have mo : ∀ L' : List Nat, L'.all (fun x => (LuK ++ [222, 223, 406, 224, 225, 226, 47, 217, 45, 48]).contains x) = true → noK L' K = true := fun L' h' => by
    refine List.all_eq_true.mpr (fun x hx => ?_)
    have h1 := List.all_eq_true.mp hK x hx
    cases e : L'.contains x with
    | false => rfl
    | true => rw [List.all_eq_true.mp h' _ (List.contains_iff_mem.mp e)] at h1; cases h1
  refine ⟨f.1, uOk.fr f (mo _ (by decide)) (okL_mo hF (by decide)) hA, fun r kr _ => ⟨rC.fr w kr (g.row kr) f ?_ ?_ hA (mo _ (by decide)) (okL_mo hF (by decide)), f.kI kr (noK_n hK (by decide)) (okL_n hF (by decide)), f.kI kr (noK_n hK (by decide)) (okL_n hF (by decide))⟩, Or.inl (qO_eq (f.kO w.k66 (noK_n hK (by decide)) (okL_n hF (by decide))))⟩
  · have := mo [217, 6, 222, 223, 406, 45, 47, 49] (by decide)
    exact this
  · refine okL_mo hF (by decide)
/-- the Units, and the one on stage -/
def UsI (A : MS) (S : MS) : Prop := (0 ≤ (qI S 0 11).toInt ∧ (qI S 0 11).toInt ≤ 12) ∧ (∀ f : Nat, (f : Int) < (qI S 0 11).toInt → ∃ p, qR S 7 f = some p ∧ UN A S p) ∧ (∀ p, qR S 44 0 = some p → UN A S p) ∧ shx A S
theorem UsI.mv (w : wfC S) (g : ShC B S) (h : UsI A S) (m : MvR S u) (e11 : qI u 0 11 = qI S 0 11) (e7 : ∀ j, qR u 7 j = qR S 7 j) (st : ∀ p, qR u 44 0 = some p → qR S 44 0 = some p ∨ UN A u p) : UsI A u := by
  obtain ⟨h1, h2, h3, h4⟩ := h
  refine ⟨by rw [e11]; exact h1, fun f hf => ?_, fun p e => ?_, h4.tr m.1⟩
  · rw [e11] at hf
    obtain ⟨p, e, hp⟩ := h2 f hf
    exact ⟨p, by rw [e7]; exact e, hp.mv w g (w.ref e w.k7) m⟩
  · rcases st p e with z | z
    · exact (h3 p z).mv w g (w.ref z w.k44) m
    · exact z
/-- Graph's own cells -/
def Gs3 (S u : MS) : Prop := qR u 52 0 = qR S 52 0 ∧ (∀ j, qI u 52 j = qI S 52 j) ∧ ∀ j : Nat, 2 ≤ j → (52, j) ∈ ptrC → qO u 52 j = qO S 52 j ∧ qN u (qO S 52 j) = qN S (qO S 52 j) ∧ qI u (qO S 52 j) = qI S (qO S 52 j)
def LgK : List Nat := [43, 202, 203, 204, 205, 206, 207, 208, 209, 210, 211, 212, 303, 401]
theorem Gs3.fr (w : wfC S) (f : cfr K F S u) (hK : noK LgK K = true) (hF : noF 43 F = true) (hA : okO F = true) : Gs3 S u := by
  have k52 := w.k52
  have a52 : ∀ j, qI u 52 j = qI S 52 j ∧ qR u 52 j = qR S 52 j := fun j => by
    have := f.2.2 52 j (by rw [k52]; decide) (by rw [k52]; exact noK_n hK (by decide)) (by rw [k52]; exact noF_n hF)
    exact ⟨this.1, this.2.2⟩
  refine ⟨(a52 0).2, fun j => (a52 j).1, fun j hj hp => ⟨qO_eq (a52 j).2, ?_⟩⟩
  have kj : ∀ t : Nat, qT S (qO S 52 j) = t → LgK.contains t = true ∧ 100 ≤ t → qN u (qO S 52 j) = qN S (qO S 52 j) ∧ qI u (qO S 52 j) = qI S (qO S 52 j) := fun t e ht => by
    refine ⟨(f.1.1 _ (by omega)).2, funext fun i => (f.2.2 _ i (by omega) (by rw [e]; exact noK_n hK ht.1) (by rw [e]; exact okO_n hA (by omega))).1⟩
  have hj' : j = 2 ∨ j = 3 ∨ j = 4 ∨ j = 5 ∨ j = 6 ∨ j = 7 ∨ j = 8 ∨ j = 9 ∨ j = 11 ∨ j = 12 ∨ j = 13 ∨ j = 14 ∨ j = 15 := by
    revert hp
    have all : ptrC.all (fun a => a.1 != 52 || ([0, 2, 3, 4, 5, 6, 7, 8, 9, 11, 12, 13, 14, 15] : List Nat).contains a.2) = true := by decide
    intro hp
    have := List.all_eq_true.mp all _ hp
    simp at this
    omega
  rcases hj' with rfl | rfl | rfl | rfl | rfl | rfl | rfl | rfl | rfl | rfl | rfl | rfl | rfl
  all_goals exact kj _ (w.ref (w.ptr hp) w.k52) (by decide)
theorem Gs3.tr (h : Gs3 S u) (k : Gs3 u v) : Gs3 S v := by
  obtain ⟨h1, h2, h3⟩ := h
  obtain ⟨k1, k2, k3⟩ := k
  refine ⟨k1.trans h1, fun j => (k2 j).trans (h2 j), fun j hj hp => ?_⟩
  obtain ⟨a1, a2, a3⟩ := h3 j hj hp
  obtain ⟨b1, b2, b3⟩ := k3 j hj hp
  rw [a1] at b1 b2 b3
  exact ⟨b1, b2.trans a2, b3.trans a3⟩
/-- Graph at rest, true of its Row, which is not Smith's -/
def GnI (B : Nat × Nat) (S : MS) : Prop := GrR B S ∧ GcIk S ∧ ∀ r, qR S 52 0 = some r → r ≠ qO S 66 0
theorem GnI.g (h : GnI B S) : ShC B S := h.1.1
theorem GnI.mv (w : wfC S) (h : GnI B S) (g : ShC B' u) (gs : Gs3 S u) (m : MvR S u) : GnI B' u := by
  obtain ⟨⟨hg, hl, hd⟩, gc, ns⟩ := h
  obtain ⟨g1, g2, g3⟩ := gs
  obtain ⟨o2, n2, i2⟩ := g3 2 (by decide) (by decide)
  obtain ⟨o3, n3, i3⟩ := g3 3 (by decide) (by decide)
  obtain ⟨o4, n4, i4⟩ := g3 4 (by decide) (by decide)
  obtain ⟨o5, n5, i5⟩ := g3 5 (by decide) (by decide)
  obtain ⟨o6, n6, i6⟩ := g3 6 (by decide) (by decide)
  obtain ⟨o7, n7, i7⟩ := g3 7 (by decide) (by decide)
  obtain ⟨o8, n8, i8⟩ := g3 8 (by decide) (by decide)
  obtain ⟨o11, n11, i11⟩ := g3 11 (by decide) (by decide)
  obtain ⟨o12, n12, i12⟩ := g3 12 (by decide) (by decide)
  obtain ⟨o13, n13, i13⟩ := g3 13 (by decide) (by decide)
  obtain ⟨o14, n14, i14⟩ := g3 14 (by decide) (by decide)
  obtain ⟨o15, n15, i15⟩ := g3 15 (by decide) (by decide)
  have GL : GrL u := by
    unfold GrL at hl ⊢
    simp only [o2, o3, o4, o5, o6, o7, o8, o11, o12, o13, o14, o15, n2, n3, n4, n5, n6, n7, n8, n11, n12, n13, n14, n15]
    exact hl
  rcases hd with ⟨d1, d2, d3⟩ | d
  · refine ⟨⟨g, GL, Or.inl ⟨by rw [g1]; exact d1, by rw [g2]; exact d2, by rw [o3, n3]; exact d3⟩⟩, fun r e => ?_, fun r e => ?_⟩
    · rw [g1, d1] at e; cases e
    · rw [g1, d1] at e; cases e
  · have rp := d.1.1.1.rp
    have kr : qT S (qO S 52 0) = 47 := w.ref rp w.k52
    have ne := ns _ rp
    have rc := (m.2.2.1 _ kr ne).1
    refine ⟨⟨g, GL, Or.inr (d.gs g ⟨g1, g2, g3, rc.1⟩)⟩, fun r e => ?_, fun r e => ?_⟩
    · rw [g1, rp] at e
      obtain rfl := Option.some.inj e
      obtain ⟨c1, c2⟩ := gc _ rp
      rw [g2, cg_cn rc, cg_rS rc]
      refine ⟨c1, fun k hk => ?_⟩
      have e8 : gi u 8 k = gi S 8 k := by unfold gi; rw [o8, i8]
      rw [e8]
      exact c2 k hk
    · rw [g1, rp] at e
      obtain rfl := Option.some.inj e
      rcases m.2.2.2 with z | z
      · rw [z]; exact ne
      · intro y; rw [← y, kr] at z; cases z
/-- the machine's numbers -/
def MsJ (S : MS) : Prop := MaI S ∧ (0 ≤ (qI S 44 7).toInt ∧ (qI S 44 7).toInt ≤ 8) ∧ ((qN S (qO S 44 8) = 0 ∧ qN S (qO S 44 9) = 0) ∨ (qN S (qO S 44 8) = 1440 ∧ qN S (qO S 44 9) = 1440))
theorem MsJ.fr (w : wfC S) (h : MsJ S) (f : cfr K F S u) (hK : K.contains 45 = false) (hF : okL [(45, 3), (45, 4), (45, 5), (45, 7), (45, 8), (45, 9)] F = true) : MsJ u := by
  have e4 : qN u (qO u 44 4) = qN S (qO S 44 4) := by have := f.kN (j := 4) w w.k44 hK (okL_n hF (by decide)) (by decide); omega
  have e8 : qN u (qO u 44 8) = qN S (qO S 44 8) := by have := f.kN (j := 8) w w.k44 hK (okL_n hF (by decide)) (by decide); omega
  have e9 : qN u (qO u 44 9) = qN S (qO S 44 9) := by have := f.kN (j := 9) w w.k44 hK (okL_n hF (by decide)) (by decide); omega
  unfold MsJ MaI at h ⊢
  rw [e4, e8, e9, f.kI (j := 5) w.k44 hK (okL_n hF (by decide)), f.kI (j := 3) w.k44 hK (okL_n hF (by decide)), f.kI (j := 7) w.k44 hK (okL_n hF (by decide))]
  exact h
/-- all Bytes -/
def BsIk (S : MS) : Prop := (ByI S 1 16384 ∧ ByI S 3 65536 ∧ ByI S 5 65536) ∧ WbI S ∧ (qI S 1 1).toInt ≤ 16000
theorem BsIk.hb (w : wfC S) (h : BsIk S) (f : hB [] S u) : BsIk u := ⟨⟨h.1.1.hb w w.k1 f rfl, h.1.2.1.hb w w.k3 f rfl, h.1.2.2.hb w w.k5 f rfl⟩, h.2.1.hb w f, by rw [(f.2 1 1 w.k1 rfl).1]; exact h.2.2⟩
/-- how many of the first Units are not yet checked -/
def unO (S : MS) : Nat → Nat
  | 0 => 0
  | k + 1 => unO S k + (if (qI S (qO S 7 k) 15).toInt = 0 then 1 else 0)
theorem unO_eq : ∀ n : Nat, (∀ k, k < n → (qI u (qO u 7 k) 15).toInt = (qI S (qO S 7 k) 15).toInt) → unO u n = unO S n := by
  intro n
  induction n with
  | zero => intro _; rfl
  | succ n ih =>
    intro h
    show unO u n + (if (qI u (qO u 7 n) 15).toInt = 0 then 1 else 0) = unO S n + (if (qI S (qO S 7 n) 15).toInt = 0 then 1 else 0)
    rw [ih (fun k hk => h k (by omega)), h n (by omega)]
/-- the first Unit comes from the tray -/
def eN (n : Nat) : Nat := if n = 0 then 0 else 47500
theorem eN_s {n : Nat} : eN (n + 1) = 47500 := rfl
theorem eN_p {n : Nat} (h : 1 ≤ n) : eN n = 47500 := if_neg (by omega)
/-- the room that is used -/
def BgI (B : Nat × Nat) (S : MS) : Prop := B.1 + 86400 * unO S (qI S 0 11).toInt.toNat + eN (qI S 0 11).toInt.toNat ≤ 1085600 + 209606 * (qI S 0 11).toInt.toNat ∧ B.2 + 4608 * unO S (qI S 0 11).toInt.toNat ≤ 8000000 + 17536 * (qI S 0 11).toInt.toNat
def CIB (A : MS) (B : Nat × Nat) (S : MS) : Prop := BgI B S ∧ GnI B S ∧ UsI A S ∧ SmT S ∧ MsJ S ∧ BsIk S
/-- between two calls -/
def CI (A : MS) (S : MS) : Prop := ∃ B, CIB A B S
theorem CIB.g (h : CIB A B S) : ShC B S := h.2.1.1.1
theorem CIB.of (w : wfC S) (h : CIB A B S) (g : ShC B u) (m : MvR S u) (gn : GnI B u) (e11 : qI u 0 11 = qI S 0 11) (e7 : ∀ j, qR u 7 j = qR S 7 j) (e15 : ∀ a, qT S a = 49 → qI u a 15 = qI S a 15) (st : ∀ p, qR u 44 0 = some p → qR S 44 0 = some p ∨ UN A u p) (sm : SmT u) (ms : MsJ u) (bs : BsIk u) : CIB A B u := by
  obtain ⟨bd, gS, us, _, _, _⟩ := h
  refine ⟨?_, gn, us.mv w gS.g m e11 e7 st, sm, ms, bs⟩
  have en : unO u (qI S 0 11).toInt.toNat = unO S (qI S 0 11).toInt.toNat := unO_eq _ (fun k hk => by
    obtain ⟨p, e, _⟩ := us.2.1 k (by omega)
    rw [qO_eq (e7 k), qO_of e, e15 p (w.ref e w.k7)])
  unfold BgI at bd ⊢
  rw [e11, en]
  exact bd
/-- a frame that touches nothing of it -/
def LcK : List Nat := LuK ++ [222, 223, 406, 224, 225, 226, 47, 217, 45, 48, 5, 51, 40, 43, 202, 203, 204, 205, 206, 207, 208, 209, 210, 211, 212, 303, 401]
def LcF : List (Nat × Nat) := LuF ++ [(47, 0), (47, 1), (47, 2), (47, 3), (47, 4), (47, 5), (47, 6), (47, 7), (47, 9), (47, 10), (47, 11), (48, 0), (49, 15), (51, 11), (45, 0), (45, 3), (45, 4), (45, 5), (45, 7), (45, 8), (45, 9)]
theorem noK_mo {L' : List Nat} (h : noK L K = true) (h' : L'.all (fun x => L.contains x) = true) : noK L' K = true := by
  refine List.all_eq_true.mpr (fun x hx => ?_)
  have h1 := List.all_eq_true.mp h x hx
  cases e : L'.contains x with
  | false => rfl
  | true => rw [List.all_eq_true.mp h' _ (List.contains_iff_mem.mp e)] at h1; cases h1
theorem CIB.fr (w : wfC S) (h : CIB A B S) (g : ShC B u) (f : cfr K F S u) (hK : noK LcK K = true) (hF : okL LcF F = true) (hA : okO F = true) (h40 : noF 40 F = true) (h43 : noF 43 F = true) : CIB A B u := by
  have gS := h.g
  have m : MvR S u := MvR.fr w gS f (noK_mo hK (by decide)) (okL_mo hF (by decide)) hA
  obtain ⟨bd, gn, us, sm, ms, bs⟩ := id h
  exact h.of w g m (gn.mv w g (Gs3.fr w f (noK_mo hK (by decide)) h43 hA) m) (f.kI w.k0 (noK_n hK (by decide)) (okL_n hF (by decide))) (fun j => f.kO w.k7 (noK_n hK (by decide)) (okO_n hA (by decide))) (fun a ka => f.kI ka (noK_n hK (by decide)) (okL_n hF (by decide))) (fun p e => Or.inl (by rw [← f.kO w.k44 (noK_n hK (by decide)) (okL_n hF (by decide))]; exact e)) (SmT.fr w gS sm f (noK_n hK (by decide)) (okL_n hF (by decide)) (noK_n hK (by decide)) (okL_n hF (by decide)) (okL_n hF (by decide))).1 (ms.fr w f (noK_n hK (by decide)) (okL_mo hF (by decide))) (bs.hb w (hB.of f (noK_n hK (by decide)) (fun j => noF_n h40)))
end CIA
/-! the small calls -/
section CJA
variable {B : Nat × Nat} {K H : List Nat} {F : List (Nat × Nat)} {A S u v U V : MS} {i j p q r t o : Nat} {x y z x1 x2 x3 x4 x5 : Int32}
theorem WbI.hbh (h : WbI V) (w : wfC V) (f : hB H V u) (h1 : H.contains 26 = false) (h2 : H.contains 28 = false) (h3 : H.contains 30 = false) : WbI u := by
  obtain ⟨⟨b26, b28, b30⟩, n30, n28⟩ := h
  refine ⟨⟨b26.hb w w.k26 f h1, b28.hb w w.k28 f h2, b30.hb w w.k30 f h3⟩, ?_, ?_⟩
  · rw [qO_eq (f.2 26 0 w.k26 h1).2, qO_eq (f.2 30 0 w.k30 h3).2]; exact n30
  · rw [qO_eq (f.2 26 0 w.k26 h1).2, qO_eq (f.2 28 0 w.k28 h2).2]; exact n28
theorem ci_p4 (w : wfC S) (h : CIB A B S) : wX0_put4 S 1 x (fun u => (ByPk 1 4 16384 S u ∧ cfr [101] [(40, 0), (40, 1)] S u) ∧ hB [1] S u) := by
  have c := h.2.2.2.2.2.2.2
  exact hb_put4 w (frX0_put4 w (sp_put4 w w.k1 h.2.2.2.2.2.1.1 (by decide) (by omega) h.g.rb_1 (fun u q => q)))
theorem CIB.p4 (w : wfC S) (h : CIB A B S) (q : (ByPk 1 4 16384 S u ∧ cfr [101] [(40, 0), (40, 1)] S u) ∧ hB [1] S u) (hc : (qI S 1 1).toInt + 4 ≤ 16000) : CIB A B u ∧ (qI u 1 1).toInt = (qI S 1 1).toInt + 4 := by
  obtain ⟨⟨⟨q1, q2, q3, q4⟩, f⟩, hb⟩ := q
  have gS := h.g
  have g : ShC B u := ShC.b_1 w gS q3 q4 q1.2.2.2
  have m : MvR S u := MvR.fr w gS f rfl rfl rfl
  obtain ⟨bd, gn, us, sm, ms, bs⟩ := id h
  refine ⟨h.of w g m (gn.mv w g (Gs3.fr w f rfl rfl rfl) m) (f.kI w.k0 rfl rfl) (fun j => f.kO w.k7 rfl rfl) (fun a ka => f.kI ka rfl rfl) (fun p e => Or.inl (by rw [← f.kO w.k44 rfl rfl]; exact e)) (SmT.fr w gS sm f rfl rfl rfl rfl rfl).1 (ms.fr w f rfl rfl) ⟨⟨q1, bs.1.2.1.hb w w.k3 hb rfl, bs.1.2.2.hb w w.k5 hb rfl⟩, bs.2.1.hbh w hb rfl rfl rfl, by omega⟩, q2⟩
theorem ci_feed (w : wfC S) (h : CIB A B S) : wX12_feed S x1 x2 x3 x4 x5 (fun _ u => CIB A B u) := by
  have c0 := h.2.2.2.2.2.1.1.2.1
  have c1 := h.2.2.2.2.2.2.2
  have e : ((qI S 1 1) + (20 : Int32)).toInt = (qI S 1 1).toInt + 20 := by
    have l : (20 : Int32).toInt = 20 := rfl
    rw [t_addk (by rw [l]; omega), l]
  unfold wX12_feed
  rw [e]
  refine ⟨fun _ => h, fun c => ⟨fun d _ => ⟨_, ci_p4 w h, fun S6 q6 w6 s6 _ => ?_⟩, fun _ => h⟩⟩
  obtain ⟨h6, n6⟩ := h.p4 w q6 (by omega)
  refine ⟨_, ci_p4 w6 h6, fun S10 q10 w10 s10 _ => ?_⟩
  obtain ⟨h10, n10⟩ := h6.p4 w6 q10 (by omega)
  refine ⟨_, ci_p4 w10 h10, fun S14 q14 w14 s14 _ => ?_⟩
  obtain ⟨h14, n14⟩ := h10.p4 w10 q14 (by omega)
  refine ⟨_, ci_p4 w14 h14, fun S18 q18 w18 s18 _ => ?_⟩
  obtain ⟨h18, n18⟩ := h14.p4 w14 q18 (by omega)
  refine ⟨_, ci_p4 w18 h18, fun S22 q22 w22 s22 S26 e26 k26 w26 => ?_⟩
  obtain ⟨h22, n22⟩ := h18.p4 w18 q22 (by omega)
  have f : cfr [] [(51, 10)] S22 S26 := by rw [e26]; exact cfr.oI k26 rfl
  exact h22.fr w22 (ShC.ws w22 h22.g f (by rw [e26]; rfl) (by rw [e26]; rfl) (by rw [e26]; rfl) rfl rfl) f rfl rfl rfl rfl rfl
theorem ci_end (w : wfC S) (h : CIB A B S) : wX12_end S x1 (fun _ u => CIB A B u) := by
  unfold wX12_end
  refine ⟨fun _ => h, fun c => ⟨fun d S3 e3 k3 w3 => ?_, fun _ => h⟩⟩
  have f : cfr [] [(40, 1)] S S3 := by rw [e3]; exact cfr.oI k3 rfl
  have hb : hB [1] S S3 := by rw [e3]; exact hB.i4 rfl
  have gS := h.g
  have g : ShC B S3 := ShC.ws w gS f (by rw [e3]; rfl) (by rw [e3]; rfl) (by rw [e3]; rfl) rfl rfl
  have m : MvR S S3 := MvR.fr w gS f rfl rfl rfl
  obtain ⟨bd, gn, us, sm, ms, bs⟩ := id h
  have e1 : qI S3 1 1 = x1 := by rw [e3, qI_wI, if_pos ⟨rfl, rfl⟩]
  have r1 : qR S3 1 0 = qR S 1 0 := by rw [e3]; rfl
  have b1 : ByI S3 1 16384 := by
    have b := bs.1.1
    have l : qN S3 (qO S 1 0) = qN S (qO S 1 0) := by rw [e3]; rfl
    unfold ByI at b ⊢
    rw [qO_eq r1, r1, l, e1]
    refine ⟨b.1, ⟨by omega, ?_⟩, b.2.2⟩
    have := b.2.1.2
    omega
  exact h.of w g m (gn.mv w g (Gs3.fr w f rfl rfl rfl) m) (f.kI w.k0 rfl rfl) (fun j => f.kO w.k7 rfl rfl) (fun a ka => f.kI ka rfl rfl) (fun p e => Or.inl (by rw [← f.kO w.k44 rfl rfl]; exact e)) (SmT.fr w gS sm f rfl rfl rfl rfl rfl).1 (ms.fr w f rfl rfl) ⟨⟨b1, bs.1.2.1.hb w w.k3 hb rfl, bs.1.2.2.hb w w.k5 hb rfl⟩, bs.2.1.hbh w hb rfl rfl rfl, by rw [e1]; have := bs.2.2; omega⟩
/-- a Unit that is asked for -/
def UaQ (A : MS) (S : MS) (x : Int32) (b : Option Nat) (u : MS) : Prop := u = S ∧ ∀ p, b = some p → (0 ≤ x.toInt ∧ x.toInt < (qI S 0 11).toInt) ∧ qR S 7 x.toInt.toNat = some p ∧ UN A S p ∧ qT S p = 49
theorem ci_unitAt (w : wfC S) (h : CIB A B S) : wX12_unitAt S x (UaQ A S x) := by
  obtain ⟨_, gn, us, _⟩ := h
  have n := us.1
  have J : w_X12_unitAt_J12 (UaQ A S x) S := by
    unfold w_X12_unitAt_J12
    exact fun _ => ⟨rfl, fun p e => by cases e⟩
  unfold wX12_unitAt
  refine ⟨fun _ => J, fun c => ⟨fun d => ⟨by omega, fun _ => ⟨rfl, fun p e => by cases e⟩, fun e => ⟨rfl, fun p ep => ?_⟩⟩, fun _ => J⟩⟩
  obtain ⟨q, eq, hq⟩ := us.2.1 x.toInt.toNat (by omega)
  rw [eq] at ep
  have ep' : q = p := Option.some.inj ep
  subst ep'
  exact ⟨⟨by omega, d⟩, eq, hq, w.ref eq w.k7⟩
theorem ci_sound (w : wfC S) (h : CIB A B S) : wX12_soundUnitAt S x (UaQ A S x) := by
  have J : w_X12_soundUnitAt_J24 (UaQ A S x) S := by
    unfold w_X12_soundUnitAt_J24
    exact fun _ => ⟨rfl, fun p e => by cases e⟩
  unfold wX12_soundUnitAt
  refine ⟨_, ci_unitAt w h, fun b5 S3 q3 w3 s3 k3 => ?_⟩
  obtain ⟨e3, hb⟩ := q3
  subst e3
  rcases b5 with _ | p
  · exact ⟨fun _ => J, fun c => absurd rfl c⟩
  · exact ⟨fun c => (by cases c), fun _ => ⟨fun _ => J, fun _ => ⟨fun _ => ⟨rfl, fun q e => hb q e⟩, fun _ => J⟩⟩⟩
/-- a Row that is asked for -/
def RaQ (S : MS) (b : Option Nat) (u : MS) : Prop := u = S ∧ ∀ r, b = some r → qT S r = 47 ∧ RrK S r ∧ r ≠ qO S 66 0
theorem ci_rowU (w : wfC S) (g : ShC B S) (k : qT S p = 49) (h : UN A S p) : wX10_rowAt S p x (fun b u => u = S ∧ ∀ r, b = some r → (0 ≤ x.toInt ∧ x.toInt < (qI S p 8).toInt) ∧ qT S r = 47 ∧ RrK S r ∧ r ≠ qO S 66 0) := by
  have R := g.unit k
  have u2 := R.2
  have p13 := R.1.2.2.2.2.2.2.2.2
  have k13 : qT S (qO S p 13) = 6 := w.ref p13 k
  have J : w_X10_rowAt_J13 (fun b u => u = S ∧ ∀ r, b = some r → (0 ≤ x.toInt ∧ x.toInt < (qI S p 8).toInt) ∧ qT S r = 47 ∧ RrK S r ∧ r ≠ qO S 66 0) S := by
    unfold w_X10_rowAt_J13
    exact fun _ => ⟨rfl, fun r e => by cases e⟩
  unfold wX10_rowAt
  refine ⟨fun _ => J, fun c => ⟨p13, fun d => ⟨p13, ⟨by omega, d⟩, fun _ => ⟨rfl, fun r e => by cases e⟩, fun e => ⟨rfl, fun r er => ?_⟩⟩, fun _ => J⟩⟩
  have hx : (x.toInt.toNat : Int) < (qI S p 8).toInt := by omega
  obtain ⟨r', e', hr⟩ := h.1.2 x.toInt.toNat hx
  rw [e'] at er
  have er' : r' = r := Option.some.inj er
  subst er'
  exact ⟨by omega, w.ref e' k13, hr, h.2.1 _ _ hx e'⟩
theorem ci_rowAt (w : wfC S) (h : CIB A B S) : wX12_rowAt S x y (RaQ S) := by
  unfold wX12_rowAt
  refine ⟨_, ci_unitAt w h, fun b5 S3 q3 w3 s3 k3 => ?_⟩
  obtain ⟨e3, hb⟩ := q3
  subst e3
  rcases b5 with _ | p
  · exact ⟨fun _ => ⟨rfl, fun r e => by cases e⟩, fun c => absurd rfl c⟩
  · obtain ⟨_, _, un, kp⟩ := hb p rfl
    refine ⟨fun c => (by cases c), fun _ _ => ⟨_, ci_rowU w h.g kp un, fun b11 S9 q9 w9 s9 k9 => ?_⟩⟩
    obtain ⟨e9, hr⟩ := q9
    subst e9
    rcases b11 with _ | r
    · exact ⟨fun _ => ⟨rfl, fun r e => by cases e⟩, fun c => absurd rfl c⟩
    · exact ⟨fun c => (by cases c), fun _ => ⟨rfl, fun q e => (hr q e).2⟩⟩
theorem ci_size (w : wfC S) (h : CIB A B S) : wX12_size S x1 x2 (fun _ u => CIB A B u) := by
  unfold wX12_size
  refine ⟨_, ci_unitAt w h, fun b5 S3 q3 w3 s3 k3 => ?_⟩
  obtain ⟨e3, _⟩ := q3
  subst e3
  exact ⟨fun _ => h, fun _ => ⟨fun _ => h, fun _ => ⟨fun _ => h, fun _ => ⟨fun _ => h, fun _ => ⟨fun _ => h, fun _ => h⟩⟩⟩⟩⟩
theorem ci_length (w : wfC S) (h : CIB A B S) : wX12_length S x1 x2 (fun _ u => CIB A B u) := by
  unfold wX12_length
  refine ⟨_, ci_rowAt w h, fun b5 S3 q3 w3 s3 k3 => ?_⟩
  obtain ⟨e3, _⟩ := q3
  subst e3
  exact ⟨fun _ => h, fun _ => h⟩
theorem ci_height (w : wfC S) (h : CIB A B S) : wX12_height S x1 x2 x3 (fun _ u => CIB A B u) := by
  have J : ∀ b : Option Nat, w_X12_height_J18 (fun _ u => CIB A B u) S b x3 := fun b => by
    unfold w_X12_height_J18
    refine fun w k => ⟨fun _ => h, fun c => ⟨?_, h⟩⟩
    rcases b with _ | r
    · exact absurd rfl c
    · exact dd_X8_heightAt w h.g (k r rfl)
  unfold wX12_height
  refine ⟨_, ci_sound w h, fun b5 S3 q3 w3 s3 k3 => ?_⟩
  obtain ⟨e3, _⟩ := q3
  subst e3
  refine ⟨fun _ => J none, fun _ => ⟨_, ci_rowAt w h, fun b15 S13 q13 w13 s13 k13 => ?_⟩⟩
  obtain ⟨e13, _⟩ := q13
  subst e13
  exact J b15
theorem ci_local (w : wfC S) (h : CIB A B S) : wX12_local S x1 x2 x3 x4 (fun _ u => CIB A B u) := by
  have J : ∀ b : Option Nat, w_X12_local_J18 (fun _ u => CIB A B u) S b x3 x4 := fun b => by
    unfold w_X12_local_J18
    refine fun w k => ⟨fun _ => h, fun c => ?_⟩
    rcases b with _ | r
    · exact absurd rfl c
    · exact ⟨dd_X8_heightAt w h.g (k r rfl), fun _ => h, fun _ => ⟨fun _ => h, fun _ => ⟨fun _ => ⟨dd_X8_localAt w h.g (k r rfl), h⟩, fun _ => h⟩⟩⟩
  unfold wX12_local
  refine ⟨_, ci_sound w h, fun b5 S3 q3 w3 s3 k3 => ?_⟩
  obtain ⟨e3, _⟩ := q3
  subst e3
  refine ⟨fun _ => J none, fun _ => ⟨_, ci_rowAt w h, fun b21 S19 q19 w19 s19 k19 => ?_⟩⟩
  obtain ⟨e19, _⟩ := q19
  subst e19
  exact J b21
theorem ci_stage (w : wfC S) (h : CIB A B S) : wX12_stage S x1 (fun _ u => CIB A B u) := by
  unfold wX12_stage
  refine ⟨_, ci_sound w h, fun b5 S3 q3 w3 s3 k3 => ?_⟩
  obtain ⟨e3, hb⟩ := q3
  subst e3
  rcases b5 with _ | p
  · exact ⟨fun _ => h, fun c => absurd rfl c⟩
  obtain ⟨_, _, un, kp⟩ := hb p rfl
  refine ⟨fun c => (by cases c), fun _ _ => ?_⟩
  show ∃ Q7, wX5_setStage S3 p Q7 ∧ _
  refine ⟨fun u => (∃ V, cfr [402] [(45, 0)] S3 V ∧ shy S3 V ∧ wfC V ∧ qR V 44 0 = some p ∧ u = wI (wI V 44 3 0) 44 5 0), ?_, ?_⟩
  · unfold wX5_setStage
    intro S1 e1 k1 w1 k45
    have f1 : cfr [402] [(45, 0)] S3 S1 := by rw [e1]; exact cfr.oR k1 rfl
    refine ⟨_, frJ7_fill_d0a16 k45 (by decide) (sfJ7_fill_d0a16 w1 k45 (by decide)), fun V qV wV sV S5 e5 k5 w5 S6 e6 k6 w6 => ⟨V, f1.tr (qV.2.mo rfl rfl), ?_, wV, ?_, by rw [e6, e5]⟩⟩
    · refine ⟨f1.1.tr sV.1, ?_, ?_⟩
      · rw [sV.2.1, e1]; rfl
      · rw [sV.2.2, e1]; rfl
    · rw [qV.2.kO w1.k44 rfl rfl, e1, qR_wR, if_pos ⟨rfl, rfl⟩]
  · rintro u ⟨V, f, sV, wV, r0, eu⟩ wu su
    have f5 : cfr [402] [(45, 0), (45, 3), (45, 5)] S3 u := by
      have a : cfr [] [(45, 3)] V (wI V 44 3 0) := cfr.oI wV.k44 rfl
      have b : cfr [] [(45, 5)] (wI V 44 3 0) (wI (wI V 44 3 0) 44 5 0) := cfr.oI (show qT (wI V 44 3 0) 44 = 45 from wV.k44) rfl
      rw [eu]
      exact ((f.mo rfl rfl).tr (a.mo rfl rfl)).tr (b.mo rfl rfl)
    have gS := h.g
    have sy : shy S3 u := ⟨f5.1, by rw [eu]; exact sV.2.1, by rw [eu]; exact sV.2.2⟩
    have g : ShC B u := ShC.ca w gS f5 sy wu rfl rfl
    have m : MvR S3 u := MvR.fr w gS f5 rfl rfl rfl
    obtain ⟨bd, gn, us, sm, ms, bs⟩ := id h
    have i3 : qI u 44 3 = 0 := by rw [eu, qI_wI, if_neg (fun z => absurd z.2 (by decide)), qI_wI, if_pos ⟨rfl, rfl⟩]
    have i5 : qI u 44 5 = 0 := by rw [eu, qI_wI, if_pos ⟨rfl, rfl⟩]
    have i7 : qI u 44 7 = qI S3 44 7 := f5.kI w.k44 rfl rfl
    have e4 : qN u (qO u 44 4) = qN S3 (qO S3 44 4) := by have := f5.kN (j := 4) w w.k44 rfl rfl (by decide); omega
    have e8 : qN u (qO u 44 8) = qN S3 (qO S3 44 8) := by have := f5.kN (j := 8) w w.k44 rfl rfl (by decide); omega
    have e9 : qN u (qO u 44 9) = qN S3 (qO S3 44 9) := by have := f5.kN (j := 9) w w.k44 rfl rfl (by decide); omega
    have msu : MsJ u := by
      unfold MsJ MaI at ms ⊢
      rw [i3, i5, i7, e4, e8, e9, li_0k]
      refine ⟨⟨⟨by decide, by decide, ?_, ms.1.1.2.2.2.1, by decide, by decide⟩, ms.1.2⟩, ms.2⟩
      have := ms.1.1.2.2.2.1
      omega
    refine h.of w g m (gn.mv w g (Gs3.fr w f5 rfl rfl rfl) m) (f5.kI w.k0 rfl rfl) (fun j => f5.kO w.k7 rfl rfl) (fun a ka => f5.kI ka rfl rfl) (fun p' e => Or.inr ?_) (SmT.fr w gS sm f5 rfl rfl rfl rfl rfl).1 msu (bs.hb w (hB.of f5 rfl (fun _ => rfl)))
    have : qR u 44 0 = some p := by rw [eu]; exact r0
    rw [this] at e
    have e' : p = p' := Option.some.inj e
    subst e'
    exact un.mv w gS kp m
/-- the next count of arguments -/
def agN (a : Int32) : Int32 := if a.toInt < 8 then a + 1 else a
theorem ci_argument {y1 : Int64} (w : wfC S) (h : CIB A B S) : wX12_argument S y1 (fun r u => CIB A B u ∧ qI u 44 7 = agN (qI S 44 7) ∧ r = if (qI S 44 7).toInt < 8 then qI S 44 7 + 1 else -1) := by
  obtain ⟨bd, gn, us, sm, ms, bs⟩ := id h
  have a7 := ms.2.1
  unfold wX12_argument
  refine ⟨fun r u => (CIB A B u ∧ qI u 44 7 = agN (qI S 44 7) ∧ r = if (qI S 44 7).toInt < 8 then qI S 44 7 + 1 else -1), ?_, fun r u q _ _ => q⟩
  unfold wX5_addArgument agN
  refine ⟨fun c => ⟨by omega, fun S3 e3 k3 w3 S5 e5 k5 w5 => ?_⟩, fun c => ⟨h, by rw [if_neg c], by rw [if_neg c]⟩⟩
  have f3 : cfr [403] [(45, 7)] S S3 := by rw [e3]; exact cfr.aJ k3 rfl
  have f5 : cfr [403] [(45, 7)] S3 S5 := by rw [e5]; exact cfr.oI k5 rfl
  have f := f3.tr f5
  have e7 : qI S5 44 7 = qI S 44 7 + 1 := by rw [e5, qI_wI, if_pos ⟨rfl, rfl⟩, e3]; rfl
  have gS := h.g
  have g : ShC B S5 := ShC.ws w gS f (by rw [e5, e3]; rfl) (by rw [e5, e3]; rfl) (by rw [e5, e3]; rfl) rfl rfl
  have m : MvR S S5 := MvR.fr w gS f rfl rfl rfl
  have e4 : qN S5 (qO S5 44 4) = qN S (qO S 44 4) := by have := f.kN (j := 4) w w.k44 rfl rfl (by decide); omega
  have e8 : qN S5 (qO S5 44 8) = qN S (qO S 44 8) := by have := f.kN (j := 8) w w.k44 rfl rfl (by decide); omega
  have e9 : qN S5 (qO S5 44 9) = qN S (qO S 44 9) := by have := f.kN (j := 9) w w.k44 rfl rfl (by decide); omega
  have msu : MsJ S5 := by
    unfold MsJ MaI at ms ⊢
    rw [f.kI (j := 3) w.k44 rfl rfl, f.kI (j := 5) w.k44 rfl rfl, e7, e4, e8, e9]
    refine ⟨ms.1, ?_, ms.2.2⟩
    rw [t_addk (by rw [li_1k]; omega), li_1k]
    omega
  rw [if_pos c, if_pos c]
  exact ⟨h.of w g m (gn.mv w g (Gs3.fr w f rfl rfl rfl) m) (f.kI w.k0 rfl rfl) (fun j => f.kO w.k7 rfl rfl) (fun a ka => f.kI ka rfl rfl) (fun p e => Or.inl (by rw [← f.kO w.k44 rfl rfl]; exact e)) (SmT.fr w gS sm f rfl rfl rfl rfl rfl).1 msu (bs.hb w (hB.of f rfl (fun _ => rfl))), e7, e7⟩
theorem ci_element (w : wfC S) (h : CIB A B S) : wX12_element S x1 x2 (fun _ u => CIB A B u) := by
  unfold wX12_element
  refine ⟨_, frX5_elementAt w (sfX5_elementAt w), fun r2 S3 q3 w3 s3 => ?_⟩
  exact h.fr w (ShC.ca w h.g q3.2 s3 w3 rfl rfl) q3.2 rfl rfl rfl rfl rfl
theorem ci_field (w : wfC S) (h : CIB A B S) : d_X12_field S x1 := ⟨dd_X5_fieldAt w h.g, trivial⟩
theorem ci_arrayLength : d_X12_arrayLength S x1 := ⟨dd_X5_lengthOf, trivial⟩
theorem ci_applied : d_X12_applied S x1 := ⟨dd_X9_appliedAt, trivial⟩
theorem ci_byteAt (h : CIB A B S) : d_X12_byteAt S x1 := by
  have b := h.2.2.2.2.2.1.2.1
  have b1 := b.2.1
  unfold d_X12_byteAt d_X12_byteAt_J15 d_X0_get d_X0_get_J12
  split
  · trivial
  · split
    · rename_i c d
      exact ⟨⟨b.1, ⟨by omega, by omega⟩, trivial⟩, trivial⟩
    · trivial
/-- draw, and what follows -/
theorem ci_draw (w : wfC S) (h : CIB A B S) (kr : qT S r = 47) (rr : RrK S r) : wX3_draw S (some r) (fun u => ((GB4 B u ∧ qR u 52 0 = some r) ∧ GcIk u) ∧ cfr [202, 203, 204, 205, 206, 207, 208, 209, 210, 211, 212, 303, 401] [(43, 0), (43, 1), (43, 2), (43, 3), (43, 4), (43, 5), (43, 6), (43, 7), (43, 8), (43, 9), (43, 10), (43, 11), (43, 12), (43, 13), (43, 14), (43, 15)] S u) := frX3_draw w (sp_drawC w h.2.1.1 h.2.1.2.1 kr rr.1)
theorem CIB.dr (w : wfC S) (h : CIB A B S) (ne : r ≠ qO S 66 0) (q : ((GB4 B u ∧ qR u 52 0 = some r) ∧ GcIk u) ∧ cfr [202, 203, 204, 205, 206, 207, 208, 209, 210, 211, 212, 303, 401] [(43, 0), (43, 1), (43, 2), (43, 3), (43, 4), (43, 5), (43, 6), (43, 7), (43, 8), (43, 9), (43, 10), (43, 11), (43, 12), (43, 13), (43, 14), (43, 15)] S u) : CIB A B u := by
  obtain ⟨⟨⟨d, e0⟩, gc⟩, f⟩ := q
  have gS := h.g
  have g : ShC B u := d.1.1.1.1
  have m : MvR S u := MvR.fr w gS f rfl rfl rfl
  obtain ⟨bd, gn, us, sm, ms, bs⟩ := id h
  have s66 : qO u 66 0 = qO S 66 0 := qO_eq (f.kO w.k66 rfl rfl)
  refine h.of w g m ⟨⟨g, d.1.1.1.2.1, Or.inr d⟩, gc, fun r' e => ?_⟩ (f.kI w.k0 rfl rfl) (fun j => f.kO w.k7 rfl rfl) (fun a ka => f.kI ka rfl rfl) (fun p e => Or.inl (by rw [← f.kO w.k44 rfl rfl]; exact e)) (SmT.fr w gS sm f rfl rfl rfl rfl rfl).1 (ms.fr w f rfl rfl) (bs.hb w (hB.of f rfl (fun _ => rfl)))
  rw [e0] at e
  have e' : r = r' := Option.some.inj e
  subst e'
  rw [s66]
  exact ne
theorem ci_blocks (w : wfC S) (h : CIB A B S) : wX12_blocks S x1 x2 (fun _ u => CIB A B u) := by
  unfold wX12_blocks
  refine ⟨_, ci_rowAt w h, fun b5 S3 q3 w3 s3 k3 => ?_⟩
  obtain ⟨e3, hb⟩ := q3
  subst e3
  rcases b5 with _ | r
  · exact ⟨fun _ => h, fun c => absurd rfl c⟩
  obtain ⟨kr, rr, ne⟩ := hb r rfl
  exact ⟨fun c => (by cases c), fun _ => ⟨_, ci_draw w h kr rr, fun S8 q8 w8 s8 => h.dr w ne q8⟩⟩
theorem ci_block (w : wfC S) (h : CIB A B S) : wX12_block S x1 x2 x3 x4 (fun _ u => CIB A B u) := by
  unfold wX12_block
  refine ⟨_, ci_rowAt w h, fun b5 S3 q3 w3 s3 k3 => ?_⟩
  obtain ⟨e3, hb⟩ := q3
  subst e3
  rcases b5 with _ | r
  · exact ⟨fun _ => h, fun c => absurd rfl c⟩
  obtain ⟨kr, rr, ne⟩ := hb r rfl
  exact ⟨fun c => (by cases c), fun _ => ⟨_, ci_draw w h kr rr, fun S8 q8 w8 s8 => ⟨q8.1.1.1.tell, fun _ _ => h.dr w ne q8⟩⟩⟩
theorem ci_edge (w : wfC S) (h : CIB A B S) : wX12_edge S x1 x2 x3 x4 (fun _ u => CIB A B u) := by
  unfold wX12_edge
  refine ⟨_, ci_rowAt w h, fun b5 S3 q3 w3 s3 k3 => ?_⟩
  obtain ⟨e3, hb⟩ := q3
  subst e3
  rcases b5 with _ | r
  · exact ⟨fun _ => h, fun c => absurd rfl c⟩
  obtain ⟨kr, rr, ne⟩ := hb r rfl
  refine ⟨fun c => (by cases c), fun _ => ⟨_, ci_draw w h kr rr, fun S8 q8 w8 s8 => ⟨_, sp_hasEdge q8.1.1.1, fun r12 S13 q13 w13 s13 => ?_⟩⟩⟩
  obtain ⟨_, e13⟩ := q13
  subst e13
  exact h.dr w ne q8
end CJA
/-! run; and what a call keeps, in two halves -/
section CKA
variable {B B' : Nat × Nat} {K H : List Nat} {F : List (Nat × Nat)} {A S u v U V : MS} {i j p q r t o : Nat} {x y z x1 x2 x3 x4 x5 : Int32}
/-- all but the room -/
def RsI (A : MS) (B : Nat × Nat) (S : MS) : Prop := GnI B S ∧ UsI A S ∧ SmT S ∧ MsJ S ∧ BsIk S
theorem CIB.rs (h : CIB A B S) : RsI A B S := h.2
theorem RsI.g (h : RsI A B S) : ShC B S := h.1.1.1
theorem BgI.eq (h : BgI B S) (e11 : qI u 0 11 = qI S 0 11) (e : ∀ k : Nat, (k : Int) < (qI S 0 11).toInt → (qI u (qO u 7 k) 15).toInt = (qI S (qO S 7 k) 15).toInt) : BgI B u := by
  have en : unO u (qI S 0 11).toInt.toNat = unO S (qI S 0 11).toInt.toNat := unO_eq _ (fun k hk => e k (by omega))
  unfold BgI at h ⊢
  rw [e11, en]
  exact h
theorem UsI.e15 (w : wfC S) (h : UsI A S) (e7 : ∀ j, qR u 7 j = qR S 7 j) (e15 : ∀ a, qT S a = 49 → qI u a 15 = qI S a 15) : ∀ k : Nat, (k : Int) < (qI S 0 11).toInt → (qI u (qO u 7 k) 15).toInt = (qI S (qO S 7 k) 15).toInt := fun k hk => by
  obtain ⟨p, e, _⟩ := h.2.1 k hk
  rw [qO_eq (e7 k), qO_of e, e15 p (w.ref e w.k7)]
/-- Units and Rows, out of a frame that has no Row at all -/
theorem MvR.fo (w : wfC S) (g : ShC B S) (f : cfr K F S u) (hK : noK (LuK ++ [48]) K = true) (h1 : K.all (fun x => !rowA x) = true) (h2 : F.all (fun x => !rowA x.1) = true) (hF : okL (LuF ++ [(48, 0)]) F = true) (hA : okO F = true) : MvR S u :=
  ⟨f.1, uOk.fr f (noK_mo hK (by decide)) (okL_mo hF (by decide)) hA, fun r kr _ => (rOld.of f h1 h2).rk w kr (g.row kr), Or.inl (qO_eq (f.kO w.k66 (noK_n hK (by decide)) (okL_n hF (by decide))))⟩
/-- all but the room, out of a frame -/
def LdK : List Nat := LuK ++ [222, 223, 406, 224, 225, 226, 47, 217, 45, 48, 5, 51, 40, 43, 202, 203, 204, 205, 206, 207, 208, 209, 210, 211, 212, 303, 401]
def LdFk : List (Nat × Nat) := LuF ++ [(47, 0), (47, 1), (47, 2), (47, 3), (47, 4), (47, 5), (47, 6), (47, 7), (47, 9), (47, 10), (47, 11), (48, 0), (51, 11), (45, 0), (45, 3), (45, 4), (45, 5), (45, 7), (45, 8), (45, 9)]
theorem RsI.fr (w : wfC S) (h : RsI A B S) (g : ShC B' u) (f : cfr K F S u) (hK : noK LdK K = true) (hF : okL LdFk F = true) (hA : okO F = true) (h40 : noF 40 F = true) (h43 : noF 43 F = true) : RsI A B' u ∧ MvR S u := by
  have gS := h.g
  have m : MvR S u := MvR.fr w gS f (noK_mo hK (by decide)) (okL_mo hF (by decide)) hA
  obtain ⟨gn, us, sm, ms, bs⟩ := id h
  exact ⟨⟨gn.mv w g (Gs3.fr w f (noK_mo hK (by decide)) h43 hA) m, us.mv w gS m (f.kI w.k0 (noK_n hK (by decide)) (okL_n hF (by decide))) (fun j => f.kO w.k7 (noK_n hK (by decide)) (okO_n hA (by decide))) (fun p e => Or.inl (by rw [← f.kO w.k44 (noK_n hK (by decide)) (okL_n hF (by decide))]; exact e)), (SmT.fr w gS sm f (noK_n hK (by decide)) (okL_n hF (by decide)) (noK_n hK (by decide)) (okL_n hF (by decide)) (okL_n hF (by decide))).1, ms.fr w f (noK_n hK (by decide)) (okL_mo hF (by decide)), bs.hb w (hB.of f (noK_n hK (by decide)) (fun j => noF_n h40))⟩, m⟩
theorem shy.tr9 (a : shy S u) (b : shy u v) : shy S v := ⟨a.1.tr b.1, b.2.1.trans a.2.1, b.2.2.trans a.2.2⟩
theorem rf_L46 {Q : Int32 → MS → Prop} (hQ : ∀ (r : Int32) (V : MS), cfr [] [] S V → shy S V → Q r V) (wS : wfC S) (h7 : (qI S 44 7).toInt ≤ 8) : ∀ (n : Nat) {U : MS} {v4 : Int32}, ShC B U → cfr [] [] S U → shy S U → 0 ≤ v4.toInt → 2147483648 - v4.toInt < n → w_X5_refusal_L46 Q n U x2 x3 v4 := by
  intro n
  induction n with
  | zero => intro U v4 _ _ _ _ hm; have := rgI v4; omega
  | succ n ih =>
    intro U v4 g f s h4 hm
    have e7 : qI U 44 7 = qI S 44 7 := f.kI wS.k44 rfl rfl
    have J : ∀ V : MS, w_X5_refusal_J110 Q V → w_X5_refusal_J110 Q V := fun V h => h
    have J1 : w_X5_refusal_J110 Q U := by
      unfold w_X5_refusal_J110
      exact fun _ => hQ _ U f s
    unfold w_X5_refusal_L46
    intro w
    refine ⟨fun _ => ⟨fun _ => J1, fun _ => ⟨fun _ => hQ _ U f s, fun _ => J1⟩⟩, fun c => ⟨_, frX6_kindAt w (sgX6_kindAt w g), fun r26 V q w27 s27 => ?_⟩⟩
    have fV := f.tr q.2
    have sV := s.tr9 s27
    have K94 : w_X5_refusal_J94 Q (w_X5_refusal_L46 Q n) V x2 x3 v4 := by
      unfold w_X5_refusal_J94
      intro _ a ea
      have e := t_inc ea (by have := rgI (qI U 44 7); omega)
      exact ih q.1.1 fV sV (by omega) (by omega)
    have hv : (0 : Int) ≤ v4.toInt ∧ v4.toInt < 8 := by rw [e7] at c; omega
    exact ⟨fun _ => ⟨hv, fun _ => K94, fun _ => ⟨hv, dd_X5_isArray, fun _ => hQ _ V fV sV, fun _ => K94⟩⟩, fun _ => K94⟩
theorem ci_refusal (w : wfC S) (h : CIB A B S) : wX5_refusal S x1 x2 (fun r u => (cfr [] [] S u ∧ shy S u) ∧ (r.toInt = 0 → qR S 44 0 = some (qO S 44 0) ∧ 0 ≤ x1.toInt ∧ x1.toInt < (qI S (qO S 44 0) 8).toInt)) := by
  have sr : shy S S := ⟨shx.rf, rfl, rfl⟩
  unfold wX5_refusal
  refine ⟨fun _ => ⟨⟨cfr.rf, sr⟩, fun z => absurd z (by decide)⟩, fun c => ?_⟩
  obtain ⟨p, hp⟩ := Option.ne_none_iff_exists'.mp c
  have o := qO_of hp
  have kp : qT S p = 49 := w.ref hp w.k44
  have un := h.2.2.1.2.2.1 p hp
  rw [o]
  refine ⟨hp, fun _ => ⟨_, ci_rowU w h.g kp un, fun b9 S7 q7 w7 s7 k7 => ?_⟩⟩
  obtain ⟨e7, hb⟩ := q7
  subst e7
  rcases b9 with _ | r
  · exact ⟨fun _ => ⟨⟨cfr.rf, sr⟩, fun z => absurd z (by decide)⟩, fun z => absurd rfl z⟩
  refine ⟨fun z => (by cases z), fun _ => ⟨by rw [o]; exact hp, by rw [o]; exact dd_X10_takesOfMethod w h.g kp, fun a16 _ => ⟨_, frX6_kindCount w (sgX6_kindCount w h.g), fun r18 S19 q19 w19 s19 => ⟨fun _ => ⟨2147483649, ?_⟩, fun _ => ⟨⟨q19.2, s19⟩, fun z => absurd z (by decide)⟩⟩⟩⟩⟩
  exact rf_L46 (S := S7) (fun r V fV sV => ⟨⟨fV, sV⟩, fun _ => ⟨hp, (hb _ rfl).1⟩⟩) w h.2.2.2.2.1.2.1.2 _ q19.1.1 q19.2 s19 (by decide) (by rw [li_0k]; decide)
theorem rn_J24 (h : CIB A B U) : w_X12_run_J24 (fun _ u => CIB A B u ∧ qI u 44 7 = 0) U x := by
  obtain ⟨bd, gn, us, sm, ms, bs⟩ := id h
  unfold w_X12_run_J24
  intro w S5 e5 k5 w5
  have f : cfr [] [(45, 7)] U S5 := by rw [e5]; exact cfr.oI k5 rfl
  have e7 : qI S5 44 7 = 0 := by rw [e5, qI_wI, if_pos ⟨rfl, rfl⟩]
  have gS := h.g
  have g : ShC B S5 := ShC.ws w gS f (by rw [e5]; rfl) (by rw [e5]; rfl) (by rw [e5]; rfl) rfl rfl
  have m : MvR U S5 := MvR.fr w gS f rfl rfl rfl
  have e4 : qN S5 (qO S5 44 4) = qN U (qO U 44 4) := by have := f.kN (j := 4) w w.k44 rfl rfl (by decide); omega
  have e8 : qN S5 (qO S5 44 8) = qN U (qO U 44 8) := by have := f.kN (j := 8) w w.k44 rfl rfl (by decide); omega
  have e9 : qN S5 (qO S5 44 9) = qN U (qO U 44 9) := by have := f.kN (j := 9) w w.k44 rfl rfl (by decide); omega
  have msu : MsJ S5 := by
    unfold MsJ MaI at ms ⊢
    rw [f.kI (j := 3) w.k44 rfl rfl, f.kI (j := 5) w.k44 rfl rfl, e7, e4, e8, e9, li_0k]
    exact ⟨ms.1, ⟨by decide, by decide⟩, ms.2.2⟩
  exact ⟨h.of w g m (gn.mv w g (Gs3.fr w f rfl rfl rfl) m) (f.kI w.k0 rfl rfl) (fun j => f.kO w.k7 rfl rfl) (fun a ka => f.kI ka rfl rfl) (fun p e => Or.inl (by rw [← f.kO w.k44 rfl rfl]; exact e)) (SmT.fr w gS sm f rfl rfl rfl rfl rfl).1 msu (bs.hb w (hB.of f rfl (fun _ => rfl))), e7⟩
end CKA
/-! file, and the keeping of a Unit -/
section CLA
variable {B B' : Nat × Nat} {K H : List Nat} {F : List (Nat × Nat)} {A S u v U V : MS} {i j p q r t o c : Nat} {b : Option Nat} {x y z x1 x2 x3 x4 x5 : Int32}
def KuO : List Nat := [6, 201, 218, 219, 220, 221, 222, 223, 224, 225, 226, 227, 231, 232, 233, 234, 235, 236, 237, 406]
def FuO : List (Nat × Nat) := [(42, 1), (42, 2), (42, 3), (42, 4), (42, 5), (42, 6), (42, 8), (42, 9), (42, 10), (42, 11), (46, 0), (46, 1), (46, 2), (46, 3), (46, 5), (46, 6), (46, 7), (46, 8), (46, 12), (46, 13), (46, 14), (46, 15), (46, 16), (47, 0), (47, 1), (47, 2), (47, 3), (47, 4), (47, 5), (47, 6), (47, 7), (47, 8), (47, 9), (47, 10), (47, 11), (49, 0), (49, 1), (49, 2), (49, 3), (49, 4), (49, 5), (49, 6), (49, 7), (49, 8), (49, 9), (49, 10), (49, 11), (49, 12), (49, 13), (49, 14), (49, 16), (49, 17)]
def BgK (B : Nat × Nat) (S : MS) : Prop := B.1 + 86400 * unO S (qI S 0 11).toInt.toNat + 86400 + 47500 ≤ 1085600 + 209606 * (qI S 0 11).toInt.toNat + 209606 ∧ B.2 + 4608 * unO S (qI S 0 11).toInt.toNat + 4608 ≤ 8000000 + 17536 * (qI S 0 11).toInt.toNat + 17536
/-- a Unit that waits to be kept: its room is paid for -/
def KpIk (A : MS) (S : MS) (p : Nat) : Prop := ∃ B, RsI A B S ∧ BgK B S ∧ UN A S p ∧ qT S p = 49 ∧ (qI S 0 11).toInt < 12
theorem KpIk.mv (w : wfC S) (h : KpIk A S p) (st : ∀ B, RsI A B S → RsI A B u ∧ MvR S u) (e11 : qI u 0 11 = qI S 0 11) (e7 : ∀ j, qR u 7 j = qR S 7 j) (e15 : ∀ a, qT S a = 49 → qI u a 15 = qI S a 15) : KpIk A u p := by
  obtain ⟨B, rs, bd, un, kp, n⟩ := h
  obtain ⟨rs', m⟩ := st B rs
  have e := rs.2.1.e15 w e7 e15
  have en : unO u (qI S 0 11).toInt.toNat = unO S (qI S 0 11).toInt.toNat := unO_eq _ (fun k hk => e k (by omega))
  refine ⟨B, rs', ?_, un.mv w rs.g kp m, m.1.T kp (by decide), by rw [e11]; exact n⟩
  unfold BgK at bd ⊢
  rw [e11, en]
  exact bd
theorem CIB.mv (w : wfC S) (h : CIB A B S) (st : RsI A B u ∧ MvR S u) (e11 : qI u 0 11 = qI S 0 11) (e7 : ∀ j, qR u 7 j = qR S 7 j) (e15 : ∀ a, qT S a = 49 → qI u a 15 = qI S a 15) : CIB A B u := ⟨h.1.eq e11 (h.rs.2.1.e15 w e7 e15), st.1⟩
theorem ci_keepN (h : CI A S) : wX12_keep S none x (fun _ u => CI A u) := by
  unfold wX12_keep
  exact ⟨fun _ => h, fun c => absurd rfl c⟩
theorem ci_keep (w : wfC S) (h : KpIk A S p) : wX12_keep S (some p) x (fun _ u => CI A u) := by
  obtain ⟨B, rs, bd, un, kp, n12⟩ := h
  have n := rs.2.1.1
  unfold wX12_keep
  refine ⟨fun c => (by cases c), fun _ => ⟨fun c => ⟨by omega, fun S4 e4 k4 w4 S6 e6 k6 w6 => ⟨B, ?_⟩⟩, fun c => absurd n12 c⟩⟩
  have f4 : cfr [5] [(51, 11)] S S4 := by rw [e4]; exact cfr.aR k4 rfl
  have f6 : cfr [5] [(51, 11)] S4 S6 := by rw [e6]; exact cfr.oI k6 rfl
  have f := f4.tr f6
  have gS := rs.g
  have g : ShC B S6 := ShC.ws w gS f (by rw [e6, e4]; rfl) (by rw [e6, e4]; rfl) (by rw [e6, e4]; rfl) rfl rfl
  have m : MvR S S6 := MvR.fr w gS f rfl rfl rfl
  have e11 : (qI S6 0 11).toInt = (qI S 0 11).toInt + 1 := by
    rw [e6, qI_wI, if_pos ⟨rfl, rfl⟩, e4]
    show (qI S 0 11 + 1).toInt = _
    rw [t_addk (by rw [li_1k]; omega), li_1k]
  have r7 : ∀ k, qR S6 7 k = if k = (qI S 0 11).toInt.toNat then some p else qR S 7 k := fun k => by
    have a : qR S6 7 k = qR S4 7 k := by rw [e6]; rfl
    rw [a, e4, qR_wR]
    by_cases y : k = (qI S 0 11).toInt.toNat
    · rw [if_pos ⟨rfl, y⟩, if_pos y]; rfl
    · rw [if_neg (fun z => y z.2), if_neg y]
  have i15 : ∀ a, qT S a = 49 → qI S6 a 15 = qI S a 15 := fun a ka => f.kI ka rfl rfl
  obtain ⟨gn, us, sm, ms, bs⟩ := rs
  have en : unO S6 (qI S 0 11).toInt.toNat = unO S (qI S 0 11).toInt.toNat := unO_eq _ (fun k hk => by
    obtain ⟨q, e, _⟩ := us.2.1 k (by omega)
    have y : qR S6 7 k = qR S 7 k := by rw [r7, if_neg (by omega)]
    rw [qO_eq y, qO_of e, i15 q (w.ref e w.k7)])
  refine ⟨?_, gn.mv w g (Gs3.fr w f rfl rfl rfl) m, ⟨by omega, fun k hk => ?_, fun q e => ?_, us.2.2.2.tr m.1⟩, (SmT.fr w gS sm f rfl rfl rfl rfl rfl).1, ms.fr w f rfl rfl, bs.hb w (hB.of f rfl (fun _ => rfl))⟩
  · unfold BgK at bd
    unfold BgI
    have eN : (qI S6 0 11).toInt.toNat = (qI S 0 11).toInt.toNat + 1 := by omega
    have eU : unO S6 ((qI S 0 11).toInt.toNat + 1) = unO S6 (qI S 0 11).toInt.toNat + (if (qI S6 (qO S6 7 (qI S 0 11).toInt.toNat) 15).toInt = 0 then 1 else 0) := rfl
    rw [eN, eU, en]
    have le : (if (qI S6 (qO S6 7 (qI S 0 11).toInt.toNat) 15).toInt = 0 then 1 else 0) ≤ 1 := by split <;> decide
    revert le bd
    generalize (if (qI S6 (qO S6 7 (qI S 0 11).toInt.toNat) 15).toInt = 0 then 1 else 0) = d
    generalize unO S (qI S 0 11).toInt.toNat = k
    generalize (qI S 0 11).toInt.toNat = m
    generalize B.1 = b1
    generalize B.2 = b2
    intro bd le
    rw [Nat.mul_add 86400, Nat.mul_add 4608, Nat.mul_add 209606, Nat.mul_add 17536, eN_s]
    omega
  · by_cases y : k = (qI S 0 11).toInt.toNat
    · exact ⟨p, by rw [r7, if_pos y], un.mv w gS kp m⟩
    · obtain ⟨q, e, hq⟩ := us.2.1 k (by omega)
      exact ⟨q, by rw [r7, if_neg y]; exact e, hq.mv w gS (w.ref e w.k7) m⟩
  · rw [f.kO w.k44 rfl rfl] at e
    exact (us.2.2.1 q e).mv w gS (w.ref e w.k44) m
theorem SmT.ro (w : wfC S) (g : ShC B S) (h : SmT S) (s : shx S u) (o : rOld S u) (e0 : qO u 66 0 = qO S 66 0) : SmT u := by
  have ks := k66 w
  have R := g.row ks
  have a0 : qO u (qO S 66 0) 0 = qO S (qO S 66 0) 0 := qO_eq (o _ 0 (by rw [ks]; rfl)).2.2
  have a3 : qO u (qO S 66 0) 3 = qO S (qO S 66 0) 3 := qO_eq (o _ 3 (by rw [ks]; rfl)).2.2
  have n0 := s.N9 w R.1.1
  have n3 := s.N9 w R.1.2.2.1
  unfold SmT
  rw [e0, a0, a3, n0, n3]
  exact h
theorem ci_uo (w : wfC S) (h : CIB A B S) (n12 : (qI S 0 11).toInt < 12) (ho : o = 1 ∨ o = 5) : wX2_unitOf S o (fun b u => UoP B S (qI S o 1).toInt.toNat b u ∧ cfr KuO FuO S u) := by
  obtain ⟨bd, gn, us, sm, ms, bs⟩ := id h
  have n := us.1
  have e1 : KSC = 3553400 := rfl
  have e2 : KCC = 300000 := rfl
  have ko : qT S o = 40 := by
    rcases ho with rfl | rfl
    · exact w.k1
    · exact w.k5
  have bo : qR S o 0 = some (qO S o 0) ∧ (0 ≤ (qI S o 1).toInt ∧ (qI S o 1).toInt ≤ (qN S (qO S o 0) : Int)) ∧ (qI S o 1).toInt ≤ 65536 := by
    rcases ho with rfl | rfl
    · have b := bs.1.1
      exact ⟨b.1, b.2.1, by have := b.2.1; have := b.2.2.2; omega⟩
    · have b := bs.1.2.2
      exact ⟨b.1, b.2.1, by have := b.2.1; have := b.2.2.2; omega⟩
  unfold BgI at bd
  exact frX2_unitOf w (sp_unitOf w gn.g ko bo.1 bo.2.1 (by omega))
theorem CIB.uo (w : wfC S) (h : CIB A B S) (n12 : (qI S 0 11).toInt < 12) (q : UoP B S c b u ∧ cfr KuO FuO S u) (hc : c ≤ 16000 + eN (qI S 0 11).toInt.toNat) : (b = none → CIB A B u) ∧ ∀ p, b = some p → KpIk A u p := by
  obtain ⟨⟨ho, rows, uo, sx, ro⟩, f⟩ := q
  have gS := h.g
  obtain ⟨bd, gn, us, sm, ms, bs⟩ := id h
  have k0 : qO u 66 0 = qO S 66 0 := qO_eq (f.kO w.k66 rfl rfl)
  have m : MvR S u := ⟨sx, uo.ok, fun r kr _ => ro.rk w kr (gS.row kr), Or.inl k0⟩
  have e11 : qI u 0 11 = qI S 0 11 := f.kI w.k0 rfl rfl
  have e7 : ∀ j, qR u 7 j = qR S 7 j := fun j => f.kO w.k7 rfl rfl
  have e15 : ∀ a, qT S a = 49 → qI u a 15 = qI S a 15 := fun a ka => f.kI ka rfl rfl
  have RS : ∀ B', ShC B' u → RsI A B' u := fun B' g => ⟨gn.mv w g (Gs3.fr w f rfl rfl rfl) m, us.mv w gS m e11 e7 (fun p e => Or.inl (by rw [← f.kO w.k44 rfl rfl]; exact e)), sm.ro w gS sx ro k0, ms.fr w f rfl rfl, bs.hb w (hB.of f rfl (fun _ => rfl))⟩
  refine ⟨fun e => ?_, fun p e => ?_⟩
  · rcases ho with ⟨_, g⟩ | ⟨p, e', _⟩
    · exact h.mv w ⟨RS B g, m⟩ e11 e7 e15
    · rw [e] at e'; cases e'
  · rcases ho with ⟨e', _⟩ | ⟨p', e', g, kp, ut, fr, gdu, z49⟩
    · rw [e] at e'; cases e'
    · rw [e] at e'
      have ep : p = p' := Option.some.inj e'
      subst ep
      have ee := us.e15 w e7 e15
      have en : unO u (qI S 0 11).toInt.toNat = unO S (qI S 0 11).toInt.toNat := unO_eq _ (fun k hk => ee k (by omega))
      refine ⟨(B.1 + 59706 + c, B.2 + 12928), RS _ g, ?_, ⟨ut, fun j r hj hr z => ?_, gdu, fun kA => absurd ((us.2.2.2.T kA (by decide)).symm.trans z49) (by decide), fun _ m r hm hr => Classical.byContradiction fun ne => ne ((us.2.2.2.1 r ne).1.symm.trans (fr m r hm hr))⟩, kp, by rw [e11]; exact n12⟩
      · unfold BgK
        unfold BgI at bd
        rw [e11, en]
        show B.1 + 59706 + c + 86400 * unO S (qI S 0 11).toInt.toNat + 86400 + 47500 ≤ 1085600 + 209606 * (qI S 0 11).toInt.toNat + 209606 ∧ B.2 + 12928 + 4608 * unO S (qI S 0 11).toInt.toNat + 4608 ≤ 8000000 + 17536 * (qI S 0 11).toInt.toNat + 17536
        omega
      · have z0 := fr j r hj hr
        rw [z, k0, k66 w] at z0
        cases z0
theorem RsI.t0 (w : wfC S) (h : RsI A B S) (e3 : u = wI S 1 1 (0 : Int32)) : RsI A B u ∧ MvR S u := by
  have f : cfr [] [(40, 1)] S u := by rw [e3]; exact cfr.oI w.k1 rfl
  have hb : hB [1] S u := by rw [e3]; exact hB.i4 rfl
  have gS := h.g
  have g : ShC B u := ShC.ws w gS f (by rw [e3]; rfl) (by rw [e3]; rfl) (by rw [e3]; rfl) rfl rfl
  have m : MvR S u := MvR.fr w gS f rfl rfl rfl
  obtain ⟨gn, us, sm, ms, bs⟩ := id h
  have e1 : qI u 1 1 = 0 := by rw [e3, qI_wI, if_pos ⟨rfl, rfl⟩]
  have r1 : qR u 1 0 = qR S 1 0 := by rw [e3]; rfl
  have b1 : ByI u 1 16384 := by
    have b := bs.1.1
    have l : qN u (qO S 1 0) = qN S (qO S 1 0) := by rw [e3]; rfl
    unfold ByI at b ⊢
    rw [qO_eq r1, r1, l, e1, li_0k]
    exact ⟨b.1, ⟨by omega, by omega⟩, b.2.2⟩
  exact ⟨⟨gn.mv w g (Gs3.fr w f rfl rfl rfl) m, us.mv w gS m (f.kI w.k0 rfl rfl) (fun j => f.kO w.k7 rfl rfl) (fun p e => Or.inl (by rw [← f.kO w.k44 rfl rfl]; exact e)), (SmT.fr w gS sm f rfl rfl rfl rfl rfl).1, ms.fr w f rfl rfl, ⟨b1, bs.1.2.1.hb w w.k3 hb rfl, bs.1.2.2.hb w w.k5 hb rfl⟩, bs.2.1.hbh w hb rfl rfl rfl, by rw [e1, li_0k]; decide⟩, m⟩
theorem RsI.w51 (w : wfC S) (h : RsI A B S) (hi : i = 13 ∨ i = 14 ∨ i = 15 ∨ i = 16 ∨ i = 17 ∨ i = 12) (e : u = wI S 0 i x) : (RsI A B u ∧ MvR S u) ∧ qI u 0 11 = qI S 0 11 ∧ (∀ j, qR u 7 j = qR S 7 j) ∧ ∀ a, qT S a = 49 → qI u a 15 = qI S a 15 := by
  have key : ∀ k : Nat, (i = k) → noF 40 [(51, k)] = true → noF 43 [(51, k)] = true → okL LdFk [(51, k)] = true → okO [(51, k)] = true → okL shF [(51, k)] = true → ([(51, k)] : List (Nat × Nat)).contains (51, 11) = false → (RsI A B u ∧ MvR S u) ∧ qI u 0 11 = qI S 0 11 ∧ (∀ j, qR u 7 j = qR S 7 j) ∧ ∀ a, qT S a = 49 → qI u a 15 = qI S a 15 := fun k ek h1 h2 h3 h4 h5 h6 => by
    subst ek
    have f : cfr [] [(51, i)] S u := by rw [e]; exact cfr.oI w.k0 (by simp)
    refine ⟨h.fr w (ShC.ws w h.g f (by rw [e]; rfl) (by rw [e]; rfl) (by rw [e]; rfl) rfl h5) f rfl h3 h4 h1 h2, f.kI w.k0 rfl h6, fun j => by rw [e]; rfl, fun a ka => ?_⟩
    rw [e, qI_wI, if_neg (fun z => by rw [z.1, w.k0] at ka; cases ka)]
  rcases hi with hi | hi | hi | hi | hi | hi
  all_goals exact key _ hi rfl rfl rfl rfl rfl rfl
theorem ci_file (w : wfC S) (h : CIB A B S) : wX12_file S (fun _ u => CI A u) := by
  unfold wX12_file
  refine ⟨fun n12 _ => ⟨_, ci_uo w h n12 (Or.inl rfl), fun b7 S4 q4 w4 s4 k4 => ?_⟩, fun _ => ⟨B, h⟩⟩
  have hc : (qI S 1 1).toInt.toNat ≤ 16000 + eN (qI S 0 11).toInt.toNat := by have := h.rs.2.2.2.2.2.2; omega
  obtain ⟨hN, hS⟩ := h.uo w n12 q4 hc
  have e15 : ∀ {u v : MS}, v = wI u 1 1 (0 : Int32) → wfC u → qI v 0 11 = qI u 0 11 ∧ (∀ j, qR v 7 j = qR u 7 j) ∧ ∀ a, qT u a = 49 → qI v a 15 = qI u a 15 := fun {u v} e w => ⟨by rw [e, qI_wI, if_neg (fun z => absurd z.1 (by decide))], fun j => by rw [e]; rfl, fun a ka => by rw [e, qI_wI, if_neg (fun z => absurd z.2 (by decide))]⟩
  rcases b7 with _ | p
  · refine ⟨fun _ S9 e9 k9 w9 S10 e10 k10 w10 S11 e11 k11 w11 => ?_, fun c => absurd rfl c⟩
    have h4 := hN rfl
    obtain ⟨a1, a2, a3⟩ := e15 e9 w4
    have h9 : CIB A B S9 := h4.mv w4 (h4.rs.t0 w4 e9) a1 a2 a3
    obtain ⟨t10, b1, b2, b3⟩ := h9.rs.w51 w9 (Or.inl rfl) e10
    have h10 : CIB A B S10 := h9.mv w9 t10 b1 b2 b3
    obtain ⟨t11, c1, c2, c3⟩ := h10.rs.w51 w10 (Or.inr (Or.inl rfl)) e11
    have h11 : CIB A B S11 := h10.mv w10 t11 c1 c2 c3
    exact ⟨_, ci_keepN ⟨B, h11⟩, fun _ _ q _ _ => q⟩
  · refine ⟨fun c => (by cases c), fun _ S9 e9 k9 w9 S10 e10 k10 w10 S11 e11 k11 w11 => ?_⟩
    have h4 := hS p rfl
    obtain ⟨a1, a2, a3⟩ := e15 e9 w4
    have h9 : KpIk A S9 p := h4.mv w4 (fun B' r => r.t0 w4 e9) a1 a2 a3
    have h10 : KpIk A S10 p := by
      obtain ⟨B0, r0, _⟩ := id h9
      obtain ⟨_, b1, b2, b3⟩ := r0.w51 w9 (Or.inl rfl) e10
      exact h9.mv w9 (fun B' r => (r.w51 w9 (Or.inl rfl) e10).1) b1 b2 b3
    have h11 : KpIk A S11 p := by
      obtain ⟨B0, r0, _⟩ := id h10
      obtain ⟨_, b1, b2, b3⟩ := r0.w51 w10 (Or.inr (Or.inl rfl)) e11
      exact h10.mv w10 (fun B' r => (r.w51 w10 (Or.inr (Or.inl rfl)) e11).1) b1 b2 b3
    exact ⟨_, ci_keep w11 h11, fun _ _ q _ _ => q⟩
end CLA
/-! verify -/
section CMA
variable {B B' : Nat × Nat} {K H : List Nat} {F : List (Nat × Nat)} {A S u v U V : MS} {a i j p q r t o c n : Nat} {b : Option Nat} {x y z x1 x2 x3 x4 x5 : Int32}
theorem unO_le (h : ∀ k : Nat, (qI u (qO u 7 k) 15).toInt = 0 → (qI S (qO S 7 k) 15).toInt = 0) : ∀ n : Nat, unO u n ≤ unO S n := by
  intro n
  induction n with
  | zero => exact Nat.le_refl _
  | succ n ih =>
    show unO u n + (if (qI u (qO u 7 n) 15).toInt = 0 then 1 else 0) ≤ unO S n + (if (qI S (qO S 7 n) 15).toInt = 0 then 1 else 0)
    by_cases y : (qI u (qO u 7 n) 15).toInt = 0
    · rw [if_pos y, if_pos (h n y)]; omega
    · rw [if_neg y]; omega
theorem unO_lt (h : ∀ k : Nat, (qI u (qO u 7 k) 15).toInt = 0 → (qI S (qO S 7 k) 15).toInt = 0) (h1 : (qI S (qO S 7 a) 15).toInt = 0) (h2 : (qI u (qO u 7 a) 15).toInt ≠ 0) : ∀ n : Nat, a < n → unO u n + 1 ≤ unO S n := by
  intro n
  induction n with
  | zero => intro hn; omega
  | succ n ih =>
    intro hn
    show unO u n + (if (qI u (qO u 7 n) 15).toInt = 0 then 1 else 0) + 1 ≤ unO S n + (if (qI S (qO S 7 n) 15).toInt = 0 then 1 else 0)
    by_cases e : a = n
    · subst e
      have := unO_le h a
      rw [if_pos h1, if_neg h2]; omega
    · have := ih (by omega)
      by_cases y : (qI u (qO u 7 n) 15).toInt = 0
      · rw [if_pos y, if_pos (h n y)]; omega
      · rw [if_neg y]; omega
/-- the Unit at place a is being checked: t methods so far -/
def VfJ (A : MS) (B : Nat × Nat) (p a t : Nat) (U : MS) : Prop := RsI A (B.1 + 3600 * t, B.2 + 192 * t) U ∧ BgI B U ∧ (qT U p = 49 ∧ qR U 7 a = some p ∧ (a : Int) < (qI U 0 11).toInt ∧ UN A U p) ∧ (qI U p 15).toInt = 0
theorem VfJ.bd (h : VfJ A B p a t U) (ht : t ≤ 24) : BgI (B.1 + 3600 * t, B.2 + 192 * t) (wI U p 15 1) := by
  obtain ⟨rs, bd, ⟨kp, e, ha, un⟩, z⟩ := h
  have e7 : ∀ k, qO (wI U p 15 1) 7 k = qO U 7 k := fun k => rfl
  have o := qO_of e
  have n := rs.2.1.1
  have l1 : (1 : Int32).toInt = 1 := rfl
  have le : unO (wI U p 15 1) (qI U 0 11).toInt.toNat + 1 ≤ unO U (qI U 0 11).toInt.toNat := by
    refine unO_lt (a := a) (fun k hk => ?_) (by rw [o]; exact z) ?_ _ (by omega)
    · rw [e7, qI_wI] at hk
      by_cases y : qO U 7 k = p
      · rw [y]; exact z
      · rw [if_neg (fun w => y w.1)] at hk; exact hk
    · rw [e7, o, qI_wI, if_pos ⟨rfl, rfl⟩, l1]; decide
  have np : (0 : Nat) ≠ p ∨ True := Or.inr trivial
  have e11 : qI (wI U p 15 1) 0 11 = qI U 0 11 := by rw [qI_wI, if_neg (fun w => absurd w.2 (by decide))]
  unfold BgI at bd ⊢
  rw [e11]
  show B.1 + 3600 * t + 86400 * unO (wI U p 15 1) (qI U 0 11).toInt.toNat + eN (qI U 0 11).toInt.toNat ≤ 1085600 + 209606 * (qI U 0 11).toInt.toNat ∧ B.2 + 192 * t + 4608 * unO (wI U p 15 1) (qI U 0 11).toInt.toNat ≤ 8000000 + 17536 * (qI U 0 11).toInt.toNat
  omega
theorem VfJ.rm (h : VfJ A B p a t U) (ht : t < 24) : B.1 + 3600 * t + 3600 ≤ KSC ∧ B.2 + 192 * t + 192 ≤ 64 * KCC := by
  obtain ⟨rs, bd, ⟨kp, e, ha, un⟩, z⟩ := h
  have o := qO_of e
  have n := rs.2.1.1
  have e1 : KSC = 3553400 := rfl
  have e2 : KCC = 300000 := rfl
  have pos : ∀ m : Nat, a < m → 1 ≤ unO U m := by
    intro m
    induction m with
    | zero => intro hm; omega
    | succ m ih =>
      intro hm
      show 1 ≤ unO U m + (if (qI U (qO U 7 m) 15).toInt = 0 then 1 else 0)
      by_cases y : a = m
      · subst y; rw [o, if_pos z]; omega
      · have := ih (by omega); omega
  have := pos (qI U 0 11).toInt.toNat (by omega)
  have en := eN_p (n := (qI U 0 11).toInt.toNat) (by omega)
  unfold BgI at bd
  omega
end CMA
/-! write -/
section CNA
variable {B B' : Nat × Nat} {K H : List Nat} {F : List (Nat × Nat)} {A S u v U V : MS} {a i j p q r t o c n e : Nat} {b : Option Nat} {x y z x1 x2 x3 x4 x5 : Int32}
theorem hb_fL {S0 : MS} {Q : MS → Prop} : ∀ (n : Nat) {U : MS} {y : Int32}, hB [28, o] S0 U → w_X11_finish_L15 Q n U o y → w_X11_finish_L15 (fun u => Q u ∧ hB [28, o] S0 u) n U o y := by
  have M : ([o] : List Nat).all (fun x => ([28, o] : List Nat).contains x) = true := by simp
  intro n
  induction n with
  | zero => intro U y _ h; unfold w_X11_finish_L15 at h; exact h.elim
  | succ n ih =>
    intro U y f h
    unfold w_X11_finish_L15 at h ⊢
    intro w k
    replace h := h w k
    refine ⟨fun d k' => ?_, fun d => ⟨(h.2 d).1, fun k' => ?_⟩⟩
    · obtain ⟨Q8, a1, a2⟩ := h.1 d k'
      refine ⟨_, hb_put2 w a1, fun S9 q9 w9 s9 k9 k26 => ?_⟩
      obtain ⟨Q12, b1, b2⟩ := a2 S9 q9.1 w9 s9 k9 k26
      refine ⟨_, hb_putAll w9 b1, fun S13 q13 w13 s13 k13 k28 => ?_⟩
      obtain ⟨Q16, c1, c2⟩ := b2 S13 q13.1 w13 s13 k13 k28
      exact ⟨_, hb_putAll w13 c1, fun S17 q17 w17 s17 => ⟨c2 S17 q17.1 w17 s17, ((f.tr (q9.2.mo M)).tr (q13.2.mo M)).tr (q17.2.mo M)⟩⟩
    · obtain ⟨Q22, a1, a2⟩ := (h.2 d).2 k'
      exact ⟨_, hb_put w a1, fun S23 q23 w23 s23 a ea => ih (f.tr (q23.2.mo M)) (a2 S23 q23.1 w23 s23 a ea)⟩
theorem hb_fin {Q : MS → Prop} (w : wfC S) (h : wX11_finish S o Q) : wX11_finish S o (fun u => Q u ∧ hB [28, o] S u) := by
  unfold wX11_finish at h ⊢
  intro k
  obtain ⟨Q1, a1, a2⟩ := h k
  refine ⟨_, hb_put2 w a1, fun S2 q2 w2 s2 S5 e5 k5 w5 => ?_⟩
  obtain ⟨n, hn⟩ := a2 S2 q2.1 w2 s2 S5 e5 k5 w5
  refine ⟨n, hb_fL n ?_ hn⟩
  exact (q2.2.mo (by simp)).tr (by rw [e5]; exact hB.i4 (by simp))
/-- all but Writer, which is at work -/
def CPI (A : MS) (B : Nat × Nat) (V : MS) : Prop := BgI B V ∧ GnI B V ∧ UsI A V ∧ SmT V ∧ MsJ V ∧ (ByI V 1 16384 ∧ ByI V 3 65536 ∧ ByI V 5 65536) ∧ (qI V 1 1).toInt ≤ 16000
theorem CIB.cp (h : CIB A B S) : CPI A B S := ⟨h.1, h.2.1, h.2.2.1, h.2.2.2.1, h.2.2.2.2.1, h.2.2.2.2.2.1, h.2.2.2.2.2.2.2⟩
theorem CPI.ci (h : CPI A B S) (wb : WbI S) : CIB A B S := ⟨h.1, h.2.1, h.2.2.1, h.2.2.2.1, h.2.2.2.2.1, h.2.2.2.2.2.1, wb, h.2.2.2.2.2.2⟩
theorem CPI.g (h : CPI A B S) : ShC B S := h.2.1.1.1
theorem CPI.st (w : wfC S) (h : CPI A B S) (m : MvR S u) (gn : GnI B u) (f : cfr K F S u) (hK : noK [51, 5, 49, 45] K = true) (hF : okL [(51, 11), (49, 15), (45, 0), (45, 3), (45, 4), (45, 5), (45, 7), (45, 8), (45, 9)] F = true) (hA : okO F = true) (sm : SmT u) (hb : hB H S u) (h1 : H.contains 1 = false) (h3 : H.contains 3 = false) (h5 : H.contains 5 = false) : CPI A B u := by
  obtain ⟨bd, gS, us, _, ms, ⟨b1, b3, b5⟩, tr⟩ := h
  have e11 : qI u 0 11 = qI S 0 11 := f.kI w.k0 (noK_n hK (by decide)) (okL_n hF (by decide))
  have e7 : ∀ j, qR u 7 j = qR S 7 j := fun j => f.kO w.k7 (noK_n hK (by decide)) (okO_n hA (by decide))
  have e15 : ∀ a, qT S a = 49 → qI u a 15 = qI S a 15 := fun a ka => f.kI ka (noK_n hK (by decide)) (okL_n hF (by decide))
  exact ⟨bd.eq e11 (us.e15 w e7 e15), gn, us.mv w gS.g m e11 e7 (fun p e => Or.inl (by rw [← f.kO w.k44 (noK_n hK (by decide)) (okL_n hF (by decide))]; exact e)), sm, ms.fr w f (noK_n hK (by decide)) (okL_mo hF (by decide)), ⟨b1.hb w w.k1 hb h1, b3.hb w w.k3 hb h3, b5.hb w w.k5 hb h5⟩, by rw [(hb.2 1 1 w.k1 h1).1]; exact tr⟩
/-- a Unit on its way: t methods, e counters -/
def WrIk (A : MS) (B : Nat × Nat) (p t e : Nat) (V : MS) : Prop := (∃ S, WvI B S V) ∧ (CPI A B V ∧ qT V p = 49 ∧ UN A V p) ∧ 2 * (qI V 28 1).toInt ≤ 408 + 3908 * t + 24 * e
theorem ci_begin (w : wfC S) (h : CIB A B S) (kp : qT S p = 49) (un : UN A S p) : wX11_begin S p x (fun u => ((∃ S', WvI B S' u ∧ qR S' 25 7 = some p ∧ (qI u 28 1).toInt ≤ 204) ∧ cfr [101, 238, 239, 240, 241, 242, 243] [(40, 0), (40, 1), (50, 5), (50, 6), (50, 7), (50, 8), (50, 9)] S u) ∧ hB [26, 28, 30] S u) := hbX11_begin w (frX11_begin w (wv_begin h.g w h.rs.2.2.2.2.2.1 kp un.1.1))
theorem WrIk.bg (w : wfC S) (h : CIB A B S) (kp : qT S p = 49) (un : UN A S p) (q : ((∃ S', WvI B S' u ∧ qR S' 25 7 = some p ∧ (qI u 28 1).toInt ≤ 204) ∧ cfr [101, 238, 239, 240, 241, 242, 243] [(40, 0), (40, 1), (50, 5), (50, 6), (50, 7), (50, 8), (50, 9)] S u) ∧ hB [26, 28, 30] S u) : WrIk A B p 0 0 u ∧ MvR S u := by
  obtain ⟨⟨⟨S', v, _, bd⟩, f⟩, hb⟩ := q
  have gS := h.g
  have g : ShC B u := v.1.1.1
  have m : MvR S u := MvR.fr w gS f rfl rfl rfl
  refine ⟨⟨⟨S', v⟩, ⟨h.cp.st w m (h.2.1.mv w g (Gs3.fr w f rfl rfl rfl) m) f rfl rfl rfl (SmT.fr w gS h.2.2.2.1 f rfl rfl rfl rfl rfl).1 hb rfl rfl rfl, m.1.T kp (by decide), un.mv w gS kp m⟩, by omega⟩, m⟩
theorem ci_add {W : Nat} (w : wfC V) (h : WrIk A B p t e V) (kq : qT V q = 47) (rv : RvK V q) (hW : rWs V q (qI V q 2).toInt.toNat + 8 * (qI V q 4).toInt ≤ W) (ht : t ≤ 24 ∧ e ≤ 24 ∧ W ≤ 4200) : ∃ S, wX11_addMethod V (some q) (fun u => (((WvI B S u ∧ 2 * (qI u 28 1).toInt ≤ 2 * (qI V 28 1).toInt + W + 308) ∧ cfr [101, 213, 214, 238, 239, 242, 243, 244, 245, 304] [(40, 0), (40, 1), (44, 0), (44, 1), (44, 2), (44, 3), (44, 4), (44, 5), (44, 6), (44, 7), (50, 5), (50, 6), (50, 15), (50, 16), (50, 17)] V u) ∧ hB [26, 28, 30] V u)) := by
  obtain ⟨⟨S, hv⟩, _, hb⟩ := h
  exact ⟨S, hbX11_addMethod w (frX11_addMethod w (wv_addMethod hv w kq rv hW (by omega)))⟩
theorem WrIk.ad {W e' : Nat} {S0 : MS} (w : wfC V) (h : WrIk A B p t e V) (hW : W ≤ 3600 + 24 * (e' - e)) (he : e ≤ e') (q : ((WvI B S0 u ∧ 2 * (qI u 28 1).toInt ≤ 2 * (qI V 28 1).toInt + W + 308) ∧ cfr [101, 213, 214, 238, 239, 242, 243, 244, 245, 304] [(40, 0), (40, 1), (44, 0), (44, 1), (44, 2), (44, 3), (44, 4), (44, 5), (44, 6), (44, 7), (50, 5), (50, 6), (50, 15), (50, 16), (50, 17)] V u) ∧ hB [26, 28, 30] V u) : WrIk A B p (t + 1) e' u ∧ MvR V u := by
  obtain ⟨⟨⟨v, b2⟩, f⟩, hb⟩ := q
  obtain ⟨_, ⟨cp, kp, un⟩, b1⟩ := h
  have gS := cp.g
  have g : ShC B u := v.1.1.1
  have m : MvR V u := MvR.fr w gS f rfl rfl rfl
  exact ⟨⟨⟨S0, v⟩, ⟨cp.st w m (cp.2.1.mv w g (Gs3.fr w f rfl rfl rfl) m) f rfl rfl rfl (SmT.fr w gS cp.2.2.2.1 f rfl rfl rfl rfl rfl).1 hb rfl rfl rfl, m.1.T kp (by decide), un.mv w gS kp m⟩, by omega⟩, m⟩
theorem ci_fin (w : wfC V) (h : WrIk A B p t e V) (ht : t ≤ 24 ∧ e ≤ 24) (ho : o = 3 ∨ o = 5) : ∃ n6 n8 N : Int, N ≤ 63500 ∧ wX11_finish V o (fun u => (FoI B o n6 n8 N u ∧ hB [28, o] V u) ∧ cfr [101] [(40, 0), (40, 1)] V u) := by
  obtain ⟨⟨S, hv⟩, ⟨cp, kp, un⟩, hb⟩ := h
  have bo : ByI V o 65536 := by
    rcases ho with rfl | rfl
    · exact cp.2.2.2.2.2.1.2.1
    · exact cp.2.2.2.2.2.1.2.2
  have pl := hv.pl
  exact ⟨_, _, _, by omega, frX11_finish w (hb_fin w (wv_finish hv w ho bo (by omega)))⟩
theorem WrIk.fin {n6 n8 N : Int} (w : wfC V) (h : WrIk A B p t e V) (ho : o = 3 ∨ o = 5) (q : (FoI B o n6 n8 N u ∧ hB [28, o] V u) ∧ cfr [101] [(40, 0), (40, 1)] V u) : CIB A B u ∧ qI u 0 11 = qI V 0 11 ∧ (qI u o 1).toInt = N := by
  obtain ⟨⟨⟨g, bo, wb, _, _, eo⟩, hb⟩, f⟩ := q
  obtain ⟨_, ⟨⟨bd, gn, us, sm, ms, ⟨b1, b3, b5⟩, tr⟩, kp, un⟩, _⟩ := h
  have gS := gn.g
  have m : MvR V u := MvR.fr w gS f rfl rfl rfl
  have e11 : qI u 0 11 = qI V 0 11 := f.kI w.k0 rfl rfl
  have e7 : ∀ j, qR u 7 j = qR V 7 j := fun j => f.kO w.k7 rfl rfl
  have e15 : ∀ a, qT V a = 49 → qI u a 15 = qI V a 15 := fun a ka => f.kI ka rfl rfl
  have n1 : ([28, o] : List Nat).contains 1 = false := by rcases ho with rfl | rfl <;> rfl
  refine ⟨⟨bd.eq e11 (us.e15 w e7 e15), gn.mv w g (Gs3.fr w f rfl rfl rfl) m, us.mv w gS m e11 e7 (fun p e => Or.inl (by rw [← f.kO w.k44 rfl rfl]; exact e)), (SmT.fr w gS sm f rfl rfl rfl rfl rfl).1, ms.fr w f rfl rfl, ⟨b1.hb w w.k1 hb n1, ?_, ?_⟩, wb, by rw [(hb.2 1 1 w.k1 n1).1]; exact tr⟩, e11, eo⟩
  · rcases ho with rfl | rfl
    · exact bo
    · exact b3.hb w w.k3 hb rfl
  · rcases ho with rfl | rfl
    · exact b5.hb w w.k5 hb rfl
    · exact bo
theorem ci_rowS (w : wfC V) (g : ShC B V) (kp : qT V p = 49) (un : UN A V p) (hx : 0 ≤ x.toInt ∧ x.toInt < (qI V p 8).toInt) : wX10_rowAt V p x (fun b u => u = V ∧ ∃ r, b = some r ∧ RrK V r ∧ r ≠ qO V 66 0 ∧ qR V (qO V p 13) x.toInt.toNat = some r) := by
  obtain ⟨r, hr, rr⟩ := un.1.2 x.toInt.toNat (by omega)
  have uk := g.unit kp
  have u2 := uk.2
  have p13 := uk.1.2.2.2.2.2.2.2.2
  unfold wX10_rowAt
  refine ⟨fun d => by omega, fun d => ⟨p13, fun e => ⟨p13, by omega, fun z => ?_, fun z => ⟨rfl, r, by rw [hr]; rfl, rr, un.2.1 _ _ (by omega) hr, hr⟩⟩, fun e => by omega⟩⟩
  rw [hr] at z
  cases z
theorem wr_L31 : ∀ (n : Nat) {V : MS} {v1 v3 : Int32} (t : Nat), WrIk A B p t 0 V → v3.toInt = (t : Int) → t ≤ 24 → 2147483648 - v3.toInt < n → w_X12_write_L31 (fun _ u => CIB A B u) n V v1 p v3 := by
  intro n
  induction n with
  | zero => intro V v1 v3 t _ _ _ hm; have := rgI v3; omega
  | succ n ih =>
    intro V v1 v3 t h h3 ht hm
    unfold w_X12_write_L31
    intro w kp
    have un := h.2.1.2.2
    have g := h.2.1.1.g
    have u2 := (g.unit kp).2
    refine ⟨fun d _ => ?_, fun d _ => ⟨_, ci_rowS w g kp un (by omega), ?_⟩⟩
    · obtain ⟨n6, n8, N, _, hf⟩ := ci_fin w h ⟨ht, by decide⟩ (Or.inl rfl)
      refine ⟨_, hf, fun S14 q14 w14 s14 S17 e17 k17 w17 => ?_⟩
      have h14 := (h.fin w (Or.inl rfl) q14).1
      obtain ⟨t17, b1, b2, b3⟩ := h14.rs.w51 w14 (Or.inr (Or.inr (Or.inr (Or.inr (Or.inl rfl))))) e17
      unfold w_X12_write_J73
      exact fun _ => h14.mv w14 t17 b1 b2 b3
    · rintro b22 S20 ⟨e20, r, rfl, rr, ne, hr⟩ w20 s20 kz
      subst e20
      have kr := kz r rfl
      obtain ⟨S, hA⟩ := ci_add (W := 3600) w h kr rr.1.1 rr.2 ⟨ht, by decide, by decide⟩
      refine ⟨_, hA, fun S24 q24 w24 s24 a27 e27 => ?_⟩
      have e := t_inc e27 (by omega)
      exact ih (t + 1) (h.ad w (by decide) (Nat.le_refl _) q24).1 (by omega) (by omega) (by omega)
theorem ci_write (w : wfC S) (h : CIB A B S) : wX12_write S x1 (fun _ u => CIB A B u) := by
  have J : w_X12_write_J73 (fun _ u => CIB A B u) S := by
    unfold w_X12_write_J73
    exact fun _ => h
  unfold wX12_write
  refine ⟨_, ci_sound w h, fun b5 S3 q3 w3 s3 k3 => ?_⟩
  obtain ⟨e3, hb⟩ := q3
  subst e3
  rcases b5 with _ | p
  · exact ⟨fun _ => h, fun c => absurd rfl c⟩
  obtain ⟨_, _, un, kp⟩ := hb p rfl
  refine ⟨fun c => (by cases c), fun _ => ⟨fun _ => J, fun _ _ => ⟨_, ci_begin w h kp un, fun S9 q9 w9 s9 => ⟨2147483649, ?_⟩⟩⟩⟩
  exact wr_L31 _ 0 (WrIk.bg w h kp un q9).1 rfl (by decide) (by rw [li_0k]; decide)
end CNA
/-! improve -/
section COA
variable {B B' : Nat × Nat} {K H : List Nat} {F : List (Nat × Nat)} {A S u v U V : MS} {a i j p q r t o c n e : Nat} {b : Option Nat} {x y z x1 x2 x3 x4 x5 : Int32}
/-- the draft is read and kept -/
theorem ex_fin {m : Int32} (w : wfC V) (h : WrIk A B p t e V) (ht : t ≤ 24 ∧ e ≤ 24) (n12 : 1 ≤ (qI V 0 11).toInt ∧ (qI V 0 11).toInt < 12) : (d_X11_fits V ∧ (((fX11_fits V).toInt = 0 → CI A V) ∧ (¬ (fX11_fits V).toInt = 0 → (qT V 5 = 40 → (∃ Q25, wX11_finish V 5 Q25 ∧ ∀ S26, Q25 S26 → wfC S26 → shx V S26 → (qT S26 5 = 40 → (∃ Q29, wX2_unitOf S26 5 Q29 ∧ ∀ b34 S31, Q29 b34 S31 → wfC S31 → shx S26 S31 → (∀ z, b34 = some z → qT S31 z = 49) → (∃ Q35, wX12_keep S31 b34 m Q35 ∧ ∀ (r36 : Int32) S37, Q35 r36 S37 → wfC S37 → shy S31 S37 → CI A S37)))))))) := by
  refine ⟨dd_X11_fits, fun _ => ?_, fun _ _ => ?_⟩
  · obtain ⟨⟨S, hv⟩, ⟨cp, _⟩, _⟩ := h
    exact ⟨B, cp.ci hv.1.1.2.2⟩
  · obtain ⟨n6, n8, N, hN', hf⟩ := ci_fin w h ht (Or.inr rfl)
    refine ⟨_, hf, fun S26 q26 w26 s26 _ => ?_⟩
    obtain ⟨h26, e11, e5⟩ := h.fin w (Or.inr rfl) q26
    have n26 : (qI S26 0 11).toInt < 12 := by rw [e11]; exact n12.2
    have n1 : 1 ≤ (qI S26 0 11).toInt := by rw [e11]; exact n12.1
    have en := eN_p (n := (qI S26 0 11).toInt.toNat) (by omega)
    refine ⟨_, ci_uo w26 h26 n26 (Or.inr rfl), fun b34 S31 q31 w31 s31 k31 => ?_⟩
    have b5 := h26.rs.2.2.2.2.1.2.2
    obtain ⟨hN, hS⟩ := h26.uo w26 n26 q31 (by rw [en]; have := b5.2.1; omega)
    rcases b34 with _ | d
    · exact ⟨_, ci_keepN ⟨B, hN rfl⟩, fun _ _ q _ _ => q⟩
    · exact ⟨_, ci_keep w31 (hS d rfl), fun _ _ q _ _ => q⟩
/-- Smith has worked: Units and other Rows stay -/
theorem MvR.sm (wS : wfC S) (wu : wfC u) (gS : ShC B S) (g : ShC B u) (f : cfr K F S u) (hK : noK LuK K = true) (hF : okL LuF F = true) (hA : okO F = true) (rf : rfr (qO u 66 0) S u) (os : qO u 66 0 = qO S 66 0 ∨ qT S (qO u 66 0) = 0) : MvR S u := by
  refine ⟨f.1, uOk.fr f hK hF hA, fun r kr ne => ?_, os⟩
  have ku : qT u r = 47 := f.1.T kr (by decide)
  have ne' : r ≠ qO u 66 0 := by
    rcases os with z | z
    · rw [z]; exact ne
    · intro y; rw [← y, kr] at z; cases z
  exact rf.rk wS kr (gS.row kr) (RwK.apart wu (k66 wu) (g.row (k66 wu)) ku (g.row ku) ne')
theorem ip_L73 : ∀ (n : Nat) {V : MS} {v4 : Int32} (t : Nat), WrIk A B p t 0 V → (1 ≤ (qI V 0 11).toInt ∧ (qI V 0 11).toInt < 12) → v4.toInt = (t : Int) → t ≤ 24 → 2147483648 - v4.toInt < n → w_X12_improve_L73 (fun _ u => CI A u) n V x p v4 := by
  intro n
  induction n with
  | zero => intro V v4 t _ _ _ _ hm; have := rgI v4; omega
  | succ n ih =>
    intro V v4 t h n12 h4 ht hm
    unfold w_X12_improve_L73
    intro w kp
    have cp := h.2.1.1
    have un := h.2.1.2.2
    have g := cp.g
    have u2 := (g.unit kp).2
    refine ⟨fun d => ex_fin w h ⟨ht, by decide⟩ n12, fun d _ => ⟨_, ci_rowS w g kp un (by omega), ?_⟩⟩
    rintro b43 S41 ⟨e41, r, rfl, rr, ne, hr⟩ w41 s41 kz
    subst e41
    have kr := kz r rfl
    refine ⟨fun z => (by cases z), fun _ _ => ⟨_, frX9_makeBetter w (sp_makeBetter w g kr rr.1.1 cp.2.2.2.1 ne), fun S46 q46 w46 s46 => ?_⟩⟩
    obtain ⟨⟨⟨g46, sx⟩, ⟨rows, rf⟩, os, tl, rvS, cS, tS, wS⟩, f46⟩ := q46
    have m : MvR S41 S46 := MvR.sm w w46 g g46 f46 rfl rfl rfl rf os
    have i11 : qI S46 0 11 = qI S41 0 11 := f46.kI w.k0 rfl rfl
    have h46 : WrIk A B p t 0 S46 := by
      obtain ⟨⟨S, hv⟩, _, hb⟩ := h
      have v46 := hv.fr w f46 g46 rfl rfl rfl rfl
      have i46 : (qI S46 28 1).toInt = (qI S41 28 1).toInt := by rw [v46.2]
      exact ⟨⟨S, v46.1⟩, ⟨cp.st w m (cp.2.1.mv w g46 (Gs3.fr w f46 rfl rfl rfl) m) f46 rfl rfl rfl (fun _ => tl) (hB.of (H := []) f46 rfl (fun _ => rfl)) rfl rfl rfl, m.1.T kp (by decide), un.mv w g kp m⟩, by omega⟩
    have rr2 := rr.2
    have wS' : rWs S46 (qO S46 66 0) (qI S46 (qO S46 66 0) 2).toInt.toNat ≤ rWs S41 r (qI S41 r 2).toInt.toNat := wS
    have tS' : (qI S46 (qO S46 66 0) 4).toInt = (qI S41 r 4).toInt := tS
    obtain ⟨S, hA⟩ := ci_add (W := 3600) w46 h46 (k66 w46) rvS (by rw [tS']; omega) ⟨ht, by decide, by decide⟩
    refine ⟨_, hA, fun S51 q51 w51 s51 a54 e54 => ?_⟩
    have e := t_inc e54 (by omega)
    have i51 : qI S51 0 11 = qI S46 0 11 := q51.1.2.kI w46.k0 rfl rfl
    exact ih (t + 1) (h46.ad w46 (by decide) (Nat.le_refl _) q51).1 (by rw [i51, i11]; exact n12) (by omega) (by omega) (by omega)
theorem ci_improve (w : wfC S) (h : CIB A B S) : wX12_improve S x1 x2 (fun _ u => CI A u) := by
  unfold wX12_improve
  refine ⟨_, frX9_forgetApplied w (sfX9_forgetApplied w), fun S2 q2 w2 s2 => ?_⟩
  have h2 : CIB A B S2 := h.fr w (ShC.ca w h.g q2.2 s2 w2 rfl rfl) q2.2 rfl rfl rfl rfl rfl
  refine ⟨_, ci_sound w2 h2, fun b8 S6 q6 w6 s6 k6 => ?_⟩
  obtain ⟨e6, hb⟩ := q6
  subst e6
  have R : CI A S6 := ⟨B, h2⟩
  rcases b8 with _ | p
  · exact ⟨fun _ => R, fun c => absurd rfl c⟩
  obtain ⟨xf, _, un, kp⟩ := hb p rfl
  refine ⟨fun c => (by cases c), fun _ => ⟨fun _ => R, fun _ => ⟨fun _ => ⟨fun _ => R, fun c12 => ⟨fun _ S15 e15 k15 w15 _ => ?_, fun _ => R⟩⟩, fun _ => R⟩⟩⟩
  obtain ⟨t15, b1, b2, b3⟩ := h2.rs.w51 w2 (Or.inr (Or.inr (Or.inr (Or.inr (Or.inr rfl))))) e15
  have h15 : CIB A B S15 := h2.mv w2 t15 b1 b2 b3
  have kp15 : qT S15 p = 49 := t15.2.1.T kp (by decide)
  have un15 : UN A S15 p := un.mv w2 h2.g kp t15.2
  refine ⟨_, ci_begin w15 h15 kp15 un15, fun S17 q17 w17 s17 => ⟨2147483649, ?_⟩⟩
  have i17 : qI S17 0 11 = qI S15 0 11 := q17.1.2.kI w15.k0 rfl rfl
  exact ip_L73 _ 0 (WrIk.bg w15 h15 kp15 un15 q17).1 (by rw [i17, b1]; omega) rfl (by decide) (by rw [li_0k]; decide)
end COA
/-! count -/
section CPA
variable {B B' : Nat × Nat} {K H : List Nat} {F : List (Nat × Nat)} {A S u v U V : MS} {a i j p q r t o c n e : Nat} {b : Option Nat} {x y z x1 x2 x3 x4 x5 : Int32}
/-- how many blocks the first m methods reach -/
def rcS (S : MS) (p : Nat) : Nat → Nat
  | 0 => 0
  | m + 1 => rcS S p m + rcR S (qO S (qO S p 13) m)
theorem rcS_mv (w : wfC S) (g : ShC B S) (kp : qT S p = 49) (un : UN A S p) (mv : MvR S u) : ∀ m : Nat, (m : Int) ≤ (qI S p 8).toInt → rcS u p m = rcS S p m := by
  have uk := g.unit kp
  have k13 : qT S (qO S p 13) = 6 := w.ref uk.1.2.2.2.2.2.2.2.2 kp
  have f13 : qR u p 13 = qR S p 13 := (mv.2.1 p 13 (by rw [kp]; rfl) (fun _ => by decide)).2
  have e13 : ∀ j, qR u (qO u p 13) j = qR S (qO S p 13) j := fun j => by
    rw [qO_eq f13, (mv.2.1 _ j (by rw [k13]; rfl) (fun z => by rw [k13] at z; cases z)).2]
  intro m
  induction m with
  | zero => intro _; rfl
  | succ m ih =>
    intro hm
    show rcS u p m + rcR u (qO u (qO u p 13) m) = rcS S p m + rcR S (qO S (qO S p 13) m)
    obtain ⟨r, er, _⟩ := un.1.2 m (by omega)
    have kr : qT S r = 47 := w.ref er k13
    have e1 : qO u (qO u p 13) m = qO S (qO S p 13) m := by unfold qO; unfold qO at e13; rw [e13]
    rw [ih (by omega), e1, qO_of er, cg_rc (mv.2.2.1 r kr (un.2.1 m r (by omega) er)).1]
theorem rcS_le : ∀ n m : Nat, m ≤ n → rcS S p m ≤ rcS S p n := by
  intro n
  induction n with
  | zero => intro m hm; rw [show m = 0 by omega]; exact Nat.le_refl _
  | succ n ih =>
    intro m hm
    by_cases y : m = n + 1
    · rw [y]; exact Nat.le_refl _
    · have := ih m (by omega)
      show rcS S p m ≤ rcS S p n + rcR S (qO S (qO S p 13) n)
      omega
theorem rcR_le : rcR S r ≤ cnR S r := by
  have := bN_le (M := (rS S r (cnR S r)).1) (cnR S r)
  unfold rcR
  exact this
theorem cnR_le (d : GB4 B S) (gc : GcIk S) (e0 : qR S 52 0 = some r) : rcR S r ≤ 1200 := by
  have n := d.num
  obtain ⟨c1, _⟩ := gc r e0
  have := rcR_le (S := S) (r := r)
  omega
/-- the blocks of the first m methods are counted -/
def CoIk (A : MS) (B : Nat × Nat) (S0 : MS) (p m : Nat) (y : Int32) (U : MS) : Prop := (CIB A B U ∧ qT U p = 49 ∧ UN A U p) ∧ (MvR S0 U ∧ qI U 0 11 = qI S0 0 11) ∧ ((m : Int) ≤ (qI U p 8).toInt ∧ y.toInt = (rcS U p m : Int) ∧ rcS U p m ≤ 1200 * m)
theorem co_L4 {S0 : MS} : ∀ (n : Nat) {U : MS} {v2 v3 : Int32} (m : Nat), CoIk A B S0 p m v2 U → v3.toInt = (m : Int) → 2147483648 - v3.toInt < n → w_X12_countersOf_L4 (fun y u => ∃ m, CoIk A B S0 p m y u ∧ (m : Int) = (qI u p 8).toInt) n U p v2 v3 := by
  intro n
  induction n with
  | zero => intro U v2 v3 m _ _ hm; have := rgI v3; omega
  | succ n ih =>
    intro U v2 v3 m h h3 hm
    unfold w_X12_countersOf_L4
    intro w kp
    have h' := h
    obtain ⟨⟨ci, _, un⟩, ⟨mv, i11⟩, le, e2, rl⟩ := h
    have g := ci.g
    have u2 := (g.unit kp).2
    refine ⟨fun d => ⟨m, h', by omega⟩, fun d _ => ⟨_, ci_rowS w g kp un (by omega), ?_⟩⟩
    rintro b6 S4 ⟨e4, r, rfl, rr, ne, hr⟩ w4 s4 kz
    subst e4
    have kr := kz r rfl
    refine ⟨_, ci_draw w ci kr rr, fun S8 q8 w8 s8 => ?_⟩
    have h8 := ci.dr w ne q8
    have m8 : MvR S4 S8 := MvR.fr w g q8.2 rfl rfl rfl
    have i8 : qI S8 0 11 = qI S4 0 11 := q8.2.kI w.k0 rfl rfl
    have rc := cnR_le q8.1.1.1 q8.1.2 q8.1.1.2
    refine ⟨_, sp_reachedCountC h8.2.1.1 q8.1.2 q8.1.1.2, fun r12 S13 q13 w13 s13 a16 e16 a17 e17 => ?_⟩
    obtain ⟨er, e13⟩ := q13
    subst e13
    have i := t_inc e17 (by omega)
    have f8 : qI S13 p 8 = qI S4 p 8 := (m8.2.1 p 8 (by rw [kp]; rfl) (fun _ => by decide)).1
    have F8 : (qI S13 p 8).toInt = (qI S4 p 8).toInt := by rw [f8]
    have k13 : qT S4 (qO S4 p 13) = 6 := w.ref (g.unit kp).1.2.2.2.2.2.2.2.2 kp
    have f13 : qR S13 p 13 = qR S4 p 13 := (m8.2.1 p 13 (by rw [kp]; rfl) (fun _ => by decide)).2
    have e13' : qR S13 (qO S13 p 13) m = some r := by
      rw [qO_eq f13, (m8.2.1 _ m (by rw [k13]; rfl) (fun z => by rw [k13] at z; cases z)).2]
      rw [show m = v3.toInt.toNat by omega]
      exact hr
    have sm : rcS S13 p m = rcS S4 p m := rcS_mv w g kp un m8 m le
    have s1 : rcS S13 p (m + 1) = rcS S4 p m + rcR S13 r := by
      show rcS S13 p m + rcR S13 (qO S13 (qO S13 p 13) m) = _
      rw [sm, qO_of e13']
    have a : a16.toInt = (rcS S13 p (m + 1) : Int) := by
      rw [e16, t_addk (by omega), s1]
      omega
    exact ih (m + 1) ⟨⟨h8, m8.1.T kp (by decide), un.mv w g kp m8⟩, ⟨mv.tr m8, i8.trans i11⟩, by omega, a, by omega⟩ (by omega) (by omega)
theorem ct_L81 : ∀ (n : Nat) {V : MS} {v4 v5 : Int32} (t : Nat), WrIk A B p t (rcS V p t) V → (rcS V p (qI V p 8).toInt.toNat ≤ 24 ∧ (t : Int) ≤ (qI V p 8).toInt) → (1 ≤ (qI V 0 11).toInt ∧ (qI V 0 11).toInt < 12) → v5.toInt = (t : Int) → t ≤ 24 → 2147483648 - v5.toInt < n → w_X12_count_L81 (fun _ u => CI A u) n V p v4 v5 := by
  intro n
  induction n with
  | zero => intro V v4 v5 t _ _ _ _ _ hm; have := rgI v5; omega
  | succ n ih =>
    intro V v4 v5 t h hr24 n12 h5 ht hm
    unfold w_X12_count_L81
    intro w kp
    have cp := h.2.1.1
    have un := h.2.1.2.2
    have g := cp.g
    have u2 := (g.unit kp).2
    have le24 : rcS V p t ≤ 24 := Nat.le_trans (rcS_le _ _ (by omega)) hr24.1
    refine ⟨fun d => ex_fin w h ⟨ht, le24⟩ n12, fun d _ => ⟨_, ci_rowS w g kp un (by omega), ?_⟩⟩
    rintro b46 S44 ⟨e44, r, rfl, rr, ne, hr⟩ w44 s44 kz
    subst e44
    have kr := kz r rfl
    refine ⟨fun z => (by cases z), fun _ => ⟨_, frX3_draw w (sp_drawC w cp.2.1.1 cp.2.1.2.1 kr rr.1), fun S53 q53 w53 s53 _ => ?_⟩⟩
    obtain ⟨⟨⟨gb, e0⟩, gc⟩, f53⟩ := q53
    have g53 : ShC B S53 := gb.1.1.1.1
    have m53 : MvR S44 S53 := MvR.fr w g f53 rfl rfl rfl
    have kr53 : qT S53 r = 47 := m53.1.T kr (by decide)
    have s66 : qO S53 66 0 = qO S44 66 0 := qO_eq (f53.kO w.k66 rfl rfl)
    have ne53 : r ≠ qO S53 66 0 := by rw [s66]; exact ne
    have sm53 := (SmT.fr w g cp.2.2.2.1 f53 rfl rfl rfl rfl rfl).1
    have gn53 : GnI B S53 := ⟨⟨g53, gb.1.1.1.2.1, Or.inr gb⟩, gc, fun r' e => by
      rw [e0] at e
      have e' : r = r' := Option.some.inj e
      subst e'
      exact ne53⟩
    have cp53 : CPI A B S53 := cp.st w m53 gn53 f53 rfl rfl rfl sm53 (hB.of (H := []) f53 rfl (fun _ => rfl)) rfl rfl rfl
    have kp53 : qT S53 p = 49 := m53.1.T kp (by decide)
    have un53 : UN A S53 p := un.mv w g kp m53
    have rc := m53.2.2.1 r kr ne
    have rr53 : RrK S53 r := rr.mv rc.1.1
    have f8 : qI S53 p 8 = qI S44 p 8 := (m53.2.1 p 8 (by rw [kp]; rfl) (fun _ => by decide)).1
    have F8 : (qI S53 p 8).toInt = (qI S44 p 8).toInt := by rw [f8]
    have k13 : qT S44 (qO S44 p 13) = 6 := w.ref (g.unit kp).1.2.2.2.2.2.2.2.2 kp
    have f13 : qR S53 p 13 = qR S44 p 13 := (m53.2.1 p 13 (by rw [kp]; rfl) (fun _ => by decide)).2
    have e13' : qR S53 (qO S53 p 13) t = some r := by
      rw [qO_eq f13, (m53.2.1 _ t (by rw [k13]; rfl) (fun z => by rw [k13] at z; cases z)).2]
      rw [show t = v5.toInt.toNat by omega]
      exact hr
    have sA : rcS S53 p t = rcS S44 p t := rcS_mv w g kp un m53 t hr24.2
    have sM : rcS S53 p (qI S44 p 8).toInt.toNat = rcS S44 p (qI S44 p 8).toInt.toNat := rcS_mv w g kp un m53 _ (by omega)
    have s1 : rcS S53 p (t + 1) = rcS S53 p t + rcR S53 r := by
      show rcS S53 p t + rcR S53 (qO S53 (qO S53 p 13) t) = _
      rw [qO_of e13']
    have l1 : rcS S53 p (t + 1) ≤ 24 := Nat.le_trans (rcS_le (qI S44 p 8).toInt.toNat _ (by omega)) (by rw [sM]; exact hr24.1)
    have hN : nC S53 (qI S53 r 2).toInt.toNat ≤ rcR S53 r := nC_le gb gc e0 (by have := rr53.1.2; omega)
    have h53 : WrIk A B p t (rcS S53 p t) S53 := by
      obtain ⟨⟨S, hv⟩, _, hb⟩ := h
      have v53 := hv.fr w f53 g53 rfl rfl rfl rfl
      have i53 : (qI S53 28 1).toInt = (qI S44 28 1).toInt := by rw [v53.2]
      exact ⟨⟨S, v53.1⟩, ⟨cp53, kp53, un53⟩, by rw [sA]; omega⟩
    refine ⟨_, frX9_putCounters w53 (sp_putCounters w53 g53 kr53 rr53.1.1 sm53 ne53 (qO_of e0) gb rr53.1.2.2 (show nC S53 (qI S53 r 2).toInt.toNat ≤ 24 by omega)), fun S57 q57 w57 s57 => ?_⟩
    obtain ⟨⟨⟨g57, sx⟩, ⟨rows, rf⟩, os, tl, rvS, cS, tS, wS⟩, f57⟩ := q57
    have m57 : MvR S53 S57 := MvR.sm w53 w57 g53 g57 f57 rfl rfl rfl rf os
    have gn57 : GnI B S57 := gn53.mv w53 g57 (Gs3.fr w53 f57 rfl rfl rfl) m57
    have h57 : WrIk A B p t (rcS S53 p t) S57 := by
      obtain ⟨⟨S, hv⟩, _, hb⟩ := h53
      have v57 := hv.fr w53 f57 g57 rfl rfl rfl rfl
      have i57 : (qI S57 28 1).toInt = (qI S53 28 1).toInt := by rw [v57.2]
      exact ⟨⟨S, v57.1⟩, ⟨cp53.st w53 m57 gn57 f57 rfl rfl rfl (fun _ => tl) (hB.of (H := []) f57 rfl (fun _ => rfl)) rfl rfl rfl, m57.1.T kp53 (by decide), un53.mv w53 g53 kp53 m57⟩, by omega⟩
    have rr2 := rr53.2
    have wS' : rWs S57 (qO S57 66 0) (qI S57 (qO S57 66 0) 2).toInt.toNat = rWs S53 r (qI S53 r 2).toInt.toNat + 24 * (nC S53 (qI S53 r 2).toInt.toNat : Int) := wS
    have tS' : (qI S57 (qO S57 66 0) 4).toInt = (qI S53 r 4).toInt := tS
    refine ⟨_, sp_reachedCount gn57.1, fun r61 S62 q62 w62 s62 a65 e65 => ?_⟩
    obtain ⟨_, e62⟩ := q62
    subst e62
    obtain ⟨S, hA⟩ := ci_add (W := 3600 + 24 * rcR S53 r) w62 h57 (k66 w62) rvS (by rw [tS', wS']; omega) ⟨ht, by omega, by omega⟩
    refine ⟨_, hA, fun S68 q68 w68 s68 a71 e71 => ?_⟩
    have ei := t_inc e71 (by omega)
    obtain ⟨h68, m68⟩ := h57.ad (e' := rcS S53 p (t + 1)) w62 (by omega) (by omega) q68
    have kp62 := h57.2.1.2.1
    have un62 := h57.2.1.2.2
    have g62 := h57.2.1.1.g
    have mm := m57.tr m68
    have x1' : rcS S68 p (t + 1) = rcS S53 p (t + 1) := rcS_mv w53 g53 kp53 un53 mm _ (by omega)
    have x2' : rcS S68 p (qI S53 p 8).toInt.toNat = rcS S53 p (qI S53 p 8).toInt.toNat := rcS_mv w53 g53 kp53 un53 mm _ (by omega)
    have x8 : qI S68 p 8 = qI S53 p 8 := (mm.2.1 p 8 (by rw [kp53]; rfl) (fun _ => by decide)).1
    have X8 : (qI S68 p 8).toInt = (qI S53 p 8).toInt := by rw [x8]
    have i11 : qI S68 0 11 = qI S44 0 11 := by
      rw [q68.1.2.kI w62.k0 rfl rfl, f57.kI w53.k0 rfl rfl, f53.kI w.k0 rfl rfl]
    refine ih (t + 1) (by rw [x1']; exact h68) ⟨by rw [x8, x2', f8, sM]; exact hr24.1, by rw [x8]; omega⟩ (by rw [i11]; exact n12) (by omega) (by omega) (by omega)
theorem ci_count (w : wfC S) (h : CIB A B S) : wX12_count S x1 (fun _ u => CI A u) := by
  unfold wX12_count
  refine ⟨_, ci_sound w h, fun b5 S3 q3 w3 s3 k3 => ?_⟩
  obtain ⟨e3, hb⟩ := q3
  subst e3
  have R : CI A S3 := ⟨B, h⟩
  rcases b5 with _ | p
  · exact ⟨fun _ => R, fun c => absurd rfl c⟩
  obtain ⟨xf, _, un, kp⟩ := hb p rfl
  refine ⟨fun c => (by cases c), fun _ => ⟨fun _ => R, fun c12 => ⟨fun _ S10 e10 k10 w10 _ => ?_, fun _ => R⟩⟩⟩
  obtain ⟨t10, b1, b2, b3⟩ := h.rs.w51 w (Or.inr (Or.inr (Or.inr (Or.inr (Or.inr rfl))))) e10
  have h10 : CIB A B S10 := h.mv w t10 b1 b2 b3
  have kp10 : qT S10 p = 49 := t10.2.1.T kp (by decide)
  have un10 : UN A S10 p := un.mv w h.g kp t10.2
  have u10 := (h10.g.unit kp10).2
  refine ⟨fun y u => ∃ m, CoIk A B S10 p m y u ∧ (m : Int) = (qI u p 8).toInt, ?_, ?_⟩
  · unfold wX12_countersOf
    exact ⟨2147483649, co_L4 _ 0 ⟨⟨h10, kp10, un10⟩, ⟨MvR.rf, rfl⟩, by omega, rfl, Nat.le_refl _⟩ rfl (by rw [li_0k]; decide)⟩
  · rintro r12 S13 ⟨m, ⟨⟨ci, kp13, un13⟩, ⟨mv, i11⟩, le, e2, rl⟩, em⟩ w13 s13
    have u13 := (ci.g.unit kp13).2
    refine ⟨fun c24 _ => ⟨_, ci_begin w13 ci kp13 un13, fun S19 q19 w19 s19 a22 e22 => ⟨2147483649, ?_⟩⟩, fun _ => ⟨B, ci⟩⟩
    obtain ⟨h19, m19⟩ := WrIk.bg w13 ci kp13 un13 q19
    have i19 : qI S19 0 11 = qI S13 0 11 := q19.1.2.kI w13.k0 rfl rfl
    have x8 : qI S19 p 8 = qI S13 p 8 := (m19.2.1 p 8 (by rw [kp13]; rfl) (fun _ => by decide)).1
    have X8 : (qI S19 p 8).toInt = (qI S13 p 8).toInt := by rw [x8]
    have xs : rcS S19 p (qI S13 p 8).toInt.toNat = rcS S13 p (qI S13 p 8).toInt.toNat := rcS_mv w13 ci.g kp13 un13 m19 _ (by omega)
    have sum : ((qI S13 p 4) + r12).toInt = (qI S13 p 4).toInt + r12.toInt := t_addk (by omega)
    have c24' : (qI S13 p 4).toInt + r12.toInt ≤ 24 := by rw [← sum]; exact c24
    refine ct_L81 _ 0 h19 ⟨?_, show ((0 : Nat) : Int) ≤ (qI S19 p 8).toInt by rw [x8]; omega⟩ (by rw [i19, i11, b1]; omega) rfl (by decide) (by rw [li_0k]; decide)
    show rcS S19 p (qI S19 p 8).toInt.toNat ≤ 24
    rw [x8, xs, show (qI S13 p 8).toInt.toNat = m by omega]
    omega
end CPA
