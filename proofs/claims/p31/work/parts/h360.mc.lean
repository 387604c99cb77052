/-! the machine, while it runs -/
def RowF (S : MS) (r : Nat) : Prop := ∀ x : Int32, -2147483648 < (fX8_targetCount S r x).toInt
/-- a Unit whose rows are all there -/
def FullU (S : MS) (p : Nat) : Prop := ∀ m : Nat, (m : Int) < (qI S p 8).toInt → ∃ r, qR S (qO S p 13) m = some r ∧ RowF S r
def MaI (S : MS) : Prop := (0 ≤ (qI S 44 5).toInt ∧ (qI S 44 5).toInt ≤ 400 ∧ (qI S 44 5).toInt < (qN S (qO S 44 4) : Int) ∧ 8 ≤ qN S (qO S 44 4) ∧ 0 ≤ (qI S 44 3).toInt ∧ (qI S 44 3).toInt ≤ 20000) ∧ qN S (qO S 44 4) ∈ ([8, 16, 32, 64, 128, 256, 512] : List Nat)
def McIk (S : MS) : Prop := qR S 44 0 = some (qO S 44 0) ∧ qR S 44 12 = some (qO S 44 12) ∧ FullU S (qO S 44 0) ∧ RowF S (qO S 44 12) ∧ (0 ≤ (qI S 44 11).toInt ∧ (qI S 44 11).toInt ≤ 59 ∧ (qN S (qO S 44 8) : Int) = 1440 ∧ (qN S (qO S 44 9) : Int) = 1440) ∧ (∀ d : Nat, (d : Int) ≤ (qI S 44 11).toInt → 0 ≤ (qI S 51 (3 * d)).toInt ∧ (qI S 51 (3 * d)).toInt < (qI S (qO S 44 0) 8).toInt) ∧ MaI S
section MCI
variable {K : List Nat} {F : List (Nat × Nat)} {S u : MS} {p r : Nat}
theorem McIk.p0 (m : McIk S) : qR S 44 0 = some (qO S 44 0) := m.1
theorem McIk.p12 (m : McIk S) : qR S 44 12 = some (qO S 44 12) := m.2.1
theorem McIk.num (m : McIk S) : (0 ≤ (qI S 44 11).toInt ∧ (qI S 44 11).toInt ≤ 59 ∧ (qN S (qO S 44 8) : Int) = 1440 ∧ (qN S (qO S 44 9) : Int) = 1440) ∧ (0 ≤ (qI S 44 5).toInt ∧ (qI S 44 5).toInt ≤ 400 ∧ (qI S 44 5).toInt < (qN S (qO S 44 4) : Int) ∧ 8 ≤ qN S (qO S 44 4) ∧ 0 ≤ (qI S 44 3).toInt ∧ (qI S 44 3).toInt ≤ 20000) := ⟨m.2.2.2.2.1, m.2.2.2.2.2.2.1⟩
def okM (K : List Nat) : Bool := K.all (fun x => !([217, 6, 222, 223, 406, 45, 47, 49] : List Nat).contains x)
theorem okM_n {t : Nat} (h : okM K = true) (m : ([217, 6, 222, 223, 406, 45, 47, 49] : List Nat).contains t = true) : K.contains t = false := by
  cases e : K.contains t with
  | false => rfl
  | true =>
    have := List.all_eq_true.mp h _ (List.contains_iff_mem.mp e)
    rw [m] at this
    cases this
def okO (F : List (Nat × Nat)) : Bool := F.all (fun x => Nat.ble 40 x.1 && Nat.ble x.1 99)
theorem okO_n {t j : Nat} (h : okO F = true) (ht : t < 40 ∨ 100 ≤ t) : F.contains (t, j) = false := by
  cases e : F.contains (t, j) with
  | false => rfl
  | true =>
    have := List.all_eq_true.mp h _ (List.contains_iff_mem.mp e)
    rw [Bool.and_eq_true] at this
    have h1 := Nat.le_of_ble_eq_true this.1
    have h2 := Nat.le_of_ble_eq_true this.2
    exfalso
    simp only at h1 h2
    omega
def LMr : List (Nat × Nat) := [(47, 0), (47, 1), (47, 2), (47, 3), (47, 4), (49, 8), (49, 13)]
def LMc : List (Nat × Nat) := LMr ++ [(45, 0), (45, 12), (45, 11), (45, 5), (45, 3), (45, 4), (45, 8), (45, 9)]
/-- what a Row is asked, when it is left alone -/
theorem RowF.mv (w : wfC S) (k : qT S r = 47) (R : RwK S r) (h : RowF S r) (f : cfr K F S u) (hK : okM K = true) (hF : okL LMr F = true) (hA : okO F = true) : RowF u r := by
  have g : ∀ j, LMr.contains (47, j) = true → qI u r j = qI S r j ∧ qR u r j = qR S r j := fun j m => by
    have := f.2.2 r j (by rw [k]; decide) (by rw [k]; exact okM_n hK (by decide)) (by rw [k]; exact okL_n hF m)
    exact ⟨this.1, this.2.2⟩
  have a : ∀ {b t : Nat}, qT S b = t → 100 < t → ([217, 6, 222, 223, 406, 45, 47, 49] : List Nat).contains t = true → qI u b = qI S b ∧ qJ u b = qJ S b := fun {b t} e ht m => by
    have h1 : ∀ j, F.contains (t, j) = false := fun j => okO_n hA (by omega)
    exact ⟨funext fun j => (f.2.2 b j (by rw [e]; omega) (by rw [e]; exact okM_n hK m) (by rw [e]; exact h1 j)).1, funext fun j => (f.2.2 b j (by rw [e]; omega) (by rw [e]; exact okM_n hK m) (by rw [e]; exact h1 j)).2.1⟩
  have o0 := qO_eq (g 0 (by decide)).2
  have o1 := qO_eq (g 1 (by decide)).2
  have o3 := qO_eq (g 3 (by decide)).2
  have a0 := a (w.ref R.1.1 k : qT S (qO S r 0) = 222) (by decide) (by decide)
  have a1 := a (w.ref R.1.2.1 k : qT S (qO S r 1) = 406) (by decide) (by decide)
  have a3 := a (w.ref R.1.2.2.1 k : qT S (qO S r 3) = 223) (by decide) (by decide)
  intro x
  have e1 : fX8_opAt u r x = fX8_opAt S r x := by
    unfold fX8_opAt; rw [(g 2 (by decide)).1, o0, a0.1]; rfl
  have e2 : fX8_argAt u r x = fX8_argAt S r x := by
    unfold fX8_argAt; rw [(g 2 (by decide)).1, o1, a1.2]; rfl
  have e3 : ∀ y, fX8_tableAt u r y = fX8_tableAt S r y := fun y => by
    unfold fX8_tableAt; rw [(g 4 (by decide)).1, o3, a3.1]; rfl
  have e : fX8_targetCount u r x = fX8_targetCount S r x := by
    unfold fX8_targetCount; rw [e1, e2, e3]; rfl
  rw [e]
  exact h x
theorem FullU.mv (w : wfC S) (hr : ∀ p, qT S p = 47 → RwK S p) (k : qT S p = 49) (U : UnK S p) (h : FullU S p) (f : cfr K F S u) (hK : okM K = true) (hF : okL LMr F = true) (hA : okO F = true) : FullU u p := by
  have g : ∀ j, LMr.contains (49, j) = true → qI u p j = qI S p j ∧ qR u p j = qR S p j := fun j m => by
    have := f.2.2 p j (by rw [k]; decide) (by rw [k]; exact okM_n hK (by decide)) (by rw [k]; exact okL_n hF m)
    exact ⟨this.1, this.2.2⟩
  have o := qO_eq (g 13 (by decide)).2
  have k6 : qT S (qO S p 13) = 6 := w.ref U.1.2.2.2.2.2.2.2.2 k
  intro m hm
  rw [(g 8 (by decide)).1] at hm
  obtain ⟨r, h1, h2⟩ := h m hm
  refine ⟨r, ?_, ?_⟩
  · have e : F.contains (6, m) = false := okO_n hA (by decide)
    rw [o, (f.2.2 (qO S p 13) m (by rw [k6]; decide) (by rw [k6]; exact okM_n hK (by decide)) (by rw [k6]; exact e)).2.2, h1]
  · have kr : qT S r = 47 := (w.rf3 _ _ _ h1).1.trans (by rw [k6]; rfl)
    exact h2.mv w kr (hr r kr) f hK hF hA
theorem okL_ap {L L' : List (Nat × Nat)} (h : okL (L ++ L') F = true) : okL L F = true := okL_mo h (by
  refine List.all_eq_true.mpr (fun x hx => ?_)
  exact List.contains_iff_mem.mpr (List.mem_append_left _ hx))
/-- the machine is left as it was -/
theorem McIk.fr0 (w : wfC S) (hr : ∀ p, qT S p = 47 → RwK S p) (hu : ∀ p, qT S p = 49 → UnK S p) (m : McIk S) (f : cfr K F S u) (hK : okM K = true) (hF : okL LMc F = true) (hA : okO F = true) : McIk u := by
  have hR := okL_ap hF
  have g : ∀ j, LMc.contains (45, j) = true → qI u 44 j = qI S 44 j ∧ qR u 44 j = qR S 44 j := fun j hm => by
    have := f.2.2 44 j (by rw [w.k44]; decide) (by rw [w.k44]; exact okM_n hK (by decide)) (by rw [w.k44]; exact okL_n hF hm)
    exact ⟨this.1, this.2.2⟩
  obtain ⟨m1, m2, m3, m4, m5, m6, m7⟩ := m
  have k0 : qT S (qO S 44 0) = 49 := w.ref m1 w.k44
  have k12 : qT S (qO S 44 12) = 47 := w.ref m2 w.k44
  have o0 := qO_eq (g 0 (by decide)).2
  have o12 := qO_eq (g 12 (by decide)).2
  have L : ∀ j, LMc.contains (45, j) = true → (44, j) ∈ ptrC → qN u (qO u 44 j) = qN S (qO S 44 j) := fun j hm hp => by
    have p := w.ptr hp
    have kb := w.rf3 44 j _ p
    rw [qO_eq (g j hm).2, (f.1.1 _ (by rw [kb.1]; exact kb.2.1)).2]
  have e8 : qI u (qO S 44 0) 8 = qI S (qO S 44 0) 8 := (f.2.2 _ 8 (by rw [k0]; decide) (by rw [k0]; exact okM_n hK (by decide)) (by rw [k0]; exact okL_n hF (by decide))).1
  have k51 : qT S 51 = 217 := (w.2.1 _ finC_6).2.1
  have e51 : ∀ j, qI u 51 j = qI S 51 j := fun j => (f.2.2 51 j (by rw [k51]; decide) (by rw [k51]; exact okM_n hK (by decide)) (by rw [k51]; exact okO_n hA (by decide))).1
  refine ⟨by rw [o0, (g 0 (by decide)).2]; exact m1, by rw [o12, (g 12 (by decide)).2]; exact m2, by rw [o0]; exact m3.mv w hr k0 (hu _ k0) f hK hR hA, by rw [o12]; exact m4.mv w k12 (hr _ k12) f hK hR hA, ?_, ?_, ?_⟩
  · rw [(g 11 (by decide)).1, L 8 (by decide) (by decide), L 9 (by decide) (by decide)]; exact m5
  · rw [(g 11 (by decide)).1, o0, e8]
    intro d hd
    rw [e51]
    exact m6 d hd
  · unfold MaI
    rw [(g 5 (by decide)).1, (g 3 (by decide)).1, L 4 (by decide) (by decide)]
    exact m7
theorem McIk.frg {B : Nat × Nat} (w : wfC S) (gs : ShC B S) (m : McIk S) (f : cfr K F S u) (hK : okM K = true) (hF : okL LMc F = true) (hA : okO F = true) : McIk u := m.fr0 w gs.1 gs.2.1 f hK hF hA
theorem McIk.tc {x : Int32} (m : McIk S) : -2147483648 < (fX8_targetCount S (qO S 44 12) x).toInt := m.2.2.2.1 x
end MCI
/-! frames of the machine -/
def McP (S : MS) (n : Int) : Prop := qR S 44 0 = some (qO S 44 0) ∧ FullU S (qO S 44 0) ∧ ((qN S (qO S 44 8) : Int) = 1440 ∧ (qN S (qO S 44 9) : Int) = 1440) ∧ (∀ d : Nat, (d : Int) < n → 0 ≤ (qI S 51 (3 * d)).toInt ∧ (qI S 51 (3 * d)).toInt < (qI S (qO S 44 0) 8).toInt) ∧ MaI S
def LMq : List (Nat × Nat) := LMr ++ [(45, 0), (45, 5), (45, 3), (45, 4), (45, 8), (45, 9)]
section MCP
variable {K : List Nat} {F : List (Nat × Nat)} {S u : MS} {p r : Nat} {n : Int}
theorem McIk.pP (m : McIk S) : McP S ((qI S 44 11).toInt + 1) := ⟨m.1, m.2.2.1, m.2.2.2.2.1.2.2, fun d hd => m.2.2.2.2.2.1 d (by omega), m.2.2.2.2.2.2⟩
theorem McP.le {n' : Int} (m : McP S n) (h : n' ≤ n) : McP S n' := ⟨m.1, m.2.1, m.2.2.1, fun d hd => m.2.2.2.1 d (by omega), m.2.2.2.2⟩
theorem McP.mc (m : McP S ((qI S 44 11).toInt + 1)) (h : 0 ≤ (qI S 44 11).toInt ∧ (qI S 44 11).toInt ≤ 59) (p : qR S 44 12 = some (qO S 44 12)) (f : RowF S (qO S 44 12)) : McIk S := ⟨m.1, p, m.2.1, f, ⟨h.1, h.2, m.2.2.1.1, m.2.2.1.2⟩, fun d hd => m.2.2.2.1 d (by omega), m.2.2.2.2⟩
theorem McP.fr (w : wfC S) (hr : ∀ p, qT S p = 47 → RwK S p) (hu : ∀ p, qT S p = 49 → UnK S p) (m : McP S n) (f : cfr K F S u) (hK : okM K = true) (hF : okL LMq F = true) (hA : okO F = true) : McP u n := by
  have hR := okL_ap hF
  have g : ∀ j, LMq.contains (45, j) = true → qI u 44 j = qI S 44 j ∧ qR u 44 j = qR S 44 j := fun j hm => by
    have := f.2.2 44 j (by rw [w.k44]; decide) (by rw [w.k44]; exact okM_n hK (by decide)) (by rw [w.k44]; exact okL_n hF hm)
    exact ⟨this.1, this.2.2⟩
  obtain ⟨m1, m3, m5, m6, m7⟩ := m
  have k0 : qT S (qO S 44 0) = 49 := w.ref m1 w.k44
  have o0 := qO_eq (g 0 (by decide)).2
  have L : ∀ j, LMq.contains (45, j) = true → (44, j) ∈ ptrC → qN u (qO u 44 j) = qN S (qO S 44 j) := fun j hm hp => by
    have p := w.ptr hp
    have kb := w.rf3 44 j _ p
    rw [qO_eq (g j hm).2, (f.1.1 _ (by rw [kb.1]; exact kb.2.1)).2]
  have e8 : qI u (qO S 44 0) 8 = qI S (qO S 44 0) 8 := (f.2.2 _ 8 (by rw [k0]; decide) (by rw [k0]; exact okM_n hK (by decide)) (by rw [k0]; exact okL_n hF (by decide))).1
  have k51 : qT S 51 = 217 := (w.2.1 _ finC_6).2.1
  have e51 : ∀ j, qI u 51 j = qI S 51 j := fun j => (f.2.2 51 j (by rw [k51]; decide) (by rw [k51]; exact okM_n hK (by decide)) (by rw [k51]; exact okO_n hA (by decide))).1
  refine ⟨by rw [o0, (g 0 (by decide)).2]; exact m1, by rw [o0]; exact m3.mv w hr k0 (hu _ k0) f hK hR hA, ?_, ?_, ?_⟩
  · rw [L 8 (by decide) (by decide), L 9 (by decide) (by decide)]; exact m5
  · rw [o0, e8]
    intro d hd
    rw [e51]
    exact m6 d hd
  · unfold MaI
    rw [(g 5 (by decide)).1, (g 3 (by decide)).1, L 4 (by decide) (by decide)]
    exact m7
/-- one of the frames' numbers is put -/
theorem McP.put {i : Nat} {v : Int32} (w : wfC S) (hr : ∀ p, qT S p = 47 → RwK S p) (hu : ∀ p, qT S p = 49 → UnK S p) (m : McP S n) (hi : ∀ d : Nat, 3 * d = i → n ≤ (d : Int)) : McP (wI S 51 i v) n := by
  have k51 : qT S 51 = 217 := (w.2.1 _ finC_6).2.1
  obtain ⟨m1, m3, m5, m6, m7⟩ := m
  have k0 : qT S (qO S 44 0) = 49 := w.ref m1 w.k44
  have f : cfr [217] [] S (wI S 51 i v) := cfr.aI k51 rfl
  have e : ∀ a j, a ≠ 51 → qI (wI S 51 i v) a j = qI S a j := fun a j ha => by rw [qI_wI, if_neg (fun z => ha z.1)]
  have a9 : ∀ {b t : Nat}, qT S b = t → t ≠ 217 → b ≠ 51 := fun e z q => z (by rw [← e, q]; exact k51)
  refine ⟨m1, ?_, m5, ?_, ?_⟩
  · intro q hq
    rw [show qO (wI S 51 i v) 44 0 = qO S 44 0 from rfl, e _ _ (a9 k0 (by decide))] at hq
    obtain ⟨r, h1, h2⟩ := m3 q hq
    refine ⟨r, h1, fun x => ?_⟩
    have kr : qT S r = 47 := (w.rf3 _ _ _ h1).1.trans (by rw [w.ref (hu _ k0).1.2.2.2.2.2.2.2.2 k0]; rfl)
    have R := hr r kr
    have n0 := a9 (w.ref R.1.1 kr : qT S (qO S r 0) = 222) (by decide)
    have n3 := a9 (w.ref R.1.2.2.1 kr : qT S (qO S r 3) = 223) (by decide)
    have nr := a9 kr (by decide)
    have e1 : fX8_opAt (wI S 51 i v) r x = fX8_opAt S r x := by
      unfold fX8_opAt; rw [e r 2 nr]
      rw [show qO (wI S 51 i v) r 0 = qO S r 0 from rfl, e _ _ n0]; rfl
    have e2 : fX8_argAt (wI S 51 i v) r x = fX8_argAt S r x := by
      unfold fX8_argAt; rw [e r 2 nr]; rfl
    have e3 : ∀ y, fX8_tableAt (wI S 51 i v) r y = fX8_tableAt S r y := fun y => by
      unfold fX8_tableAt; rw [e r 4 nr]
      rw [show qO (wI S 51 i v) r 3 = qO S r 3 from rfl, e _ _ n3]; rfl
    have e4 : fX8_targetCount (wI S 51 i v) r x = fX8_targetCount S r x := by
      unfold fX8_targetCount; rw [e1, e2, e3]; rfl
    rw [e4]
    exact h2 x
  · intro d hd
    rw [show qO (wI S 51 i v) 44 0 = qO S 44 0 from rfl, e _ _ (a9 k0 (by decide)), qI_wI, if_neg (fun z => by have := hi d z.2; omega)]
    exact m6 d hd
  · unfold MaI
    rw [e 44 5 (by decide), e 44 3 (by decide)]
    exact m7
theorem mul3_of {x : Int32} (h : 0 ≤ x.toInt ∧ x.toInt ≤ 1000000) : ((3 : Int32) * x).toInt = 3 * x.toInt := by rw [t_mulk (by rw [li_3k]; omega), li_3k]
theorem sp_setFrame {x1 x2 : Int32} {Q : MS → Prop} (hd : 0 ≤ (qI S 44 11).toInt ∧ (qI S 44 11).toInt ≤ 59) (hx : 0 ≤ x1.toInt ∧ x1.toInt ≤ 2) (hQ : ∀ u, u = wI S 51 (3 * (qI S 44 11).toInt.toNat + x1.toInt.toNat) x2 → wfC u → Q u) : wX5_setFrame S x1 x2 Q := by
  have e3 := mul3_of (x := qI S 44 11) (by omega)
  have e : (((3 : Int32) * (qI S 44 11)) + x1).toInt = 3 * (qI S 44 11).toInt + x1.toInt := by rw [t_addk (by omega), e3]
  unfold wX5_setFrame
  refine ⟨fun c => absurd c (by omega), fun _ => ⟨fun c => absurd c (by omega), fun _ => ⟨by omega, fun S6 e6 k6 w6 => hQ S6 ?_ w6⟩⟩⟩
  rw [e6]
  congr 1
  omega
theorem sp_rowAt {x1 : Int32} {Q : Option Nat → MS → Prop} (U : UnK S p) (hF : FullU S p) (hx : 0 ≤ x1.toInt ∧ x1.toInt < (qI S p 8).toInt) (hQ : ∀ r, qR S (qO S p 13) x1.toInt.toNat = some r → RowF S r → Q (some r) S) : wX10_rowAt S p x1 Q := by
  have U2 := U.2
  obtain ⟨r, h1, h2⟩ := hF x1.toInt.toNat (by omega)
  unfold wX10_rowAt
  refine ⟨fun c => absurd c (by omega), fun _ => ⟨U.1.2.2.2.2.2.2.2.2, fun c => ⟨U.1.2.2.2.2.2.2.2.2, by omega, fun c2 => ?_, fun c2 => ?_⟩, fun c => absurd (show x1.toInt < (qN S (qO S p 13) : Int) by omega) c⟩⟩
  · rw [h1] at c2; cases c2
  · rw [h1]
    exact hQ r h1 h2
end MCP
theorem sgX5_openFrame {B : Nat × Nat} {S : MS} {x1 : Int32} (w : wfC S) (g : ShC B S) (m : McP S (qI S 44 11).toInt) (hd : 0 ≤ (qI S 44 11).toInt ∧ (qI S 44 11).toInt ≤ 59) (hx : 0 ≤ x1.toInt ∧ x1.toInt < (qI S (qO S 44 0) 8).toInt) : wX5_openFrame S x1 (fun u => ShC B u ∧ McIk u) := by
  have k0 : qT S (qO S 44 0) = 49 := w.ref m.1 w.k44
  unfold wX5_openFrame
  refine ⟨m.1, fun _ => ⟨_, sp_rowAt (g.unit k0) m.2.1 hx (Q := fun b u => u = S ∧ ∃ r, b = some r ∧ RowF S r ∧ qR S (qO S (qO S 44 0) 13) x1.toInt.toNat = some r) (fun r h1 h2 => ⟨rfl, r, rfl, h2, h1⟩), ?_⟩⟩
  rintro b S5 ⟨rfl, r, rfl, hr, hrr⟩ w5 _ kz S8 e8 k8 w8 S9 e9 k9 w9 S10 e10 k10 w10
  have f8 : cfr [] [(45, 12)] S5 S8 := by rw [e8]; exact cfr.oR k8 rfl
  have f9 : cfr [] [(45, 13)] S8 S9 := by rw [e9]; exact cfr.oI k9 rfl
  have f10 : cfr [] [(45, 14)] S9 S10 := by rw [e10]; exact cfr.oI k10 rfl
  have f : cfr [] [(45, 12), (45, 13), (45, 14)] S5 S10 := ((f8.mo rfl rfl).tr (f9.mo rfl rfl)).tr (f10.mo rfl rfl)
  have G10 : ShC B S10 := ShC.ws w g f (by rw [e10, e9, e8]; rfl) (by rw [e10, e9, e8]; rfl) (by rw [e10, e9, e8]; rfl) rfl rfl
  have d10 : qI S10 44 11 = qI S5 44 11 := f.kI w.k44 (by decide) (by decide)
  have m10 : McP S10 (qI S5 44 11).toInt := m.fr w g.1 g.2.1 f rfl rfl rfl
  have p10 : qR S10 44 12 = some r := by rw [e10, e9]; show qR S8 44 12 = _; rw [e8, qR_wR, if_pos ⟨rfl, rfl⟩]
  have o10 := qO_of p10
  have kr := kz r rfl
  have r10 : RowF S10 r := hr.mv w kr (g.row kr) f rfl rfl rfl
  refine ⟨_, sp_setFrame (Q := fun u => u = wI S10 51 (3 * (qI S10 44 11).toInt.toNat + (0 : Int32).toInt.toNat) x1) (by rw [d10]; exact hd) (by decide) (fun u e _ => e), ?_⟩
  intro S12 e12 w12 _
  have k51 : qT S10 51 = 217 := (w10.2.1 _ finC_6).2.1
  have f12 : cfr [217] [] S10 S12 := by rw [e12]; exact cfr.aI k51 rfl
  have G12 : ShC B S12 := ShC.ws w10 G10 f12 (by rw [e12]; rfl) (by rw [e12]; rfl) (by rw [e12]; rfl) rfl rfl
  have z0 : (0 : Int32).toInt.toNat = 0 := by decide
  rw [d10, z0, Nat.add_zero] at e12
  have m12 : McP S12 (qI S5 44 11).toInt := by
    rw [e12]
    exact m10.put w10 G10.1 G10.2.1 (fun d hd2 => by omega)
  have d12 : qI S12 44 11 = qI S5 44 11 := by rw [f12.kI w10.k44 (by decide) (by decide), d10]
  have o12 : qR S12 44 12 = some r := by rw [e12]; exact p10
  have q0 : qO S12 44 0 = qO S5 44 0 := by
    rw [e12]
    exact qO_eq (f.kO w.k44 (by decide) (by decide))
  have r12 : RowF S12 r := by
    have kr10 : qT S10 r = 47 := f.1.T kr (by decide)
    intro x
    have := r10 x
    have a9 : ∀ {b t : Nat}, qT S10 b = t → t ≠ 217 → b ≠ 51 := fun e z q => z (by rw [← e, q]; exact k51)
    have R := G10.row kr10
    have e : ∀ a j, a ≠ 51 → qI S12 a j = qI S10 a j := fun a j ha => by rw [e12, qI_wI, if_neg (fun z => ha z.1)]
    have eO : ∀ j, qO S12 r j = qO S10 r j := fun j => by rw [e12]; rfl
    have n0 := a9 (w10.ref R.1.1 kr10 : qT S10 (qO S10 r 0) = 222) (by decide)
    have n3 := a9 (w10.ref R.1.2.2.1 kr10 : qT S10 (qO S10 r 3) = 223) (by decide)
    have nr := a9 kr10 (by decide)
    have e1 : fX8_opAt S12 r x = fX8_opAt S10 r x := by
      unfold fX8_opAt; rw [e r 2 nr, eO, e _ _ n0]; rfl
    have e2 : fX8_argAt S12 r x = fX8_argAt S10 r x := by
      unfold fX8_argAt; rw [e r 2 nr, eO, e12]; rfl
    have e3 : ∀ y, fX8_tableAt S12 r y = fX8_tableAt S10 r y := fun y => by
      unfold fX8_tableAt; rw [e r 4 nr, eO, e _ _ n3]; rfl
    have e4 : fX8_targetCount S12 r x = fX8_targetCount S10 r x := by
      unfold fX8_targetCount; rw [e1, e2, e3]; rfl
    rw [e4]
    exact this
  have k0' : qT S10 (qO S5 44 0) = 49 := f.1.T k0 (by decide)
  have e8' : qI S12 (qO S5 44 0) 8 = qI S5 (qO S5 44 0) 8 := by rw [f12.kI k0' (by decide) (by decide), f.kI k0 (by decide) (by decide)]
  refine ⟨G12, McP.mc ⟨m12.1, m12.2.1, m12.2.2.1, fun d hd2 => ?_, m12.2.2.2.2⟩ (by rw [d12]; exact hd) (by rw [qO_of o12]; exact o12) (by rw [qO_of o12]; exact r12)⟩
  rw [d12] at hd2
  by_cases c : (d : Int) < (qI S5 44 11).toInt
  · exact m12.2.2.2.1 d c
  · have ed : d = (qI S5 44 11).toInt.toNat := by omega
    have ei : qI S12 51 (3 * d) = x1 := by rw [e12, ed, qI_wI, if_pos ⟨rfl, rfl⟩]
    rw [ei, q0, e8']
    exact hx
set_option maxRecDepth 100000 in
theorem sg_X5_passArguments_L4 {B : Nat × Nat} : ∀ (n : Nat) {U4 : MS} {v4_1 : Int32} {v4_2 : Int32} {v4_3 : Int32}, ShC B U4 → McIk U4 → 0 ≤ v4_3.toInt → (qI U4 44 7).toInt ≤ 8 → 2147483648 - v4_3.toInt < n → w_X5_passArguments_L4 (fun u => ShC B u ∧ McIk u ∧ (True)) n U4 v4_1 v4_2 v4_3 := by
  intro n
  induction n with
  | zero => intro U4 v4_1 v4_2 v4_3 g m_ j0_ j1_ hm_; exfalso; have := rgI v4_1; have := rgI v4_2; have := rgI v4_3; omega
  | succ n ih4 =>
    intro U4 v4_1 v4_2 v4_3 g m_ j0_ j1_ hm_
    unfold w_X5_passArguments_L4
    intro y1_
    refine ⟨fun c0_ => ?_, fun c0_ => ?_⟩
    · exact ⟨g, m_, trivial⟩
    · refine ⟨_, frX6_kindAt y1_ (sgX6_kindAt y1_ g), ?_⟩
      intro r3_1 S4_1 q2_ y3_ y4_
      have t2_ : (qI S4_1 44 7).toInt = (qI U4 44 7).toInt := congrArg Int32.toInt (q2_.2.kI (j := 7) (y1_.2.1 _ finC_29).2.1 (by decide) (by decide))
      have gO_ := g
      have g : ShC B S4_1 := q2_.1.1
      have m_ : McIk S4_1 := McIk.frg y1_ gO_ m_ q2_.2 rfl rfl rfl
      refine ⟨fun c3_ => ?_, fun c3_ => ?_⟩
      · refine ⟨?_, ?_⟩
        · have s4_ := m_.num
          have n1_ := rgI v4_3
          have n2_ := rgI (qI U4 44 7)
          have n3_ := rgI r3_1
          omega
        unfold w_X5_passArguments_J44
        intro y5_
        refine ⟨_, frX5_setLocal y5_ (sfX5_setLocal y5_ ), ?_⟩
        intro S7_5 q6_ y7_ y8_
        have t6_ : (qI S7_5 44 7).toInt = (qI S4_1 44 7).toInt := congrArg Int32.toInt (q6_.2.kI (j := 7) (y5_.2.1 _ finC_29).2.1 (by decide) (by decide))
        have gO_ := g
        have g : ShC B S7_5 := ShC.ca y5_ g q6_.2 y8_ y7_ rfl rfl
        have m_ : McIk S7_5 := McIk.frg y5_ gO_ m_ q6_.2 rfl rfl rfl
        refine ⟨fun c7_ => ?_, fun c7_ => ?_⟩
        · unfold w_X5_passArguments_J59
          intro y9_
          intro a10_8 ea10_8 
          have ga10_8 := congrArg Int32.toInt ea10_8
          intro a11_9 ea11_9 
          have ga11_9 := congrArg Int32.toInt ea11_9
          refine ih4 g m_ ?_ ?_ ?_
          · have s10_ := m_.num
            have n1_ := rgI a11_9
            have n2_ := rgI v4_3
            have n3_ := rgI (qI U4 44 7)
            have n4_ := rgI r3_1
            have n5_ := rgI a10_8
            have n7_ := rgI v4_2
            have n8_ := li_2k
            have n8_ := t_addD (a := v4_2) (b := (2 : Int32))
            have n9_ := rgI (v4_2 + (2 : Int32))
            have n11_ := lo_1k
            have n11_ := t_addD (a := v4_3) (b := Int32.ofInt 1)
            have n12_ := rgI (v4_3 + Int32.ofInt 1)
            omega
          · have s11_ := m_.num
            have n1_ := rgI (qI S7_5 44 7)
            have n2_ := rgI v4_3
            have n3_ := rgI (qI U4 44 7)
            have n4_ := rgI r3_1
            have n5_ := rgI a10_8
            have n7_ := rgI v4_2
            have n8_ := li_2k
            have n8_ := t_addD (a := v4_2) (b := (2 : Int32))
            have n9_ := rgI (v4_2 + (2 : Int32))
            have n10_ := rgI a11_9
            have n12_ := lo_1k
            have n12_ := t_addD (a := v4_3) (b := Int32.ofInt 1)
            have n13_ := rgI (v4_3 + Int32.ofInt 1)
            omega
          · have s12_ := m_.num
            have n1_ := rgI a11_9
            have n2_ := rgI v4_3
            have n3_ := rgI (qI U4 44 7)
            have n4_ := rgI r3_1
            have n5_ := rgI a10_8
            have n7_ := rgI v4_2
            have n8_ := li_2k
            have n8_ := t_addD (a := v4_2) (b := (2 : Int32))
            have n9_ := rgI (v4_2 + (2 : Int32))
            have n11_ := lo_1k
            have n11_ := t_addD (a := v4_3) (b := Int32.ofInt 1)
            have n12_ := rgI (v4_3 + Int32.ofInt 1)
            omega
        · unfold w_X5_passArguments_J59
          intro y10_
          intro a10_13 ea10_13 
          have ga10_13 := congrArg Int32.toInt ea10_13
          intro a11_14 ea11_14 
          have ga11_14 := congrArg Int32.toInt ea11_14
          refine ih4 g m_ ?_ ?_ ?_
          · have s15_ := m_.num
            have n1_ := rgI a11_14
            have n2_ := rgI v4_3
            have n3_ := rgI (qI U4 44 7)
            have n4_ := rgI r3_1
            have n5_ := rgI a10_13
            have n7_ := rgI v4_2
            have n8_ := li_1k
            have n8_ := t_addD (a := v4_2) (b := (1 : Int32))
            have n9_ := rgI (v4_2 + (1 : Int32))
            have n11_ := lo_1k
            have n11_ := t_addD (a := v4_3) (b := Int32.ofInt 1)
            have n12_ := rgI (v4_3 + Int32.ofInt 1)
            omega
          · have s16_ := m_.num
            have n1_ := rgI (qI S7_5 44 7)
            have n2_ := rgI v4_3
            have n3_ := rgI (qI U4 44 7)
            have n4_ := rgI r3_1
            have n5_ := rgI a10_13
            have n7_ := rgI v4_2
            have n8_ := li_1k
            have n8_ := t_addD (a := v4_2) (b := (1 : Int32))
            have n9_ := rgI (v4_2 + (1 : Int32))
            have n10_ := rgI a11_14
            have n12_ := lo_1k
            have n12_ := t_addD (a := v4_3) (b := Int32.ofInt 1)
            have n13_ := rgI (v4_3 + Int32.ofInt 1)
            omega
          · have s17_ := m_.num
            have n1_ := rgI a11_14
            have n2_ := rgI v4_3
            have n3_ := rgI (qI U4 44 7)
            have n4_ := rgI r3_1
            have n5_ := rgI a10_13
            have n7_ := rgI v4_2
            have n8_ := li_1k
            have n8_ := t_addD (a := v4_2) (b := (1 : Int32))
            have n9_ := rgI (v4_2 + (1 : Int32))
            have n11_ := lo_1k
            have n11_ := t_addD (a := v4_3) (b := Int32.ofInt 1)
            have n12_ := rgI (v4_3 + Int32.ofInt 1)
            omega
      · refine ⟨?_, ?_⟩
        · have s18_ := m_.num
          have n1_ := rgI v4_3
          have n2_ := rgI (qI U4 44 7)
          have n3_ := rgI r3_1
          omega
        unfold w_X5_passArguments_J44
        intro y11_
        refine ⟨_, frX5_setLocal y11_ (sfX5_setLocal y11_ ), ?_⟩
        intro S7_19 q12_ y13_ y14_
        have t20_ : (qI S7_19 44 7).toInt = (qI S4_1 44 7).toInt := congrArg Int32.toInt (q12_.2.kI (j := 7) (y11_.2.1 _ finC_29).2.1 (by decide) (by decide))
        have gO_ := g
        have g : ShC B S7_19 := ShC.ca y11_ g q12_.2 y14_ y13_ rfl rfl
        have m_ : McIk S7_19 := McIk.frg y11_ gO_ m_ q12_.2 rfl rfl rfl
        refine ⟨fun c21_ => ?_, fun c21_ => ?_⟩
        · unfold w_X5_passArguments_J59
          intro y15_
          intro a10_22 ea10_22 
          have ga10_22 := congrArg Int32.toInt ea10_22
          intro a11_23 ea11_23 
          have ga11_23 := congrArg Int32.toInt ea11_23
          refine ih4 g m_ ?_ ?_ ?_
          · have s24_ := m_.num
            have n1_ := rgI a11_23
            have n2_ := rgI v4_3
            have n3_ := rgI (qI U4 44 7)
            have n4_ := rgI r3_1
            have n5_ := rgI a10_22
            have n7_ := rgI v4_2
            have n8_ := li_2k
            have n8_ := t_addD (a := v4_2) (b := (2 : Int32))
            have n9_ := rgI (v4_2 + (2 : Int32))
            have n11_ := lo_1k
            have n11_ := t_addD (a := v4_3) (b := Int32.ofInt 1)
            have n12_ := rgI (v4_3 + Int32.ofInt 1)
            omega
          · have s25_ := m_.num
            have n1_ := rgI (qI S7_19 44 7)
            have n2_ := rgI v4_3
            have n3_ := rgI (qI U4 44 7)
            have n4_ := rgI r3_1
            have n5_ := rgI a10_22
            have n7_ := rgI v4_2
            have n8_ := li_2k
            have n8_ := t_addD (a := v4_2) (b := (2 : Int32))
            have n9_ := rgI (v4_2 + (2 : Int32))
            have n10_ := rgI a11_23
            have n12_ := lo_1k
            have n12_ := t_addD (a := v4_3) (b := Int32.ofInt 1)
            have n13_ := rgI (v4_3 + Int32.ofInt 1)
            omega
          · have s26_ := m_.num
            have n1_ := rgI a11_23
            have n2_ := rgI v4_3
            have n3_ := rgI (qI U4 44 7)
            have n4_ := rgI r3_1
            have n5_ := rgI a10_22
            have n7_ := rgI v4_2
            have n8_ := li_2k
            have n8_ := t_addD (a := v4_2) (b := (2 : Int32))
            have n9_ := rgI (v4_2 + (2 : Int32))
            have n11_ := lo_1k
            have n11_ := t_addD (a := v4_3) (b := Int32.ofInt 1)
            have n12_ := rgI (v4_3 + Int32.ofInt 1)
            omega
        · unfold w_X5_passArguments_J59
          intro y16_
          intro a10_27 ea10_27 
          have ga10_27 := congrArg Int32.toInt ea10_27
          intro a11_28 ea11_28 
          have ga11_28 := congrArg Int32.toInt ea11_28
          refine ih4 g m_ ?_ ?_ ?_
          · have s29_ := m_.num
            have n1_ := rgI a11_28
            have n2_ := rgI v4_3
            have n3_ := rgI (qI U4 44 7)
            have n4_ := rgI r3_1
            have n5_ := rgI a10_27
            have n7_ := rgI v4_2
            have n8_ := li_1k
            have n8_ := t_addD (a := v4_2) (b := (1 : Int32))
            have n9_ := rgI (v4_2 + (1 : Int32))
            have n11_ := lo_1k
            have n11_ := t_addD (a := v4_3) (b := Int32.ofInt 1)
            have n12_ := rgI (v4_3 + Int32.ofInt 1)
            omega
          · have s30_ := m_.num
            have n1_ := rgI (qI S7_19 44 7)
            have n2_ := rgI v4_3
            have n3_ := rgI (qI U4 44 7)
            have n4_ := rgI r3_1
            have n5_ := rgI a10_27
            have n7_ := rgI v4_2
            have n8_ := li_1k
            have n8_ := t_addD (a := v4_2) (b := (1 : Int32))
            have n9_ := rgI (v4_2 + (1 : Int32))
            have n10_ := rgI a11_28
            have n12_ := lo_1k
            have n12_ := t_addD (a := v4_3) (b := Int32.ofInt 1)
            have n13_ := rgI (v4_3 + Int32.ofInt 1)
            omega
          · have s31_ := m_.num
            have n1_ := rgI a11_28
            have n2_ := rgI v4_3
            have n3_ := rgI (qI U4 44 7)
            have n4_ := rgI r3_1
            have n5_ := rgI a10_27
            have n7_ := rgI v4_2
            have n8_ := li_1k
            have n8_ := t_addD (a := v4_2) (b := (1 : Int32))
            have n9_ := rgI (v4_2 + (1 : Int32))
            have n11_ := lo_1k
            have n11_ := t_addD (a := v4_3) (b := Int32.ofInt 1)
            have n12_ := rgI (v4_3 + Int32.ofInt 1)
            omega
set_option maxRecDepth 100000 in
theorem sgX5_passArguments {B : Nat × Nat} {S : MS} {x1 : Int32} (hw : wfC S) (g : ShC B S) (m_ : McIk S) (a0_ : (qI S 44 7).toInt ≤ 8) : wX5_passArguments S x1 (fun u => ShC B u ∧ McIk u ∧ (True)) := by
  unfold wX5_passArguments
  refine ⟨(2147483648 - (0 : Int32).toInt).toNat + 1, ?_⟩
  refine sg_X5_passArguments_L4  _ g m_ ?_ ?_ ?_
  · have s32_ := m_.num
    have n1_ := li_0k
    have n2_ := rgI (qI S 44 7)
    omega
  · have s33_ := m_.num
    have n1_ := rgI (qI S 44 7)
    omega
  · have s34_ := m_.num
    have n1_ := li_0k
    have n2_ := rgI (qI S 44 7)
    omega
set_option maxRecDepth 100000 in
theorem sg_X5_handlerOf_L2 {B : Nat × Nat} : ∀ (n : Nat) {U2 : MS} {v2_1 : Int32} {v2_2 : Int32}, ShC B U2 → McIk U2 → 0 ≤ v2_2.toInt → 2147483648 - v2_2.toInt < n → w_X5_handlerOf_L2 (fun _ u => ShC B u ∧ McIk u ∧ (True)) n U2 v2_1 v2_2 := by
  intro n
  induction n with
  | zero => intro U2 v2_1 v2_2 g m_ j0_ hm_; exfalso; have := rgI v2_1; have := rgI v2_2; omega
  | succ n ih2 =>
    intro U2 v2_1 v2_2 g m_ j0_ hm_
    unfold w_X5_handlerOf_L2
    intro y1_
    refine ⟨?_, ?_⟩
    · exact m_.p12
    refine ⟨fun c0_ => ?_, fun c0_ => ?_⟩
    · exact ⟨g, m_, trivial⟩
    · refine ⟨?_, ?_⟩
      · exact m_.p12
      refine ⟨?_, ?_⟩
      · exact (dd_X8_catchHas y1_ g (y1_.ref m_.p12 (y1_.2.1 _ finC_29).2.1))
      refine ⟨fun c1_ => ?_, fun c1_ => ?_⟩
      · unfold w_X5_handlerOf_J64
        intro y2_
        intro a9_2 ea9_2 
        have ga9_2 := congrArg Int32.toInt ea9_2
        refine ih2 g m_ ?_ ?_
        · have s3_ := (g.row (y2_.ref m_.p12 (y2_.2.1 _ finC_29).2.1)).2
          have s4_ := m_.num
          have n1_ := rgI a9_2
          have n2_ := rgI v2_2
          have n3_ := rgI (qI U2 (qO U2 44 12) 9)
          have n4_ := rgI (fX8_catchHas U2 (qO U2 44 12) v2_2 (qI U2 44 13))
          have n6_ := lo_1k
          have n6_ := t_addD (a := v2_2) (b := Int32.ofInt 1)
          have n7_ := rgI (v2_2 + Int32.ofInt 1)
          omega
        · have s5_ := (g.row (y2_.ref m_.p12 (y2_.2.1 _ finC_29).2.1)).2
          have s6_ := m_.num
          have n1_ := rgI a9_2
          have n2_ := rgI v2_2
          have n3_ := rgI (qI U2 (qO U2 44 12) 9)
          have n4_ := rgI (fX8_catchHas U2 (qO U2 44 12) v2_2 (qI U2 44 13))
          have n6_ := lo_1k
          have n6_ := t_addD (a := v2_2) (b := Int32.ofInt 1)
          have n7_ := rgI (v2_2 + Int32.ofInt 1)
          omega
      · refine ⟨?_, ?_⟩
        · exact m_.p12
        refine ⟨?_, ?_⟩
        · exact (g.row (y1_.ref m_.p12 (y1_.2.1 _ finC_29).2.1)).1.2.2.2.2.2.2
        refine ⟨?_, ?_⟩
        · have s7_ := (g.row (y1_.ref m_.p12 (y1_.2.1 _ finC_29).2.1)).2
          have s8_ := m_.num
          have n1_ := rgI v2_2
          have n2_ := rgI (qI U2 (qO U2 44 12) 9)
          have n3_ := rgI (fX8_catchHas U2 (qO U2 44 12) v2_2 (qI U2 44 13))
          omega
        refine ⟨fun c9_ => ?_, fun c9_ => ?_⟩
        · unfold w_X5_handlerOf_J54
          intro y3_
          refine ⟨?_, ?_⟩
          · exact m_.p12
          refine ⟨?_, ?_⟩
          · exact (g.row (y3_.ref m_.p12 (y3_.2.1 _ finC_29).2.1)).1.2.2.2.2.2.1
          refine ⟨?_, ?_⟩
          · have s10_ := (g.row (y3_.ref m_.p12 (y3_.2.1 _ finC_29).2.1)).2
            have s11_ := m_.num
            have n1_ := rgI v2_2
            have n2_ := rgI (qI U2 (qO U2 44 12) 9)
            have n3_ := rgI (fX8_catchHas U2 (qO U2 44 12) v2_2 (qI U2 44 13))
            have n4_ := rgI (qI U2 (qO U2 (qO U2 44 12) 8) v2_2.toInt.toNat)
            have n5_ := rgI v2_1
            omega
          exact ⟨g, m_, trivial⟩
        · refine ⟨?_, ?_⟩
          · exact m_.p12
          refine ⟨?_, ?_⟩
          · exact (g.row (y1_.ref m_.p12 (y1_.2.1 _ finC_29).2.1)).1.2.2.2.2.2.2
          refine ⟨?_, ?_⟩
          · have s12_ := (g.row (y1_.ref m_.p12 (y1_.2.1 _ finC_29).2.1)).2
            have s13_ := m_.num
            have n1_ := rgI v2_2
            have n2_ := rgI (qI U2 (qO U2 44 12) 9)
            have n3_ := rgI (fX8_catchHas U2 (qO U2 44 12) v2_2 (qI U2 44 13))
            have n4_ := rgI (qI U2 (qO U2 (qO U2 44 12) 8) v2_2.toInt.toNat)
            have n5_ := rgI v2_1
            omega
          refine ⟨fun c14_ => ?_, fun c14_ => ?_⟩
          · unfold w_X5_handlerOf_J54
            intro y4_
            refine ⟨?_, ?_⟩
            · exact m_.p12
            refine ⟨?_, ?_⟩
            · exact (g.row (y4_.ref m_.p12 (y4_.2.1 _ finC_29).2.1)).1.2.2.2.2.2.1
            refine ⟨?_, ?_⟩
            · have s15_ := (g.row (y4_.ref m_.p12 (y4_.2.1 _ finC_29).2.1)).2
              have s16_ := m_.num
              have n1_ := rgI v2_2
              have n2_ := rgI (qI U2 (qO U2 44 12) 9)
              have n3_ := rgI (fX8_catchHas U2 (qO U2 44 12) v2_2 (qI U2 44 13))
              have n4_ := rgI (qI U2 (qO U2 (qO U2 44 12) 8) v2_2.toInt.toNat)
              have n5_ := rgI v2_1
              omega
            exact ⟨g, m_, trivial⟩
          · unfold w_X5_handlerOf_J64
            intro y5_
            intro a9_17 ea9_17 
            have ga9_17 := congrArg Int32.toInt ea9_17
            refine ih2 g m_ ?_ ?_
            · have s18_ := (g.row (y5_.ref m_.p12 (y5_.2.1 _ finC_29).2.1)).2
              have s19_ := m_.num
              have n1_ := rgI a9_17
              have n2_ := rgI v2_2
              have n3_ := rgI (qI U2 (qO U2 44 12) 9)
              have n4_ := rgI (fX8_catchHas U2 (qO U2 44 12) v2_2 (qI U2 44 13))
              have n5_ := rgI (qI U2 (qO U2 (qO U2 44 12) 8) v2_2.toInt.toNat)
              have n6_ := rgI v2_1
              have n8_ := lo_1k
              have n8_ := t_addD (a := v2_2) (b := Int32.ofInt 1)
              have n9_ := rgI (v2_2 + Int32.ofInt 1)
              omega
            · have s20_ := (g.row (y5_.ref m_.p12 (y5_.2.1 _ finC_29).2.1)).2
              have s21_ := m_.num
              have n1_ := rgI a9_17
              have n2_ := rgI v2_2
              have n3_ := rgI (qI U2 (qO U2 44 12) 9)
              have n4_ := rgI (fX8_catchHas U2 (qO U2 44 12) v2_2 (qI U2 44 13))
              have n5_ := rgI (qI U2 (qO U2 (qO U2 44 12) 8) v2_2.toInt.toNat)
              have n6_ := rgI v2_1
              have n8_ := lo_1k
              have n8_ := t_addD (a := v2_2) (b := Int32.ofInt 1)
              have n9_ := rgI (v2_2 + Int32.ofInt 1)
              omega
set_option maxRecDepth 100000 in
theorem sgX5_handlerOf {B : Nat × Nat} {S : MS} {x1 : Int32} (hw : wfC S) (g : ShC B S) (m_ : McIk S) : wX5_handlerOf S x1 (fun _ u => ShC B u ∧ McIk u ∧ (True)) := by
  unfold wX5_handlerOf
  refine ⟨(2147483648 - (0 : Int32).toInt).toNat + 1, ?_⟩
  refine sg_X5_handlerOf_L2  _ g m_ ?_ ?_
  · have s22_ := (g.row (hw.ref m_.p12 (hw.2.1 _ finC_29).2.1)).2
    have s23_ := m_.num
    have n1_ := li_0k
    omega
  · have s24_ := (g.row (hw.ref m_.p12 (hw.2.1 _ finC_29).2.1)).2
    have s25_ := m_.num
    have n1_ := li_0k
    omega
set_option maxRecDepth 100000 in
theorem sg_X5_switchChoice_L80 {B : Nat × Nat} : ∀ (n : Nat) {U80 : MS} {v80_2 : Int32} {v80_3 : Int32} {v80_4 : Int32} {v80_5 : Int32}, ShC B U80 → McIk U80 → 0 ≤ v80_5.toInt → v80_4.toInt < 2147483647 → 2147483648 - v80_5.toInt < n → w_X5_switchChoice_L80 (fun _ u => ShC B u ∧ McIk u ∧ (True)) n U80 v80_2 v80_3 v80_4 v80_5 := by
  intro n
  induction n with
  | zero => intro U80 v80_2 v80_3 v80_4 v80_5 g m_ j0_ j1_ hm_; exfalso; have := rgI v80_2; have := rgI v80_3; have := rgI v80_4; have := rgI v80_5; omega
  | succ n ih80 =>
    intro U80 v80_2 v80_3 v80_4 v80_5 g m_ j0_ j1_ hm_
    unfold w_X5_switchChoice_L80
    intro y1_
    refine ⟨fun c0_ => ?_, fun c0_ => ?_⟩
    · exact ⟨g, m_, trivial⟩
    · refine ⟨?_, ?_⟩
      · exact m_.p12
      refine ⟨?_, ?_⟩
      · exact (dd_X8_tableAt y1_ g (y1_.ref m_.p12 (y1_.2.1 _ finC_29).2.1))
      refine ⟨fun c1_ => ?_, fun c1_ => ?_⟩
      · exact ⟨g, m_, trivial⟩
      · intro a25_2 ea25_2 
        have ga25_2 := congrArg Int32.toInt ea25_2
        refine ih80 g m_ ?_ ?_ ?_
        · have s3_ := (g.row (y1_.ref m_.p12 (y1_.2.1 _ finC_29).2.1)).2
          have s4_ := m_.num
          have n1_ := rgI a25_2
          have n2_ := rgI v80_5
          have n3_ := rgI v80_4
          have n4_ := rgI (fX8_tableAt U80 (qO U80 44 12) (((v80_3 + (2 : Int32)) + v80_4) + v80_5))
          have n5_ := rgI v80_2
          have n7_ := lo_1k
          have n7_ := t_addD (a := v80_5) (b := Int32.ofInt 1)
          have n8_ := rgI (v80_5 + Int32.ofInt 1)
          omega
        · have s5_ := (g.row (y1_.ref m_.p12 (y1_.2.1 _ finC_29).2.1)).2
          have s6_ := m_.num
          have n1_ := rgI v80_4
          have n2_ := rgI v80_5
          have n3_ := rgI (fX8_tableAt U80 (qO U80 44 12) (((v80_3 + (2 : Int32)) + v80_4) + v80_5))
          have n4_ := rgI v80_2
          have n5_ := rgI a25_2
          have n7_ := lo_1k
          have n7_ := t_addD (a := v80_5) (b := Int32.ofInt 1)
          have n8_ := rgI (v80_5 + Int32.ofInt 1)
          omega
        · have s7_ := (g.row (y1_.ref m_.p12 (y1_.2.1 _ finC_29).2.1)).2
          have s8_ := m_.num
          have n1_ := rgI a25_2
          have n2_ := rgI v80_5
          have n3_ := rgI v80_4
          have n4_ := rgI (fX8_tableAt U80 (qO U80 44 12) (((v80_3 + (2 : Int32)) + v80_4) + v80_5))
          have n5_ := rgI v80_2
          have n7_ := lo_1k
          have n7_ := t_addD (a := v80_5) (b := Int32.ofInt 1)
          have n8_ := rgI (v80_5 + Int32.ofInt 1)
          omega
set_option maxRecDepth 100000 in
theorem sgX5_switchChoice {B : Nat × Nat} {S : MS} {x1 : Int32} {x2 : Int32} (hw : wfC S) (g : ShC B S) (m_ : McIk S) : wX5_switchChoice S x1 x2 (fun _ u => ShC B u ∧ McIk u ∧ (True)) := by
  unfold wX5_switchChoice
  refine ⟨?_, ?_⟩
  · exact m_.p12
  refine ⟨?_, ?_⟩
  · exact (dd_X8_argAt hw g (hw.ref m_.p12 (hw.2.1 _ finC_29).2.1))
  intro a6_9 ea6_9 
  have ga6_9 := congrArg Int32.toInt ea6_9
  refine ⟨?_, ?_⟩
  · exact m_.p12
  refine ⟨?_, ?_⟩
  · exact (dd_X8_targetCount hw g (hw.ref m_.p12 (hw.2.1 _ finC_29).2.1))
  intro a13_10 ea13_10 
  have ga13_10 := congrArg Int32.toInt ea13_10
  refine ⟨fun c11_ => ?_, fun c11_ => ?_⟩
  · refine ⟨?_, ?_⟩
    · exact m_.p12
    refine ⟨?_, ?_⟩
    · exact (dd_X8_tableAt hw g (hw.ref m_.p12 (hw.2.1 _ finC_29).2.1))
    intro a33_12 ea33_12 
    refine ⟨fun c13_ => ?_, fun c13_ => ?_⟩
    · unfold w_X5_switchChoice_J67
      intro y2_
      exact ⟨g, m_, trivial⟩
    · refine ⟨fun c14_ => ?_, fun c14_ => ?_⟩
      · exact ⟨g, m_, trivial⟩
      · unfold w_X5_switchChoice_J67
        intro y3_
        exact ⟨g, m_, trivial⟩
  · refine ⟨(2147483648 - (1 : Int32).toInt).toNat + 1, ?_⟩
    refine sg_X5_switchChoice_L80  _ g m_ ?_ ?_ ?_
    · have s15_ := (g.row (hw.ref m_.p12 (hw.2.1 _ finC_29).2.1)).2
      have s16_ := m_.num
      have s17_ := m_.tc (x := (qI S 44 13))
      have n1_ := li_1k
      have n2_ := rgI a6_9
      have n3_ := rgI ((fX8_argAt S (qO S 44 12) (qI S 44 13)).toInt32)
      have n4_ := rgI a13_10
      have n6_ := rgI (fX8_targetCount S (qO S 44 12) (qI S 44 13))
      have n6_ := t_subD (a := (fX8_targetCount S (qO S 44 12) (qI S 44 13))) (b := (1 : Int32))
      have n7_ := rgI ((fX8_targetCount S (qO S 44 12) (qI S 44 13)) - (1 : Int32))
      have n8_ := rgI x1
      omega
    · have s18_ := (g.row (hw.ref m_.p12 (hw.2.1 _ finC_29).2.1)).2
      have s19_ := m_.num
      have s20_ := m_.tc (x := (qI S 44 13))
      have n1_ := rgI a13_10
      have n2_ := rgI a6_9
      have n3_ := rgI ((fX8_argAt S (qO S 44 12) (qI S 44 13)).toInt32)
      have n5_ := rgI (fX8_targetCount S (qO S 44 12) (qI S 44 13))
      have n6_ := li_1k
      have n6_ := t_subD (a := (fX8_targetCount S (qO S 44 12) (qI S 44 13))) (b := (1 : Int32))
      have n7_ := rgI ((fX8_targetCount S (qO S 44 12) (qI S 44 13)) - (1 : Int32))
      have n8_ := rgI x1
      omega
    · have s21_ := (g.row (hw.ref m_.p12 (hw.2.1 _ finC_29).2.1)).2
      have s22_ := m_.num
      have s23_ := m_.tc (x := (qI S 44 13))
      have n1_ := li_1k
      have n2_ := rgI a6_9
      have n3_ := rgI ((fX8_argAt S (qO S 44 12) (qI S 44 13)).toInt32)
      have n4_ := rgI a13_10
      have n6_ := rgI (fX8_targetCount S (qO S 44 12) (qI S 44 13))
      have n6_ := t_subD (a := (fX8_targetCount S (qO S 44 12) (qI S 44 13))) (b := (1 : Int32))
      have n7_ := rgI ((fX8_targetCount S (qO S 44 12) (qI S 44 13)) - (1 : Int32))
      have n8_ := rgI x1
      omega
set_option maxRecDepth 100000 in
theorem sgX5_move {B : Nat × Nat} {S : MS} {x1 : Int32} (hw : wfC S) (g : ShC B S) (m_ : McIk S) : wX5_move S x1 (fun u => ShC B u ∧ McIk u ∧ (True)) := by
  unfold wX5_move
  refine ⟨?_, ?_⟩
  · exact m_.p12
  refine ⟨?_, ?_⟩
  · exact (dd_X8_localOf hw g (hw.ref m_.p12 (hw.2.1 _ finC_29).2.1))
  intro a6_0 ea6_0 
  have ga6_0 := congrArg Int32.toInt ea6_0
  refine ⟨fun c1_ => ?_, fun c1_ => ?_⟩
  · unfold w_X5_move_J29
    intro y1_
    refine ⟨?_, ?_⟩
    · exact dd_X6_gives
    intro a10_2 ea10_2 
    have ga10_2 := congrArg Int32.toInt ea10_2
    refine ⟨?_, ?_⟩
    · exact m_.p12
    refine ⟨?_, ?_⟩
    · exact (dd_X8_argAt y1_ g (y1_.ref m_.p12 (y1_.2.1 _ finC_29).2.1))
    intro a16_3 ea16_3 
    refine ⟨_, frX5_push_ y1_ (sfX5_push_ y1_ ), ?_⟩
    intro S18_4 q2_ y3_ y4_
    have o5_ : qO S18_4 44 12 = qO S 44 12 := qO_eq (q2_.2.kO (y1_.2.1 _ finC_29).2.1 (by decide) (by decide))
    have t6_ : (qI S18_4 (qO S18_4 44 12) 4).toInt = (qI S (qO S 44 12) 4).toInt := by rw [o5_]; exact congrArg Int32.toInt (q2_.2.kI (j := 4) (y1_.ref m_.p12 (y1_.2.1 _ finC_29).2.1) (by decide) (by decide))
    have t7_ : (qI S18_4 (qO S18_4 44 12) 9).toInt = (qI S (qO S 44 12) 9).toInt := by rw [o5_]; exact congrArg Int32.toInt (q2_.2.kI (j := 9) (y1_.ref m_.p12 (y1_.2.1 _ finC_29).2.1) (by decide) (by decide))
    have t8_ : (qI S18_4 (qO S18_4 44 12) 2).toInt = (qI S (qO S 44 12) 2).toInt := by rw [o5_]; exact congrArg Int32.toInt (q2_.2.kI (j := 2) (y1_.ref m_.p12 (y1_.2.1 _ finC_29).2.1) (by decide) (by decide))
    have t9_ : (qN S18_4 (qO S18_4 (qO S18_4 44 12) 1) : Int) = (qN S (qO S (qO S 44 12) 1) : Int) := by rw [o5_]; exact q2_.2.kL (j := 1) y1_ (y1_.ref m_.p12 (y1_.2.1 _ finC_29).2.1) (g.row (y1_.ref m_.p12 (y1_.2.1 _ finC_29).2.1)).1.2.1 (by decide) (by decide)
    have t10_ : (qN S18_4 (qO S18_4 (qO S18_4 44 12) 8) : Int) = (qN S (qO S (qO S 44 12) 8) : Int) := by rw [o5_]; exact q2_.2.kL (j := 8) y1_ (y1_.ref m_.p12 (y1_.2.1 _ finC_29).2.1) (g.row (y1_.ref m_.p12 (y1_.2.1 _ finC_29).2.1)).1.2.2.2.2.2.2 (by decide) (by decide)
    have t11_ : (qN S18_4 (qO S18_4 (qO S18_4 44 12) 7) : Int) = (qN S (qO S (qO S 44 12) 7) : Int) := by rw [o5_]; exact q2_.2.kL (j := 7) y1_ (y1_.ref m_.p12 (y1_.2.1 _ finC_29).2.1) (g.row (y1_.ref m_.p12 (y1_.2.1 _ finC_29).2.1)).1.2.2.2.2.2.1 (by decide) (by decide)
    have t12_ : (qN S18_4 (qO S18_4 (qO S18_4 44 12) 0) : Int) = (qN S (qO S (qO S 44 12) 0) : Int) := by rw [o5_]; exact q2_.2.kL (j := 0) y1_ (y1_.ref m_.p12 (y1_.2.1 _ finC_29).2.1) (g.row (y1_.ref m_.p12 (y1_.2.1 _ finC_29).2.1)).1.1 (by decide) (by decide)
    have t13_ : (qN S18_4 (qO S18_4 (qO S18_4 44 12) 6) : Int) = (qN S (qO S (qO S 44 12) 6) : Int) := by rw [o5_]; exact q2_.2.kL (j := 6) y1_ (y1_.ref m_.p12 (y1_.2.1 _ finC_29).2.1) (g.row (y1_.ref m_.p12 (y1_.2.1 _ finC_29).2.1)).1.2.2.2.2.1 (by decide) (by decide)
    have t14_ : (qN S18_4 (qO S18_4 (qO S18_4 44 12) 3) : Int) = (qN S (qO S (qO S 44 12) 3) : Int) := by rw [o5_]; exact q2_.2.kL (j := 3) y1_ (y1_.ref m_.p12 (y1_.2.1 _ finC_29).2.1) (g.row (y1_.ref m_.p12 (y1_.2.1 _ finC_29).2.1)).1.2.2.1 (by decide) (by decide)
    have t15_ : (qN S18_4 (qO S18_4 (qO S18_4 44 12) 5) : Int) = (qN S (qO S (qO S 44 12) 5) : Int) := by rw [o5_]; exact q2_.2.kL (j := 5) y1_ (y1_.ref m_.p12 (y1_.2.1 _ finC_29).2.1) (g.row (y1_.ref m_.p12 (y1_.2.1 _ finC_29).2.1)).1.2.2.2.1 (by decide) (by decide)
    have t16_ : (qI S18_4 44 13).toInt = (qI S 44 13).toInt := congrArg Int32.toInt (q2_.2.kI (j := 13) (y1_.2.1 _ finC_29).2.1 (by decide) (by decide))
    have gO_ := g
    have g : ShC B S18_4 := ShC.ca y1_ g q2_.2 y4_ y3_ rfl rfl
    have m_ : McIk S18_4 := McIk.frg y1_ gO_ m_ q2_.2 rfl rfl rfl
    exact ⟨g, m_, trivial⟩
  · refine ⟨fun c17_ => ?_, fun c17_ => ?_⟩
    · unfold w_X5_move_J29
      intro y5_
      refine ⟨?_, ?_⟩
      · exact dd_X6_gives
      intro a10_18 ea10_18 
      have ga10_18 := congrArg Int32.toInt ea10_18
      refine ⟨?_, ?_⟩
      · exact m_.p12
      refine ⟨?_, ?_⟩
      · exact (dd_X8_argAt y5_ g (y5_.ref m_.p12 (y5_.2.1 _ finC_29).2.1))
      intro a16_19 ea16_19 
      refine ⟨_, frX5_push_ y5_ (sfX5_push_ y5_ ), ?_⟩
      intro S18_20 q6_ y7_ y8_
      have o21_ : qO S18_20 44 12 = qO S 44 12 := qO_eq (q6_.2.kO (y5_.2.1 _ finC_29).2.1 (by decide) (by decide))
      have t22_ : (qI S18_20 (qO S18_20 44 12) 4).toInt = (qI S (qO S 44 12) 4).toInt := by rw [o21_]; exact congrArg Int32.toInt (q6_.2.kI (j := 4) (y5_.ref m_.p12 (y5_.2.1 _ finC_29).2.1) (by decide) (by decide))
      have t23_ : (qI S18_20 (qO S18_20 44 12) 9).toInt = (qI S (qO S 44 12) 9).toInt := by rw [o21_]; exact congrArg Int32.toInt (q6_.2.kI (j := 9) (y5_.ref m_.p12 (y5_.2.1 _ finC_29).2.1) (by decide) (by decide))
      have t24_ : (qI S18_20 (qO S18_20 44 12) 2).toInt = (qI S (qO S 44 12) 2).toInt := by rw [o21_]; exact congrArg Int32.toInt (q6_.2.kI (j := 2) (y5_.ref m_.p12 (y5_.2.1 _ finC_29).2.1) (by decide) (by decide))
      have t25_ : (qN S18_20 (qO S18_20 (qO S18_20 44 12) 1) : Int) = (qN S (qO S (qO S 44 12) 1) : Int) := by rw [o21_]; exact q6_.2.kL (j := 1) y5_ (y5_.ref m_.p12 (y5_.2.1 _ finC_29).2.1) (g.row (y5_.ref m_.p12 (y5_.2.1 _ finC_29).2.1)).1.2.1 (by decide) (by decide)
      have t26_ : (qN S18_20 (qO S18_20 (qO S18_20 44 12) 8) : Int) = (qN S (qO S (qO S 44 12) 8) : Int) := by rw [o21_]; exact q6_.2.kL (j := 8) y5_ (y5_.ref m_.p12 (y5_.2.1 _ finC_29).2.1) (g.row (y5_.ref m_.p12 (y5_.2.1 _ finC_29).2.1)).1.2.2.2.2.2.2 (by decide) (by decide)
      have t27_ : (qN S18_20 (qO S18_20 (qO S18_20 44 12) 7) : Int) = (qN S (qO S (qO S 44 12) 7) : Int) := by rw [o21_]; exact q6_.2.kL (j := 7) y5_ (y5_.ref m_.p12 (y5_.2.1 _ finC_29).2.1) (g.row (y5_.ref m_.p12 (y5_.2.1 _ finC_29).2.1)).1.2.2.2.2.2.1 (by decide) (by decide)
      have t28_ : (qN S18_20 (qO S18_20 (qO S18_20 44 12) 0) : Int) = (qN S (qO S (qO S 44 12) 0) : Int) := by rw [o21_]; exact q6_.2.kL (j := 0) y5_ (y5_.ref m_.p12 (y5_.2.1 _ finC_29).2.1) (g.row (y5_.ref m_.p12 (y5_.2.1 _ finC_29).2.1)).1.1 (by decide) (by decide)
      have t29_ : (qN S18_20 (qO S18_20 (qO S18_20 44 12) 6) : Int) = (qN S (qO S (qO S 44 12) 6) : Int) := by rw [o21_]; exact q6_.2.kL (j := 6) y5_ (y5_.ref m_.p12 (y5_.2.1 _ finC_29).2.1) (g.row (y5_.ref m_.p12 (y5_.2.1 _ finC_29).2.1)).1.2.2.2.2.1 (by decide) (by decide)
      have t30_ : (qN S18_20 (qO S18_20 (qO S18_20 44 12) 3) : Int) = (qN S (qO S (qO S 44 12) 3) : Int) := by rw [o21_]; exact q6_.2.kL (j := 3) y5_ (y5_.ref m_.p12 (y5_.2.1 _ finC_29).2.1) (g.row (y5_.ref m_.p12 (y5_.2.1 _ finC_29).2.1)).1.2.2.1 (by decide) (by decide)
      have t31_ : (qN S18_20 (qO S18_20 (qO S18_20 44 12) 5) : Int) = (qN S (qO S (qO S 44 12) 5) : Int) := by rw [o21_]; exact q6_.2.kL (j := 5) y5_ (y5_.ref m_.p12 (y5_.2.1 _ finC_29).2.1) (g.row (y5_.ref m_.p12 (y5_.2.1 _ finC_29).2.1)).1.2.2.2.1 (by decide) (by decide)
      have t32_ : (qI S18_20 44 13).toInt = (qI S 44 13).toInt := congrArg Int32.toInt (q6_.2.kI (j := 13) (y5_.2.1 _ finC_29).2.1 (by decide) (by decide))
      have gO_ := g
      have g : ShC B S18_20 := ShC.ca y5_ g q6_.2 y8_ y7_ rfl rfl
      have m_ : McIk S18_20 := McIk.frg y5_ gO_ m_ q6_.2 rfl rfl rfl
      exact ⟨g, m_, trivial⟩
    · refine ⟨fun c33_ => ?_, fun c33_ => ?_⟩
      · unfold w_X5_move_J29
        intro y9_
        refine ⟨?_, ?_⟩
        · exact dd_X6_gives
        intro a10_34 ea10_34 
        have ga10_34 := congrArg Int32.toInt ea10_34
        refine ⟨?_, ?_⟩
        · exact m_.p12
        refine ⟨?_, ?_⟩
        · exact (dd_X8_argAt y9_ g (y9_.ref m_.p12 (y9_.2.1 _ finC_29).2.1))
        intro a16_35 ea16_35 
        refine ⟨_, frX5_push_ y9_ (sfX5_push_ y9_ ), ?_⟩
        intro S18_36 q10_ y11_ y12_
        have o37_ : qO S18_36 44 12 = qO S 44 12 := qO_eq (q10_.2.kO (y9_.2.1 _ finC_29).2.1 (by decide) (by decide))
        have t38_ : (qI S18_36 (qO S18_36 44 12) 4).toInt = (qI S (qO S 44 12) 4).toInt := by rw [o37_]; exact congrArg Int32.toInt (q10_.2.kI (j := 4) (y9_.ref m_.p12 (y9_.2.1 _ finC_29).2.1) (by decide) (by decide))
        have t39_ : (qI S18_36 (qO S18_36 44 12) 9).toInt = (qI S (qO S 44 12) 9).toInt := by rw [o37_]; exact congrArg Int32.toInt (q10_.2.kI (j := 9) (y9_.ref m_.p12 (y9_.2.1 _ finC_29).2.1) (by decide) (by decide))
        have t40_ : (qI S18_36 (qO S18_36 44 12) 2).toInt = (qI S (qO S 44 12) 2).toInt := by rw [o37_]; exact congrArg Int32.toInt (q10_.2.kI (j := 2) (y9_.ref m_.p12 (y9_.2.1 _ finC_29).2.1) (by decide) (by decide))
        have t41_ : (qN S18_36 (qO S18_36 (qO S18_36 44 12) 1) : Int) = (qN S (qO S (qO S 44 12) 1) : Int) := by rw [o37_]; exact q10_.2.kL (j := 1) y9_ (y9_.ref m_.p12 (y9_.2.1 _ finC_29).2.1) (g.row (y9_.ref m_.p12 (y9_.2.1 _ finC_29).2.1)).1.2.1 (by decide) (by decide)
        have t42_ : (qN S18_36 (qO S18_36 (qO S18_36 44 12) 8) : Int) = (qN S (qO S (qO S 44 12) 8) : Int) := by rw [o37_]; exact q10_.2.kL (j := 8) y9_ (y9_.ref m_.p12 (y9_.2.1 _ finC_29).2.1) (g.row (y9_.ref m_.p12 (y9_.2.1 _ finC_29).2.1)).1.2.2.2.2.2.2 (by decide) (by decide)
        have t43_ : (qN S18_36 (qO S18_36 (qO S18_36 44 12) 7) : Int) = (qN S (qO S (qO S 44 12) 7) : Int) := by rw [o37_]; exact q10_.2.kL (j := 7) y9_ (y9_.ref m_.p12 (y9_.2.1 _ finC_29).2.1) (g.row (y9_.ref m_.p12 (y9_.2.1 _ finC_29).2.1)).1.2.2.2.2.2.1 (by decide) (by decide)
        have t44_ : (qN S18_36 (qO S18_36 (qO S18_36 44 12) 0) : Int) = (qN S (qO S (qO S 44 12) 0) : Int) := by rw [o37_]; exact q10_.2.kL (j := 0) y9_ (y9_.ref m_.p12 (y9_.2.1 _ finC_29).2.1) (g.row (y9_.ref m_.p12 (y9_.2.1 _ finC_29).2.1)).1.1 (by decide) (by decide)
        have t45_ : (qN S18_36 (qO S18_36 (qO S18_36 44 12) 6) : Int) = (qN S (qO S (qO S 44 12) 6) : Int) := by rw [o37_]; exact q10_.2.kL (j := 6) y9_ (y9_.ref m_.p12 (y9_.2.1 _ finC_29).2.1) (g.row (y9_.ref m_.p12 (y9_.2.1 _ finC_29).2.1)).1.2.2.2.2.1 (by decide) (by decide)
        have t46_ : (qN S18_36 (qO S18_36 (qO S18_36 44 12) 3) : Int) = (qN S (qO S (qO S 44 12) 3) : Int) := by rw [o37_]; exact q10_.2.kL (j := 3) y9_ (y9_.ref m_.p12 (y9_.2.1 _ finC_29).2.1) (g.row (y9_.ref m_.p12 (y9_.2.1 _ finC_29).2.1)).1.2.2.1 (by decide) (by decide)
        have t47_ : (qN S18_36 (qO S18_36 (qO S18_36 44 12) 5) : Int) = (qN S (qO S (qO S 44 12) 5) : Int) := by rw [o37_]; exact q10_.2.kL (j := 5) y9_ (y9_.ref m_.p12 (y9_.2.1 _ finC_29).2.1) (g.row (y9_.ref m_.p12 (y9_.2.1 _ finC_29).2.1)).1.2.2.2.1 (by decide) (by decide)
        have t48_ : (qI S18_36 44 13).toInt = (qI S 44 13).toInt := congrArg Int32.toInt (q10_.2.kI (j := 13) (y9_.2.1 _ finC_29).2.1 (by decide) (by decide))
        have gO_ := g
        have g : ShC B S18_36 := ShC.ca y9_ g q10_.2 y12_ y11_ rfl rfl
        have m_ : McIk S18_36 := McIk.frg y9_ gO_ m_ q10_.2 rfl rfl rfl
        exact ⟨g, m_, trivial⟩
      · refine ⟨?_, ?_⟩
        · exact dd_X6_isLoad
        intro a26_49 ea26_49 
        have ga26_49 := congrArg Int32.toInt ea26_49
        refine ⟨fun c50_ => ?_, fun c50_ => ?_⟩
        · refine ⟨?_, ?_⟩
          · exact dd_X6_isStore
          intro a31_51 ea31_51 
          have ga31_51 := congrArg Int32.toInt ea31_51
          refine ⟨fun c52_ => ?_, fun c52_ => ?_⟩
          · refine ⟨fun c53_ => ?_, fun c53_ => ?_⟩
            · refine ⟨_, frX5_localAt hw (sfX5_localAt hw ), ?_⟩
              intro r38_54 S39_54 q13_ y14_ y15_
              have o55_ : qO S39_54 44 12 = qO S 44 12 := qO_eq (q13_.2.kO (hw.2.1 _ finC_29).2.1 (by decide) (by decide))
              have t56_ : (qI S39_54 (qO S39_54 44 12) 4).toInt = (qI S (qO S 44 12) 4).toInt := by rw [o55_]; exact congrArg Int32.toInt (q13_.2.kI (j := 4) (hw.ref m_.p12 (hw.2.1 _ finC_29).2.1) (by decide) (by decide))
              have t57_ : (qI S39_54 (qO S39_54 44 12) 9).toInt = (qI S (qO S 44 12) 9).toInt := by rw [o55_]; exact congrArg Int32.toInt (q13_.2.kI (j := 9) (hw.ref m_.p12 (hw.2.1 _ finC_29).2.1) (by decide) (by decide))
              have t58_ : (qI S39_54 (qO S39_54 44 12) 2).toInt = (qI S (qO S 44 12) 2).toInt := by rw [o55_]; exact congrArg Int32.toInt (q13_.2.kI (j := 2) (hw.ref m_.p12 (hw.2.1 _ finC_29).2.1) (by decide) (by decide))
              have t59_ : (qN S39_54 (qO S39_54 (qO S39_54 44 12) 1) : Int) = (qN S (qO S (qO S 44 12) 1) : Int) := by rw [o55_]; exact q13_.2.kL (j := 1) hw (hw.ref m_.p12 (hw.2.1 _ finC_29).2.1) (g.row (hw.ref m_.p12 (hw.2.1 _ finC_29).2.1)).1.2.1 (by decide) (by decide)
              have t60_ : (qN S39_54 (qO S39_54 (qO S39_54 44 12) 8) : Int) = (qN S (qO S (qO S 44 12) 8) : Int) := by rw [o55_]; exact q13_.2.kL (j := 8) hw (hw.ref m_.p12 (hw.2.1 _ finC_29).2.1) (g.row (hw.ref m_.p12 (hw.2.1 _ finC_29).2.1)).1.2.2.2.2.2.2 (by decide) (by decide)
              have t61_ : (qN S39_54 (qO S39_54 (qO S39_54 44 12) 7) : Int) = (qN S (qO S (qO S 44 12) 7) : Int) := by rw [o55_]; exact q13_.2.kL (j := 7) hw (hw.ref m_.p12 (hw.2.1 _ finC_29).2.1) (g.row (hw.ref m_.p12 (hw.2.1 _ finC_29).2.1)).1.2.2.2.2.2.1 (by decide) (by decide)
              have t62_ : (qN S39_54 (qO S39_54 (qO S39_54 44 12) 0) : Int) = (qN S (qO S (qO S 44 12) 0) : Int) := by rw [o55_]; exact q13_.2.kL (j := 0) hw (hw.ref m_.p12 (hw.2.1 _ finC_29).2.1) (g.row (hw.ref m_.p12 (hw.2.1 _ finC_29).2.1)).1.1 (by decide) (by decide)
              have t63_ : (qN S39_54 (qO S39_54 (qO S39_54 44 12) 6) : Int) = (qN S (qO S (qO S 44 12) 6) : Int) := by rw [o55_]; exact q13_.2.kL (j := 6) hw (hw.ref m_.p12 (hw.2.1 _ finC_29).2.1) (g.row (hw.ref m_.p12 (hw.2.1 _ finC_29).2.1)).1.2.2.2.2.1 (by decide) (by decide)
              have t64_ : (qN S39_54 (qO S39_54 (qO S39_54 44 12) 3) : Int) = (qN S (qO S (qO S 44 12) 3) : Int) := by rw [o55_]; exact q13_.2.kL (j := 3) hw (hw.ref m_.p12 (hw.2.1 _ finC_29).2.1) (g.row (hw.ref m_.p12 (hw.2.1 _ finC_29).2.1)).1.2.2.1 (by decide) (by decide)
              have t65_ : (qN S39_54 (qO S39_54 (qO S39_54 44 12) 5) : Int) = (qN S (qO S (qO S 44 12) 5) : Int) := by rw [o55_]; exact q13_.2.kL (j := 5) hw (hw.ref m_.p12 (hw.2.1 _ finC_29).2.1) (g.row (hw.ref m_.p12 (hw.2.1 _ finC_29).2.1)).1.2.2.2.1 (by decide) (by decide)
              have t66_ : (qI S39_54 44 13).toInt = (qI S 44 13).toInt := congrArg Int32.toInt (q13_.2.kI (j := 13) (hw.2.1 _ finC_29).2.1 (by decide) (by decide))
              have gO_ := g
              have g : ShC B S39_54 := ShC.ca hw g q13_.2 y15_ y14_ rfl rfl
              have m_ : McIk S39_54 := McIk.frg hw gO_ m_ q13_.2 rfl rfl rfl
              refine ⟨?_, ?_⟩
              · exact m_.p12
              refine ⟨?_, ?_⟩
              · exact (dd_X8_stepOf y14_ g (y14_.ref m_.p12 (y14_.2.1 _ finC_29).2.1))
              intro a46_67 ea46_67 
              have ga46_67 := congrArg Int32.toInt ea46_67
              refine ⟨_, frX5_setLocal y14_ (sfX5_setLocal y14_ ), ?_⟩
              intro S49_68 q16_ y17_ y18_
              have o69_ : qO S49_68 44 12 = qO S39_54 44 12 := qO_eq (q16_.2.kO (y14_.2.1 _ finC_29).2.1 (by decide) (by decide))
              have t70_ : (qI S49_68 (qO S49_68 44 12) 4).toInt = (qI S39_54 (qO S39_54 44 12) 4).toInt := by rw [o69_]; exact congrArg Int32.toInt (q16_.2.kI (j := 4) (y14_.ref m_.p12 (y14_.2.1 _ finC_29).2.1) (by decide) (by decide))
              have t71_ : (qI S49_68 (qO S49_68 44 12) 9).toInt = (qI S39_54 (qO S39_54 44 12) 9).toInt := by rw [o69_]; exact congrArg Int32.toInt (q16_.2.kI (j := 9) (y14_.ref m_.p12 (y14_.2.1 _ finC_29).2.1) (by decide) (by decide))
              have t72_ : (qI S49_68 (qO S49_68 44 12) 2).toInt = (qI S39_54 (qO S39_54 44 12) 2).toInt := by rw [o69_]; exact congrArg Int32.toInt (q16_.2.kI (j := 2) (y14_.ref m_.p12 (y14_.2.1 _ finC_29).2.1) (by decide) (by decide))
              have t73_ : (qN S49_68 (qO S49_68 (qO S49_68 44 12) 1) : Int) = (qN S39_54 (qO S39_54 (qO S39_54 44 12) 1) : Int) := by rw [o69_]; exact q16_.2.kL (j := 1) y14_ (y14_.ref m_.p12 (y14_.2.1 _ finC_29).2.1) (g.row (y14_.ref m_.p12 (y14_.2.1 _ finC_29).2.1)).1.2.1 (by decide) (by decide)
              have t74_ : (qN S49_68 (qO S49_68 (qO S49_68 44 12) 8) : Int) = (qN S39_54 (qO S39_54 (qO S39_54 44 12) 8) : Int) := by rw [o69_]; exact q16_.2.kL (j := 8) y14_ (y14_.ref m_.p12 (y14_.2.1 _ finC_29).2.1) (g.row (y14_.ref m_.p12 (y14_.2.1 _ finC_29).2.1)).1.2.2.2.2.2.2 (by decide) (by decide)
              have t75_ : (qN S49_68 (qO S49_68 (qO S49_68 44 12) 7) : Int) = (qN S39_54 (qO S39_54 (qO S39_54 44 12) 7) : Int) := by rw [o69_]; exact q16_.2.kL (j := 7) y14_ (y14_.ref m_.p12 (y14_.2.1 _ finC_29).2.1) (g.row (y14_.ref m_.p12 (y14_.2.1 _ finC_29).2.1)).1.2.2.2.2.2.1 (by decide) (by decide)
              have t76_ : (qN S49_68 (qO S49_68 (qO S49_68 44 12) 0) : Int) = (qN S39_54 (qO S39_54 (qO S39_54 44 12) 0) : Int) := by rw [o69_]; exact q16_.2.kL (j := 0) y14_ (y14_.ref m_.p12 (y14_.2.1 _ finC_29).2.1) (g.row (y14_.ref m_.p12 (y14_.2.1 _ finC_29).2.1)).1.1 (by decide) (by decide)
              have t77_ : (qN S49_68 (qO S49_68 (qO S49_68 44 12) 6) : Int) = (qN S39_54 (qO S39_54 (qO S39_54 44 12) 6) : Int) := by rw [o69_]; exact q16_.2.kL (j := 6) y14_ (y14_.ref m_.p12 (y14_.2.1 _ finC_29).2.1) (g.row (y14_.ref m_.p12 (y14_.2.1 _ finC_29).2.1)).1.2.2.2.2.1 (by decide) (by decide)
              have t78_ : (qN S49_68 (qO S49_68 (qO S49_68 44 12) 3) : Int) = (qN S39_54 (qO S39_54 (qO S39_54 44 12) 3) : Int) := by rw [o69_]; exact q16_.2.kL (j := 3) y14_ (y14_.ref m_.p12 (y14_.2.1 _ finC_29).2.1) (g.row (y14_.ref m_.p12 (y14_.2.1 _ finC_29).2.1)).1.2.2.1 (by decide) (by decide)
              have t79_ : (qN S49_68 (qO S49_68 (qO S49_68 44 12) 5) : Int) = (qN S39_54 (qO S39_54 (qO S39_54 44 12) 5) : Int) := by rw [o69_]; exact q16_.2.kL (j := 5) y14_ (y14_.ref m_.p12 (y14_.2.1 _ finC_29).2.1) (g.row (y14_.ref m_.p12 (y14_.2.1 _ finC_29).2.1)).1.2.2.2.1 (by decide) (by decide)
              have t80_ : (qI S49_68 44 13).toInt = (qI S39_54 44 13).toInt := congrArg Int32.toInt (q16_.2.kI (j := 13) (y14_.2.1 _ finC_29).2.1 (by decide) (by decide))
              have gO_ := g
              have g : ShC B S49_68 := ShC.ca y14_ g q16_.2 y18_ y17_ rfl rfl
              have m_ : McIk S49_68 := McIk.frg y14_ gO_ m_ q16_.2 rfl rfl rfl
              exact ⟨g, m_, trivial⟩
            · refine ⟨fun c81_ => ?_, fun c81_ => ?_⟩
              · exact ⟨g, m_, trivial⟩
              · intro S36_82 eS36_82 y19_ y20_
                have f83_ : cfr [] [(45, 19)] S S36_82 := by rw [eS36_82]; exact cfr.oI y19_ (by decide)
                have o84_ : qO S36_82 44 12 = qO S 44 12 := qO_eq (f83_.kO (hw.2.1 _ finC_29).2.1 (by decide) (by decide))
                have t85_ : (qI S36_82 (qO S36_82 44 12) 4).toInt = (qI S (qO S 44 12) 4).toInt := by rw [o84_]; exact congrArg Int32.toInt (f83_.kI (j := 4) (hw.ref m_.p12 (hw.2.1 _ finC_29).2.1) (by decide) (by decide))
                have t86_ : (qI S36_82 (qO S36_82 44 12) 9).toInt = (qI S (qO S 44 12) 9).toInt := by rw [o84_]; exact congrArg Int32.toInt (f83_.kI (j := 9) (hw.ref m_.p12 (hw.2.1 _ finC_29).2.1) (by decide) (by decide))
                have t87_ : (qI S36_82 (qO S36_82 44 12) 2).toInt = (qI S (qO S 44 12) 2).toInt := by rw [o84_]; exact congrArg Int32.toInt (f83_.kI (j := 2) (hw.ref m_.p12 (hw.2.1 _ finC_29).2.1) (by decide) (by decide))
                have t88_ : (qN S36_82 (qO S36_82 (qO S36_82 44 12) 1) : Int) = (qN S (qO S (qO S 44 12) 1) : Int) := by rw [o84_]; exact f83_.kL (j := 1) hw (hw.ref m_.p12 (hw.2.1 _ finC_29).2.1) (g.row (hw.ref m_.p12 (hw.2.1 _ finC_29).2.1)).1.2.1 (by decide) (by decide)
                have t89_ : (qN S36_82 (qO S36_82 (qO S36_82 44 12) 8) : Int) = (qN S (qO S (qO S 44 12) 8) : Int) := by rw [o84_]; exact f83_.kL (j := 8) hw (hw.ref m_.p12 (hw.2.1 _ finC_29).2.1) (g.row (hw.ref m_.p12 (hw.2.1 _ finC_29).2.1)).1.2.2.2.2.2.2 (by decide) (by decide)
                have t90_ : (qN S36_82 (qO S36_82 (qO S36_82 44 12) 7) : Int) = (qN S (qO S (qO S 44 12) 7) : Int) := by rw [o84_]; exact f83_.kL (j := 7) hw (hw.ref m_.p12 (hw.2.1 _ finC_29).2.1) (g.row (hw.ref m_.p12 (hw.2.1 _ finC_29).2.1)).1.2.2.2.2.2.1 (by decide) (by decide)
                have t91_ : (qN S36_82 (qO S36_82 (qO S36_82 44 12) 0) : Int) = (qN S (qO S (qO S 44 12) 0) : Int) := by rw [o84_]; exact f83_.kL (j := 0) hw (hw.ref m_.p12 (hw.2.1 _ finC_29).2.1) (g.row (hw.ref m_.p12 (hw.2.1 _ finC_29).2.1)).1.1 (by decide) (by decide)
                have t92_ : (qN S36_82 (qO S36_82 (qO S36_82 44 12) 6) : Int) = (qN S (qO S (qO S 44 12) 6) : Int) := by rw [o84_]; exact f83_.kL (j := 6) hw (hw.ref m_.p12 (hw.2.1 _ finC_29).2.1) (g.row (hw.ref m_.p12 (hw.2.1 _ finC_29).2.1)).1.2.2.2.2.1 (by decide) (by decide)
                have t93_ : (qN S36_82 (qO S36_82 (qO S36_82 44 12) 3) : Int) = (qN S (qO S (qO S 44 12) 3) : Int) := by rw [o84_]; exact f83_.kL (j := 3) hw (hw.ref m_.p12 (hw.2.1 _ finC_29).2.1) (g.row (hw.ref m_.p12 (hw.2.1 _ finC_29).2.1)).1.2.2.1 (by decide) (by decide)
                have t94_ : (qN S36_82 (qO S36_82 (qO S36_82 44 12) 5) : Int) = (qN S (qO S (qO S 44 12) 5) : Int) := by rw [o84_]; exact f83_.kL (j := 5) hw (hw.ref m_.p12 (hw.2.1 _ finC_29).2.1) (g.row (hw.ref m_.p12 (hw.2.1 _ finC_29).2.1)).1.2.2.2.1 (by decide) (by decide)
                have t95_ : (qI S36_82 44 13).toInt = (qI S 44 13).toInt := congrArg Int32.toInt (f83_.kI (j := 13) (hw.2.1 _ finC_29).2.1 (by decide) (by decide))
                have t96_ : (qI S36_82 44 19).toInt = ((qI S 44 19) + (1 : Int32)).toInt := by rw [eS36_82, qI_wI, if_pos ⟨rfl, rfl⟩]
                have gO_ := g
                have g : ShC B S36_82 := ShC.ws hw g f83_ (by rw [eS36_82]; rfl) (by rw [eS36_82]; rfl) (by rw [eS36_82]; rfl) rfl rfl
                have m_ : McIk S36_82 := McIk.frg hw gO_ m_ f83_ rfl rfl rfl
                exact ⟨g, m_, trivial⟩
          · refine ⟨?_, ?_⟩
            · exact dd_X6_takes
            intro a54_97 ea54_97 
            have ga54_97 := congrArg Int32.toInt ea54_97
            refine ⟨_, frX5_pop_ hw (sfX5_pop_ hw ), ?_⟩
            intro r56_98 S57_98 q21_ y22_ y23_
            have o99_ : qO S57_98 44 12 = qO S 44 12 := qO_eq (q21_.2.kO (hw.2.1 _ finC_29).2.1 (by decide) (by decide))
            have t100_ : (qI S57_98 (qO S57_98 44 12) 4).toInt = (qI S (qO S 44 12) 4).toInt := by rw [o99_]; exact congrArg Int32.toInt (q21_.2.kI (j := 4) (hw.ref m_.p12 (hw.2.1 _ finC_29).2.1) (by decide) (by decide))
            have t101_ : (qI S57_98 (qO S57_98 44 12) 9).toInt = (qI S (qO S 44 12) 9).toInt := by rw [o99_]; exact congrArg Int32.toInt (q21_.2.kI (j := 9) (hw.ref m_.p12 (hw.2.1 _ finC_29).2.1) (by decide) (by decide))
            have t102_ : (qI S57_98 (qO S57_98 44 12) 2).toInt = (qI S (qO S 44 12) 2).toInt := by rw [o99_]; exact congrArg Int32.toInt (q21_.2.kI (j := 2) (hw.ref m_.p12 (hw.2.1 _ finC_29).2.1) (by decide) (by decide))
            have t103_ : (qN S57_98 (qO S57_98 (qO S57_98 44 12) 1) : Int) = (qN S (qO S (qO S 44 12) 1) : Int) := by rw [o99_]; exact q21_.2.kL (j := 1) hw (hw.ref m_.p12 (hw.2.1 _ finC_29).2.1) (g.row (hw.ref m_.p12 (hw.2.1 _ finC_29).2.1)).1.2.1 (by decide) (by decide)
            have t104_ : (qN S57_98 (qO S57_98 (qO S57_98 44 12) 8) : Int) = (qN S (qO S (qO S 44 12) 8) : Int) := by rw [o99_]; exact q21_.2.kL (j := 8) hw (hw.ref m_.p12 (hw.2.1 _ finC_29).2.1) (g.row (hw.ref m_.p12 (hw.2.1 _ finC_29).2.1)).1.2.2.2.2.2.2 (by decide) (by decide)
            have t105_ : (qN S57_98 (qO S57_98 (qO S57_98 44 12) 7) : Int) = (qN S (qO S (qO S 44 12) 7) : Int) := by rw [o99_]; exact q21_.2.kL (j := 7) hw (hw.ref m_.p12 (hw.2.1 _ finC_29).2.1) (g.row (hw.ref m_.p12 (hw.2.1 _ finC_29).2.1)).1.2.2.2.2.2.1 (by decide) (by decide)
            have t106_ : (qN S57_98 (qO S57_98 (qO S57_98 44 12) 0) : Int) = (qN S (qO S (qO S 44 12) 0) : Int) := by rw [o99_]; exact q21_.2.kL (j := 0) hw (hw.ref m_.p12 (hw.2.1 _ finC_29).2.1) (g.row (hw.ref m_.p12 (hw.2.1 _ finC_29).2.1)).1.1 (by decide) (by decide)
            have t107_ : (qN S57_98 (qO S57_98 (qO S57_98 44 12) 6) : Int) = (qN S (qO S (qO S 44 12) 6) : Int) := by rw [o99_]; exact q21_.2.kL (j := 6) hw (hw.ref m_.p12 (hw.2.1 _ finC_29).2.1) (g.row (hw.ref m_.p12 (hw.2.1 _ finC_29).2.1)).1.2.2.2.2.1 (by decide) (by decide)
            have t108_ : (qN S57_98 (qO S57_98 (qO S57_98 44 12) 3) : Int) = (qN S (qO S (qO S 44 12) 3) : Int) := by rw [o99_]; exact q21_.2.kL (j := 3) hw (hw.ref m_.p12 (hw.2.1 _ finC_29).2.1) (g.row (hw.ref m_.p12 (hw.2.1 _ finC_29).2.1)).1.2.2.1 (by decide) (by decide)
            have t109_ : (qN S57_98 (qO S57_98 (qO S57_98 44 12) 5) : Int) = (qN S (qO S (qO S 44 12) 5) : Int) := by rw [o99_]; exact q21_.2.kL (j := 5) hw (hw.ref m_.p12 (hw.2.1 _ finC_29).2.1) (g.row (hw.ref m_.p12 (hw.2.1 _ finC_29).2.1)).1.2.2.2.1 (by decide) (by decide)
            have t110_ : (qI S57_98 44 13).toInt = (qI S 44 13).toInt := congrArg Int32.toInt (q21_.2.kI (j := 13) (hw.2.1 _ finC_29).2.1 (by decide) (by decide))
            have gO_ := g
            have g : ShC B S57_98 := ShC.ca hw g q21_.2 y23_ y22_ rfl rfl
            have m_ : McIk S57_98 := McIk.frg hw gO_ m_ q21_.2 rfl rfl rfl
            refine ⟨_, frX5_setLocal y22_ (sfX5_setLocal y22_ ), ?_⟩
            intro S60_111 q24_ y25_ y26_
            have o112_ : qO S60_111 44 12 = qO S57_98 44 12 := qO_eq (q24_.2.kO (y22_.2.1 _ finC_29).2.1 (by decide) (by decide))
            have t113_ : (qI S60_111 (qO S60_111 44 12) 4).toInt = (qI S57_98 (qO S57_98 44 12) 4).toInt := by rw [o112_]; exact congrArg Int32.toInt (q24_.2.kI (j := 4) (y22_.ref m_.p12 (y22_.2.1 _ finC_29).2.1) (by decide) (by decide))
            have t114_ : (qI S60_111 (qO S60_111 44 12) 9).toInt = (qI S57_98 (qO S57_98 44 12) 9).toInt := by rw [o112_]; exact congrArg Int32.toInt (q24_.2.kI (j := 9) (y22_.ref m_.p12 (y22_.2.1 _ finC_29).2.1) (by decide) (by decide))
            have t115_ : (qI S60_111 (qO S60_111 44 12) 2).toInt = (qI S57_98 (qO S57_98 44 12) 2).toInt := by rw [o112_]; exact congrArg Int32.toInt (q24_.2.kI (j := 2) (y22_.ref m_.p12 (y22_.2.1 _ finC_29).2.1) (by decide) (by decide))
            have t116_ : (qN S60_111 (qO S60_111 (qO S60_111 44 12) 1) : Int) = (qN S57_98 (qO S57_98 (qO S57_98 44 12) 1) : Int) := by rw [o112_]; exact q24_.2.kL (j := 1) y22_ (y22_.ref m_.p12 (y22_.2.1 _ finC_29).2.1) (g.row (y22_.ref m_.p12 (y22_.2.1 _ finC_29).2.1)).1.2.1 (by decide) (by decide)
            have t117_ : (qN S60_111 (qO S60_111 (qO S60_111 44 12) 8) : Int) = (qN S57_98 (qO S57_98 (qO S57_98 44 12) 8) : Int) := by rw [o112_]; exact q24_.2.kL (j := 8) y22_ (y22_.ref m_.p12 (y22_.2.1 _ finC_29).2.1) (g.row (y22_.ref m_.p12 (y22_.2.1 _ finC_29).2.1)).1.2.2.2.2.2.2 (by decide) (by decide)
            have t118_ : (qN S60_111 (qO S60_111 (qO S60_111 44 12) 7) : Int) = (qN S57_98 (qO S57_98 (qO S57_98 44 12) 7) : Int) := by rw [o112_]; exact q24_.2.kL (j := 7) y22_ (y22_.ref m_.p12 (y22_.2.1 _ finC_29).2.1) (g.row (y22_.ref m_.p12 (y22_.2.1 _ finC_29).2.1)).1.2.2.2.2.2.1 (by decide) (by decide)
            have t119_ : (qN S60_111 (qO S60_111 (qO S60_111 44 12) 0) : Int) = (qN S57_98 (qO S57_98 (qO S57_98 44 12) 0) : Int) := by rw [o112_]; exact q24_.2.kL (j := 0) y22_ (y22_.ref m_.p12 (y22_.2.1 _ finC_29).2.1) (g.row (y22_.ref m_.p12 (y22_.2.1 _ finC_29).2.1)).1.1 (by decide) (by decide)
            have t120_ : (qN S60_111 (qO S60_111 (qO S60_111 44 12) 6) : Int) = (qN S57_98 (qO S57_98 (qO S57_98 44 12) 6) : Int) := by rw [o112_]; exact q24_.2.kL (j := 6) y22_ (y22_.ref m_.p12 (y22_.2.1 _ finC_29).2.1) (g.row (y22_.ref m_.p12 (y22_.2.1 _ finC_29).2.1)).1.2.2.2.2.1 (by decide) (by decide)
            have t121_ : (qN S60_111 (qO S60_111 (qO S60_111 44 12) 3) : Int) = (qN S57_98 (qO S57_98 (qO S57_98 44 12) 3) : Int) := by rw [o112_]; exact q24_.2.kL (j := 3) y22_ (y22_.ref m_.p12 (y22_.2.1 _ finC_29).2.1) (g.row (y22_.ref m_.p12 (y22_.2.1 _ finC_29).2.1)).1.2.2.1 (by decide) (by decide)
            have t122_ : (qN S60_111 (qO S60_111 (qO S60_111 44 12) 5) : Int) = (qN S57_98 (qO S57_98 (qO S57_98 44 12) 5) : Int) := by rw [o112_]; exact q24_.2.kL (j := 5) y22_ (y22_.ref m_.p12 (y22_.2.1 _ finC_29).2.1) (g.row (y22_.ref m_.p12 (y22_.2.1 _ finC_29).2.1)).1.2.2.2.1 (by decide) (by decide)
            have t123_ : (qI S60_111 44 13).toInt = (qI S57_98 44 13).toInt := congrArg Int32.toInt (q24_.2.kI (j := 13) (y22_.2.1 _ finC_29).2.1 (by decide) (by decide))
            have gO_ := g
            have g : ShC B S60_111 := ShC.ca y22_ g q24_.2 y26_ y25_ rfl rfl
            have m_ : McIk S60_111 := McIk.frg y22_ gO_ m_ q24_.2 rfl rfl rfl
            exact ⟨g, m_, trivial⟩
        · refine ⟨?_, ?_⟩
          · exact dd_X6_gives
          intro a65_124 ea65_124 
          have ga65_124 := congrArg Int32.toInt ea65_124
          refine ⟨_, frX5_localAt hw (sfX5_localAt hw ), ?_⟩
          intro r67_125 S68_125 q27_ y28_ y29_
          have o126_ : qO S68_125 44 12 = qO S 44 12 := qO_eq (q27_.2.kO (hw.2.1 _ finC_29).2.1 (by decide) (by decide))
          have t127_ : (qI S68_125 (qO S68_125 44 12) 4).toInt = (qI S (qO S 44 12) 4).toInt := by rw [o126_]; exact congrArg Int32.toInt (q27_.2.kI (j := 4) (hw.ref m_.p12 (hw.2.1 _ finC_29).2.1) (by decide) (by decide))
          have t128_ : (qI S68_125 (qO S68_125 44 12) 9).toInt = (qI S (qO S 44 12) 9).toInt := by rw [o126_]; exact congrArg Int32.toInt (q27_.2.kI (j := 9) (hw.ref m_.p12 (hw.2.1 _ finC_29).2.1) (by decide) (by decide))
          have t129_ : (qI S68_125 (qO S68_125 44 12) 2).toInt = (qI S (qO S 44 12) 2).toInt := by rw [o126_]; exact congrArg Int32.toInt (q27_.2.kI (j := 2) (hw.ref m_.p12 (hw.2.1 _ finC_29).2.1) (by decide) (by decide))
          have t130_ : (qN S68_125 (qO S68_125 (qO S68_125 44 12) 1) : Int) = (qN S (qO S (qO S 44 12) 1) : Int) := by rw [o126_]; exact q27_.2.kL (j := 1) hw (hw.ref m_.p12 (hw.2.1 _ finC_29).2.1) (g.row (hw.ref m_.p12 (hw.2.1 _ finC_29).2.1)).1.2.1 (by decide) (by decide)
          have t131_ : (qN S68_125 (qO S68_125 (qO S68_125 44 12) 8) : Int) = (qN S (qO S (qO S 44 12) 8) : Int) := by rw [o126_]; exact q27_.2.kL (j := 8) hw (hw.ref m_.p12 (hw.2.1 _ finC_29).2.1) (g.row (hw.ref m_.p12 (hw.2.1 _ finC_29).2.1)).1.2.2.2.2.2.2 (by decide) (by decide)
          have t132_ : (qN S68_125 (qO S68_125 (qO S68_125 44 12) 7) : Int) = (qN S (qO S (qO S 44 12) 7) : Int) := by rw [o126_]; exact q27_.2.kL (j := 7) hw (hw.ref m_.p12 (hw.2.1 _ finC_29).2.1) (g.row (hw.ref m_.p12 (hw.2.1 _ finC_29).2.1)).1.2.2.2.2.2.1 (by decide) (by decide)
          have t133_ : (qN S68_125 (qO S68_125 (qO S68_125 44 12) 0) : Int) = (qN S (qO S (qO S 44 12) 0) : Int) := by rw [o126_]; exact q27_.2.kL (j := 0) hw (hw.ref m_.p12 (hw.2.1 _ finC_29).2.1) (g.row (hw.ref m_.p12 (hw.2.1 _ finC_29).2.1)).1.1 (by decide) (by decide)
          have t134_ : (qN S68_125 (qO S68_125 (qO S68_125 44 12) 6) : Int) = (qN S (qO S (qO S 44 12) 6) : Int) := by rw [o126_]; exact q27_.2.kL (j := 6) hw (hw.ref m_.p12 (hw.2.1 _ finC_29).2.1) (g.row (hw.ref m_.p12 (hw.2.1 _ finC_29).2.1)).1.2.2.2.2.1 (by decide) (by decide)
          have t135_ : (qN S68_125 (qO S68_125 (qO S68_125 44 12) 3) : Int) = (qN S (qO S (qO S 44 12) 3) : Int) := by rw [o126_]; exact q27_.2.kL (j := 3) hw (hw.ref m_.p12 (hw.2.1 _ finC_29).2.1) (g.row (hw.ref m_.p12 (hw.2.1 _ finC_29).2.1)).1.2.2.1 (by decide) (by decide)
          have t136_ : (qN S68_125 (qO S68_125 (qO S68_125 44 12) 5) : Int) = (qN S (qO S (qO S 44 12) 5) : Int) := by rw [o126_]; exact q27_.2.kL (j := 5) hw (hw.ref m_.p12 (hw.2.1 _ finC_29).2.1) (g.row (hw.ref m_.p12 (hw.2.1 _ finC_29).2.1)).1.2.2.2.1 (by decide) (by decide)
          have t137_ : (qI S68_125 44 13).toInt = (qI S 44 13).toInt := congrArg Int32.toInt (q27_.2.kI (j := 13) (hw.2.1 _ finC_29).2.1 (by decide) (by decide))
          have gO_ := g
          have g : ShC B S68_125 := ShC.ca hw g q27_.2 y29_ y28_ rfl rfl
          have m_ : McIk S68_125 := McIk.frg hw gO_ m_ q27_.2 rfl rfl rfl
          refine ⟨_, frX5_push_ y28_ (sfX5_push_ y28_ ), ?_⟩
          intro S71_138 q30_ y31_ y32_
          have o139_ : qO S71_138 44 12 = qO S68_125 44 12 := qO_eq (q30_.2.kO (y28_.2.1 _ finC_29).2.1 (by decide) (by decide))
          have t140_ : (qI S71_138 (qO S71_138 44 12) 4).toInt = (qI S68_125 (qO S68_125 44 12) 4).toInt := by rw [o139_]; exact congrArg Int32.toInt (q30_.2.kI (j := 4) (y28_.ref m_.p12 (y28_.2.1 _ finC_29).2.1) (by decide) (by decide))
          have t141_ : (qI S71_138 (qO S71_138 44 12) 9).toInt = (qI S68_125 (qO S68_125 44 12) 9).toInt := by rw [o139_]; exact congrArg Int32.toInt (q30_.2.kI (j := 9) (y28_.ref m_.p12 (y28_.2.1 _ finC_29).2.1) (by decide) (by decide))
          have t142_ : (qI S71_138 (qO S71_138 44 12) 2).toInt = (qI S68_125 (qO S68_125 44 12) 2).toInt := by rw [o139_]; exact congrArg Int32.toInt (q30_.2.kI (j := 2) (y28_.ref m_.p12 (y28_.2.1 _ finC_29).2.1) (by decide) (by decide))
          have t143_ : (qN S71_138 (qO S71_138 (qO S71_138 44 12) 1) : Int) = (qN S68_125 (qO S68_125 (qO S68_125 44 12) 1) : Int) := by rw [o139_]; exact q30_.2.kL (j := 1) y28_ (y28_.ref m_.p12 (y28_.2.1 _ finC_29).2.1) (g.row (y28_.ref m_.p12 (y28_.2.1 _ finC_29).2.1)).1.2.1 (by decide) (by decide)
          have t144_ : (qN S71_138 (qO S71_138 (qO S71_138 44 12) 8) : Int) = (qN S68_125 (qO S68_125 (qO S68_125 44 12) 8) : Int) := by rw [o139_]; exact q30_.2.kL (j := 8) y28_ (y28_.ref m_.p12 (y28_.2.1 _ finC_29).2.1) (g.row (y28_.ref m_.p12 (y28_.2.1 _ finC_29).2.1)).1.2.2.2.2.2.2 (by decide) (by decide)
          have t145_ : (qN S71_138 (qO S71_138 (qO S71_138 44 12) 7) : Int) = (qN S68_125 (qO S68_125 (qO S68_125 44 12) 7) : Int) := by rw [o139_]; exact q30_.2.kL (j := 7) y28_ (y28_.ref m_.p12 (y28_.2.1 _ finC_29).2.1) (g.row (y28_.ref m_.p12 (y28_.2.1 _ finC_29).2.1)).1.2.2.2.2.2.1 (by decide) (by decide)
          have t146_ : (qN S71_138 (qO S71_138 (qO S71_138 44 12) 0) : Int) = (qN S68_125 (qO S68_125 (qO S68_125 44 12) 0) : Int) := by rw [o139_]; exact q30_.2.kL (j := 0) y28_ (y28_.ref m_.p12 (y28_.2.1 _ finC_29).2.1) (g.row (y28_.ref m_.p12 (y28_.2.1 _ finC_29).2.1)).1.1 (by decide) (by decide)
          have t147_ : (qN S71_138 (qO S71_138 (qO S71_138 44 12) 6) : Int) = (qN S68_125 (qO S68_125 (qO S68_125 44 12) 6) : Int) := by rw [o139_]; exact q30_.2.kL (j := 6) y28_ (y28_.ref m_.p12 (y28_.2.1 _ finC_29).2.1) (g.row (y28_.ref m_.p12 (y28_.2.1 _ finC_29).2.1)).1.2.2.2.2.1 (by decide) (by decide)
          have t148_ : (qN S71_138 (qO S71_138 (qO S71_138 44 12) 3) : Int) = (qN S68_125 (qO S68_125 (qO S68_125 44 12) 3) : Int) := by rw [o139_]; exact q30_.2.kL (j := 3) y28_ (y28_.ref m_.p12 (y28_.2.1 _ finC_29).2.1) (g.row (y28_.ref m_.p12 (y28_.2.1 _ finC_29).2.1)).1.2.2.1 (by decide) (by decide)
          have t149_ : (qN S71_138 (qO S71_138 (qO S71_138 44 12) 5) : Int) = (qN S68_125 (qO S68_125 (qO S68_125 44 12) 5) : Int) := by rw [o139_]; exact q30_.2.kL (j := 5) y28_ (y28_.ref m_.p12 (y28_.2.1 _ finC_29).2.1) (g.row (y28_.ref m_.p12 (y28_.2.1 _ finC_29).2.1)).1.2.2.2.1 (by decide) (by decide)
          have t150_ : (qI S71_138 44 13).toInt = (qI S68_125 44 13).toInt := congrArg Int32.toInt (q30_.2.kI (j := 13) (y28_.2.1 _ finC_29).2.1 (by decide) (by decide))
          have gO_ := g
          have g : ShC B S71_138 := ShC.ca y28_ g q30_.2 y32_ y31_ rfl rfl
          have m_ : McIk S71_138 := McIk.frg y28_ gO_ m_ q30_.2 rfl rfl rfl
          exact ⟨g, m_, trivial⟩
/-! closeFrame, enter -/
theorem frameAt_eq {S : MS} {x : Int32} (hd : 0 ≤ (qI S 44 11).toInt ∧ (qI S 44 11).toInt ≤ 59) (hx : 0 ≤ x.toInt ∧ x.toInt ≤ 2) : fX5_frameAt S x = qI S 51 (3 * (qI S 44 11).toInt.toNat + x.toInt.toNat) := by
  have e3 := mul3_of (x := qI S 44 11) (by omega)
  have e : (((3 : Int32) * (qI S 44 11)) + x).toInt = 3 * (qI S 44 11).toInt + x.toInt := by rw [t_addk (by omega), e3]
  unfold fX5_frameAt
  rw [if_neg (by omega), if_neg (by omega)]
  congr 1
  omega
theorem mx0 {x : Int32} (h : 0 ≤ x.toInt ∧ x.toInt ≤ 59) : 0 ≤ (if (0 : Int32) < (x - (1 : Int32)) then (x - (1 : Int32)) else (0 : Int32)).toInt ∧ (if (0 : Int32) < (x - (1 : Int32)) then (x - (1 : Int32)) else (0 : Int32)).toInt ≤ x.toInt := by
  have e : (x - (1 : Int32)).toInt = x.toInt - 1 := by rw [t_subk (by rw [li_1k]; omega), li_1k]
  have z := li_0k
  by_cases c : (0 : Int32) < (x - (1 : Int32))
  · have c' := n_lt.mp c
    rw [if_pos c]
    omega
  · rw [if_neg c]
    omega
theorem sgX5_closeFrame {B : Nat × Nat} {S : MS} (w : wfC S) (g : ShC B S) (m : McIk S) : wX5_closeFrame S (fun u => ShC B u ∧ McIk u ∧ True) := by
  have hd := m.num.1
  unfold wX5_closeFrame
  intro S3 e3 k3 w3
  have f3 : cfr [] [(45, 11)] S S3 := by rw [e3]; exact cfr.oI k3 rfl
  have G3 : ShC B S3 := ShC.ws w g f3 (by rw [e3]; rfl) (by rw [e3]; rfl) (by rw [e3]; rfl) rfl rfl
  have d3 : (qI S3 44 11).toInt = (if (0 : Int32) < ((qI S 44 11) - (1 : Int32)) then ((qI S 44 11) - (1 : Int32)) else (0 : Int32)).toInt := by rw [e3, qI_wI, if_pos ⟨rfl, rfl⟩]
  have hm := mx0 (x := qI S 44 11) ⟨hd.1, hd.2.1⟩
  rw [← d3] at hm
  have m3 : McP S3 ((qI S3 44 11).toInt + 1) := (m.pP.fr w g.1 g.2.1 f3 rfl rfl rfl).le (by omega)
  have h3 : 0 ≤ (qI S3 44 11).toInt ∧ (qI S3 44 11).toInt ≤ 59 := by omega
  have k0 : qT S3 (qO S3 44 0) = 49 := w3.ref m3.1 w3.k44
  have z0 : (0 : Int32).toInt.toNat = 0 := by decide
  have ef := frameAt_eq (S := S3) (x := 0) h3 (by decide)
  rw [z0, Nat.add_zero] at ef
  have hf := m3.2.2.2.1 (qI S3 44 11).toInt.toNat (by omega)
  refine ⟨m3.1, dd_X5_frameAt w3 G3 (by decide) (by decide), fun _ => ⟨_, sp_rowAt (G3.unit k0) m3.2.1 (by rw [ef]; exact hf) (Q := fun b u => u = S3 ∧ ∃ r, b = some r ∧ RowF S3 r) (fun r h1 h2 => ⟨rfl, r, rfl, h2⟩), ?_⟩⟩
  rintro b S11 ⟨rfl, r, rfl, hr⟩ w11 _ kz S14 e14 k14 w14
  have f14 : cfr [] [(45, 12)] S11 S14 := by rw [e14]; exact cfr.oR k14 rfl
  have G14 : ShC B S14 := ShC.ws w3 G3 f14 (by rw [e14]; rfl) (by rw [e14]; rfl) (by rw [e14]; rfl) rfl rfl
  have kr := kz r rfl
  refine ⟨dd_X5_frameAt w14 G14 (by decide) (by decide), fun S18 e18 k18 w18 => ?_⟩
  have f18 : cfr [] [(45, 13)] S14 S18 := by rw [e18]; exact cfr.oI k18 rfl
  have G18 : ShC B S18 := ShC.ws w14 G14 f18 (by rw [e18]; rfl) (by rw [e18]; rfl) (by rw [e18]; rfl) rfl rfl
  refine ⟨dd_X5_frameAt w18 G18 (by decide) (by decide), fun S22 e22 k22 w22 => ?_⟩
  have f22 : cfr [] [(45, 14)] S18 S22 := by rw [e22]; exact cfr.oI k22 rfl
  have G22 : ShC B S22 := ShC.ws w18 G18 f22 (by rw [e22]; rfl) (by rw [e22]; rfl) (by rw [e22]; rfl) rfl rfl
  have f : cfr [] [(45, 12), (45, 13), (45, 14)] S11 S22 := ((f14.mo rfl rfl).tr (f18.mo rfl rfl)).tr (f22.mo rfl rfl)
  have p22 : qR S22 44 12 = some r := by rw [e22, e18]; show qR S14 44 12 = _; rw [e14, qR_wR, if_pos ⟨rfl, rfl⟩]
  have d22 : qI S22 44 11 = qI S11 44 11 := f.kI w3.k44 (by decide) (by decide)
  refine ⟨G22, McP.mc (by rw [d22]; exact m3.fr w3 G3.1 G3.2.1 f rfl rfl rfl) (by rw [d22]; exact h3) (by rw [qO_of p22]; exact p22) (by rw [qO_of p22]; exact hr.mv w3 kr (G3.row kr) f rfl rfl rfl), trivial⟩
theorem sp_placesOf {S : MS} {x0 : Int32} : wX6_placesOf S x0 (fun r u => u = S ∧ 0 ≤ r.toInt ∧ r.toInt ≤ 16) := by
  unfold wX6_placesOf
  have z := li_0k
  exact ⟨9, sg_plL 8 9 0 x0 (by have := rgI x0; have e : (16 : Int) ^ 8 = 4294967296 := rfl; omega) (by decide) (by decide) (by decide) (fun _ r h1 h2 => ⟨rfl, by omega, by omega⟩)⟩
theorem sp_rowAt2 {S : MS} {p : Nat} {x1 : Int32} (U : UnK S p) : wX10_rowAt S p x1 (fun b u => u = S ∧ (b = none ∨ 0 ≤ x1.toInt ∧ x1.toInt < (qI S p 8).toInt)) := by
  have U2 := U.2
  unfold wX10_rowAt w_X10_rowAt_J13
  refine ⟨fun c _ => ⟨rfl, Or.inl rfl⟩, fun c => ⟨U.1.2.2.2.2.2.2.2.2, fun c2 => ⟨U.1.2.2.2.2.2.2.2.2, by omega, fun _ => ⟨rfl, Or.inl rfl⟩, fun _ => ⟨rfl, Or.inr (by omega)⟩⟩, fun _ _ => ⟨rfl, Or.inl rfl⟩⟩⟩
theorem mul24_of {x : Int32} (h : 0 ≤ x.toInt ∧ x.toInt ≤ 1000000) : (x * (24 : Int32)).toInt = 24 * x.toInt := by rw [t_mulk (by rw [li_24k]; omega), li_24k]; omega
theorem sg_enJ {B : Nat × Nat} {S : MS} (g : ShC B S) (m : McIk S) : w_X5_enter_J95 (fun u => ShC B u ∧ McIk u ∧ True) S := by
  unfold w_X5_enter_J95
  intro w S28 e28 k28 w28 S30 e30 k30 w30
  have f1 : cfr [] [(45, 19)] S S28 := by rw [e28]; exact cfr.oI k28 rfl
  have f2 : cfr [] [(45, 13)] S28 S30 := by rw [e30]; exact cfr.oI k30 rfl
  have f : cfr [] [(45, 19), (45, 13)] S S30 := (f1.mo rfl rfl).tr (f2.mo rfl rfl)
  exact ⟨ShC.ws w g f (by rw [e30, e28]; rfl) (by rw [e30, e28]; rfl) (by rw [e30, e28]; rfl) rfl rfl, McIk.frg w g m f rfl rfl rfl, trivial⟩
theorem sgX5_enter {B : Nat × Nat} {S : MS} {x1 : Int32} (w : wfC S) (g : ShC B S) (m : McIk S) : wX5_enter S x1 (fun u => ShC B u ∧ McIk u ∧ True) := by
  have hd := m.num.1
  have k0 : qT S (qO S 44 0) = 49 := w.ref m.1 w.k44
  have ed : ((qI S 44 11) + (1 : Int32)).toInt = (qI S 44 11).toInt + 1 := by rw [t_addk (by rw [li_1k]; omega), li_1k]
  unfold wX5_enter
  refine ⟨fun c => ⟨m.1, dd_X10_takesOfMethod w g k0, fun a8 _ => ⟨_, sp_placesOf, ?_⟩⟩, fun c S54 e54 k54 w54 => ?_⟩
  · rintro r10 S11 ⟨rfl, hr0, hr1⟩ w11 _ a16 e16 a19 e19
    refine ⟨m.1, fun _ => ⟨_, sp_rowAt2 (g.unit k0), ?_⟩⟩
    rintro b26 S24 ⟨rfl, hb⟩ w24 _ _
    refine ⟨fun _ => sg_enJ g m, fun cb => ⟨fun _ => sg_enJ g m, fun ct => ⟨fun _ => sg_enJ g m, fun cl => ⟨fun c24 => ?_, fun _ => sg_enJ g m⟩⟩⟩⟩
    have hx : 0 ≤ x1.toInt ∧ x1.toInt < (qI S24 (qO S24 44 0) 8).toInt := by
      rcases hb with h | h
      · exact absurd h cb
      · exact h
    have ma := mul24_of (x := qI S24 44 11) (by omega)
    have mb := mul24_of (x := (qI S24 44 11) + (1 : Int32)) (by omega)
    have hA : a16.toInt = 24 * (qI S24 44 11).toInt + (qI S24 44 14).toInt - r10.toInt := by
      rw [e16, t_subk (by rw [t_addk (by omega)]; omega), t_addk (by omega), ma]
    have hB : a19.toInt = 24 * ((qI S24 44 11).toInt + 1) := by rw [e19, mb, ed]
    refine ⟨acp_ok ⟨by omega, by omega, by omega, by omega, by omega⟩, fun S41 e41 k41 w41 => ?_⟩
    have f41 : cfr [404] [] S24 S41 := by rw [e41]; exact cfr.aL k41 rfl
    have G41 : ShC B S41 := ShC.ws w g f41 (by rw [e41]; rfl) (by rw [e41]; rfl) (by rw [e41]; rfl) rfl rfl
    have M41 : McIk S41 := McIk.frg w g m f41 rfl rfl rfl
    have h41 := M41.num.1
    refine ⟨_, sp_setFrame (Q := fun u => u = wI S41 51 (3 * (qI S41 44 11).toInt.toNat + (1 : Int32).toInt.toNat) (qI S41 44 13)) ⟨h41.1, h41.2.1⟩ (by decide) (fun u e _ => e), ?_⟩
    intro S43 e43 w43 _
    have z1 : (1 : Int32).toInt.toNat = 1 := by decide
    have z2 : (2 : Int32).toInt.toNat = 2 := by decide
    rw [z1] at e43
    have k51 : qT S41 51 = 217 := (w41.2.1 _ finC_6).2.1
    have f43 : cfr [217] [] S41 S43 := by rw [e43]; exact cfr.aI k51 rfl
    have G43 : ShC B S43 := ShC.ws w41 G41 f43 (by rw [e43]; rfl) (by rw [e43]; rfl) (by rw [e43]; rfl) rfl rfl
    have d43 : qI S43 44 11 = qI S41 44 11 := f43.kI w41.k44 (by decide) (by decide)
    have P43 : McP S43 ((qI S41 44 11).toInt + 1) := by
      rw [e43]
      exact M41.pP.put w41 G41.1 G41.2.1 (fun d hd2 => by omega)
    refine ⟨_, sp_setFrame (Q := fun u => u = wI S43 51 (3 * (qI S43 44 11).toInt.toNat + (2 : Int32).toInt.toNat) ((qI S43 44 14) - r10)) (by rw [d43]; exact ⟨h41.1, h41.2.1⟩) (by decide) (fun u e _ => e), ?_⟩
    intro S47 e47 w47 _ S50 e50 k50 w50
    rw [z2, d43] at e47
    have k51' : qT S43 51 = 217 := (w43.2.1 _ finC_6).2.1
    have f47 : cfr [217] [] S43 S47 := by rw [e47]; exact cfr.aI k51' rfl
    have G47 : ShC B S47 := ShC.ws w43 G43 f47 (by rw [e47]; rfl) (by rw [e47]; rfl) (by rw [e47]; rfl) rfl rfl
    have P47 : McP S47 ((qI S41 44 11).toInt + 1) := by
      rw [e47]
      exact P43.put w43 G43.1 G43.2.1 (fun d hd2 => by omega)
    have d47 : qI S47 44 11 = qI S41 44 11 := by rw [f47.kI w43.k44 (by decide) (by decide), d43]
    have f50 : cfr [] [(45, 11)] S47 S50 := by rw [e50]; exact cfr.oI k50 rfl
    have G50 : ShC B S50 := ShC.ws w47 G47 f50 (by rw [e50]; rfl) (by rw [e50]; rfl) (by rw [e50]; rfl) rfl rfl
    have d41 : qI S41 44 11 = qI S24 44 11 := f41.kI w.k44 (by decide) (by decide)
    have d50 : (qI S50 44 11).toInt = (qI S24 44 11).toInt + 1 := by rw [e50, qI_wI, if_pos ⟨rfl, rfl⟩, d47, d41, ed]
    have P50 : McP S50 (qI S50 44 11).toInt := by
      rw [d50, ← d41]
      exact P47.fr w47 G47.1 G47.2.1 f50 rfl rfl rfl
    have k41' : qT S41 (qO S24 44 0) = 49 := f41.1.T k0 (by decide)
    have k43' : qT S43 (qO S24 44 0) = 49 := f43.1.T k41' (by decide)
    have k47' : qT S47 (qO S24 44 0) = 49 := f47.1.T k43' (by decide)
    have q0 : qO S50 44 0 = qO S24 44 0 := by
      have e1 := qO_eq (f41.kO (j := 0) w.k44 (by decide) (by decide))
      have e2 := qO_eq (f43.kO (j := 0) w41.k44 (by decide) (by decide))
      have e3 := qO_eq (f47.kO (j := 0) w43.k44 (by decide) (by decide))
      have e4 := qO_eq (f50.kO (j := 0) w47.k44 (by decide) (by decide))
      rw [e4, e3, e2, e1]
    have e8 : qI S50 (qO S24 44 0) 8 = qI S24 (qO S24 44 0) 8 := by rw [f50.kI k47' (by decide) (by decide), f47.kI k43' (by decide) (by decide), f43.kI k41' (by decide) (by decide), f41.kI k0 (by decide) (by decide)]
    refine ⟨_, sgX5_openFrame w50 G50 P50 (by omega) (by rw [q0, e8]; exact hx), fun S52 q _ _ => ⟨q.1, q.2, trivial⟩⟩
  · have f : cfr [] [(45, 15)] S S54 := by rw [e54]; exact cfr.oI k54 rfl
    exact ⟨ShC.ws w g f (by rw [e54]; rfl) (by rw [e54]; rfl) (by rw [e54]; rfl) rfl rfl, McIk.frg w g m f rfl rfl rfl, trivial⟩
