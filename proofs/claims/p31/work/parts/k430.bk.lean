/-! the book of constants (behind fr_needConstant, txW, sEq, c_cmp) -/
def ndN (S : MS) : Int := (qI S 0 73).toInt
def mtK (S : MS) (k : Nat) (t a b : Int32) (v : Int64) (p : Nat) : Prop := (qI S 28 k).toInt = t.toInt ∧ (qI S 30 k).toInt = a.toInt ∧ (qI S 31 k).toInt = b.toInt ∧ (lg_cmp (qJ S 32 k) v).toInt = 0 ∧ (t.toInt = 1 → ¬ (sEq S (qO S 33 k) p).toInt = 0)
def NuK (S : MS) (t a b : Int32) (v : Int64) (p : Nat) (r : Int32) : Prop := ∃ k : Nat, (k : Int) < ndN S ∧ mtK S k t a b v p ∧ qI S 29 k = r ∧ ∀ j : Nat, j < k → ¬ mtK S j t a b v p
theorem NuK.uq {S : MS} {t a b : Int32} {v : Int64} {p : Nat} {r r' : Int32} (h : NuK S t a b v p r) (h' : NuK S t a b v p r') : r = r' := by
  obtain ⟨k, k1, k2, k3, k4⟩ := h
  obtain ⟨j, j1, j2, j3, j4⟩ := h'
  by_cases q : k < j
  · exact absurd k2 (j4 k q)
  · by_cases q2 : j < k
    · exact absurd j2 (k4 j q2)
    · have : k = j := by omega
      subst this
      rw [← k3, ← j3]
def tgO (t : Int) : Prop := t = 1 ∨ t = 3 ∨ t = 5 ∨ t = 7 ∨ t = 9 ∨ t = 10 ∨ t = 12
def BkI (S : MS) : Prop := (0 ≤ ndN S ∧ ndN S ≤ 700) ∧ (1 ≤ (qI S 0 74).toInt ∧ (qI S 0 74).toInt ≤ 1 + 2 * ndN S) ∧ ∀ k : Nat, (k : Int) < ndN S → tgO (qI S 28 k).toInt ∧ ((qI S 28 k).toInt = 1 → ∃ t : Nat, qR S 33 k = some t ∧ txW S t)
/-- the book only grows -/
def BkX (S u : MS) : Prop := frm [28, 29, 30, 31, 32, 33] [7, 8, 73, 74] S u ∧ ndN S ≤ ndN u ∧ ∀ k : Nat, (k : Int) < ndN S → qI u 28 k = qI S 28 k ∧ qI u 29 k = qI S 29 k ∧ qI u 30 k = qI S 30 k ∧ qI u 31 k = qI S 31 k ∧ qJ u 32 k = qJ S 32 k ∧ qR u 33 k = qR S 33 k
theorem BkX.rf {S : MS} : BkX S S := ⟨frm.rf, Int.le_refl _, fun _ _ => ⟨rfl, rfl, rfl, rfl, rfl, rfl⟩⟩
theorem BkX.tr {S u v : MS} (h : BkX S u) (k : BkX u v) : BkX S v := by
  refine ⟨h.1.tr k.1, Int.le_trans h.2.1 k.2.1, fun j hj => ?_⟩
  obtain ⟨a1, a2, a3, a4, a5, a6⟩ := h.2.2 j hj
  obtain ⟨b1, b2, b3, b4, b5, b6⟩ := k.2.2 j (by have := h.2.1; omega)
  exact ⟨b1.trans a1, b2.trans a2, b3.trans a3, b4.trans a4, b5.trans a5, b6.trans a6⟩
theorem BkX.kp {S u : MS} (h : BkX S u) : kpW S u := kpW.f9 h.1 (by decide)
theorem plT.gt {S : MS} {s : Nat} (h : plT s S) : 92 < s := by
  unfold plT at h
  rw [show TXB = 10000000 from rfl] at h
  omega
theorem sEq_eq {S u : MS} {a b : Nat} (h1 : qI u (a + 1) = qI S (a + 1) ∧ qN u (a + 1) = qN S (a + 1)) (h2 : qI u (b + 1) = qI S (b + 1) ∧ qN u (b + 1) = qN S (b + 1)) : sEq u a b = sEq S a b := by
  unfold sEq sEqP
  rw [h1.1, h1.2, h2.1, h2.2]
theorem sEq_rf {S : MS} {a : Nat} : ¬ (sEq S a a).toInt = 0 := by
  have : sEq S a a = 1 := by
    unfold sEq
    rw [if_pos ⟨rfl, fun _ _ => rfl⟩]
  rw [this]
  decide
/-- the book only grows, and no text changes -/
def BkY (S u : MS) : Prop := ((∀ a : Nat, 92 < a → sm5 S u a) ∧ qn S ≤ qn u) ∧ ndN S ≤ ndN u ∧ ∀ k : Nat, (k : Int) < ndN S → qI u 28 k = qI S 28 k ∧ qI u 29 k = qI S 29 k ∧ qI u 30 k = qI S 30 k ∧ qI u 31 k = qI S 31 k ∧ qJ u 32 k = qJ S 32 k ∧ qR u 33 k = qR S 33 k
theorem BkX.y {S u : MS} (h : BkX S u) : BkY S u := ⟨⟨big_frm h.1 (by decide), by rw [h.1.2.2.1]; exact Nat.le_refl _⟩, h.2⟩
theorem BkY.kp {S u : MS} (h : BkY S u) : kpW S u := ⟨fun a a0 _ => h.1.1 a a0, h.1.2⟩
theorem BkY.tr {S u v : MS} (h : BkY S u) (k : BkY u v) : BkY S v := by
  refine ⟨⟨fun a ha => (h.1.1 a ha).tr (k.1.1 a ha), Nat.le_trans h.1.2 k.1.2⟩, Int.le_trans h.2.1 k.2.1, fun j hj => ?_⟩
  obtain ⟨a1, a2, a3, a4, a5, a6⟩ := h.2.2 j hj
  obtain ⟨b1, b2, b3, b4, b5, b6⟩ := k.2.2 j (by have := h.2.1; omega)
  exact ⟨b1.trans a1, b2.trans a2, b3.trans a3, b4.trans a4, b5.trans a5, b6.trans a6⟩
/-- a step that leaves the book alone -/
theorem BkY.f9 {S u : MS} {W J : List Nat} (k : frm W J S u) (hW : ∀ w ∈ W, w ≤ 92 ∧ (w < 28 ∨ 33 < w)) (hJ : ∀ j ∈ J, j ≠ 73) : BkY S u ∧ ndN u = ndN S := by
  have z := fun (a : Nat) (h0 : 28 ≤ a) (h1 : a ≤ 33) => k.2.2.2.2.1 a (by omega) (fun q => by have := hW a q; omega)
  have e : qI u 0 73 = qI S 0 73 := (k.2.2.2.2.2 73 (fun q => hJ 73 q rfl)).1
  have en : ndN u = ndN S := by unfold ndN; rw [e]
  exact ⟨⟨⟨big_frm k (fun w q => (hW w q).1), by rw [k.2.2.1]; exact Nat.le_refl _⟩, by rw [en]; exact Int.le_refl _, fun j _ => ⟨by rw [(z 28 (by decide) (by decide)).1], by rw [(z 29 (by decide) (by decide)).1], by rw [(z 30 (by decide) (by decide)).1], by rw [(z 31 (by decide) (by decide)).1], by rw [(z 32 (by decide) (by decide)).2.1], by rw [(z 33 (by decide) (by decide)).2.2]⟩⟩, en⟩
theorem BkY.sq {S u : MS} (h : BkY S u) {a b : Nat} (ha : 92 < a) (hb : 92 < b) : sEq u a b = sEq S a b := sEq_eq ⟨(h.1.1 (a + 1) (by omega)).1, (h.1.1 (a + 1) (by omega)).2.2.2.2⟩ ⟨(h.1.1 (b + 1) (by omega)).1, (h.1.1 (b + 1) (by omega)).2.2.2.2⟩
theorem mtK.mv {S u : MS} {k : Nat} {t a b : Int32} {v : Int64} {p : Nat} (x : BkY S u) (hB : BkI S) (hk : (k : Int) < ndN S) (hp : 92 < p) : mtK u k t a b v p ↔ mtK S k t a b v p := by
  obtain ⟨e1, e2, e3, e4, e5, e6⟩ := x.2.2 k hk
  unfold mtK
  rw [e1, e3, e4, e5]
  have q : (qI S 28 k).toInt = 1 → sEq u (qO u 33 k) p = sEq S (qO S 33 k) p := fun z => by
    obtain ⟨w, w1, w2⟩ := (hB.2.2 k hk).2 z
    have o : qO u 33 k = qO S 33 k := by unfold qO; rw [e6]
    have o2 : qO S 33 k = w := by unfold qO; rw [w1]; rfl
    rw [o]
    exact x.sq (by rw [o2]; exact w2.2.1.gt) hp
  constructor
  · rintro ⟨m1, m2, m3, m4, m5⟩
    exact ⟨m1, m2, m3, m4, fun z => by rw [← q (by omega)]; exact m5 z⟩
  · rintro ⟨m1, m2, m3, m4, m5⟩
    exact ⟨m1, m2, m3, m4, fun z => by rw [q (by omega)]; exact m5 z⟩
theorem NuK.my {S u : MS} {t a b : Int32} {v : Int64} {p : Nat} {r : Int32} (h : NuK S t a b v p r) (x : BkY S u) (hB : BkI S) (hp : 92 < p) : NuK u t a b v p r := by
  obtain ⟨k, k1, k2, k3, k4⟩ := h
  exact ⟨k, by have := x.2.1; omega, (mtK.mv x hB k1 hp).mpr k2, by rw [(x.2.2 k k1).2.1]; exact k3, fun j hj q => k4 j hj ((mtK.mv x hB (by omega) hp).mp q)⟩
theorem NuK.mv {S u : MS} {t a b : Int32} {v : Int64} {p : Nat} {r : Int32} (h : NuK S t a b v p r) (x : BkX S u) (hB : BkI S) (hp : 92 < p) : NuK u t a b v p r := h.my x.y hB hp
theorem lg_rf {v : Int64} : (lg_cmp v v).toInt = 0 := by
  rcases c_cmp (x := v) (y := v) with q | q | q
  · omega
  · exact q.1
  · omega
def NdP (S : MS) (t a b : Int32) (v : Int64) (p : Nat) (r : Int32) (u : MS) : Prop := BkI u ∧ BkX S u ∧ NuK u t a b v p r ∧ (1 ≤ r.toInt ∧ r.toInt ≤ 1401) ∧ (u = S ∨ (ndN u = ndN S + 1 ∧ ndN S < 700 ∧ (∀ r' : Int32, ¬ NuK S t a b v p r') ∧ qI u 28 (ndN S).toNat = t))
/-- the next number -/
def nxN (g : Nat → Int32) : Nat → Int
  | 0 => 1
  | n + 1 => nxN g n + (if (g n).toInt = 5 then 2 else 1)
theorem nxN_eq {g g' : Nat → Int32} : ∀ n : Nat, (∀ j : Nat, j < n → g' j = g j) → nxN g' n = nxN g n := by
  intro n
  induction n with
  | zero => intro _; rfl
  | succ n ih =>
    intro h
    unfold nxN
    rw [ih (fun j hj => h j (by omega)), h n (by omega)]
def nrI (S : MS) : Prop := (∀ k : Nat, (k : Int) < ndN S → 1 ≤ (qI S 29 k).toInt ∧ (qI S 29 k).toInt ≤ 1401) ∧ (qI S 0 74).toInt = nxN (qI S 28) (ndN S).toNat
theorem sp_need {S : MS} {t a b : Int32} {v : Int64} {p : Nat} (h : BkI S) (hn : nrI S) (ht : tgO t.toInt) (hp : 92 < p) (hx : t.toInt = 1 → txW S p) : w_needConstant S t a b v p (fun r u => NdP S t a b v p r u ∧ nrI u) (fun u => ndN S = 700 ∧ ∀ r' : Int32, ¬ NuK S t a b v p r') := by
  obtain ⟨⟨n0, n1⟩, ⟨m0, m1⟩, ent⟩ := h
  have h' : BkI S := ⟨⟨n0, n1⟩, ⟨m0, m1⟩, ent⟩
  have e73 : (qI S 0 73).toInt = ndN S := rfl
  have L : ∀ (c : Nat) (i : Int32), 0 ≤ i.toInt → i.toInt ≤ ndN S → (∀ j : Nat, (j : Int) < i.toInt → ¬ mtK S j t a b v p) → (700 - i.toInt).toNat < c → w_needConstant_L3 (fun r u => NdP S t a b v p r u ∧ nrI u) (fun u => ndN S = 700 ∧ ∀ r' : Int32, ¬ NuK S t a b v p r') c S t a b v p i := by
    intro c
    induction c with
    | zero => intro i _ _ _ h9; exact absurd h9 (Nat.not_lt_zero _)
    | succ c ih =>
      intro i i0 i1 hno hc
      have ei : i.toInt < 700 → (i + Int32.ofInt 1).toInt = i.toInt + 1 := fun _ => by rw [t_add (by rw [lo_1]; omega), lo_1]
      have j98 : i.toInt < ndN S → ¬ mtK S i.toInt.toNat t a b v p → w_needConstant_J98 (fun r u => NdP S t a b v p r u ∧ nrI u) (fun u => ndN S = 700 ∧ ∀ r' : Int32, ¬ NuK S t a b v p r') (w_needConstant_L3 (fun r u => NdP S t a b v p r u ∧ nrI u) (fun u => ndN S = 700 ∧ ∀ r' : Int32, ¬ NuK S t a b v p r') c) S t a b v p i := fun q nm => by
        unfold w_needConstant_J98
        intro k ek
        subst ek
        have e := ei (by omega)
        refine ih _ (by omega) (by omega) (fun j hj => ?_) (by omega)
        by_cases z : j = i.toInt.toNat
        · rw [z]; exact nm
        · exact hno j (by omega)
      have j62 : i.toInt < ndN S → ¬ mtK S i.toInt.toNat t a b v p → w_needConstant_J62 (fun r u => NdP S t a b v p r u ∧ nrI u) (fun u => ndN S = 700 ∧ ∀ r' : Int32, ¬ NuK S t a b v p r') (w_needConstant_L3 (fun r u => NdP S t a b v p r u ∧ nrI u) (fun u => ndN S = 700 ∧ ∀ r' : Int32, ¬ NuK S t a b v p r') c) S t a b v p i := fun q nm => by
        unfold w_needConstant_J62 w_needConstant_J63
        exact ⟨fun _ => j98 q nm, fun z => absurd rfl z⟩
      have j90 : i.toInt < ndN S → mtK S i.toInt.toNat t a b v p → w_needConstant_J90 (fun r u => NdP S t a b v p r u ∧ nrI u) (fun u => ndN S = 700 ∧ ∀ r' : Int32, ¬ NuK S t a b v p r') S i := fun q m => by
        unfold w_needConstant_J90
        exact ⟨⟨i0, by omega⟩, ⟨h', BkX.rf, ⟨i.toInt.toNat, by omega, m, rfl, fun j hj => hno j (by omega)⟩, hn.1 i.toInt.toNat (by omega), Or.inl rfl⟩, hn⟩
      unfold w_needConstant_L3
      rw [e73]
      refine ⟨fun c1 => ⟨fun c2 => ?_, fun c2 => ?_⟩, fun c1 => ⟨⟨i0, by omega⟩, fun d1 => ⟨⟨i0, by omega⟩, fun d2 => ⟨⟨i0, by omega⟩, fun d3 => ⟨⟨i0, by omega⟩, fun d4 => ?_, fun d4 => j62 (by omega) (fun m => d4 m.2.2.2.1)⟩, fun d3 => j62 (by omega) (fun m => d3 m.2.2.1)⟩, fun d2 => j62 (by omega) (fun m => d2 m.2.1)⟩, fun d1 => j62 (by omega) (fun m => d1 m.1)⟩⟩
      · -- too many
        refine ⟨fun _ _ => True, sp_broken trivial, fun _ u _ => ⟨c2, fun r' nk => ?_⟩⟩
        obtain ⟨k, k1, k2, _⟩ := nk
        exact hno k (by omega) k2
      · -- a new one
        have no : ∀ r' : Int32, ¬ NuK S t a b v p r' := fun r' nk => by
          obtain ⟨k, k1, k2, _⟩ := nk
          exact hno k (by omega) k2
        refine ⟨⟨n0, by omega⟩, fun A eA => ?_⟩
        have a0 : qI A 0 = qI S 0 := by rw [eA, rdH (by decide)]
        rw [a0, e73]
        refine ⟨⟨n0, by omega⟩, fun B eB => ?_⟩
        have b0 : qI B 0 = qI S 0 := by rw [eB, rdH (by decide), a0]
        rw [b0, e73]
        refine ⟨⟨n0, by omega⟩, fun C eC => ?_⟩
        have c0 : qI C 0 = qI S 0 := by rw [eC, rdH (by decide), b0]
        rw [c0, e73]
        refine ⟨⟨n0, by omega⟩, fun D eD => ?_⟩
        have d0 : qI D 0 = qI S 0 := by rw [eD]; exact c0
        rw [d0, e73]
        refine ⟨⟨n0, by omega⟩, fun F eF => ?_⟩
        have f0 : qI F 0 = qI S 0 := by rw [eF]; exact d0
        rw [f0, e73]
        refine ⟨⟨n0, by omega⟩, fun G eG H eH => ?_⟩
        have g0 : qI G 0 = qI S 0 := by rw [eG, rdH (by decide), f0]
        have h74 : qI H 0 74 = qI S 0 74 := by rw [eH, qI_wI, if_neg (by decide), g0]
        have h73 : (qI H 0 73).toInt = ndN S + 1 := by rw [eH, qI_wI, if_pos ⟨rfl, rfl⟩, g0, t_add (by rw [li_1, e73]; omega), li_1]; rfl
        -- the rows
        have q28 : ∀ j : Nat, qI H 28 j = if j = (ndN S).toNat then t else qI S 28 j := fun j => by
          rw [eH, rdH (by decide), eG, rdH (by decide), eF]
          show qI D 28 j = _
          rw [eD]
          show qI C 28 j = _
          rw [eC, rdH (by decide), eB, rdH (by decide), eA, qI_wI]
          by_cases q : j = (ndN S).toNat
          · rw [if_pos ⟨rfl, q⟩, if_pos q]
          · rw [if_neg (fun z => q z.2), if_neg q]
        have q30 : ∀ j : Nat, qI H 30 j = if j = (ndN S).toNat then a else qI S 30 j := fun j => by
          rw [eH, rdH (by decide), eG, rdH (by decide), eF]
          show qI D 30 j = _
          rw [eD]
          show qI C 30 j = _
          rw [eC, rdH (by decide), eB, qI_wI, eA, rdH (by decide)]
          by_cases q : j = (ndN S).toNat
          · rw [if_pos ⟨rfl, q⟩, if_pos q]
          · rw [if_neg (fun z => q z.2), if_neg q]
        have q31 : ∀ j : Nat, qI H 31 j = if j = (ndN S).toNat then b else qI S 31 j := fun j => by
          rw [eH, rdH (by decide), eG, rdH (by decide), eF]
          show qI D 31 j = _
          rw [eD]
          show qI C 31 j = _
          rw [eC, qI_wI, eB, rdH (by decide), eA, rdH (by decide)]
          by_cases q : j = (ndN S).toNat
          · rw [if_pos ⟨rfl, q⟩, if_pos q]
          · rw [if_neg (fun z => q z.2), if_neg q]
        have q29 : ∀ j : Nat, qI H 29 j = if j = (ndN S).toNat then qI S 0 74 else qI S 29 j := fun j => by
          rw [eH, rdH (by decide), eG, qI_wI]
          by_cases q : j = (ndN S).toNat
          · rw [if_pos ⟨rfl, q⟩, if_pos q]
          · rw [if_neg (fun z => q z.2), if_neg q, eF]
            show qI D 29 j = _
            rw [eD]
            show qI C 29 j = _
            rw [eC, rdH (by decide), eB, rdH (by decide), eA, rdH (by decide)]
        have q32 : ∀ j : Nat, qJ H 32 j = if j = (ndN S).toNat then v else qJ S 32 j := fun j => by
          rw [eH, eG, eF]
          show qJ D 32 j = _
          rw [eD, qJ_wJ, eC, eB, eA]
          by_cases q : j = (ndN S).toNat
          · rw [if_pos ⟨rfl, q⟩, if_pos q]
          · rw [if_neg (fun z => q z.2), if_neg q]; rfl
        have q33 : ∀ j : Nat, qR H 33 j = if j = (ndN S).toNat then some p else qR S 33 j := fun j => by
          rw [eH, eG]
          show qR F 33 j = _
          rw [eF, qR_wR, eD, eC, eB, eA]
          by_cases q : j = (ndN S).toNat
          · rw [if_pos ⟨rfl, q⟩, if_pos q]
          · rw [if_neg (fun z => q z.2), if_neg q]; rfl
        have fH : frm [28, 29, 30, 31, 32, 33] [7, 8, 73, 74] S H := by
          have f1 : frm [28, 29, 30, 31, 32, 33] [7, 8, 73, 74] S A := by rw [eA]; exact frm.pI (by decide)
          have f2 : frm [28, 29, 30, 31, 32, 33] [7, 8, 73, 74] A B := by rw [eB]; exact frm.pI (by decide)
          have f3 : frm [28, 29, 30, 31, 32, 33] [7, 8, 73, 74] B C := by rw [eC]; exact frm.pI (by decide)
          have f4 : frm [28, 29, 30, 31, 32, 33] [7, 8, 73, 74] C D := by rw [eD]; exact frm.pJ (by decide)
          have f5 : frm [28, 29, 30, 31, 32, 33] [7, 8, 73, 74] D F := by rw [eF]; exact frm.pR (by decide)
          have f6 : frm [28, 29, 30, 31, 32, 33] [7, 8, 73, 74] F G := by rw [eG]; exact frm.pI (by decide)
          have f7 : frm [28, 29, 30, 31, 32, 33] [7, 8, 73, 74] G H := by rw [eH]; exact frm.pI0 (by decide)
          exact (((((f1.tr f2).tr f3).tr f4).tr f5).tr f6).tr f7
        have fin : ∀ (d : Int32) (W : MS), (d.toInt = 1 ∧ ¬ t.toInt = 5 ∨ d.toInt = 2 ∧ t.toInt = 5) → W = wI H 0 74 (qI H 0 74 + d) → NdP S t a b v p (qI W 0 74 - d) W ∧ nrI W := fun d W hd eW => by
          have fW : frm [28, 29, 30, 31, 32, 33] [7, 8, 73, 74] S W := fH.tr (by rw [eW]; exact frm.pI0 (by decide))
          have w73 : ndN W = ndN S + 1 := by show (qI W 0 73).toInt = _; rw [eW, qI_wI, if_neg (by decide)]; exact h73
          have w74 : (qI W 0 74).toInt = (qI S 0 74).toInt + d.toInt := by rw [eW, qI_wI, if_pos ⟨rfl, rfl⟩, h74, t_add (by omega)]
          have wr : qI W 0 74 - d = qI S 0 74 := Int32.toInt_inj.mp (by rw [t_sub (by omega), w74]; omega)
          have wI' : ∀ x : Nat, x ≠ 0 → qI W x = qI H x := fun x hx => by rw [eW, rdH hx]
          have wJ' : qJ W = qJ H := by rw [eW]; rfl
          have wR' : qR W = qR H := by rw [eW]; rfl
          have X : BkX S W := ⟨fW, by omega, fun k hk => ⟨by rw [wI' 28 (by decide), q28, if_neg (by omega)], by rw [wI' 29 (by decide), q29, if_neg (by omega)], by rw [wI' 30 (by decide), q30, if_neg (by omega)], by rw [wI' 31 (by decide), q31, if_neg (by omega)], by rw [wJ', q32, if_neg (by omega)], by rw [wR', q33, if_neg (by omega)]⟩⟩
          have nk : mtK W (ndN S).toNat t a b v p := by
            refine ⟨by rw [wI' 28 (by decide), q28, if_pos rfl], by rw [wI' 30 (by decide), q30, if_pos rfl], by rw [wI' 31 (by decide), q31, if_pos rfl], by rw [wJ', q32, if_pos rfl]; exact lg_rf, fun _ => ?_⟩
            have : qO W 33 (ndN S).toNat = p := by unfold qO; rw [wR', q33, if_pos rfl]; rfl
            rw [this]
            exact sEq_rf
          rw [wr]
          refine ⟨⟨⟨by omega, by omega, fun k hk => ?_⟩, X, ⟨(ndN S).toNat, by omega, nk, by rw [wI' 29 (by decide), q29, if_pos rfl], fun j hj q => hno j (by omega) ((mtK.mv X.y h' (by omega) hp).mp q)⟩, by omega, Or.inr ⟨w73, by omega, no, by rw [wI' 28 (by decide), q28, if_pos rfl]⟩⟩, fun k hk => ?_, ?_⟩
          · rw [wI' 28 (by decide), q28, wR', q33]
            by_cases z : k = (ndN S).toNat
            · rw [if_pos z, if_pos z]
              exact ⟨ht, fun y => ⟨p, rfl, (hx y).mv X.kp⟩⟩
            · rw [if_neg z, if_neg z]
              obtain ⟨e1, e2⟩ := ent k (by omega)
              refine ⟨e1, fun y => ?_⟩
              obtain ⟨w, w1, w2⟩ := e2 y
              exact ⟨w, w1, w2.mv X.kp⟩
          · rw [wI' 29 (by decide), q29]
            by_cases z : k = (ndN S).toNat
            · rw [if_pos z]; omega
            · rw [if_neg z]; exact hn.1 k (by omega)
          · rw [w73, show (ndN S + 1).toNat = (ndN S).toNat + 1 by omega]
            unfold nxN
            rw [wI' 28 (by decide), nxN_eq (g := qI S 28) _ (fun j hj => by rw [q28, if_neg (by omega)]), q28, if_pos rfl, w74, hn.2]
            rcases hd with z | z
            · rw [if_neg z.2]; omega
            · rw [if_pos z.2]; omega
        refine ⟨fun c5 => ?_, fun c5 => ?_⟩
        · unfold w_needConstant_J212
          intro W eW
          exact ⟨fun _ => fin 2 W (Or.inr ⟨by decide, c5⟩) eW, fun z => absurd c5 z⟩
        · unfold w_needConstant_J212
          intro W eW
          exact ⟨fun z => absurd z c5, fun _ => fin 1 W (Or.inl ⟨by decide, c5⟩) eW⟩
      · unfold w_needConstant_J63
        refine ⟨fun z => absurd z (by decide), fun _ => ⟨fun c5 => ?_, fun c5 => j90 (by omega) ⟨d1, d2, d3, d4, fun z => absurd z c5⟩⟩⟩
        obtain ⟨w, w1, w2⟩ := (ent i.toInt.toNat (by omega)).2 (by omega)
        have o : qO S 33 i.toInt.toNat = w := by unfold qO; rw [w1]; rfl
        refine ⟨⟨i0, by omega⟩, by rw [o]; exact w1, fun c6 => j98 (by omega) (fun m => m.2.2.2.2 c5 c6), fun c6 => j90 (by omega) ⟨d1, d2, d3, d4, fun _ => c6⟩⟩
  unfold w_needConstant
  exact ⟨_, L _ 0 (by decide) (by show (0 : Int) ≤ _; omega) (fun j hj => by
    have : (0 : Int32).toInt = 0 := rfl
    omega) (Nat.lt_succ_self _)⟩
/-! how many constants there can be (behind sp_need, cnG) -/
noncomputable def cntL (U : MS) : List (MS → Prop) → Nat
  | [] => 0
  | s :: l => (@ite Nat (s U) (Classical.propDecidable (s U)) 1 0) + cntL U l
theorem cntL_le {U : MS} : ∀ l : List (MS → Prop), cntL U l ≤ l.length := by
  intro l
  induction l with
  | nil => exact Nat.le_refl _
  | cons s l ih =>
    unfold cntL
    rw [List.length_cons]
    split <;> omega
theorem cntL_lt {U : MS} : ∀ l : List (MS → Prop), (∃ s, s ∈ l ∧ ¬ s U) → cntL U l < l.length := by
  intro l
  induction l with
  | nil => rintro ⟨s, q, _⟩; exact absurd q List.not_mem_nil
  | cons s l ih =>
    rintro ⟨s0, q, n⟩
    have le := cntL_le (U := U) l
    unfold cntL
    rw [List.length_cons]
    rcases List.mem_cons.mp q with e | e
    · subst e
      rw [if_neg n]
      omega
    · have := ih ⟨s0, e, n⟩
      split <;> omega
theorem cntL_mo {U V : MS} : ∀ l : List (MS → Prop), (∀ s, s ∈ l → s U → s V) → cntL U l ≤ cntL V l := by
  intro l
  induction l with
  | nil => intro _; exact Nat.le_refl _
  | cons s l ih =>
    intro h
    have i := ih (fun s q => h s (List.mem_cons_of_mem _ q))
    have hs := h s List.mem_cons_self
    unfold cntL
    by_cases q : s U
    · rw [if_pos q, if_pos (hs q)]; omega
    · rw [if_neg q]; omega
theorem cntL_st {U V : MS} : ∀ l : List (MS → Prop), (∀ s, s ∈ l → s U → s V) → (∃ s, s ∈ l ∧ ¬ s U ∧ s V) → cntL U l + 1 ≤ cntL V l := by
  intro l
  induction l with
  | nil => rintro _ ⟨s, q, _⟩; exact absurd q List.not_mem_nil
  | cons s l ih =>
    rintro h ⟨s0, q, n, y⟩
    have hl := fun s q => h s (List.mem_cons_of_mem _ q)
    have mo := cntL_mo l hl
    have hs := h s List.mem_cons_self
    unfold cntL
    rcases List.mem_cons.mp q with e | e
    · subst e
      rw [if_neg n, if_pos y]
      omega
    · have := ih hl ⟨s0, e, n, y⟩
      by_cases q : s U
      · rw [if_pos q, if_pos (hs q)]; omega
      · rw [if_neg q]; omega
def kN (t : Nat) (U : MS) : Prop := ∃ r : Int32, NuK U 1 0 0 0 t r
def kC (t : Nat) (U : MS) : Prop := ∃ r1 r : Int32, NuK U 1 0 0 0 t r1 ∧ NuK U 7 r1 0 0 10000032 r
def kP (n t : Nat) (U : MS) : Prop := ∃ a b r : Int32, NuK U 1 0 0 0 n a ∧ NuK U 1 0 0 0 t b ∧ NuK U 12 a b 0 10000032 r
def kM (g : Int32) (o n t : Nat) (U : MS) : Prop := ∃ c1 c a b d r : Int32, NuK U 1 0 0 0 o c1 ∧ NuK U 7 c1 0 0 10000032 c ∧ NuK U 1 0 0 0 n a ∧ NuK U 1 0 0 0 t b ∧ NuK U 12 a b 0 10000032 d ∧ NuK U g c d 0 10000032 r
def kV (g : Int32) (v : Int64) (U : MS) : Prop := ∃ r : Int32, NuK U g 0 0 v 10000032 r
def moS (l : List (MS → Prop)) : Prop := ∀ s, s ∈ l → ∀ S u : MS, BkI S → BkY S u → s S → s u
theorem kN.mo {t : Nat} (ht : 92 < t) {S u : MS} (hB : BkI S) (x : BkY S u) (h : kN t S) : kN t u := by
  obtain ⟨r, a⟩ := h
  exact ⟨r, a.my x hB ht⟩
theorem kC.mo {t : Nat} (ht : 92 < t) {S u : MS} (hB : BkI S) (x : BkY S u) (h : kC t S) : kC t u := by
  obtain ⟨r1, r, a, b⟩ := h
  exact ⟨r1, r, a.my x hB ht, b.my x hB (by decide)⟩
theorem kP.mo {n t : Nat} (hn : 92 < n) (ht : 92 < t) {S u : MS} (hB : BkI S) (x : BkY S u) (h : kP n t S) : kP n t u := by
  obtain ⟨a, b, r, h1, h2, h3⟩ := h
  exact ⟨a, b, r, h1.my x hB hn, h2.my x hB ht, h3.my x hB (by decide)⟩
theorem kM.mo {g : Int32} {o n t : Nat} (ho : 92 < o) (hn : 92 < n) (ht : 92 < t) {S u : MS} (hB : BkI S) (x : BkY S u) (h : kM g o n t S) : kM g o n t u := by
  obtain ⟨c1, c, a, b, d, r, h1, h2, h3, h4, h5, h6⟩ := h
  exact ⟨c1, c, a, b, d, r, h1.my x hB ho, h2.my x hB (by decide), h3.my x hB hn, h4.my x hB ht, h5.my x hB (by decide), h6.my x hB (by decide)⟩
theorem kV.mo {g : Int32} {v : Int64} {S u : MS} (hB : BkI S) (x : BkY S u) (h : kV g v S) : kV g v u := by
  obtain ⟨r, a⟩ := h
  exact ⟨r, a.my x hB (by decide)⟩
/-- what is fixed while a File is written: the names NL; if it must not fail (kp), all that can be needed: AL -/
def CfS (NL : List Nat) (kp : Prop) (AL : List (MS → Prop)) : Prop := (∀ t, t ∈ NL → 92 < t) ∧ NL.length ≤ 103 ∧ (kp → moS AL ∧ AL.length ≤ 700)
def nmK (S : MS) : Nat := cnG (qI S 28) (ndN S).toNat
def WrI (NL : List Nat) (kp : Prop) (AL : List (MS → Prop)) (S : MS) : Prop := BkI S ∧ nrI S ∧ nmK S ≤ cntL S (NL.map kN) ∧ (kp → ndN S ≤ cntL S AL)
theorem mo_map {NL : List Nat} (h : ∀ t, t ∈ NL → 92 < t) : moS (NL.map kN) := fun s q S u hB x z => by
  obtain ⟨t, t1, t2⟩ := List.mem_map.mp q
  subst t2
  exact kN.mo (h t t1) hB x z
theorem WrI.nd {NL : List Nat} {kp : Prop} {AL : List (MS → Prop)} {S u : MS} {t a b : Int32} {v : Int64} {p : Nat} {r : Int32} (h : WrI NL kp AL S) (cf : CfS NL kp AL) (q : NdP S t a b v p r u) (nr : nrI u) (h1 : t.toInt = 1 → (t = 1 ∧ a = 0 ∧ b = 0 ∧ v = 0) ∧ p ∈ NL) (h2 : kp → ∃ s, s ∈ AL ∧ (s S → ∃ r' : Int32, NuK S t a b v p r') ∧ ((∃ r' : Int32, NuK u t a b v p r') → s u)) : WrI NL kp AL u := by
  obtain ⟨w1, w2, w3, w4⟩ := h
  obtain ⟨q1, q2, q3, q4, q5⟩ := q
  rcases q5 with e | ⟨e1, e2, e3, e4⟩
  · subst e; exact ⟨w1, w2, w3, w4⟩
  have n0 := w1.1.1
  have en : (ndN u).toNat = (ndN S).toNat + 1 := by omega
  have old : cnG (qI u 28) (ndN S).toNat = cnG (qI S 28) (ndN S).toNat := cnG_eq _ (fun j hj => by rw [(q2.2.2 j (by omega)).1])
  have nm : nmK u = nmK S + (if t.toInt = 1 then 1 else 0) := by
    unfold nmK
    rw [en, cnG_st, old, e4]
  have moN := mo_map cf.1
  refine ⟨q1, nr, ?_, fun k => ?_⟩
  · rw [nm]
    by_cases z : t.toInt = 1
    · rw [if_pos z]
      obtain ⟨⟨z1, z2, z3, z4⟩, z5⟩ := h1 z
      subst z1 z2 z3 z4
      have := cntL_st (U := S) (V := u) (NL.map kN) (fun s hs => moN s hs S u w1 q2.y) ⟨kN p, List.mem_map.mpr ⟨p, z5, rfl⟩, fun y => (by obtain ⟨r', y'⟩ := y; exact e3 r' y'), ⟨r, q3⟩⟩
      omega
    · rw [if_neg z]
      have := cntL_mo (U := S) (V := u) (NL.map kN) (fun s hs => moN s hs S u w1 q2.y)
      omega
  · obtain ⟨s, s1, s2, s3⟩ := h2 k
    have := cntL_st (U := S) (V := u) AL (fun s hs => (cf.2.2 k).1 s hs S u w1 q2.y) ⟨s, s1, fun y => (by obtain ⟨r', y'⟩ := s2 y; exact e3 r' y'), s3 ⟨r, q3⟩⟩
    have := w4 k
    omega
theorem WrI.no {NL : List Nat} {kp : Prop} {AL : List (MS → Prop)} {S : MS} {t a b : Int32} {v : Int64} {p : Nat} (h : WrI NL kp AL S) (cf : CfS NL kp AL) (e : ndN S = 700 ∧ ∀ r' : Int32, ¬ NuK S t a b v p r') (h2 : kp → ∃ s, s ∈ AL ∧ (s S → ∃ r' : Int32, NuK S t a b v p r')) : ¬ kp := fun k => by
  obtain ⟨s, s1, s2⟩ := h2 k
  have l := cntL_lt (U := S) AL ⟨s, s1, fun y => by obtain ⟨r', y'⟩ := s2 y; exact e.2 r' y'⟩
  have := (cf.2.2 k).2
  have := h.2.2.2 k
  omega
theorem BkI.ey {S u : MS} (h : BkI S) (y : BkY S u) (e : ndN u = ndN S) (e2 : qI u 0 74 = qI S 0 74) : BkI u := by
  refine ⟨by rw [e]; exact h.1, by rw [e, e2]; exact h.2.1, fun k hk => ?_⟩
  rw [e] at hk
  obtain ⟨a1, a2, a3, a4, a5, a6⟩ := y.2.2 k hk
  rw [a1, a6]
  refine ⟨(h.2.2 k hk).1, fun z => ?_⟩
  obtain ⟨w, w1, w2⟩ := (h.2.2 k hk).2 z
  exact ⟨w, w1, w2.mv y.kp⟩
theorem WrI.ey {NL : List Nat} {kp : Prop} {AL : List (MS → Prop)} {S u : MS} (h : WrI NL kp AL S) (cf : CfS NL kp AL) (y : BkY S u) (e : ndN u = ndN S) (e2 : qI u 0 74 = qI S 0 74) : WrI NL kp AL u := by
  refine ⟨h.1.ey y e e2, ⟨fun k hk => ?_, ?_⟩, ?_, fun k => ?_⟩
  · rw [e] at hk
    rw [(y.2.2 k hk).2.1]
    exact h.2.1.1 k hk
  · rw [e2, e, h.2.1.2]
    exact (nxN_eq _ (fun j hj => (y.2.2 j (by have := h.1.1; omega)).1)).symm
  · have n : nmK u = nmK S := by
      unfold nmK
      rw [e]
      exact cnG_eq _ (fun j hj => by rw [(y.2.2 j (by have := h.1.1; omega)).1])
    rw [n]
    exact Nat.le_trans h.2.2.1 (cntL_mo _ (fun s hs => mo_map cf.1 s hs S u h.1 y))
  · have := cntL_mo (U := S) (V := u) AL (fun s hs => (cf.2.2 k).1 s hs S u h.1 y)
    have := h.2.2.2 k
    omega
theorem WrI.f9 {NL : List Nat} {kp : Prop} {AL : List (MS → Prop)} {S u : MS} {W J : List Nat} (h : WrI NL kp AL S) (cf : CfS NL kp AL) (k : frm W J S u) (hW : ∀ w ∈ W, w ≤ 92 ∧ (w < 28 ∨ 33 < w)) (hJ : ∀ j ∈ J, j ≠ 73 ∧ j ≠ 74) : WrI NL kp AL u := by
  have y := BkY.f9 k hW (fun j q => (hJ j q).1)
  exact h.ey cf y.1 y.2 (k.2.2.2.2.2 74 (fun q => (hJ 74 q).2 rfl)).1
section WRX
variable {NL : List Nat} {kp : Prop} {AL : List (MS → Prop)}
theorem sp_nm {S : MS} {p : Nat} (cf : CfS NL kp AL) (h : WrI NL kp AL S) (hp : p ∈ NL) (tx : txW S p) (ha : kp → kN p ∈ AL) : w_nameNumber S p (fun r u => WrI NL kp AL u ∧ BkX S u ∧ NuK u 1 0 0 0 p r ∧ 1 ≤ r.toInt ∧ r.toInt ≤ 1401) (fun _ => ¬ kp) := by
  unfold w_nameNumber
  have g : kp → ∃ s, s ∈ AL ∧ (s S → ∃ r' : Int32, NuK S 1 0 0 0 p r') := fun k => ⟨kN p, ha k, fun y => y⟩
  refine ⟨_, _, sp_need h.1 h.2.1 (Or.inl (by decide)) (cf.1 p hp) (fun _ => tx), ?_, fun u e => h.no cf e g⟩
  rintro r u ⟨q, nr⟩
  exact ⟨h.nd cf q nr (fun _ => ⟨⟨rfl, rfl, rfl, rfl⟩, hp⟩) (fun k => ⟨kN p, ha k, fun y => y, fun y => y⟩), q.2.1, q.2.2.1, q.2.2.2.1⟩
theorem sp_cls {S : MS} {p : Nat} (cf : CfS NL kp AL) (h : WrI NL kp AL S) (hp : p ∈ NL) (tx : txW S p) (ha : kp → kN p ∈ AL) (hc : kp → kC p ∈ AL) : w_classNumber S p (fun r u => WrI NL kp AL u ∧ BkX S u ∧ (∃ r1 : Int32, NuK u 1 0 0 0 p r1 ∧ NuK u 7 r1 0 0 10000032 r) ∧ 1 ≤ r.toInt ∧ r.toInt ≤ 1401) (fun _ => ¬ kp) := by
  unfold w_classNumber
  refine ⟨_, _, sp_nm cf h hp tx ha, ?_, fun u e => e⟩
  rintro r1 U ⟨hU, xU, nU, b1, b2⟩
  have p92 := cf.1 p hp
  have g : kC p U → ∃ r' : Int32, NuK U 7 r1 0 0 10000032 r' := fun y => by
    obtain ⟨r2, r, y1, y2⟩ := y
    have := y1.uq nU
    subst this
    exact ⟨r, y2⟩
  refine ⟨_, _, sp_need hU.1 hU.2.1 (by unfold tgO; decide) (by decide) (fun z => absurd z (by decide)), ?_, fun u e => hU.no cf e (fun k => ⟨kC p, hc k, g⟩)⟩
  rintro r u ⟨q, nr⟩
  have n1 := nU.mv q.2.1 hU.1 p92
  exact ⟨hU.nd cf q nr (fun z => absurd z (by decide)) (fun k => ⟨kC p, hc k, g, fun ⟨r', y⟩ => ⟨r1, r', n1, y⟩⟩), xU.tr q.2.1, ⟨r1, n1, q.2.2.1⟩, q.2.2.2.1⟩
theorem sp_mem {S : MS} {g : Int32} {o n t : Nat} (cf : CfS NL kp AL) (h : WrI NL kp AL S) (hg : g.toInt = 9 ∨ g.toInt = 10) (r47 : qR S 0 47 = some (qO S 0 47)) (n47 : qO S 0 47 ≠ 0 ∧ qO S 0 47 ∉ [28, 29, 30, 31, 32, 33]) (r0 : qR S (qO S 0 47) 0 = some o) (ho : o ∈ NL ∧ txW S o ∧ (kp → kN o ∈ AL ∧ kC o ∈ AL)) (hn : n ∈ NL ∧ txW S n ∧ (kp → kN n ∈ AL)) (ht : t ∈ NL ∧ txW S t ∧ (kp → kN t ∈ AL)) (hm : kp → kP n t ∈ AL ∧ kM g o n t ∈ AL) : w_memberNumber S g n t (fun r u => WrI NL kp AL u ∧ BkX S u ∧ 1 ≤ r.toInt ∧ r.toInt ≤ 1401) (fun _ => ¬ kp) := by
  have qo : qO S (qO S 0 47) 0 = o := by unfold qO at r0 ⊢; rw [r0]; rfl
  unfold w_memberNumber
  rw [qo]
  refine ⟨r47, r0, _, _, sp_cls cf h ho.1 ho.2.1 (fun k => (ho.2.2 k).1) (fun k => (ho.2.2 k).2), ?_, fun u e => e⟩
  rintro c A ⟨hA, xA, ⟨c1, nc1, nc⟩, bc⟩
  refine ⟨_, _, sp_nm cf hA hn.1 (hn.2.1.mv xA.kp) hn.2.2, ?_, fun u e => e⟩
  rintro a B ⟨hB, xB, na, ba⟩
  have xAB := xA.tr xB
  refine ⟨_, _, sp_nm cf hB ht.1 (ht.2.1.mv xAB.kp) ht.2.2, ?_, fun u e => e⟩
  rintro b C ⟨hC, xC, nb, bb⟩
  have o92 := cf.1 o ho.1
  have n92 := cf.1 n hn.1
  have t92 := cf.1 t ht.1
  have nc1C := (nc1.mv xB hA.1 o92).mv xC hB.1 o92
  have ncC := (nc.mv xB hA.1 (by decide)).mv xC hB.1 (by decide)
  have naC := na.mv xC hB.1 n92
  have gP : kP n t C → ∃ r' : Int32, NuK C 12 a b 0 10000032 r' := fun y => by
    obtain ⟨a', b', r, y1, y2, y3⟩ := y
    have e1 := y1.uq naC
    have e2 := y2.uq nb
    subst e1 e2
    exact ⟨r, y3⟩
  refine ⟨_, _, sp_need hC.1 hC.2.1 (by unfold tgO; decide) (by decide) (fun z => absurd z (by decide)), ?_, fun u e => hC.no cf e (fun k => ⟨kP n t, (hm k).1, gP⟩)⟩
  rintro d D ⟨q, nr⟩
  have xD := q.2.1
  have naD := naC.mv xD hC.1 n92
  have nbD := nb.mv xD hC.1 t92
  have hD := hC.nd cf q nr (fun z => absurd z (by decide)) (fun k => ⟨kP n t, (hm k).1, gP, fun ⟨r', y⟩ => ⟨a, b, r', naD, nbD, y⟩⟩)
  have nc1D := nc1C.mv xD hC.1 o92
  have ncD := ncC.mv xD hC.1 (by decide)
  have nd := q.2.2.1
  have gM : kM g o n t D → ∃ r' : Int32, NuK D g c d 0 10000032 r' := fun y => by
    obtain ⟨c1', c', a', b', d', r, y1, y2, y3, y4, y5, y6⟩ := y
    have e1 := y1.uq nc1D
    subst e1
    have e2 := y2.uq ncD
    have e3 := y3.uq naD
    have e4 := y4.uq nbD
    subst e2 e3 e4
    have e5 := y5.uq nd
    subst e5
    exact ⟨r, y6⟩
  refine ⟨_, _, sp_need hD.1 hD.2.1 (by unfold tgO; omega) (by decide) (fun z => by omega), ?_, fun u e => hD.no cf e (fun k => ⟨kM g o n t, (hm k).2, gM⟩)⟩
  rintro r u ⟨q2, nr2⟩
  have xu := q2.2.1
  exact ⟨hD.nd cf q2 nr2 (fun z => by omega) (fun k => ⟨kM g o n t, (hm k).2, gM, fun ⟨r', y⟩ => ⟨c1, c, a, b, d, r', nc1D.mv xu hD.1 o92, ncD.mv xu hD.1 (by decide), naD.mv xu hD.1 n92, nbD.mv xu hD.1 t92, nd.mv xu hD.1 (by decide), y⟩⟩), ((xAB.tr xC).tr xD).tr xu, q2.2.2.2.1⟩
end WRX
