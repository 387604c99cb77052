/-! count as a whole, but for keptDraft (behind sp_count_L196, DhI, sp_cname) -/
def frX (W J : List Nat) (S u : MS) : Prop := kpW S u ∧ (∀ a : Nat, a ≤ 92 → qT u a = qT S a ∧ qN u a = qN S a) ∧ (∀ h : Nat, h ≠ 0 → h ≤ 92 → h ∉ W → qI u h = qI S h ∧ qJ u h = qJ S h ∧ qR u h = qR S h) ∧ ∀ j : Nat, j ∉ J → qI u 0 j = qI S 0 j ∧ qJ u 0 j = qJ S 0 j ∧ qR u 0 j = qR S 0 j
theorem frX.rf {W J : List Nat} {S : MS} : frX W J S S := ⟨kpW.rf, fun _ _ => ⟨rfl, rfl⟩, fun _ _ _ _ => ⟨rfl, rfl, rfl⟩, fun _ _ => ⟨rfl, rfl, rfl⟩⟩
theorem frX.tr {W J : List Nat} {S u v : MS} (h : frX W J S u) (k : frX W J u v) : frX W J S v := ⟨h.1.tr k.1, fun a ha => ⟨(k.2.1 a ha).1.trans (h.2.1 a ha).1, (k.2.1 a ha).2.trans (h.2.1 a ha).2⟩, fun a a0 a1 a2 => ⟨(k.2.2.1 a a0 a1 a2).1.trans (h.2.2.1 a a0 a1 a2).1, (k.2.2.1 a a0 a1 a2).2.1.trans (h.2.2.1 a a0 a1 a2).2.1, (k.2.2.1 a a0 a1 a2).2.2.trans (h.2.2.1 a a0 a1 a2).2.2⟩, fun j hj => ⟨(k.2.2.2 j hj).1.trans (h.2.2.2 j hj).1, (k.2.2.2 j hj).2.1.trans (h.2.2.2 j hj).2.1, (k.2.2.2 j hj).2.2.trans (h.2.2.2 j hj).2.2⟩⟩
theorem frX.of {W J : List Nat} {S u : MS} (k : frm W J S u) (hW : ∀ w ∈ W, w ≤ 92) : frX W J S u := ⟨kpW.f9 k hW, fun a _ => ⟨by rw [k.1], by rw [k.2.1]⟩, fun h h0 _ h2 => k.2.2.2.2.1 h h0 h2, k.2.2.2.2.2⟩
theorem frX.mo {W J W' J' : List Nat} {S u : MS} (h : frX W J S u) (hW : W.all (fun x => W'.contains x) = true) (hJ : J.all (fun x => J'.contains x) = true) : frX W' J' S u := by
  have mW : ∀ a : Nat, a ∉ W' → a ∉ W := fun a n q => n (List.contains_iff_mem.mp (List.all_eq_true.mp hW a q))
  have mJ : ∀ a : Nat, a ∉ J' → a ∉ J := fun a n q => n (List.contains_iff_mem.mp (List.all_eq_true.mp hJ a q))
  exact ⟨h.1, h.2.1, fun a a0 a1 a2 => h.2.2.1 a a0 a1 (mW a a2), fun j hj => h.2.2.2 j (mJ j hj)⟩
theorem FsI.fx {S u : MS} {W J : List Nat} (h : FsI VfI S) (hk : knI S) (k : frX W J S u) (hW : 1 ∉ W) (hJ : 1 ∉ J) : FsI VfI u := h.mv VfI.st hk (fun a a0 a1 => k.1.1 a a0 (Or.inl a1)) (fun a ha => k.1.1 a (by rw [show TXB = 10000000 from rfl] at ha; omega) (Or.inr ha)) k.1.2 (k.2.2.2 1 hJ).1 (k.2.2.1 1 (by decide) (by decide) hW).2.2
theorem FlI.fx {S u : MS} {f : Nat} {W J : List Nat} (h : FlI S f) (k : frX W J S u) : FlI u f := h.mv (fun a a0 a1 => (k.1.1 a (by have := h.1.1.1; omega) (Or.inl a1)).s6) k.1.2
theorem GrJ.fx {S u : MS} {W J : List Nat} (h : GrJ S) (F : FsI VfI S) (k : frX W J S u) (hW : ∀ w ∈ W, 60 ≤ w ∧ w ≤ 92) (hJ : ∀ j ∈ J, j ≠ 1 ∧ j ≠ 105 ∧ j ≠ 106 ∧ j ≠ 107 ∧ j ≠ 110) : GrJ u := by
  have lw := fun (a : Nat) (h0 : a ≠ 0) (h1 : a < 60) => k.2.2.1 a h0 (by omega) (fun q => by have := hW a q; omega)
  have lj := fun (j : Nat) (q : j = 1 ∨ j = 105 ∨ j = 106 ∨ j = 107 ∨ j = 110) => (k.2.2.2 j (fun z => by have := hJ j z; omega)).1
  exact h.mv F (fun a a0 a1 => (k.1.1 a a0 (Or.inl a1)).s6) ⟨lj 1 (by omega), lj 105 (by omega), lj 106 (by omega), lj 107 (by omega), lj 110 (by omega)⟩ (lw 1 (by decide) (by decide)).2.2 ⟨(lw 49 (by decide) (by decide)).1, (lw 50 (by decide) (by decide)).1, (lw 51 (by decide) (by decide)).1, (lw 52 (by decide) (by decide)).1, (lw 53 (by decide) (by decide)).1⟩
theorem GnA.kp {S u : MS} {f m n : Nat} (h : GnA S f m n) (hf : FlI S f) (k : kpW S u) : GnA u f m n := by
  have f92 := hf.1.1.1
  obtain ⟨h1, h2, h3, h4, h5, R, T, C, nc, ts, cn, r1, r2, r3, r4, r5, r6⟩ := hf
  have eR : qO S f 18 = R := by unfold qO; rw [r2.1]; rfl
  have eT : qO S f 19 = T := by unfold qO; rw [r2.2.1]; rfl
  have eC : qO S f 20 = C := by unfold qO; rw [r2.2.2]; rfl
  have kb := fun (a : Nat) (h0 : 92 < a) (h1 : a < qn S) => k.1 a h0 (Or.inl h1)
  refine h.mv ?_ ?_ ?_
  · rw [(kb f f92 (by omega)).2.2.1]; exact ⟨rfl, rfl, rfl⟩
  · rw [eR, eT, eC]; exact ⟨(kb R (by omega) (by omega)).1, (kb T (by omega) (by omega)).1, (kb C (by omega) (by omega)).1⟩
  · exact ⟨by rw [(kb _ (by omega) (by omega)).1], by rw [(kb _ (by omega) (by omega)).1], by rw [(kb _ (by omega) (by omega)).1], by rw [(kb _ (by omega) (by omega)).1]⟩
theorem TbF.kp {S u : MS} {f : Nat} (h : TbF S f) (hf : FlI S f) (k : kpW S u) : TbF u f := by
  have f92 := hf.1.1.1
  obtain ⟨h1, h2, h3, h4, h5, R, T, C, nc, ts, cn, r1, r2, r3, r4, r5, r6⟩ := hf
  have eR : qO S f 18 = R := by unfold qO; rw [r2.1]; rfl
  have kb := fun (a : Nat) (h0 : 92 < a) (h1 : a < qn S) => k.1 a h0 (Or.inl h1)
  have oR : qO u f 18 = qO S f 18 := by unfold qO; rw [(kb f f92 (by omega)).2.2.1]
  unfold TbF mL mR mF
  rw [oR, eR, (kb R (by omega) (by omega)).1, (kb f f92 (by omega)).1, (kb (f + 10) (by omega) (by omega)).1, (kb (f + 11) (by omega) (by omega)).1, ← eR]
  exact h
/-- the names so far -/
def NaI (C : MS) (F k : Int) (U : MS) : Prop := knI U ∧ frX [61, 62, 63] [] C U ∧ (∀ j : Nat, (j : Int) < F → qR U 61 j = qR C 61 j ∧ qR U 62 j = qR C 62 j ∧ qR U 63 j = qR C 63 j) ∧ (∀ j : Nat, F ≤ j → (j : Int) < k → ∃ s : Nat, qR U 61 j = some s ∧ qR U 62 j = some 10000022 ∧ qR U 63 j = some 10000022 ∧ txW U s) ∧ ((qn U : Int) ≤ qn C + 4 * (k - F) ∧ (qu U : Int) ≤ qu C + 32 * (k - F)) ∧ qI U 61 = qI C 61 ∧ qI U 62 = qI C 62 ∧ qI U 63 = qI C 63
theorem frX.wR {W J : List Nat} {S : MS} {h i : Nat} {v : Option Nat} (hm : W.contains h = true ∧ h ≠ 0 ∧ h ≤ 92) : frX W J S (wR S h i v) := ⟨⟨fun a a0 _ => sm5.wR (by omega), Nat.le_refl _⟩, fun _ _ => ⟨rfl, rfl⟩, fun a h0 h1 hn => ⟨rfl, rfl, if_neg (fun (q : a = h) => hn (by rw [q]; exact List.contains_iff_mem.mp hm.1))⟩, fun j hj => ⟨rfl, rfl, by rw [qR_wR, if_neg (fun q => hm.2.1 q.1.symm)]⟩⟩
theorem exS.fx {W J : List Nat} {S u : MS} {c s : Nat} (h : exS S u c s) (k : knI S) (hr : qn u ≤ KC) : frX W J S u := by
  have k93 := k.1
  have o := fun (a : Nat) (ha : a < qn S ∨ TXB ≤ a) => h.ol hr ha
  exact ⟨⟨fun a _ a1 => o a a1, h.2.1.1⟩, fun a ha => ⟨(o a (Or.inl (by omega))).2.2.2.1, (o a (Or.inl (by omega))).2.2.2.2⟩, fun a _ a1 _ => ⟨(o a (Or.inl (by omega))).1, (o a (Or.inl (by omega))).2.1, (o a (Or.inl (by omega))).2.2.1⟩, fun j _ => ⟨by rw [(o 0 (Or.inl (by omega))).1], by rw [(o 0 (Or.inl (by omega))).2.1], by rw [(o 0 (Or.inl (by omega))).2.2.1]⟩⟩
theorem sp_count_L105 {C : MS} {f : Nat} {y al : Int32} {Q : Int32 → MS → Prop} (h : FlI C f) (tx : TxI C) (hk : knI C) (hd : DrO C) (hr : qn C + 96 ≤ KC ∧ qu C + 768 ≤ KS) (hal : (qI C f 3).toInt ≤ al.toInt ∧ al.toInt ≤ 24) (done : ∀ U : MS, NaI C (qI C f 3).toInt al.toInt U → ∀ D : MS, D = wI U 60 3 al → ∀ a : Int32, a = qI D f 3 → ∃ n, w_count_L196 Q n D y f a 0) : ∃ n, w_count_L105 Q n C y f al (qI C f 3) := by
  have f92 := h.1.1.1
  have fq := h.2.1
  have F0 := h.2.2.2.1.1
  have kKC : KC = 300000 := rfl
  have L : ∀ (c : Nat) (U : MS) (k : Int32), ((qI C f 3).toInt ≤ k.toInt ∧ k.toInt ≤ al.toInt) → NaI C (qI C f 3).toInt k.toInt U → (24 - k.toInt).toNat < c → w_count_L105 Q c U y f al k := by
    intro c
    induction c with
    | zero => intro U k _ _ h9; exact absurd h9 (Nat.not_lt_zero _)
    | succ c ih =>
      intro U k k0 hU hc
      have hU' := hU
      obtain ⟨kn, fx, e1, e2, ⟨q1, q2⟩, i1, i2, i3⟩ := hU
      have uf3 : qI U f 3 = qI C f 3 := by rw [(fx.1.1 f f92 (Or.inl (by omega))).1]
      have u60 : qR U 60 = qR C 60 := (fx.2.2.1 60 (by decide) (by decide) (by decide)).2.2
      have o5 : qO U 60 5 = 61 := by unfold qO; rw [u60, (hd 0 (by decide)).1]; rfl
      unfold w_count_L105
      refine ⟨fun c1 D eD a ea => ?_, fun c1 => ?_⟩
      · exact done U (by rw [show al.toInt = k.toInt by omega]; exact hU') D eD a ea
      have nx : qn C ≤ qn U := fx.1.2
      rw [o5]
      refine ⟨by rw [u60]; exact (hd 0 (by decide)).1, ⟨by omega, by omega⟩, fun D eD => ?_⟩
      have ex : (k - qI U f 3).toInt = k.toInt - (qI C f 3).toInt := by rw [uf3, t_sub (by omega)]
      have txU : TxI U := tx.kp fx.1
      refine sp_cname (U := U) (x := k - qI U f 3) txU kn (by omega) ⟨by omega, by omega⟩ D eD (fun V => k - qI V f 3) (fun V hV => by
        show k - qI V f 3 = k - qI U f 3
        rw [(hV f (by omega)).1]) (fun r u er ht hx => ?_)
      obtain ⟨n, g, hn, st⟩ := ht
      have qnu : qn u ≤ KC := by have := hx.2.1; omega
      have fu : frX [61, 62, 63] [] U u := hx.fx kn qnu
      have knu : knI u := hx.kn kn qnu
      have f24 := fu.2.1
      have N : ∀ i : Nat, i < 13 → qN u (61 + i) = 24 := fun i hi => by rw [(fu.2.1 (61 + i) (by omega)).2, (fx.2.1 (61 + i) (by omega)).2]; exact (hd i hi).2
      refine ⟨⟨by omega, by rw [N 0 (by decide)]; omega⟩, fun A eA => ?_⟩
      have fA : frX [61, 62, 63] [] u A := by rw [eA]; exact frX.wR (by decide)
      have a60 : qR A 60 = qR C 60 := by rw [(fA.2.2.1 60 (by decide) (by decide) (by decide)).2.2, (fu.2.2.1 60 (by decide) (by decide) (by decide)).2.2, u60]
      have o6 : qO A 60 6 = 62 := by unfold qO; rw [a60, (hd 1 (by decide)).1]; rfl
      rw [o6]
      refine ⟨by rw [a60]; exact (hd 1 (by decide)).1, ⟨by omega, by rw [(fA.2.1 62 (by decide)).2, N 1 (by decide)]; omega⟩, fun B eB => ?_⟩
      have fB : frX [61, 62, 63] [] A B := by rw [eB]; exact frX.wR (by decide)
      have b60 : qR B 60 = qR C 60 := by rw [(fB.2.2.1 60 (by decide) (by decide) (by decide)).2.2, a60]
      have o7 : qO B 60 7 = 63 := by unfold qO; rw [b60, (hd 2 (by decide)).1]; rfl
      rw [o7]
      refine ⟨by rw [b60]; exact (hd 2 (by decide)).1, ⟨by omega, by rw [(fB.2.1 63 (by decide)).2, (fA.2.1 63 (by decide)).2, N 2 (by decide)]; omega⟩, fun E eE a ea => ?_⟩
      have fE : frX [61, 62, 63] [] B E := by rw [eE]; exact frX.wR (by decide)
      have fuE : frX [61, 62, 63] [] u E := (fA.tr fB).tr fE
      subst ea
      have ek : (k + Int32.ofInt 1).toInt = k.toInt + 1 := by rw [t_add (by rw [lo_1]; omega), lo_1]
      have lw := fun (j : Nat) (hj : j < 93) => hx.1 j (Or.inl (by have := kn.1; omega))
      have r61 : ∀ j : Nat, qR E 61 j = if j = k.toInt.toNat then some r else qR U 61 j := fun j => by
        rw [eE, qR_wR, if_neg (fun q => absurd q.1 (by decide)), eB, qR_wR, if_neg (fun q => absurd q.1 (by decide)), eA, qR_wR, (lw 61 (by decide)).2.2.1]
        by_cases q : j = k.toInt.toNat
        · rw [if_pos ⟨rfl, q⟩, if_pos q]
        · rw [if_neg (fun z => q z.2), if_neg q]
      have r62 : ∀ j : Nat, qR E 62 j = if j = k.toInt.toNat then some 10000022 else qR U 62 j := fun j => by
        rw [eE, qR_wR, if_neg (fun q => absurd q.1 (by decide)), eB, qR_wR]
        by_cases q : j = k.toInt.toNat
        · rw [if_pos ⟨rfl, q⟩, if_pos q]
        · rw [if_neg (fun z => q z.2), if_neg q, eA, qR_wR, if_neg (fun q => absurd q.1 (by decide)), (lw 62 (by decide)).2.2.1]
      have r63 : ∀ j : Nat, qR E 63 j = if j = k.toInt.toNat then some 10000022 else qR U 63 j := fun j => by
        rw [eE, qR_wR]
        by_cases q : j = k.toInt.toNat
        · rw [if_pos ⟨rfl, q⟩, if_pos q]
        · rw [if_neg (fun z => q z.2), if_neg q, eB, qR_wR, if_neg (fun q => absurd q.1 (by decide)), eA, qR_wR, if_neg (fun q => absurd q.1 (by decide)), (lw 63 (by decide)).2.2.1]
      have nE : qn E = qn u ∧ qu E = qu u := by rw [eE, eB, eA]; exact ⟨rfl, rfl⟩
      have iE : ∀ a : Nat, qI E a = qI u a := fun a => by rw [eE, eB, eA]; rfl
      have knE : knI E := by
        have tE : qT E = qT u := by rw [eE, eB, eA]; rfl
        unfold knI
        rw [tE, nE.1]
        exact knu
      have tr : txW u r := ⟨st.1.2, Or.inl ⟨by have := kn.1; omega, by
        rcases st.2.1 with q | q
        · exact q
        · rw [show TXB = 10000000 from rfl] at q; omega⟩, by rw [st.2.2.1]; omega⟩
      have x2 := hx.2
      refine ih E _ (by omega) ⟨knE, fx.tr (fu.tr fuE), fun j hj => ?_, fun j j0 j1 => ?_, by omega, by rw [iE, (lw 61 (by decide)).1, i1], by rw [iE, (lw 62 (by decide)).1, i2], by rw [iE, (lw 63 (by decide)).1, i3]⟩ (by omega)
      · rw [r61, r62, r63, if_neg (by omega), if_neg (by omega), if_neg (by omega)]
        exact e1 j hj
      · by_cases q : j = k.toInt.toNat
        · refine ⟨r, by rw [r61, if_pos q], by rw [r62, if_pos q], by rw [r63, if_pos q], tr.mv fuE.1⟩
        · obtain ⟨s, s1, s2, s3, s4⟩ := e2 j j0 (by omega)
          refine ⟨s, by rw [r61, if_neg q]; exact s1, by rw [r62, if_neg q]; exact s2, by rw [r63, if_neg q]; exact s3, (s4.mv fu.1).mv fuE.1⟩
  exact ⟨_, L _ C (qI C f 3) ⟨Int.le_refl _, hal.1⟩ ⟨hk, frX.rf, fun _ _ => ⟨rfl, rfl, rfl⟩, fun j j0 j1 => by omega, by omega, rfl, rfl, rfl⟩ (Nat.lt_succ_self _)⟩
/-! count as a whole, but for keptDraft (behind sp_count_L105, sp_count_L196) -/
theorem nzN_le {g : Nat → Int32} : ∀ n : Nat, nzN g n ≤ n := by
  intro n
  induction n with
  | zero => exact Nat.le_refl _
  | succ n ih =>
    show nzN g n + (if (g n).toInt = 0 then 0 else 1) ≤ n + 1
    split <;> omega
def TbS (S : MS) : Prop := ∀ (i f : Nat), (i : Int) < (qI S 0 1).toInt → qR S 1 i = some f → TbF S f
def cuG (S : MS) (f : Nat) (m : Nat) (al : Int) (U : MS) : Prop := frm [49, 50, 51, 52, 53, 54, 55, 56, 57, 58, 59] [47, 48, 49, 50, 51, 52, 53, 54, 105, 106, 107, 110] S U ∧ GrJ U ∧ ∃ nf : Nat → Nat, (∀ m' : Nat, m' < m → GnA S f m' (nf m')) ∧ al = (qI S f 3).toInt + sumN nf m ∧ sumN nf m ≤ 1200 * m
theorem sp_count {S : MS} {x : Int32} {Q : Int32 → MS → Prop} (fs : FsI VfI S) (hk : knI S) (tx : TxI S) (g : GrJ S) (hd : DrO S) (tb : TbS S) (hr : qn S + 96 ≤ KC ∧ qu S + 768 ≤ KS) (hmd : 0 ≤ (qI S 0 2).toInt ∧ (qI S 0 2).toInt ≤ 16) (hQ : ∀ (r : Int32) (u : MS), frX [49, 50, 51, 52, 53, 54, 55, 56, 57, 58, 59] [2, 47, 48, 49, 50, 51, 52, 53, 54, 105, 106, 107, 110] S u → GrJ u → ((qI S 0 2).toInt ≤ (qI u 0 2).toInt ∧ (qI u 0 2).toInt ≤ 16) → (qn u = qn S ∧ qu u = qu S) → knI u → Q r u) (done : ∀ U : MS, DfI U → FsI VfI U → knI U → GrJ U → TxI U → frX [49, 50, 51, 52, 53, 54, 55, 56, 57, 58, 59, 60, 61, 62, 63, 64, 65, 66, 67, 70, 71, 72, 73, 74, 75, 76, 78, 79, 80, 81, 82, 83, 84, 85, 86, 91, 92] [2, 47, 48, 49, 50, 51, 52, 53, 54, 105, 106, 107, 110, 122, 123, 129, 135] S U → ((qI S 0 2).toInt + 1 ≤ (qI U 0 2).toInt ∧ (qI U 0 2).toInt ≤ 16) → (qn U ≤ qn S + 96 ∧ qu U ≤ qu S + 768) → (qI S 0 1).toInt < 12 → ∃ Q20, w_keptDraft U Q20 ∧ ∀ r21 S22, Q20 r21 S22 → Q r21 S22) : w_count S x Q := by
  unfold w_count
  refine ⟨_, sp_isRight fs, ?_⟩
  rintro r0 S' ⟨rfl, hr0⟩
  have own : ∀ r : Int32, Q r S' := fun r => hQ r S' frX.rf g ⟨Int.le_refl _, hmd.2⟩ ⟨rfl, rfl⟩ hk
  refine ⟨fun _ => own _, fun c0 => ⟨fun _ => own _, fun c1 => ⟨fun _ => own _, fun c2 A eA => ?_⟩⟩⟩
  obtain ⟨f, hx, hf, flS, vfS⟩ := hr0 c0
  have fs12 := fs.1
  have fA : frm [] [2] S' A := by rw [eA]; exact frm.pI0 (by decide)
  have f92 := flS.1.1.1
  have kbA := big_frm fA (by decide)
  have a1 : qR A 1 = qR S' 1 := (fA.2.2.2.2.1 1 (by decide) (by decide)).2.2
  have a01 : qI A 0 1 = qI S' 0 1 := (fA.2.2.2.2.2 1 (by decide)).1
  have oA : qO A 1 x.toInt.toNat = f := by unfold qO; rw [a1, hf]; rfl
  have flA : FlI A f := flS.fm f92 fA (by decide)
  have fsA := fs.f9 hk fA (by decide) (by decide)
  have knA := hk.f9 fA
  have grA := g.f9 fs fA (by decide) (by decide)
  have tbA : TbF A f := (tb x.toInt.toNat f (by omega) hf).kp flS (kpW.f9 fA (by decide))
  have mA : (qI S' 0 2).toInt + 1 ≤ (qI A 0 2).toInt ∧ (qI A 0 2).toInt ≤ 16 := by
    have e : (qI S' 0 2 + (1 : Int32)).toInt = (qI S' 0 2).toInt + 1 := by rw [t_add (by rw [li_1]; omega), li_1]
    rw [eA, qI_wI, if_pos ⟨rfl, rfl⟩, e]
    omega
  have txA : TxI A := tx.kp (kpW.f9 fA (by decide))
  have hdA : DrO A := fun i hi => ⟨by rw [(fA.2.2.2.2.1 60 (by decide) (by decide)).2.2]; exact (hd i hi).1, by rw [fA.2.1]; exact (hd i hi).2⟩
  have qA : qn A = qn S' ∧ qu A = qu S' := ⟨fA.2.2.1, fA.2.2.2.1⟩
  rw [oA]
  refine ⟨by omega, by rw [a1]; exact hf, fun a13 e13 => ?_⟩
  have F4 := flA.2.2.2.1
  have L56 : ∀ (c : Nat) (U : MS) (al m : Int32), (0 ≤ m.toInt ∧ m.toInt ≤ (qI A f 4).toInt) → cuG A f m.toInt.toNat al.toInt U → (24 - m.toInt).toNat < c → w_count_L56 Q c U x f al m := by
    intro c
    induction c with
    | zero => intro U al m _ _ h9; exact absurd h9 (Nat.not_lt_zero _)
    | succ c ih =>
      intro U al m m0 hU hc
      obtain ⟨fU, gU, nf, n1, n2, n3⟩ := hU
      have kbU := big_frm fU (by decide)
      have flU : FlI U f := flA.fm f92 fU (by decide)
      have fsU := fsA.f9 knA fU (by decide) (by decide)
      have knU := knA.f9 fU
      have uf4 : qI U f 4 = qI A f 4 := by rw [(kbU f f92).1]
      have u1 : qR U 1 = qR A 1 := (fU.2.2.2.2.1 1 (by decide) (by decide)).2.2
      have u01 : qI U 0 1 = qI A 0 1 := (fU.2.2.2.2.2 1 (by decide)).1
      have fSU : frX [49, 50, 51, 52, 53, 54, 55, 56, 57, 58, 59] [2, 47, 48, 49, 50, 51, 52, 53, 54, 105, 106, 107, 110] S' U := ((frX.of fA (by decide)).mo (by decide) (by decide)).tr ((frX.of fU (by decide)).mo (by decide) (by decide))
      have mU : (qI S' 0 2).toInt + 1 ≤ (qI U 0 2).toInt ∧ (qI U 0 2).toInt ≤ 16 := by rw [(fU.2.2.2.2.2 2 (by decide)).1]; exact mA
      have qU : qn U = qn S' ∧ qu U = qu S' := ⟨fU.2.2.1.trans qA.1, fU.2.2.2.1.trans qA.2⟩
      unfold w_count_L56
      rw [uf4]
      refine ⟨fun c3 => ⟨fun c4 => ?_, fun _ => hQ _ U fSU gU ⟨by have := mU.1; omega, mU.2⟩ qU knU⟩, fun c3 => ?_⟩
      · -- the names, then the methods
        have hdU : DrO U := fun i hi => ⟨by rw [(fU.2.2.2.2.1 60 (by decide) (by decide)).2.2]; exact (hdA i hi).1, by rw [fU.2.1]; exact (hdA i hi).2⟩
        refine ⟨_, sp_copyHead flU hdU, fun C hC a19 e19 => ?_⟩
        have dhC := hC.dh flU hdU
        have fC := hC.1
        have kbC := big_frm fC (by decide)
        have flC : FlI C f := flU.fm f92 fC (by decide)
        have fsC := fsU.f9 knU fC (by decide) (by decide)
        have knC := knU.f9 fC
        have grC := gU.f9 fsU fC (by decide) (by decide)
        have txC : TxI C := (txA.kp (kpW.f9 fU (by decide))).kp (kpW.f9 fC (by decide))
        have cf : qI C f = qI A f := by rw [(kbC f f92).1, (kbU f f92).1]
        have qC : qn C = qn S' ∧ qu C = qu S' := ⟨fC.2.2.1.trans qU.1, fC.2.2.2.1.trans qU.2⟩
        have em : m.toInt.toNat = (qI A f 4).toInt.toNat := by omega
        rw [em] at n1 n2 n3
        subst e19
        refine sp_count_L105 flC txC knC dhC.1 (by omega) (by rw [cf]; omega) (fun V hV D eD a22 e22 => ?_)
        obtain ⟨knV, fxV, v1, v2, ⟨v3, v4⟩, v5, v6, v7⟩ := hV
        have fD : frX [60] [] V D := frX.of (show frm [60] [] V D by rw [eD]; exact frm.pI (by decide)) (by decide)
        have fCD : frX [60, 61, 62, 63] [] C D := (fxV.mo (by decide) (by decide)).tr (fD.mo (by decide) (by decide))
        have fAC : frX [49, 50, 51, 52, 53, 54, 55, 56, 57, 58, 59, 60, 61, 62, 63, 64, 65, 66, 67, 75] [47, 48, 49, 50, 51, 52, 53, 54, 105, 106, 107, 110, 122, 123] A C := ((frX.of fU (by decide)).mo (by decide) (by decide)).tr ((frX.of fC (by decide)).mo (by decide) (by decide))
        have flD := flC.fx fCD
        have fsD := fsC.fx knC fCD (by decide) (by decide)
        have knD : knI D := by
          have tD : qT D = qT V ∧ qn D = qn V := by rw [eD]; exact ⟨rfl, rfl⟩
          unfold knI
          rw [tD.1, tD.2]
          exact knV
        have grD := grC.fx fsC fCD (by decide) (by decide)
        have txD : TxI D := txC.kp fCD.1
        have df : qI D f = qI A f := by rw [(fCD.1.1 f f92 (Or.inl (by have := flC.2.1; omega))).1, cf]
        have dr : qR D f = qR A f := by rw [(fCD.1.1 f f92 (Or.inl (by have := flC.2.1; omega))).2.2.1, (kbC f f92).2.2.1, (kbU f f92).2.2.1]
        have hdD : DrO D := fun i hi => ⟨by
          have : qR D 60 = qR C 60 := by rw [eD]; exact (fxV.2.2.1 60 (by decide) (by decide) (by decide)).2.2
          rw [this]; exact (dhC.1 i hi).1, by rw [(fCD.2.1 (61 + i) (by omega)).2]; exact (dhC.1 i hi).2⟩
        have d60 : qR D 60 = qR C 60 := by rw [eD]; exact (fxV.2.2.1 60 (by decide) (by decide) (by decide)).2.2
        have d604 : qI D 60 4 = qI A f 4 := by rw [eD, qI_wI, if_neg (fun q => absurd q.2 (by decide)), (fxV.2.2.1 60 (by decide) (by decide) (by decide)).1, hC.2.1.2.2.2, uf4]
        have d603 : qI D 60 3 = al := by rw [eD, qI_wI, if_pos ⟨rfl, rfl⟩]
        have r6 : ∀ a : Nat, a ≠ 60 → qR D a = qR V a := fun a ha => by rw [eD]; rfl
        have dhD : DhI D := by
          obtain ⟨w1, w2, w3, ⟨s1, s2, y1, y2, y3, y4⟩, w5, w6⟩ := dhC
          have tJ := tx_J txD
          have cF : qI C 60 3 = qI A f 3 := by rw [hC.2.1.2.2.1, (kbU f f92).1]
          have cM : qI C 60 4 = qI A f 4 := by rw [hC.2.1.2.2.2, uf4]
          rw [cF] at w5
          rw [cM] at w6
          refine ⟨hdD, by rw [d60]; exact w2, by rw [d603, d604]; omega, ⟨s1, s2, by rw [d60]; exact y1, by rw [d60]; exact y2, y3.mv fCD.1, y4.mv fCD.1⟩, fun i hi => ?_, fun m' hm' => ?_⟩
          · rw [d603] at hi
            rw [r6 61 (by decide), r6 62 (by decide), r6 63 (by decide)]
            by_cases q : (i : Int) < (qI A f 3).toInt
            · obtain ⟨b1, b2, b3, z1, z2, z3, z4, z5, z6⟩ := w5 i q
              obtain ⟨x1, x2, x3⟩ := v1 i (by rw [cf]; exact q)
              exact ⟨b1, b2, b3, by rw [x1]; exact z1, by rw [x2]; exact z2, by rw [x3]; exact z3, z4.mv fCD.1, z5.mv fCD.1, z6.mv fCD.1⟩
            · obtain ⟨s, x1, x2, x3, x4⟩ := v2 i (by rw [cf]; omega) hi
              exact ⟨s, 10000022, 10000022, x1, x2, x3, x4.mv fD.1, tJ.1, tJ.2⟩
          · rw [d604] at hm'
            have rr : ∀ a : Nat, 64 ≤ a → a ≤ 67 → qR D a = qR C a := fun a a0 a1 => by rw [r6 a (by omega), (fxV.2.2.1 a (by omega) (by omega) (by simp only [List.mem_cons, List.not_mem_nil, or_false]; omega)).2.2]
            rw [rr 64 (by decide) (by decide), rr 65 (by decide) (by decide), rr 66 (by decide) (by decide), rr 67 (by decide) (by decide)]
            obtain ⟨b1, b2, b3, b4, z1, z2, z3, z4, z5, z6, z7, z8⟩ := w6 m' hm'
            exact ⟨b1, b2, b3, b4, z1, z2, z3, z4, z5.mv fCD.1, z6.mv fCD.1, z7.mv fCD.1, z8.mv fCD.1⟩
        have T92 : 92 < qO A f 19 ∧ qO A f 19 < qn A := by
          obtain ⟨h1, h2, h3, h4, h5, R, T, C', nc, ts, cn, r1, r2, r3, r4, r5, r6'⟩ := flA
          have : qO A f 19 = T := by unfold qO; rw [r2.2.1]; rfl
          omega
        have oT : qO D f 19 = qO A f 19 := by unfold qO; rw [dr]
        have kAD : kpW A D := fAC.1.tr fCD.1
        have w75 : ∀ j : Nat, j < qN D (qO D f 19) → qI D 75 j = qI D (qO D f 19) j := fun j hj => by
          have sT := kAD.1 (qO A f 19) T92.1 (Or.inl T92.2)
          have oU : qO U f 19 = qO A f 19 := by unfold qO; rw [(kbU f f92).2.2.1]
          rw [oT] at hj ⊢
          rw [sT.2.2.2.2] at hj
          rw [sT.1, (fCD.2.2.1 75 (by decide) (by decide) (by decide)).1]
          have := hC.2.2.2.2.1 j (by rw [oU, (kbU _ T92.1).2.2.2.2]; exact hj)
          rw [this, oU, (kbU _ T92.1).1]
        have c0 : ∀ j : Nat, qI D 0 j = qI C 0 j := fun j => (fCD.2.2.2 j List.not_mem_nil).1
        subst e22
        refine sp_count_L196 (X := al.toInt) (nf := nf) fsD knD grD (by rw [c0, (fC.2.2.2.2.2 1 (by decide)).1, u01, a01]; exact hx) ?_ flD (tbA.kp flA kAD) w75 hdD ?_ (by rw [df]; omega) (fun m' hm' => ?_) (fun V' hV' => ?_)
        · rw [r6 1 (by decide), (fxV.2.2.1 1 (by decide) (by decide) (by decide)).2.2, (fC.2.2.2.2.1 1 (by decide) (by decide)).2.2, u1, a1]
          exact hf
        · rw [c0, c0]
          exact hC.2.2.2.2.2.2.1
        · rw [df] at hm'
          exact (n1 m' (by omega)).kp flA kAD
        · obtain ⟨fV', gV', ⟨p1, p2⟩, p3, p4⟩ := hV'
          rw [df] at p1 p2 p3
          have xV' := frX.of fV' (by decide)
          have dhV : DhI V' := dhD.mv xV'.1 (fun a a0 a1 => by
            have z := fV'.2.2.2.2.1 a (by omega) (by simp only [List.mem_cons, List.not_mem_nil, or_false]; omega)
            exact ⟨z.1, z.2.2⟩) (fun a _ _ => by rw [fV'.2.1])
          have e603 : qI V' 60 3 = al := by rw [(fV'.2.2.2.2.1 60 (by decide) (by decide)).1]; exact d603
          have e604 : qI V' 60 4 = qI A f 4 := by rw [(fV'.2.2.2.2.1 60 (by decide) (by decide)).1]; exact d604
          have fSV : frX [49, 50, 51, 52, 53, 54, 55, 56, 57, 58, 59, 60, 61, 62, 63, 64, 65, 66, 67, 70, 71, 72, 73, 74, 75, 76, 78, 79, 80, 81, 82, 83, 84, 85, 86, 91, 92] [2, 47, 48, 49, 50, 51, 52, 53, 54, 105, 106, 107, 110, 122, 123, 129, 135] S' V' := ((frX.of fA (by decide)).mo (by decide) (by decide)).tr ((fAC.mo (by decide) (by decide)).tr ((fCD.mo (by decide) (by decide)).tr (xV'.mo (by decide) (by decide))))
          refine done V' ⟨dhV, by omega, fun m' hm' => ?_⟩ (fsD.f9 knD fV' (by decide) (by decide)) (knD.f9 fV') gV' (txD.kp xV'.1) fSV ?_ ?_ (by omega)
          · rw [e604] at hm'
            have d := (p3 m' (by omega)).1
            rw [df] at d
            rw [e603, e604]
            have lr : 0 ≤ (qI D (f + 9) m').toInt ∧ (qI D (f + 9) m').toInt ≤ 24 := by
              obtain ⟨h1, h2, h3, h4, h5, R, T, C', nc, ts, cn, r1, r2, r3, r4, r5, r6'⟩ := flD
              exact (r6' m' (by rw [df]; exact hm')).2.2.1
            exact ⟨_, lr, d⟩
          · rw [(fV'.2.2.2.2.2 2 (by decide)).1, c0, (fC.2.2.2.2.2 2 (by decide)).1]; exact mU
          · have dq : qn D = qn V ∧ qu D = qu V := by rw [eD]; exact ⟨rfl, rfl⟩
            rw [fV'.2.2.1, fV'.2.2.2.1, dq.1, dq.2]
            rw [cf] at v3 v4
            omega
      · -- one method more
        refine ⟨_, fr_graph (sp_graph2 gU fsU.1.2 (by rw [u01, a01]; exact hx) (by rw [u1, a1]; exact hf) flU ⟨m0.1, by rw [uf4]; omega⟩), ?_⟩
        rintro V ⟨⟨gV, gb, ge, gn⟩, fV⟩
        refine ⟨_, sp_reachedBlocks ge, ?_⟩
        rintro r V' ⟨rfl, er⟩ a97 e97 a98 e98
        have nle := nzN_le (g := qI V' 53) (qI V' 0 105).toInt.toNat
        have bc := ge.1
        have gn' : GnA A f m.toInt.toNat (nzN (qI V' 53) (qI V' 0 105).toInt.toNat) := gn.f9 flU fU.sy (by decide)
        have ek : (m + Int32.ofInt 1).toInt = m.toInt + 1 := by rw [t_add (by rw [lo_1]; omega), lo_1]
        have ekn : (m + Int32.ofInt 1).toInt.toNat = m.toInt.toNat + 1 := by omega
        subst e98
        have s2 : sumN (fun j => if j = m.toInt.toNat then nzN (qI V' 53) (qI V' 0 105).toInt.toNat else nf j) (m.toInt.toNat + 1) = sumN nf m.toInt.toNat + nzN (qI V' 53) (qI V' 0 105).toInt.toNat := by
          show sumN (fun j => if j = m.toInt.toNat then nzN (qI V' 53) (qI V' 0 105).toInt.toNat else nf j) m.toInt.toNat + (if m.toInt.toNat = m.toInt.toNat then nzN (qI V' 53) (qI V' 0 105).toInt.toNat else nf m.toInt.toNat) = _
          rw [if_pos rfl, sumN_eq m.toInt.toNat (g := nf) (fun j hj => if_neg (by omega))]
        refine ih V' _ _ (by omega) ⟨fU.tr fV, gV, fun j => if j = m.toInt.toNat then nzN (qI V' 53) (qI V' 0 105).toInt.toNat else nf j, fun m' hm' => ?_, ?_, ?_⟩ (by omega)
        · rw [ekn] at hm'
          by_cases q : m' = m.toInt.toNat
          · show GnA A f m' (if m' = m.toInt.toNat then _ else nf m')
            rw [if_pos q, q]; exact gn'
          · show GnA A f m' (if m' = m.toInt.toNat then _ else nf m')
            rw [if_neg q]; exact n1 m' (by omega)
        · rw [ekn, s2, e97, t_add (by omega), er, n2]
          omega
        · rw [ekn, s2]
          omega
  have zz : (0 : Int32).toInt = 0 := rfl
  subst e13
  exact ⟨_, L56 _ A _ 0 ⟨by decide, by rw [zz]; omega⟩ ⟨frm.rf, grA, fun _ => 0, fun m' hm' => by rw [zz] at hm'; omega, by show _ = _ + ((0 : Nat) : Int); omega, Nat.zero_le _⟩ (Nat.lt_succ_self _)⟩
/-! improve as a whole, but for keptDraft (behind sp_improve_L88, DhI, frX) -/
theorem sp_improve {S : MS} {x o : Int32} {Q : Int32 → MS → Prop} (fs : FsI VfI S) (hk : knI S) (tx : TxI S) (g : GrJ S) (hd : DrO S) (tb : TbS S) (hmd : 0 ≤ (qI S 0 2).toInt ∧ (qI S 0 2).toInt ≤ 16) (hQ : ∀ r : Int32, Q r S) (done : ∀ U : MS, DfI U → FsI VfI U → knI U → GrJ U → TxI U → frX [60, 61, 62, 63, 64, 65, 66, 67, 70, 71, 72, 73, 74, 75, 76, 77, 78, 79, 80, 81, 82, 83, 84, 85, 86, 87, 88, 89, 90, 91, 92] [2, 47, 48, 49, 50, 51, 52, 53, 54, 122, 123, 129, 135, 139] S U → ((qI S 0 2).toInt ≤ (qI U 0 2).toInt ∧ (qI U 0 2).toInt ≤ 16) → (qn U = qn S ∧ qu U = qu S) → (qI S 0 1).toInt < 12 → ∃ Q20, w_keptDraft U Q20 ∧ ∀ r21 S22, Q20 r21 S22 → Q r21 S22) : w_improve S x o Q := by
  unfold w_improve
  refine ⟨_, sp_isRight fs, ?_⟩
  rintro r0 S' ⟨rfl, hr0⟩
  refine ⟨fun _ => hQ _, fun c0 => ⟨fun _ => hQ _, fun _ => ⟨fun _ => ⟨fun _ => hQ _, fun c1 => ⟨fun _ => hQ _, fun c2 A eA => ?_⟩⟩, fun _ => hQ _⟩⟩⟩
  obtain ⟨f, hx, hf, flS, vfS⟩ := hr0 c0
  have fs12 := fs.1
  have f92 := flS.1.1.1
  have fA : frm [77] [2] S' A := by rw [eA]; exact frm.pI0 (by decide)
  have mA : (qI S' 0 2).toInt ≤ (qI A 0 2).toInt ∧ (qI A 0 2).toInt ≤ 16 := by
    have e : (qI S' 0 2 + (1 : Int32)).toInt = (qI S' 0 2).toInt + 1 := by rw [t_add (by rw [li_1]; omega), li_1]
    rw [eA, qI_wI, if_pos ⟨rfl, rfl⟩, e]
    omega
  have L54 : ∀ (c : Nat) (U : MS) (k : Int32), 0 ≤ k.toInt → frm [77] [2] S' U → qI U 0 2 = qI A 0 2 → (12 - k.toInt).toNat < c → w_improve_L54 Q c U x o k := by
    intro c
    induction c with
    | zero => intro U k _ _ _ h9; exact absurd h9 (Nat.not_lt_zero _)
    | succ c ih =>
      intro U k k0 fU mU hc
      unfold w_improve_L54
      refine ⟨fun c3 => ?_, fun c3 => ⟨⟨k0, by omega⟩, fun D eD a ea => ?_⟩⟩
      · have kbU := big_frm fU (by decide)
        have u1 : qR U 1 = qR S' 1 := (fU.2.2.2.2.1 1 (by decide) (by decide)).2.2
        have u01 : qI U 0 1 = qI S' 0 1 := (fU.2.2.2.2.2 1 (by decide)).1
        have oU : qO U 1 x.toInt.toNat = f := by unfold qO; rw [u1, hf]; rfl
        have flU : FlI U f := flS.fm f92 fU (by decide)
        have fsU := fs.f9 hk fU (by decide) (by decide)
        have knU := hk.f9 fU
        have grU := g.f9 fs fU (by decide) (by decide)
        have hdU : DrO U := fun i hi => ⟨by rw [(fU.2.2.2.2.1 60 (by decide) (by decide)).2.2]; exact (hd i hi).1, by rw [fU.2.1]; exact (hd i hi).2⟩
        have tbU : TbF U f := (tb x.toInt.toNat f (by omega) hf).kp flS (kpW.f9 fU (by decide))
        have txU : TxI U := tx.kp (kpW.f9 fU (by decide))
        rw [oU]
        refine ⟨by omega, by rw [u1]; exact hf, _, sp_copyHead flU hdU, fun C hC => ?_⟩
        have dhC := hC.dh flU hdU
        have fC := hC.1
        have kbC := big_frm fC (by decide)
        have flC : FlI C f := flU.fm f92 fC (by decide)
        have fsC := fsU.f9 knU fC (by decide) (by decide)
        have knC := knU.f9 fC
        have grC := grU.f9 fsU fC (by decide) (by decide)
        have txC : TxI C := txU.kp (kpW.f9 fC (by decide))
        have cf : qI C f = qI U f := (kbC f f92).1
        have T92 : 92 < qO U f 19 := by
          obtain ⟨h1, h2, h3, h4, h5, R, T, C', nc, ts, cn, r1, r2, r3, r4, r5, r6'⟩ := flU
          have : qO U f 19 = T := by unfold qO; rw [r2.2.1]; rfl
          omega
        have oT : qO C f 19 = qO U f 19 := by unfold qO; rw [(kbC f f92).2.2.1]
        have w75 : ∀ j : Nat, j < qN C (qO C f 19) → qI C 75 j = qI C (qO C f 19) j := fun j hj => by
          rw [oT] at hj ⊢
          rw [(kbC _ T92).2.2.2.2] at hj
          rw [(kbC _ T92).1]
          exact hC.2.2.2.2.1 j hj
        refine sp_improve_L88 flC (tbU.kp flU (kpW.f9 fC (by decide))) w75 dhC.1 hC.2.2.2.2.2.2.1 (fun V hV => ?_)
        obtain ⟨fV, ⟨p1, p2⟩, p3, p4⟩ := hV
        have xV := frX.of fV (by decide)
        have dhV : DhI V := dhC.mv xV.1 (fun a a0 a1 => by
          have z := fV.2.2.2.2.1 a (by omega) (by simp only [List.mem_cons, List.not_mem_nil, or_false]; omega)
          exact ⟨z.1, z.2.2⟩) (fun a _ _ => by rw [fV.2.1])
        have e60 : qI V 60 = qI C 60 := (fV.2.2.2.2.1 60 (by decide) (by decide)).1
        have c3' : qI C 60 3 = qI C f 3 := by rw [hC.2.1.2.2.1, cf]
        have c4' : qI C 60 4 = qI C f 4 := by rw [hC.2.1.2.2.2, cf]
        have F4 := flC.2.2.2.1
        have fSV : frX [60, 61, 62, 63, 64, 65, 66, 67, 70, 71, 72, 73, 74, 75, 76, 77, 78, 79, 80, 81, 82, 83, 84, 85, 86, 87, 88, 89, 90, 91, 92] [2, 47, 48, 49, 50, 51, 52, 53, 54, 122, 123, 129, 135, 139] S' V := ((frX.of fU (by decide)).mo (by decide) (by decide)).tr (((frX.of fC (by decide)).mo (by decide) (by decide)).tr (xV.mo (by decide) (by decide)))
        refine done V ⟨dhV, by omega, fun m' hm' => ?_⟩ (fsC.f9 knC fV (by decide) (by decide)) (knC.f9 fV) (grC.f9 fsC fV (by decide) (by decide)) (txC.kp xV.1) fSV ?_ ?_ (by omega)
        · rw [e60, c4'] at hm'
          have d := (p3 m' (by omega)).j.1
          rw [e60, c3', c4']
          have lr : 0 ≤ (qI C (f + 9) m').toInt ∧ (qI C (f + 9) m').toInt ≤ 24 := by
            obtain ⟨h1, h2, h3, h4, h5, R, T, C', nc, ts, cn, r1, r2, r3, r4, r5, r6'⟩ := flC
            exact (r6' m' hm').2.2.1
          exact ⟨_, lr, d⟩
        · rw [(fV.2.2.2.2.2 2 (by decide)).1, (fC.2.2.2.2.2 2 (by decide)).1, mU]; exact mA
        · rw [fV.2.2.1, fV.2.2.2.1, fC.2.2.1, fC.2.2.2.1, fU.2.2.1, fU.2.2.2.1]; exact ⟨rfl, rfl⟩
      · have ek : (k + Int32.ofInt 1).toInt = k.toInt + 1 := by rw [t_add (by rw [lo_1]; omega), lo_1]
        subst ea
        exact ih D _ (by omega) (fU.tr (by rw [eD]; exact frm.pI (by decide))) (by rw [eD, rdH (by decide)]; exact mU) (by omega)
  exact ⟨_, L54 _ A 0 (by decide) fA rfl (Nat.lt_succ_self _)⟩
/-! tables of kept Files in order (behind XfI, TbF) -/
theorem XfI.tb {S : MS} {f : Nat} (h : XfI S f) (hf : FlI S f) : TbF S f := by
  obtain ⟨R, nc, x1, x2, tg, wv, pc, y1, y2, y3, y4⟩ := h
  obtain ⟨h1, h2, h3, h4, h5, R', T, C, nc', ts, cn, r1, r2, r3, r4, r5, r6⟩ := hf
  have eR : R' = R := by rw [x1] at r2; injection r2.1.symm
  subst eR
  have en : nc' = nc := by omega
  subst en
  have oR : qO S f 18 = R' := by unfold qO; rw [x1]; rfl
  intro m1 m2 i j hm2 hi hj lt ti tj
  have a1 := (r6 m1 (by omega)).2.2.2
  have a2 := (r6 m2 hm2).2.2.2
  have p1 := a1.1
  have p2 := a2.1
  have q2 := a2.2.2.1
  unfold mL at hi hj
  unfold rwS rwO rwA rwB mR mF at *
  rw [oR] at *
  have lt2 : (qI S (f + 10) m1).toInt.toNat + i < (qI S (f + 10) m2).toInt.toNat + j := by
    rcases lt with q | ⟨q, q'⟩
    · have := y3 m1 m2 q hm2
      omega
    · subst q; omega
  exact y2 _ _ lt2 (by omega) ti tj
theorem XsI.tb {S : MS} (h : XsI S) (F : FsI VfI S) : TbS S := fun i f hi hr => by
  obtain ⟨f', a, b, _⟩ := F.2 i hi
  have ef : f' = f := by rw [hr] at a; injection a.symm
  subst ef
  exact (h i f' hi hr).tb b
/-! the book of constants (behind fr_needConstant, txW, sEq, c_cmp) -/
def ndN (S : MS) : Int := (qI S 0 73).toInt
def mtK (S : MS) (k : Nat) (t a b : Int32) (v : Int64) (p : Nat) : Prop := (qI S 28 k).toInt = t.toInt ∧ (qI S 30 k).toInt = a.toInt ∧ (qI S 31 k).toInt = b.toInt ∧ (lg_cmp (qJ S 32 k) v).toInt = 0 ∧ (t.toInt = 1 → ¬ (sEq S (qO S 33 k) p).toInt = 0)
def NuK (S : MS) (t a b : Int32) (v : Int64) (p : Nat) (r : Int32) : Prop := ∃ k : Nat, (k : Int) < ndN S ∧ mtK S k t a b v p ∧ qI S 29 k = r ∧ ∀ j : Nat, j < k → ¬ mtK S j t a b v p
theorem NuK.uq {S : MS} {t a b : Int32} {v : Int64} {p : Nat} {r r' : Int32} (h : NuK S t a b v p r) (h' : NuK S t a b v p r') : r = r' := by
  obtain ⟨k, k1, k2, k3, k4⟩ := h
  obtain ⟨j, j1, j2, j3, j4⟩ := h'
  by_cases q : k < j
  · exact absurd k2 (j4 k q)
  · by_cases q2 : j < k
    · exact absurd j2 (k4 j q2)
    · have : k = j := by omega
      subst this
      rw [← k3, ← j3]
def tgO (t : Int) : Prop := t = 1 ∨ t = 3 ∨ t = 5 ∨ t = 7 ∨ t = 9 ∨ t = 10 ∨ t = 12
def BkI (S : MS) : Prop := (0 ≤ ndN S ∧ ndN S ≤ 700) ∧ (1 ≤ (qI S 0 74).toInt ∧ (qI S 0 74).toInt ≤ 1 + 2 * ndN S) ∧ ∀ k : Nat, (k : Int) < ndN S → tgO (qI S 28 k).toInt ∧ ((qI S 28 k).toInt = 1 → ∃ t : Nat, qR S 33 k = some t ∧ txW S t)
/-- the book only grows -/
def BkX (S u : MS) : Prop := frm [28, 29, 30, 31, 32, 33] [7, 8, 73, 74] S u ∧ ndN S ≤ ndN u ∧ ∀ k : Nat, (k : Int) < ndN S → qI u 28 k = qI S 28 k ∧ qI u 29 k = qI S 29 k ∧ qI u 30 k = qI S 30 k ∧ qI u 31 k = qI S 31 k ∧ qJ u 32 k = qJ S 32 k ∧ qR u 33 k = qR S 33 k
theorem BkX.rf {S : MS} : BkX S S := ⟨frm.rf, Int.le_refl _, fun _ _ => ⟨rfl, rfl, rfl, rfl, rfl, rfl⟩⟩
theorem BkX.tr {S u v : MS} (h : BkX S u) (k : BkX u v) : BkX S v := by
  refine ⟨h.1.tr k.1, Int.le_trans h.2.1 k.2.1, fun j hj => ?_⟩
  obtain ⟨a1, a2, a3, a4, a5, a6⟩ := h.2.2 j hj
  obtain ⟨b1, b2, b3, b4, b5, b6⟩ := k.2.2 j (by have := h.2.1; omega)
  exact ⟨b1.trans a1, b2.trans a2, b3.trans a3, b4.trans a4, b5.trans a5, b6.trans a6⟩
theorem BkX.kp {S u : MS} (h : BkX S u) : kpW S u := kpW.f9 h.1 (by decide)
theorem plT.gt {S : MS} {s : Nat} (h : plT s S) : 92 < s := by
  unfold plT at h
  rw [show TXB = 10000000 from rfl] at h
  omega
theorem sEq_eq {S u : MS} {a b : Nat} (h1 : qI u (a + 1) = qI S (a + 1) ∧ qN u (a + 1) = qN S (a + 1)) (h2 : qI u (b + 1) = qI S (b + 1) ∧ qN u (b + 1) = qN S (b + 1)) : sEq u a b = sEq S a b := by
  unfold sEq sEqP
  rw [h1.1, h1.2, h2.1, h2.2]
theorem sEq_rf {S : MS} {a : Nat} : ¬ (sEq S a a).toInt = 0 := by
  have : sEq S a a = 1 := by
    unfold sEq
    rw [if_pos ⟨rfl, fun _ _ => rfl⟩]
  rw [this]
  decide
/-- the book only grows, and no text changes -/
def BkY (S u : MS) : Prop := ((∀ a : Nat, 92 < a → sm5 S u a) ∧ qn S ≤ qn u) ∧ ndN S ≤ ndN u ∧ ∀ k : Nat, (k : Int) < ndN S → qI u 28 k = qI S 28 k ∧ qI u 29 k = qI S 29 k ∧ qI u 30 k = qI S 30 k ∧ qI u 31 k = qI S 31 k ∧ qJ u 32 k = qJ S 32 k ∧ qR u 33 k = qR S 33 k
theorem BkX.y {S u : MS} (h : BkX S u) : BkY S u := ⟨⟨big_frm h.1 (by decide), by rw [h.1.2.2.1]; exact Nat.le_refl _⟩, h.2⟩
theorem BkY.kp {S u : MS} (h : BkY S u) : kpW S u := ⟨fun a a0 _ => h.1.1 a a0, h.1.2⟩
theorem BkY.tr {S u v : MS} (h : BkY S u) (k : BkY u v) : BkY S v := by
  refine ⟨⟨fun a ha => (h.1.1 a ha).tr (k.1.1 a ha), Nat.le_trans h.1.2 k.1.2⟩, Int.le_trans h.2.1 k.2.1, fun j hj => ?_⟩
  obtain ⟨a1, a2, a3, a4, a5, a6⟩ := h.2.2 j hj
  obtain ⟨b1, b2, b3, b4, b5, b6⟩ := k.2.2 j (by have := h.2.1; omega)
  exact ⟨b1.trans a1, b2.trans a2, b3.trans a3, b4.trans a4, b5.trans a5, b6.trans a6⟩
/-- a step that leaves the book alone -/
theorem BkY.f9 {S u : MS} {W J : List Nat} (k : frm W J S u) (hW : ∀ w ∈ W, w ≤ 92 ∧ (w < 28 ∨ 33 < w)) (hJ : ∀ j ∈ J, j ≠ 73) : BkY S u ∧ ndN u = ndN S := by
  have z := fun (a : Nat) (h0 : 28 ≤ a) (h1 : a ≤ 33) => k.2.2.2.2.1 a (by omega) (fun q => by have := hW a q; omega)
  have e : qI u 0 73 = qI S 0 73 := (k.2.2.2.2.2 73 (fun q => hJ 73 q rfl)).1
  have en : ndN u = ndN S := by unfold ndN; rw [e]
  exact ⟨⟨⟨big_frm k (fun w q => (hW w q).1), by rw [k.2.2.1]; exact Nat.le_refl _⟩, by rw [en]; exact Int.le_refl _, fun j _ => ⟨by rw [(z 28 (by decide) (by decide)).1], by rw [(z 29 (by decide) (by decide)).1], by rw [(z 30 (by decide) (by decide)).1], by rw [(z 31 (by decide) (by decide)).1], by rw [(z 32 (by decide) (by decide)).2.1], by rw [(z 33 (by decide) (by decide)).2.2]⟩⟩, en⟩
theorem BkY.sq {S u : MS} (h : BkY S u) {a b : Nat} (ha : 92 < a) (hb : 92 < b) : sEq u a b = sEq S a b := sEq_eq ⟨(h.1.1 (a + 1) (by omega)).1, (h.1.1 (a + 1) (by omega)).2.2.2.2⟩ ⟨(h.1.1 (b + 1) (by omega)).1, (h.1.1 (b + 1) (by omega)).2.2.2.2⟩
theorem mtK.mv {S u : MS} {k : Nat} {t a b : Int32} {v : Int64} {p : Nat} (x : BkY S u) (hB : BkI S) (hk : (k : Int) < ndN S) (hp : 92 < p) : mtK u k t a b v p ↔ mtK S k t a b v p := by
  obtain ⟨e1, e2, e3, e4, e5, e6⟩ := x.2.2 k hk
  unfold mtK
  rw [e1, e3, e4, e5]
  have q : (qI S 28 k).toInt = 1 → sEq u (qO u 33 k) p = sEq S (qO S 33 k) p := fun z => by
    obtain ⟨w, w1, w2⟩ := (hB.2.2 k hk).2 z
    have o : qO u 33 k = qO S 33 k := by unfold qO; rw [e6]
    have o2 : qO S 33 k = w := by unfold qO; rw [w1]; rfl
    rw [o]
    exact x.sq (by rw [o2]; exact w2.2.1.gt) hp
  constructor
  · rintro ⟨m1, m2, m3, m4, m5⟩
    exact ⟨m1, m2, m3, m4, fun z => by rw [← q (by omega)]; exact m5 z⟩
  · rintro ⟨m1, m2, m3, m4, m5⟩
    exact ⟨m1, m2, m3, m4, fun z => by rw [q (by omega)]; exact m5 z⟩
theorem NuK.my {S u : MS} {t a b : Int32} {v : Int64} {p : Nat} {r : Int32} (h : NuK S t a b v p r) (x : BkY S u) (hB : BkI S) (hp : 92 < p) : NuK u t a b v p r := by
  obtain ⟨k, k1, k2, k3, k4⟩ := h
  exact ⟨k, by have := x.2.1; omega, (mtK.mv x hB k1 hp).mpr k2, by rw [(x.2.2 k k1).2.1]; exact k3, fun j hj q => k4 j hj ((mtK.mv x hB (by omega) hp).mp q)⟩
theorem NuK.mv {S u : MS} {t a b : Int32} {v : Int64} {p : Nat} {r : Int32} (h : NuK S t a b v p r) (x : BkX S u) (hB : BkI S) (hp : 92 < p) : NuK u t a b v p r := h.my x.y hB hp
theorem lg_rf {v : Int64} : (lg_cmp v v).toInt = 0 := by
  rcases c_cmp (x := v) (y := v) with q | q | q
  · omega
  · exact q.1
  · omega
def NdP (S : MS) (t a b : Int32) (v : Int64) (p : Nat) (r : Int32) (u : MS) : Prop := BkI u ∧ BkX S u ∧ NuK u t a b v p r ∧ (1 ≤ r.toInt ∧ r.toInt ≤ 1401) ∧ (u = S ∨ (ndN u = ndN S + 1 ∧ ndN S < 700 ∧ (∀ r' : Int32, ¬ NuK S t a b v p r') ∧ qI u 28 (ndN S).toNat = t))
/-- the next number -/
def nxN (g : Nat → Int32) : Nat → Int
  | 0 => 1
  | n + 1 => nxN g n + (if (g n).toInt = 5 then 2 else 1)
theorem nxN_eq {g g' : Nat → Int32} : ∀ n : Nat, (∀ j : Nat, j < n → g' j = g j) → nxN g' n = nxN g n := by
  intro n
  induction n with
  | zero => intro _; rfl
  | succ n ih =>
    intro h
    unfold nxN
    rw [ih (fun j hj => h j (by omega)), h n (by omega)]
def nrI (S : MS) : Prop := (∀ k : Nat, (k : Int) < ndN S → 1 ≤ (qI S 29 k).toInt ∧ (qI S 29 k).toInt ≤ 1401) ∧ (qI S 0 74).toInt = nxN (qI S 28) (ndN S).toNat
theorem sp_need {S : MS} {t a b : Int32} {v : Int64} {p : Nat} (h : BkI S) (hn : nrI S) (ht : tgO t.toInt) (hp : 92 < p) (hx : t.toInt = 1 → txW S p) : w_needConstant S t a b v p (fun r u => NdP S t a b v p r u ∧ nrI u) (fun u => ndN S = 700 ∧ ∀ r' : Int32, ¬ NuK S t a b v p r') := by
  obtain ⟨⟨n0, n1⟩, ⟨m0, m1⟩, ent⟩ := h
  have h' : BkI S := ⟨⟨n0, n1⟩, ⟨m0, m1⟩, ent⟩
  have e73 : (qI S 0 73).toInt = ndN S := rfl
  have L : ∀ (c : Nat) (i : Int32), 0 ≤ i.toInt → i.toInt ≤ ndN S → (∀ j : Nat, (j : Int) < i.toInt → ¬ mtK S j t a b v p) → (700 - i.toInt).toNat < c → w_needConstant_L3 (fun r u => NdP S t a b v p r u ∧ nrI u) (fun u => ndN S = 700 ∧ ∀ r' : Int32, ¬ NuK S t a b v p r') c S t a b v p i := by
    intro c
    induction c with
    | zero => intro i _ _ _ h9; exact absurd h9 (Nat.not_lt_zero _)
    | succ c ih =>
      intro i i0 i1 hno hc
      have ei : i.toInt < 700 → (i + Int32.ofInt 1).toInt = i.toInt + 1 := fun _ => by rw [t_add (by rw [lo_1]; omega), lo_1]
      have j98 : i.toInt < ndN S → ¬ mtK S i.toInt.toNat t a b v p → w_needConstant_J98 (fun r u => NdP S t a b v p r u ∧ nrI u) (fun u => ndN S = 700 ∧ ∀ r' : Int32, ¬ NuK S t a b v p r') (w_needConstant_L3 (fun r u => NdP S t a b v p r u ∧ nrI u) (fun u => ndN S = 700 ∧ ∀ r' : Int32, ¬ NuK S t a b v p r') c) S t a b v p i := fun q nm => by
        unfold w_needConstant_J98
        intro k ek
        subst ek
        have e := ei (by omega)
        refine ih _ (by omega) (by omega) (fun j hj => ?_) (by omega)
        by_cases z : j = i.toInt.toNat
        · rw [z]; exact nm
        · exact hno j (by omega)
      have j62 : i.toInt < ndN S → ¬ mtK S i.toInt.toNat t a b v p → w_needConstant_J62 (fun r u => NdP S t a b v p r u ∧ nrI u) (fun u => ndN S = 700 ∧ ∀ r' : Int32, ¬ NuK S t a b v p r') (w_needConstant_L3 (fun r u => NdP S t a b v p r u ∧ nrI u) (fun u => ndN S = 700 ∧ ∀ r' : Int32, ¬ NuK S t a b v p r') c) S t a b v p i := fun q nm => by
        unfold w_needConstant_J62 w_needConstant_J63
        exact ⟨fun _ => j98 q nm, fun z => absurd rfl z⟩
      have j90 : i.toInt < ndN S → mtK S i.toInt.toNat t a b v p → w_needConstant_J90 (fun r u => NdP S t a b v p r u ∧ nrI u) (fun u => ndN S = 700 ∧ ∀ r' : Int32, ¬ NuK S t a b v p r') S i := fun q m => by
        unfold w_needConstant_J90
        exact ⟨⟨i0, by omega⟩, ⟨h', BkX.rf, ⟨i.toInt.toNat, by omega, m, rfl, fun j hj => hno j (by omega)⟩, hn.1 i.toInt.toNat (by omega), Or.inl rfl⟩, hn⟩
      unfold w_needConstant_L3
      rw [e73]
      refine ⟨fun c1 => ⟨fun c2 => ?_, fun c2 => ?_⟩, fun c1 => ⟨⟨i0, by omega⟩, fun d1 => ⟨⟨i0, by omega⟩, fun d2 => ⟨⟨i0, by omega⟩, fun d3 => ⟨⟨i0, by omega⟩, fun d4 => ?_, fun d4 => j62 (by omega) (fun m => d4 m.2.2.2.1)⟩, fun d3 => j62 (by omega) (fun m => d3 m.2.2.1)⟩, fun d2 => j62 (by omega) (fun m => d2 m.2.1)⟩, fun d1 => j62 (by omega) (fun m => d1 m.1)⟩⟩
      · -- too many
        refine ⟨fun _ _ => True, sp_broken trivial, fun _ u _ => ⟨c2, fun r' nk => ?_⟩⟩
        obtain ⟨k, k1, k2, _⟩ := nk
        exact hno k (by omega) k2
      · -- a new one
        have no : ∀ r' : Int32, ¬ NuK S t a b v p r' := fun r' nk => by
          obtain ⟨k, k1, k2, _⟩ := nk
          exact hno k (by omega) k2
        refine ⟨⟨n0, by omega⟩, fun A eA => ?_⟩
        have a0 : qI A 0 = qI S 0 := by rw [eA, rdH (by decide)]
        rw [a0, e73]
        refine ⟨⟨n0, by omega⟩, fun B eB => ?_⟩
        have b0 : qI B 0 = qI S 0 := by rw [eB, rdH (by decide), a0]
        rw [b0, e73]
        refine ⟨⟨n0, by omega⟩, fun C eC => ?_⟩
        have c0 : qI C 0 = qI S 0 := by rw [eC, rdH (by decide), b0]
        rw [c0, e73]
        refine ⟨⟨n0, by omega⟩, fun D eD => ?_⟩
        have d0 : qI D 0 = qI S 0 := by rw [eD]; exact c0
        rw [d0, e73]
        refine ⟨⟨n0, by omega⟩, fun F eF => ?_⟩
        have f0 : qI F 0 = qI S 0 := by rw [eF]; exact d0
        rw [f0, e73]
        refine ⟨⟨n0, by omega⟩, fun G eG H eH => ?_⟩
        have g0 : qI G 0 = qI S 0 := by rw [eG, rdH (by decide), f0]
        have h74 : qI H 0 74 = qI S 0 74 := by rw [eH, qI_wI, if_neg (by decide), g0]
        have h73 : (qI H 0 73).toInt = ndN S + 1 := by rw [eH, qI_wI, if_pos ⟨rfl, rfl⟩, g0, t_add (by rw [li_1, e73]; omega), li_1]; rfl
        -- the rows
        have q28 : ∀ j : Nat, qI H 28 j = if j = (ndN S).toNat then t else qI S 28 j := fun j => by
          rw [eH, rdH (by decide), eG, rdH (by decide), eF]
          show qI D 28 j = _
          rw [eD]
          show qI C 28 j = _
          rw [eC, rdH (by decide), eB, rdH (by decide), eA, qI_wI]
          by_cases q : j = (ndN S).toNat
          · rw [if_pos ⟨rfl, q⟩, if_pos q]
          · rw [if_neg (fun z => q z.2), if_neg q]
        have q30 : ∀ j : Nat, qI H 30 j = if j = (ndN S).toNat then a else qI S 30 j := fun j => by
          rw [eH, rdH (by decide), eG, rdH (by decide), eF]
          show qI D 30 j = _
          rw [eD]
          show qI C 30 j = _
          rw [eC, rdH (by decide), eB, qI_wI, eA, rdH (by decide)]
          by_cases q : j = (ndN S).toNat
          · rw [if_pos ⟨rfl, q⟩, if_pos q]
          · rw [if_neg (fun z => q z.2), if_neg q]
        have q31 : ∀ j : Nat, qI H 31 j = if j = (ndN S).toNat then b else qI S 31 j := fun j => by
          rw [eH, rdH (by decide), eG, rdH (by decide), eF]
          show qI D 31 j = _
          rw [eD]
          show qI C 31 j = _
          rw [eC, qI_wI, eB, rdH (by decide), eA, rdH (by decide)]
          by_cases q : j = (ndN S).toNat
          · rw [if_pos ⟨rfl, q⟩, if_pos q]
          · rw [if_neg (fun z => q z.2), if_neg q]
        have q29 : ∀ j : Nat, qI H 29 j = if j = (ndN S).toNat then qI S 0 74 else qI S 29 j := fun j => by
          rw [eH, rdH (by decide), eG, qI_wI]
          by_cases q : j = (ndN S).toNat
          · rw [if_pos ⟨rfl, q⟩, if_pos q]
          · rw [if_neg (fun z => q z.2), if_neg q, eF]
            show qI D 29 j = _
            rw [eD]
            show qI C 29 j = _
            rw [eC, rdH (by decide), eB, rdH (by decide), eA, rdH (by decide)]
        have q32 : ∀ j : Nat, qJ H 32 j = if j = (ndN S).toNat then v else qJ S 32 j := fun j => by
          rw [eH, eG, eF]
          show qJ D 32 j = _
          rw [eD, qJ_wJ, eC, eB, eA]
          by_cases q : j = (ndN S).toNat
          · rw [if_pos ⟨rfl, q⟩, if_pos q]
          · rw [if_neg (fun z => q z.2), if_neg q]; rfl
        have q33 : ∀ j : Nat, qR H 33 j = if j = (ndN S).toNat then some p else qR S 33 j := fun j => by
          rw [eH, eG]
          show qR F 33 j = _
          rw [eF, qR_wR, eD, eC, eB, eA]
          by_cases q : j = (ndN S).toNat
          · rw [if_pos ⟨rfl, q⟩, if_pos q]
          · rw [if_neg (fun z => q z.2), if_neg q]; rfl
        have fH : frm [28, 29, 30, 31, 32, 33] [7, 8, 73, 74] S H := by
          have f1 : frm [28, 29, 30, 31, 32, 33] [7, 8, 73, 74] S A := by rw [eA]; exact frm.pI (by decide)
          have f2 : frm [28, 29, 30, 31, 32, 33] [7, 8, 73, 74] A B := by rw [eB]; exact frm.pI (by decide)
          have f3 : frm [28, 29, 30, 31, 32, 33] [7, 8, 73, 74] B C := by rw [eC]; exact frm.pI (by decide)
          have f4 : frm [28, 29, 30, 31, 32, 33] [7, 8, 73, 74] C D := by rw [eD]; exact frm.pJ (by decide)
          have f5 : frm [28, 29, 30, 31, 32, 33] [7, 8, 73, 74] D F := by rw [eF]; exact frm.pR (by decide)
          have f6 : frm [28, 29, 30, 31, 32, 33] [7, 8, 73, 74] F G := by rw [eG]; exact frm.pI (by decide)
          have f7 : frm [28, 29, 30, 31, 32, 33] [7, 8, 73, 74] G H := by rw [eH]; exact frm.pI0 (by decide)
          exact (((((f1.tr f2).tr f3).tr f4).tr f5).tr f6).tr f7
        have fin : ∀ (d : Int32) (W : MS), (d.toInt = 1 ∧ ¬ t.toInt = 5 ∨ d.toInt = 2 ∧ t.toInt = 5) → W = wI H 0 74 (qI H 0 74 + d) → NdP S t a b v p (qI W 0 74 - d) W ∧ nrI W := fun d W hd eW => by
          have fW : frm [28, 29, 30, 31, 32, 33] [7, 8, 73, 74] S W := fH.tr (by rw [eW]; exact frm.pI0 (by decide))
          have w73 : ndN W = ndN S + 1 := by show (qI W 0 73).toInt = _; rw [eW, qI_wI, if_neg (by decide)]; exact h73
          have w74 : (qI W 0 74).toInt = (qI S 0 74).toInt + d.toInt := by rw [eW, qI_wI, if_pos ⟨rfl, rfl⟩, h74, t_add (by omega)]
          have wr : qI W 0 74 - d = qI S 0 74 := Int32.toInt_inj.mp (by rw [t_sub (by omega), w74]; omega)
          have wI' : ∀ x : Nat, x ≠ 0 → qI W x = qI H x := fun x hx => by rw [eW, rdH hx]
          have wJ' : qJ W = qJ H := by rw [eW]; rfl
          have wR' : qR W = qR H := by rw [eW]; rfl
          have X : BkX S W := ⟨fW, by omega, fun k hk => ⟨by rw [wI' 28 (by decide), q28, if_neg (by omega)], by rw [wI' 29 (by decide), q29, if_neg (by omega)], by rw [wI' 30 (by decide), q30, if_neg (by omega)], by rw [wI' 31 (by decide), q31, if_neg (by omega)], by rw [wJ', q32, if_neg (by omega)], by rw [wR', q33, if_neg (by omega)]⟩⟩
          have nk : mtK W (ndN S).toNat t a b v p := by
            refine ⟨by rw [wI' 28 (by decide), q28, if_pos rfl], by rw [wI' 30 (by decide), q30, if_pos rfl], by rw [wI' 31 (by decide), q31, if_pos rfl], by rw [wJ', q32, if_pos rfl]; exact lg_rf, fun _ => ?_⟩
            have : qO W 33 (ndN S).toNat = p := by unfold qO; rw [wR', q33, if_pos rfl]; rfl
            rw [this]
            exact sEq_rf
          rw [wr]
          refine ⟨⟨⟨by omega, by omega, fun k hk => ?_⟩, X, ⟨(ndN S).toNat, by omega, nk, by rw [wI' 29 (by decide), q29, if_pos rfl], fun j hj q => hno j (by omega) ((mtK.mv X.y h' (by omega) hp).mp q)⟩, by omega, Or.inr ⟨w73, by omega, no, by rw [wI' 28 (by decide), q28, if_pos rfl]⟩⟩, fun k hk => ?_, ?_⟩
          · rw [wI' 28 (by decide), q28, wR', q33]
            by_cases z : k = (ndN S).toNat
            · rw [if_pos z, if_pos z]
              exact ⟨ht, fun y => ⟨p, rfl, (hx y).mv X.kp⟩⟩
            · rw [if_neg z, if_neg z]
              obtain ⟨e1, e2⟩ := ent k (by omega)
              refine ⟨e1, fun y => ?_⟩
              obtain ⟨w, w1, w2⟩ := e2 y
              exact ⟨w, w1, w2.mv X.kp⟩
          · rw [wI' 29 (by decide), q29]
            by_cases z : k = (ndN S).toNat
            · rw [if_pos z]; omega
            · rw [if_neg z]; exact hn.1 k (by omega)
          · rw [w73, show (ndN S + 1).toNat = (ndN S).toNat + 1 by omega]
            unfold nxN
            rw [wI' 28 (by decide), nxN_eq (g := qI S 28) _ (fun j hj => by rw [q28, if_neg (by omega)]), q28, if_pos rfl, w74, hn.2]
            rcases hd with z | z
            · rw [if_neg z.2]; omega
            · rw [if_pos z.2]; omega
        refine ⟨fun c5 => ?_, fun c5 => ?_⟩
        · unfold w_needConstant_J212
          intro W eW
          exact ⟨fun _ => fin 2 W (Or.inr ⟨by decide, c5⟩) eW, fun z => absurd c5 z⟩
        · unfold w_needConstant_J212
          intro W eW
          exact ⟨fun z => absurd z c5, fun _ => fin 1 W (Or.inl ⟨by decide, c5⟩) eW⟩
      · unfold w_needConstant_J63
        refine ⟨fun z => absurd z (by decide), fun _ => ⟨fun c5 => ?_, fun c5 => j90 (by omega) ⟨d1, d2, d3, d4, fun z => absurd z c5⟩⟩⟩
        obtain ⟨w, w1, w2⟩ := (ent i.toInt.toNat (by omega)).2 (by omega)
        have o : qO S 33 i.toInt.toNat = w := by unfold qO; rw [w1]; rfl
        refine ⟨⟨i0, by omega⟩, by rw [o]; exact w1, fun c6 => j98 (by omega) (fun m => m.2.2.2.2 c5 c6), fun c6 => j90 (by omega) ⟨d1, d2, d3, d4, fun _ => c6⟩⟩
  unfold w_needConstant
  exact ⟨_, L _ 0 (by decide) (by show (0 : Int) ≤ _; omega) (fun j hj => by
    have : (0 : Int32).toInt = 0 := rfl
    omega) (Nat.lt_succ_self _)⟩
/-! how many constants there can be (behind sp_need, cnG) -/
noncomputable def cntL (U : MS) : List (MS → Prop) → Nat
  | [] => 0
  | s :: l => (@ite Nat (s U) (Classical.propDecidable (s U)) 1 0) + cntL U l
theorem cntL_le {U : MS} : ∀ l : List (MS → Prop), cntL U l ≤ l.length := by
  intro l
  induction l with
  | nil => exact Nat.le_refl _
  | cons s l ih =>
    unfold cntL
    rw [List.length_cons]
    split <;> omega
theorem cntL_lt {U : MS} : ∀ l : List (MS → Prop), (∃ s, s ∈ l ∧ ¬ s U) → cntL U l < l.length := by
  intro l
  induction l with
  | nil => rintro ⟨s, q, _⟩; exact absurd q List.not_mem_nil
  | cons s l ih =>
    rintro ⟨s0, q, n⟩
    have le := cntL_le (U := U) l
    unfold cntL
    rw [List.length_cons]
    rcases List.mem_cons.mp q with e | e
    · subst e
      rw [if_neg n]
      omega
    · have := ih ⟨s0, e, n⟩
      split <;> omega
theorem cntL_mo {U V : MS} : ∀ l : List (MS → Prop), (∀ s, s ∈ l → s U → s V) → cntL U l ≤ cntL V l := by
  intro l
  induction l with
  | nil => intro _; exact Nat.le_refl _
  | cons s l ih =>
    intro h
    have i := ih (fun s q => h s (List.mem_cons_of_mem _ q))
    have hs := h s List.mem_cons_self
    unfold cntL
    by_cases q : s U
    · rw [if_pos q, if_pos (hs q)]; omega
    · rw [if_neg q]; omega
theorem cntL_st {U V : MS} : ∀ l : List (MS → Prop), (∀ s, s ∈ l → s U → s V) → (∃ s, s ∈ l ∧ ¬ s U ∧ s V) → cntL U l + 1 ≤ cntL V l := by
  intro l
  induction l with
  | nil => rintro _ ⟨s, q, _⟩; exact absurd q List.not_mem_nil
  | cons s l ih =>
    rintro h ⟨s0, q, n, y⟩
    have hl := fun s q => h s (List.mem_cons_of_mem _ q)
    have mo := cntL_mo l hl
    have hs := h s List.mem_cons_self
    unfold cntL
    rcases List.mem_cons.mp q with e | e
    · subst e
      rw [if_neg n, if_pos y]
      omega
    · have := ih hl ⟨s0, e, n, y⟩
      by_cases q : s U
      · rw [if_pos q, if_pos (hs q)]; omega
      · rw [if_neg q]; omega
def kN (t : Nat) (U : MS) : Prop := ∃ r : Int32, NuK U 1 0 0 0 t r
def kC (t : Nat) (U : MS) : Prop := ∃ r1 r : Int32, NuK U 1 0 0 0 t r1 ∧ NuK U 7 r1 0 0 10000032 r
def kP (n t : Nat) (U : MS) : Prop := ∃ a b r : Int32, NuK U 1 0 0 0 n a ∧ NuK U 1 0 0 0 t b ∧ NuK U 12 a b 0 10000032 r
def kM (g : Int32) (o n t : Nat) (U : MS) : Prop := ∃ c1 c a b d r : Int32, NuK U 1 0 0 0 o c1 ∧ NuK U 7 c1 0 0 10000032 c ∧ NuK U 1 0 0 0 n a ∧ NuK U 1 0 0 0 t b ∧ NuK U 12 a b 0 10000032 d ∧ NuK U g c d 0 10000032 r
def kV (g : Int32) (v : Int64) (U : MS) : Prop := ∃ r : Int32, NuK U g 0 0 v 10000032 r
def moS (l : List (MS → Prop)) : Prop := ∀ s, s ∈ l → ∀ S u : MS, BkI S → BkY S u → s S → s u
theorem kN.mo {t : Nat} (ht : 92 < t) {S u : MS} (hB : BkI S) (x : BkY S u) (h : kN t S) : kN t u := by
  obtain ⟨r, a⟩ := h
  exact ⟨r, a.my x hB ht⟩
theorem kC.mo {t : Nat} (ht : 92 < t) {S u : MS} (hB : BkI S) (x : BkY S u) (h : kC t S) : kC t u := by
  obtain ⟨r1, r, a, b⟩ := h
  exact ⟨r1, r, a.my x hB ht, b.my x hB (by decide)⟩
theorem kP.mo {n t : Nat} (hn : 92 < n) (ht : 92 < t) {S u : MS} (hB : BkI S) (x : BkY S u) (h : kP n t S) : kP n t u := by
  obtain ⟨a, b, r, h1, h2, h3⟩ := h
  exact ⟨a, b, r, h1.my x hB hn, h2.my x hB ht, h3.my x hB (by decide)⟩
theorem kM.mo {g : Int32} {o n t : Nat} (ho : 92 < o) (hn : 92 < n) (ht : 92 < t) {S u : MS} (hB : BkI S) (x : BkY S u) (h : kM g o n t S) : kM g o n t u := by
  obtain ⟨c1, c, a, b, d, r, h1, h2, h3, h4, h5, h6⟩ := h
  exact ⟨c1, c, a, b, d, r, h1.my x hB ho, h2.my x hB (by decide), h3.my x hB hn, h4.my x hB ht, h5.my x hB (by decide), h6.my x hB (by decide)⟩
theorem kV.mo {g : Int32} {v : Int64} {S u : MS} (hB : BkI S) (x : BkY S u) (h : kV g v S) : kV g v u := by
  obtain ⟨r, a⟩ := h
  exact ⟨r, a.my x hB (by decide)⟩
/-- what is fixed while a File is written: the names NL; if it must not fail (kp), all that can be needed: AL -/
def CfS (NL : List Nat) (kp : Prop) (AL : List (MS → Prop)) : Prop := (∀ t, t ∈ NL → 92 < t) ∧ NL.length ≤ 103 ∧ (kp → moS AL ∧ AL.length ≤ 700)
def nmK (S : MS) : Nat := cnG (qI S 28) (ndN S).toNat
def WrI (NL : List Nat) (kp : Prop) (AL : List (MS → Prop)) (S : MS) : Prop := BkI S ∧ nrI S ∧ nmK S ≤ cntL S (NL.map kN) ∧ (kp → ndN S ≤ cntL S AL)
theorem mo_map {NL : List Nat} (h : ∀ t, t ∈ NL → 92 < t) : moS (NL.map kN) := fun s q S u hB x z => by
  obtain ⟨t, t1, t2⟩ := List.mem_map.mp q
  subst t2
  exact kN.mo (h t t1) hB x z
theorem WrI.nd {NL : List Nat} {kp : Prop} {AL : List (MS → Prop)} {S u : MS} {t a b : Int32} {v : Int64} {p : Nat} {r : Int32} (h : WrI NL kp AL S) (cf : CfS NL kp AL) (q : NdP S t a b v p r u) (nr : nrI u) (h1 : t.toInt = 1 → (t = 1 ∧ a = 0 ∧ b = 0 ∧ v = 0) ∧ p ∈ NL) (h2 : kp → ∃ s, s ∈ AL ∧ (s S → ∃ r' : Int32, NuK S t a b v p r') ∧ ((∃ r' : Int32, NuK u t a b v p r') → s u)) : WrI NL kp AL u := by
  obtain ⟨w1, w2, w3, w4⟩ := h
  obtain ⟨q1, q2, q3, q4, q5⟩ := q
  rcases q5 with e | ⟨e1, e2, e3, e4⟩
  · subst e; exact ⟨w1, w2, w3, w4⟩
  have n0 := w1.1.1
  have en : (ndN u).toNat = (ndN S).toNat + 1 := by omega
  have old : cnG (qI u 28) (ndN S).toNat = cnG (qI S 28) (ndN S).toNat := cnG_eq _ (fun j hj => by rw [(q2.2.2 j (by omega)).1])
  have nm : nmK u = nmK S + (if t.toInt = 1 then 1 else 0) := by
    unfold nmK
    rw [en, cnG_st, old, e4]
  have moN := mo_map cf.1
  refine ⟨q1, nr, ?_, fun k => ?_⟩
  · rw [nm]
    by_cases z : t.toInt = 1
    · rw [if_pos z]
      obtain ⟨⟨z1, z2, z3, z4⟩, z5⟩ := h1 z
      subst z1 z2 z3 z4
      have := cntL_st (U := S) (V := u) (NL.map kN) (fun s hs => moN s hs S u w1 q2.y) ⟨kN p, List.mem_map.mpr ⟨p, z5, rfl⟩, fun y => (by obtain ⟨r', y'⟩ := y; exact e3 r' y'), ⟨r, q3⟩⟩
      omega
    · rw [if_neg z]
      have := cntL_mo (U := S) (V := u) (NL.map kN) (fun s hs => moN s hs S u w1 q2.y)
      omega
  · obtain ⟨s, s1, s2, s3⟩ := h2 k
    have := cntL_st (U := S) (V := u) AL (fun s hs => (cf.2.2 k).1 s hs S u w1 q2.y) ⟨s, s1, fun y => (by obtain ⟨r', y'⟩ := s2 y; exact e3 r' y'), s3 ⟨r, q3⟩⟩
    have := w4 k
    omega
theorem WrI.no {NL : List Nat} {kp : Prop} {AL : List (MS → Prop)} {S : MS} {t a b : Int32} {v : Int64} {p : Nat} (h : WrI NL kp AL S) (cf : CfS NL kp AL) (e : ndN S = 700 ∧ ∀ r' : Int32, ¬ NuK S t a b v p r') (h2 : kp → ∃ s, s ∈ AL ∧ (s S → ∃ r' : Int32, NuK S t a b v p r')) : ¬ kp := fun k => by
  obtain ⟨s, s1, s2⟩ := h2 k
  have l := cntL_lt (U := S) AL ⟨s, s1, fun y => by obtain ⟨r', y'⟩ := s2 y; exact e.2 r' y'⟩
  have := (cf.2.2 k).2
  have := h.2.2.2 k
  omega
theorem BkI.ey {S u : MS} (h : BkI S) (y : BkY S u) (e : ndN u = ndN S) (e2 : qI u 0 74 = qI S 0 74) : BkI u := by
  refine ⟨by rw [e]; exact h.1, by rw [e, e2]; exact h.2.1, fun k hk => ?_⟩
  rw [e] at hk
  obtain ⟨a1, a2, a3, a4, a5, a6⟩ := y.2.2 k hk
  rw [a1, a6]
  refine ⟨(h.2.2 k hk).1, fun z => ?_⟩
  obtain ⟨w, w1, w2⟩ := (h.2.2 k hk).2 z
  exact ⟨w, w1, w2.mv y.kp⟩
theorem WrI.ey {NL : List Nat} {kp : Prop} {AL : List (MS → Prop)} {S u : MS} (h : WrI NL kp AL S) (cf : CfS NL kp AL) (y : BkY S u) (e : ndN u = ndN S) (e2 : qI u 0 74 = qI S 0 74) : WrI NL kp AL u := by
  refine ⟨h.1.ey y e e2, ⟨fun k hk => ?_, ?_⟩, ?_, fun k => ?_⟩
  · rw [e] at hk
    rw [(y.2.2 k hk).2.1]
    exact h.2.1.1 k hk
  · rw [e2, e, h.2.1.2]
    exact (nxN_eq _ (fun j hj => (y.2.2 j (by have := h.1.1; omega)).1)).symm
  · have n : nmK u = nmK S := by
      unfold nmK
      rw [e]
      exact cnG_eq _ (fun j hj => by rw [(y.2.2 j (by have := h.1.1; omega)).1])
    rw [n]
    exact Nat.le_trans h.2.2.1 (cntL_mo _ (fun s hs => mo_map cf.1 s hs S u h.1 y))
  · have := cntL_mo (U := S) (V := u) AL (fun s hs => (cf.2.2 k).1 s hs S u h.1 y)
    have := h.2.2.2 k
    omega
theorem WrI.f9 {NL : List Nat} {kp : Prop} {AL : List (MS → Prop)} {S u : MS} {W J : List Nat} (h : WrI NL kp AL S) (cf : CfS NL kp AL) (k : frm W J S u) (hW : ∀ w ∈ W, w ≤ 92 ∧ (w < 28 ∨ 33 < w)) (hJ : ∀ j ∈ J, j ≠ 73 ∧ j ≠ 74) : WrI NL kp AL u := by
  have y := BkY.f9 k hW (fun j q => (hJ j q).1)
  exact h.ey cf y.1 y.2 (k.2.2.2.2.2 74 (fun q => (hJ 74 q).2 rfl)).1
section WRX
variable {NL : List Nat} {kp : Prop} {AL : List (MS → Prop)}
theorem sp_nm {S : MS} {p : Nat} (cf : CfS NL kp AL) (h : WrI NL kp AL S) (hp : p ∈ NL) (tx : txW S p) (ha : kp → kN p ∈ AL) : w_nameNumber S p (fun r u => WrI NL kp AL u ∧ BkX S u ∧ NuK u 1 0 0 0 p r ∧ 1 ≤ r.toInt ∧ r.toInt ≤ 1401) (fun _ => ¬ kp) := by
  unfold w_nameNumber
  have g : kp → ∃ s, s ∈ AL ∧ (s S → ∃ r' : Int32, NuK S 1 0 0 0 p r') := fun k => ⟨kN p, ha k, fun y => y⟩
  refine ⟨_, _, sp_need h.1 h.2.1 (Or.inl (by decide)) (cf.1 p hp) (fun _ => tx), ?_, fun u e => h.no cf e g⟩
  rintro r u ⟨q, nr⟩
  exact ⟨h.nd cf q nr (fun _ => ⟨⟨rfl, rfl, rfl, rfl⟩, hp⟩) (fun k => ⟨kN p, ha k, fun y => y, fun y => y⟩), q.2.1, q.2.2.1, q.2.2.2.1⟩
theorem sp_cls {S : MS} {p : Nat} (cf : CfS NL kp AL) (h : WrI NL kp AL S) (hp : p ∈ NL) (tx : txW S p) (ha : kp → kN p ∈ AL) (hc : kp → kC p ∈ AL) : w_classNumber S p (fun r u => WrI NL kp AL u ∧ BkX S u ∧ (∃ r1 : Int32, NuK u 1 0 0 0 p r1 ∧ NuK u 7 r1 0 0 10000032 r) ∧ 1 ≤ r.toInt ∧ r.toInt ≤ 1401) (fun _ => ¬ kp) := by
  unfold w_classNumber
  refine ⟨_, _, sp_nm cf h hp tx ha, ?_, fun u e => e⟩
  rintro r1 U ⟨hU, xU, nU, b1, b2⟩
  have p92 := cf.1 p hp
  have g : kC p U → ∃ r' : Int32, NuK U 7 r1 0 0 10000032 r' := fun y => by
    obtain ⟨r2, r, y1, y2⟩ := y
    have := y1.uq nU
    subst this
    exact ⟨r, y2⟩
  refine ⟨_, _, sp_need hU.1 hU.2.1 (by unfold tgO; decide) (by decide) (fun z => absurd z (by decide)), ?_, fun u e => hU.no cf e (fun k => ⟨kC p, hc k, g⟩)⟩
  rintro r u ⟨q, nr⟩
  have n1 := nU.mv q.2.1 hU.1 p92
  exact ⟨hU.nd cf q nr (fun z => absurd z (by decide)) (fun k => ⟨kC p, hc k, g, fun ⟨r', y⟩ => ⟨r1, r', n1, y⟩⟩), xU.tr q.2.1, ⟨r1, n1, q.2.2.1⟩, q.2.2.2.1⟩
theorem sp_mem {S : MS} {g : Int32} {o n t : Nat} (cf : CfS NL kp AL) (h : WrI NL kp AL S) (hg : g.toInt = 9 ∨ g.toInt = 10) (r47 : qR S 0 47 = some (qO S 0 47)) (n47 : qO S 0 47 ≠ 0 ∧ qO S 0 47 ∉ [28, 29, 30, 31, 32, 33]) (r0 : qR S (qO S 0 47) 0 = some o) (ho : o ∈ NL ∧ txW S o ∧ (kp → kN o ∈ AL ∧ kC o ∈ AL)) (hn : n ∈ NL ∧ txW S n ∧ (kp → kN n ∈ AL)) (ht : t ∈ NL ∧ txW S t ∧ (kp → kN t ∈ AL)) (hm : kp → kP n t ∈ AL ∧ kM g o n t ∈ AL) : w_memberNumber S g n t (fun r u => WrI NL kp AL u ∧ BkX S u ∧ 1 ≤ r.toInt ∧ r.toInt ≤ 1401) (fun _ => ¬ kp) := by
  have qo : qO S (qO S 0 47) 0 = o := by unfold qO at r0 ⊢; rw [r0]; rfl
  unfold w_memberNumber
  rw [qo]
  refine ⟨r47, r0, _, _, sp_cls cf h ho.1 ho.2.1 (fun k => (ho.2.2 k).1) (fun k => (ho.2.2 k).2), ?_, fun u e => e⟩
  rintro c A ⟨hA, xA, ⟨c1, nc1, nc⟩, bc⟩
  refine ⟨_, _, sp_nm cf hA hn.1 (hn.2.1.mv xA.kp) hn.2.2, ?_, fun u e => e⟩
  rintro a B ⟨hB, xB, na, ba⟩
  have xAB := xA.tr xB
  refine ⟨_, _, sp_nm cf hB ht.1 (ht.2.1.mv xAB.kp) ht.2.2, ?_, fun u e => e⟩
  rintro b C ⟨hC, xC, nb, bb⟩
  have o92 := cf.1 o ho.1
  have n92 := cf.1 n hn.1
  have t92 := cf.1 t ht.1
  have nc1C := (nc1.mv xB hA.1 o92).mv xC hB.1 o92
  have ncC := (nc.mv xB hA.1 (by decide)).mv xC hB.1 (by decide)
  have naC := na.mv xC hB.1 n92
  have gP : kP n t C → ∃ r' : Int32, NuK C 12 a b 0 10000032 r' := fun y => by
    obtain ⟨a', b', r, y1, y2, y3⟩ := y
    have e1 := y1.uq naC
    have e2 := y2.uq nb
    subst e1 e2
    exact ⟨r, y3⟩
  refine ⟨_, _, sp_need hC.1 hC.2.1 (by unfold tgO; decide) (by decide) (fun z => absurd z (by decide)), ?_, fun u e => hC.no cf e (fun k => ⟨kP n t, (hm k).1, gP⟩)⟩
  rintro d D ⟨q, nr⟩
  have xD := q.2.1
  have naD := naC.mv xD hC.1 n92
  have nbD := nb.mv xD hC.1 t92
  have hD := hC.nd cf q nr (fun z => absurd z (by decide)) (fun k => ⟨kP n t, (hm k).1, gP, fun ⟨r', y⟩ => ⟨a, b, r', naD, nbD, y⟩⟩)
  have nc1D := nc1C.mv xD hC.1 o92
  have ncD := ncC.mv xD hC.1 (by decide)
  have nd := q.2.2.1
  have gM : kM g o n t D → ∃ r' : Int32, NuK D g c d 0 10000032 r' := fun y => by
    obtain ⟨c1', c', a', b', d', r, y1, y2, y3, y4, y5, y6⟩ := y
    have e1 := y1.uq nc1D
    subst e1
    have e2 := y2.uq ncD
    have e3 := y3.uq naD
    have e4 := y4.uq nbD
    subst e2 e3 e4
    have e5 := y5.uq nd
    subst e5
    exact ⟨r, y6⟩
  refine ⟨_, _, sp_need hD.1 hD.2.1 (by unfold tgO; omega) (by decide) (fun z => by omega), ?_, fun u e => hD.no cf e (fun k => ⟨kM g o n t, (hm k).2, gM⟩)⟩
  rintro r u ⟨q2, nr2⟩
  have xu := q2.2.1
  exact ⟨hD.nd cf q2 nr2 (fun z => by omega) (fun k => ⟨kM g o n t, (hm k).2, gM, fun ⟨r', y⟩ => ⟨c1, c, a, b, d, r', nc1D.mv xu hD.1 o92, ncD.mv xu hD.1 (by decide), naD.mv xu hD.1 n92, nbD.mv xu hD.1 t92, nd.mv xu hD.1 (by decide), y⟩⟩), ((xAB.tr xC).tr xD).tr xu, q2.2.2.2.1⟩
end WRX
/-! a File that is written: its names, its rows (behind sp_mem, LkD, frX) -/
def erT (e : Nat) : Nat := 10000002 + 2 * e
def nmO (NL : List Nat) (kp : Prop) (AL : List (MS → Prop)) (S : MS) (s : Nat) : Prop := s ∈ NL ∧ txW S s ∧ (kp → kN s ∈ AL)
def CfI (NL : List Nat) (kp : Prop) (AL : List (MS → Prop)) (p : Nat) (S : MS) : Prop := CfS NL kp AL ∧ ((p = 60 ∨ 92 < p) ∧ ∀ i : Nat, i < 13 → qR S p (5 + i) = some (p + 1 + i) ∧ qN S (p + 1 + i) = 24) ∧ ((0 ≤ (qI S p 3).toInt ∧ (qI S p 3).toInt ≤ 24) ∧ 0 ≤ (qI S p 4).toInt ∧ (qI S p 4).toInt ≤ 24) ∧ ∃ o ab : Nat, (qR S p 0 = some o ∧ qR S p 1 = some ab) ∧ (nmO NL kp AL S o ∧ (kp → kC o ∈ AL)) ∧ (nmO NL kp AL S ab ∧ (kp → kC ab ∈ AL)) ∧ nmO NL kp AL S 10000000 ∧ (∀ e : Nat, e < 4 → nmO NL kp AL S (erT e) ∧ (kp → kC (erT e) ∈ AL)) ∧ (∀ i : Nat, (i : Int) < (qI S p 3).toInt → ∃ n t : Nat, qR S (p + 1) i = some n ∧ qR S (p + 2) i = some t ∧ nmO NL kp AL S n ∧ nmO NL kp AL S t ∧ (kp → kP n t ∈ AL ∧ kM 9 o n t ∈ AL)) ∧ ∀ m : Nat, (m : Int) < (qI S p 4).toInt → ∃ n t : Nat, qR S (p + 4) m = some n ∧ qR S (p + 5) m = some t ∧ nmO NL kp AL S n ∧ nmO NL kp AL S t ∧ (kp → kP n t ∈ AL ∧ kM 10 o n t ∈ AL)
/-- the rows of the File -/
def RoI (p : Nat) (S : MS) : Prop := okE S p ∧ ∃ R T C nr ts cn : Nat, (qR S p 18 = some R ∧ qR S p 19 = some T ∧ qR S p 20 = some C) ∧ (okD S R ∧ okD S T ∧ okD S C) ∧ (qN S R = 3 * nr ∧ qN S T = ts ∧ qN S C = 4 * cn) ∧ (nr ≤ 40000 ∧ ts ≤ 40000 ∧ cn ≤ 384) ∧ (∀ i : Nat, (i : Int) < (qI S p 3).toInt → ∃ s : Nat, qR S (p + 3) i = some s ∧ lOD S s 2) ∧ (∀ m : Nat, (m : Int) < (qI S p 4).toInt → (∃ s : Nat, qR S (p + 6) m = some s ∧ lOD S s 8) ∧ ∃ s : Nat, qR S (p + 7) m = some s ∧ lOD S s 2) ∧ ∀ m : Nat, (m : Int) < (qI S p 4).toInt → ∃ L : Int, (0 ≤ L ∧ L ≤ 24) ∧ MtD (qI S R) (qI S T) (qI S C) nr ts cn L (qI S p 3).toInt (qI S p 4).toInt (qI S (p + 10) m) (qI S (p + 11) m) (qI S (p + 12) m) (qI S (p + 13) m)
def loV (a b : Int32) : Int64 := ((a.toInt64) <<< ((32 : Int32).toInt64 &&& 63)) ||| ((b.toInt64) &&& (4294967295 : Int64))
def ckV (AL : List (MS → Prop)) (op a b : Int32) : Prop := (op.toInt = 18 → (-32768 ≤ a.toInt ∧ a.toInt ≤ 32767) ∨ kV 3 a.toInt64 ∈ AL) ∧ (op.toInt = 20 → (lg_cmp (loV a b) 0).toInt = 0 ∨ (lg_cmp (loV a b) 1).toInt = 0 ∨ kV 5 (loV a b) ∈ AL)
def CkF (kp : Prop) (AL : List (MS → Prop)) (p : Nat) (S : MS) : Prop := kp → ∀ m i : Nat, (m : Int) < (qI S p 4).toInt → (i : Int) < (qI S (p + 11) m).toInt → ckV AL (qI S (qO S p 18) (3 * ((qI S (p + 10) m).toInt.toNat + i))) (qI S (qO S p 18) (3 * ((qI S (p + 10) m).toInt.toNat + i) + 1)) (qI S (qO S p 18) (3 * ((qI S (p + 10) m).toInt.toNat + i) + 2))
theorem hi_frm {S u : MS} {W J : List Nat} (k : frm W J S u) (hW : ∀ w ∈ W, w < 60) : ∀ a : Nat, 60 ≤ a → sm5 S u a := fun a ha => by
  have z := k.2.2.2.2.1 a (by omega) (fun q => by have := hW a q; omega)
  exact ⟨z.1, z.2.1, z.2.2, by rw [k.1], by rw [k.2.1]⟩
theorem nmO.mv {NL : List Nat} {kp : Prop} {AL : List (MS → Prop)} {S u : MS} {s : Nat} (h : nmO NL kp AL S s) (k : kpW S u) : nmO NL kp AL u s := ⟨h.1, h.2.1.mv k, h.2.2⟩
theorem CfI.fm {NL : List Nat} {kp : Prop} {AL : List (MS → Prop)} {p : Nat} {S u : MS} {W J : List Nat} (h : CfI NL kp AL p S) (k : frm W J S u) (hW : ∀ w ∈ W, w < 60) : CfI NL kp AL p u := by
  have hi := hi_frm k hW
  have kw : kpW S u := kpW.f9 k (fun w q => by have := hW w q; omega)
  obtain ⟨h1, ⟨h2, h3⟩, h4, o, ab, ⟨r0, r1⟩, ⟨a1, a2⟩, ⟨b1, b2⟩, c1, e1, f1, m1⟩ := h
  have p60 : 60 ≤ p := by omega
  have zp := hi p p60
  have z : ∀ i : Nat, sm5 S u (p + i) := fun i => hi _ (by omega)
  unfold CfI
  rw [zp.1, zp.2.2.1, (z 1).2.2.1, (z 2).2.2.1, (z 4).2.2.1, (z 5).2.2.1]
  refine ⟨h1, ⟨h2, fun i hi' => ⟨(h3 i hi').1, by rw [show p + 1 + i = p + (1 + i) by omega, (z (1 + i)).2.2.2.2, show p + (1 + i) = p + 1 + i by omega]; exact (h3 i hi').2⟩⟩, h4, o, ab, ⟨r0, r1⟩, ⟨a1.mv kw, a2⟩, ⟨b1.mv kw, b2⟩, c1.mv kw, fun e he => ⟨(e1 e he).1.mv kw, (e1 e he).2⟩, fun i hi' => ?_, fun m hm => ?_⟩
  · obtain ⟨n, t, x1, x2, x3, x4, x5⟩ := f1 i hi'
    exact ⟨n, t, x1, x2, x3.mv kw, x4.mv kw, x5⟩
  · obtain ⟨n, t, x1, x2, x3, x4, x5⟩ := m1 m hm
    exact ⟨n, t, x1, x2, x3.mv kw, x4.mv kw, x5⟩
theorem okD.h5 {S u : MS} {a : Nat} (h : okD S a) (k : sm5 S u a) : okD u a := ⟨h.1, by rw [k.2.2.2.1]; exact h.2⟩
theorem okD.ge {S : MS} {a : Nat} (h : okD S a) : 60 ≤ a := by have := h.1; omega
theorem lOD.h5 {S u : MS} {s : Nat} {p : Int} (h : lOD S s p) (k : ∀ a : Nat, 60 ≤ a → sm5 S u a) : lOD u s p := by
  have z := k (s + 1) h.1.1.ge
  unfold lOD plS okD at h ⊢
  rw [z.1, z.2.2.2.1, z.2.2.2.2]
  exact h
theorem RoI.fm {p : Nat} {S u : MS} {W J : List Nat} (h : RoI p S) (k : frm W J S u) (hW : ∀ w ∈ W, w < 60) : RoI p u := by
  have hi := hi_frm k hW
  obtain ⟨⟨h1, h2, h3, h4⟩, R, T, C, nr, ts, cn, ⟨r1, r2, r3⟩, ⟨o1, o2, o3⟩, n, b, f, m, mt⟩ := h
  have p60 : 60 ≤ p := by have := h1.1; omega
  have zp := hi p p60
  have z : ∀ i : Nat, sm5 S u (p + i) := fun i => hi _ (by omega)
  have zR := hi R o1.ge
  have zT := hi T o2.ge
  have zC := hi C o3.ge
  refine ⟨⟨⟨h1.1, by rw [zp.2.2.2.1]; exact h1.2⟩, h2.h5 (z 3), h3.h5 (z 6), h4.h5 (z 7)⟩, R, T, C, nr, ts, cn, by rw [zp.2.2.1]; exact ⟨r1, r2, r3⟩, ⟨o1.h5 zR, o2.h5 zT, o3.h5 zC⟩, by rw [zR.2.2.2.2, zT.2.2.2.2, zC.2.2.2.2]; exact n, b, ?_, ?_, ?_⟩
  · rw [zp.1, (z 3).2.2.1]
    intro i hi'
    obtain ⟨s, s1, s2⟩ := f i hi'
    exact ⟨s, s1, s2.h5 hi⟩
  · rw [zp.1, (z 6).2.2.1, (z 7).2.2.1]
    intro i hi'
    obtain ⟨⟨s, s1, s2⟩, s', s3, s4⟩ := m i hi'
    exact ⟨⟨s, s1, s2.h5 hi⟩, s', s3, s4.h5 hi⟩
  · rw [zp.1, zR.1, zT.1, zC.1, (z 10).1, (z 11).1, (z 12).1, (z 13).1]
    exact mt
theorem CkF.fm {kp : Prop} {AL : List (MS → Prop)} {p : Nat} {S u : MS} {W J : List Nat} (h : CkF kp AL p S) (r : RoI p S) (k : frm W J S u) (hW : ∀ w ∈ W, w < 60) : CkF kp AL p u := by
  have hi := hi_frm k hW
  obtain ⟨⟨h1, h2, h3, h4⟩, R, T, C, nr, ts, cn, ⟨r1, r2, r3⟩, ⟨o1, o2, o3⟩, n, b, f, m, mt⟩ := r
  have p60 : 60 ≤ p := by have := h1.1; omega
  have zp := hi p p60
  have z : ∀ i : Nat, sm5 S u (p + i) := fun i => hi _ (by omega)
  have eR : qO S p 18 = R := by unfold qO; rw [r1]; rfl
  have eR' : qO u p 18 = R := by unfold qO; rw [zp.2.2.1, r1]; rfl
  unfold CkF at h ⊢
  rw [eR', (hi R o1.ge).1, zp.1, (z 10).1, (z 11).1]
  rw [eR] at h
  exact h
/-- a method of File p is looked at -/
def LkF (kp : Prop) (AL : List (MS → Prop)) (p : Nat) (S : MS) : Prop := LkD S ∧ qR S 0 47 = some p ∧ (∀ x : Int32, 0 ≤ x.toInt → x.toInt < (qI S 0 52).toInt → ((f_op S x).toInt = 178 ∨ (f_op S x).toInt = 179 → 0 ≤ (f_first S x).toInt ∧ (f_first S x).toInt < (qI S p 3).toInt) ∧ ((f_op S x).toInt = 184 → 0 ≤ (f_first S x).toInt ∧ (f_first S x).toInt < (qI S p 4).toInt) ∧ (kp → ckV AL (f_op S x) (f_first S x) (f_second S x))) ∧ wtS (qI S (qO S 0 48)) (qI S 0 51).toInt.toNat (qI S 0 52).toInt.toNat ≤ 3900
theorem LkF.fm {kp : Prop} {AL : List (MS → Prop)} {p : Nat} {S u : MS} {W J : List Nat} (h : LkF kp AL p S) (p60 : 60 ≤ p) (k : frm W J S u) (hW : ∀ w ∈ W, w < 60) (hJ : ∀ j ∈ J, j < 47 ∨ 54 < j) : LkF kp AL p u := by
  obtain ⟨h1, h2, h3, h4⟩ := h
  have s := smD.fm k (fun w q => Or.inl (hW w q)) hJ
  have hi := hi_frm k hW
  refine ⟨h1.mv s, by rw [(s.2 47 (by decide) (by decide)).2]; exact h2, fun x x0 x1 => ?_, ?_⟩
  · rw [(s.2 52 (by decide) (by decide)).1] at x1
    rw [(s.op h1 x).1, (s.op h1 x).2.1, (s.op h1 x).2.2, (hi p p60).1]
    exact h3 x x0 x1
  · rw [s.qo (j := 48) (by decide) (by decide), (s.2 51 (by decide) (by decide)).1, (s.2 52 (by decide) (by decide)).1, (s.1.1 _ h1.1.1.2.1).1]
    exact h4
theorem sp_lookD {NL : List Nat} {kp : Prop} {AL : List (MS → Prop)} {p : Nat} {S : MS} {x : Int32} (cf : CfI NL kp AL p S) (ro : RoI p S) (ck : CkF kp AL p S) (hx : 0 ≤ x.toInt ∧ x.toInt < (qI S p 4).toInt) : w_look S p x (fun u => (frm [] [47, 48, 49, 50, 51, 52, 53, 54] S u ∧ LkF kp AL p u) ∧ qI u 0 52 = qI S (p + 11) x.toInt.toNat ∧ qI u 0 54 = qI S (p + 13) x.toInt.toNat) := by
  obtain ⟨c1, ⟨c2, rows⟩, c4, -⟩ := cf
  have ro' := ro
  obtain ⟨⟨h1, h2, h3, h4⟩, R, T, C, nr, ts, cn, r, ok, n, b, f, mm, mt⟩ := ro
  obtain ⟨L, lr, md⟩ := mt x.toInt.toNat (by omega)
  have p0 : p ≠ 0 := by omega
  have q10 := rows 9 (by decide)
  have q11 := rows 10 (by decide)
  have q12 := rows 11 (by decide)
  have q13 := rows 12 (by decide)
  simp only [Nat.reduceAdd, Nat.add_assoc] at q10 q11 q12 q13
  unfold w_look
  intro A eA
  have rA : ∀ j : Nat, qR A p j = qR S p j := fun j => by rw [eA, qR_wR, if_neg (by omega)]
  have oA : qO A p 18 = R := by show (qR A p 18).getD 0 = _; rw [rA, r.1]; rfl
  rw [oA]
  refine ⟨by rw [rA]; exact r.1, fun B eB => ?_⟩
  have rB : ∀ j : Nat, qR B p j = qR S p j := fun j => by rw [eB, qR_wR, if_neg (by omega), rA]
  have oB : qO B p 19 = T := by show (qR B p 19).getD 0 = _; rw [rB, r.2.1]; rfl
  rw [oB]
  refine ⟨by rw [rB]; exact r.2.1, fun C' eC => ?_⟩
  have rC : ∀ j : Nat, qR C' p j = qR S p j := fun j => by rw [eC, qR_wR, if_neg (by omega), rB]
  have oC : qO C' p 20 = C := by show (qR C' p 20).getD 0 = _; rw [rC, r.2.2]; rfl
  rw [oC]
  refine ⟨by rw [rC]; exact r.2.2, fun D eD => ?_⟩
  have rD : ∀ j : Nat, qR D p j = qR S p j := fun j => by rw [eD, qR_wR, if_neg (by omega), rC]
  have tD : qT D = qT S ∧ qN D = qN S ∧ ∀ a : Nat, qI D a = qI S a := by rw [eD, eC, eB, eA]; exact ⟨rfl, rfl, fun _ => rfl⟩
  have oD : ∀ j b : Nat, qR S p j = some b → qO D p j = b := fun j b q => by show (qR D p j).getD 0 = _; rw [rD, q]; rfl
  rw [oD _ _ q10.1]
  refine ⟨by rw [rD]; exact q10.1, ⟨hx.1, by rw [tD.2.1, q10.2]; omega⟩, fun E eE => ?_⟩
  have rE : ∀ j : Nat, qR E p j = qR S p j := fun j => by rw [eE]; exact rD j
  have tE : qN E = qN S ∧ ∀ a : Nat, a ≠ 0 → qI E a = qI S a := ⟨by rw [eE]; exact tD.2.1, fun a ha => by rw [eE, rdH ha]; exact tD.2.2 a⟩
  have oE : ∀ j b : Nat, qR S p j = some b → qO E p j = b := fun j b q => by show (qR E p j).getD 0 = _; rw [rE, q]; rfl
  rw [oE _ _ q11.1]
  refine ⟨by rw [rE]; exact q11.1, ⟨hx.1, by rw [tE.1, q11.2]; omega⟩, fun G eG => ?_⟩
  have rG : ∀ j : Nat, qR G p j = qR S p j := fun j => by rw [eG]; exact rE j
  have tG : qN G = qN S ∧ ∀ a : Nat, a ≠ 0 → qI G a = qI S a := ⟨by rw [eG]; exact tE.1, fun a ha => by rw [eG, rdH ha]; exact tE.2 a ha⟩
  have oG : ∀ j b : Nat, qR S p j = some b → qO G p j = b := fun j b q => by show (qR G p j).getD 0 = _; rw [rG, q]; rfl
  rw [oG _ _ q12.1]
  refine ⟨by rw [rG]; exact q12.1, ⟨hx.1, by rw [tG.1, q12.2]; omega⟩, fun H eH => ?_⟩
  have rH : ∀ j : Nat, qR H p j = qR S p j := fun j => by rw [eH]; exact rG j
  have tH : qN H = qN S ∧ ∀ a : Nat, a ≠ 0 → qI H a = qI S a := ⟨by rw [eH]; exact tG.1, fun a ha => by rw [eH, rdH ha]; exact tG.2 a ha⟩
  have oH : ∀ j b : Nat, qR S p j = some b → qO H p j = b := fun j b q => by show (qR H p j).getD 0 = _; rw [rH, q]; rfl
  rw [oH _ _ q13.1]
  refine ⟨by rw [rH]; exact q13.1, ⟨hx.1, by rw [tH.1, q13.2]; omega⟩, fun K eK => ?_⟩
  have fK : frm [] [47, 48, 49, 50, 51, 52, 53, 54] S K := by
    have f1 : frm [] [47, 48, 49, 50, 51, 52, 53, 54] S A := by rw [eA]; exact frm.pR0 (by decide)
    have f2 : frm [] [47, 48, 49, 50, 51, 52, 53, 54] A B := by rw [eB]; exact frm.pR0 (by decide)
    have f3 : frm [] [47, 48, 49, 50, 51, 52, 53, 54] B C' := by rw [eC]; exact frm.pR0 (by decide)
    have f4 : frm [] [47, 48, 49, 50, 51, 52, 53, 54] C' D := by rw [eD]; exact frm.pR0 (by decide)
    have f5 : frm [] [47, 48, 49, 50, 51, 52, 53, 54] D E := by rw [eE]; exact frm.pI0 (by decide)
    have f6 : frm [] [47, 48, 49, 50, 51, 52, 53, 54] E G := by rw [eG]; exact frm.pI0 (by decide)
    have f7 : frm [] [47, 48, 49, 50, 51, 52, 53, 54] G H := by rw [eH]; exact frm.pI0 (by decide)
    have f8 : frm [] [47, 48, 49, 50, 51, 52, 53, 54] H K := by rw [eK]; exact frm.pI0 (by decide)
    exact ((((((f1.tr f2).tr f3).tr f4).tr f5).tr f6).tr f7).tr f8
  have k54 : qI K 0 54 = qI S (p + 13) x.toInt.toNat := by rw [eK, qI_wI, if_pos ⟨rfl, rfl⟩, tH.2 _ (by omega)]
  have k53 : qI K 0 53 = qI S (p + 12) x.toInt.toNat := by rw [eK, qI_wI, if_neg (by decide), eH, qI_wI, if_pos ⟨rfl, rfl⟩, tG.2 _ (by omega)]
  have k52 : qI K 0 52 = qI S (p + 11) x.toInt.toNat := by rw [eK, qI_wI, if_neg (by decide), eH, qI_wI, if_neg (by decide), eG, qI_wI, if_pos ⟨rfl, rfl⟩, tE.2 _ (by omega)]
  have k51 : qI K 0 51 = qI S (p + 10) x.toInt.toNat := by rw [eK, qI_wI, if_neg (by decide), eH, qI_wI, if_neg (by decide), eG, qI_wI, if_neg (by decide), eE, qI_wI, if_pos ⟨rfl, rfl⟩, tD.2.2]
  have kD : qR K = qR D := by rw [eK, eH, eG, eE]; rfl
  have k50 : qR K 0 50 = some C := by rw [kD, eD, qR_wR, if_pos ⟨rfl, rfl⟩]
  have k49 : qR K 0 49 = some T := by rw [kD, eD, qR_wR, if_neg (by decide), eC, qR_wR, if_pos ⟨rfl, rfl⟩]
  have k48 : qR K 0 48 = some R := by rw [kD, eD, qR_wR, if_neg (by decide), eC, qR_wR, if_neg (by decide), eB, qR_wR, if_pos ⟨rfl, rfl⟩]
  have k47 : qR K 0 47 = some p := by rw [kD, eD, qR_wR, if_neg (by decide), eC, qR_wR, if_neg (by decide), eB, qR_wR, if_neg (by decide), eA, qR_wR, if_pos ⟨rfl, rfl⟩]
  have o47 : qO K 0 47 = p := by unfold qO; rw [k47]; rfl
  have o48 : qO K 0 48 = R := by unfold qO; rw [k48]; rfl
  have o49 : qO K 0 49 = T := by unfold qO; rw [k49]; rfl
  have o50 : qO K 0 50 = C := by unfold qO; rw [k50]; rfl
  have hi := hi_frm fK (by decide)
  have z : ∀ i : Nat, sm5 S K (p + i) := fun i => hi _ (by omega)
  have zp := hi p (by omega)
  have zR := hi R ok.1.ge
  have zT := hi T ok.2.1.ge
  have zC := hi C ok.2.2.ge
  have q7 := rows 2 (by decide)
  have q6' := rows 5 (by decide)
  have q7' := rows 6 (by decide)
  simp only [Nat.reduceAdd, Nat.add_assoc] at q7 q6' q7'
  have lk : LkD K := by
    refine ⟨⟨⟨by rw [o47]; exact ⟨⟨by omega, by rw [zp.2.2.2.1]; exact h1.2⟩, h2.h5 (z 3), h3.h5 (z 6), h4.h5 (z 7)⟩, by rw [o48]; exact ok.1.h5 zR, by rw [o49]; exact ok.2.1.h5 zT, by rw [o50]; exact ok.2.2.h5 zC⟩, by rw [o47]; exact k47, by rw [o48]; exact k48, by rw [o49]; exact k49, by rw [o50]; exact k50⟩, L, (qI S p 3).toInt, (qI S p 4).toInt, nr, ts, cn, ?_, b, ⟨lr, by omega, by omega⟩, ?_, ?_, ?_, ?_, ?_⟩
    · rw [o48, o49, o50, zR.2.2.2.2, zT.2.2.2.2, zC.2.2.2.2]; exact n
    · rw [o48, o49, o50, zR.1, zT.1, zC.1, k51, k52, k53, k54]; exact md
    · rw [o47, zp.2.2.1]; exact ⟨q7.1, q6'.1, q7'.1⟩
    · rw [o47, (z 3).2.2.2.2, (z 6).2.2.2.2, (z 7).2.2.2.2]; exact ⟨q7.2, q6'.2, q7'.2⟩
    · rw [o47, (z 3).2.2.1]
      intro i hi'
      obtain ⟨s, s1, s2⟩ := f i hi'
      exact ⟨s, s1, s2.h5 hi⟩
    · rw [o47, (z 6).2.2.1, (z 7).2.2.1]
      intro i hi'
      obtain ⟨⟨s, s1, s2⟩, s', s3, s4⟩ := mm i hi'
      exact ⟨⟨s, s1, s2.h5 hi⟩, s', s3, s4.h5 hi⟩
  refine ⟨⟨fK, lk, k47, fun y y0 y1 => ?_, ?_⟩, k52, k54⟩
  · obtain ⟨e1, e2, e3⟩ := lk_ix_d lk (x := y) ⟨y0, y1⟩
    have cn' := lk.cnt
    have rw1 : f_op K y = qI S R (3 * ((qI S (p + 10) x.toInt.toNat).toInt.toNat + y.toInt.toNat)) ∧ f_first K y = qI S R (3 * ((qI S (p + 10) x.toInt.toNat).toInt.toNat + y.toInt.toNat) + 1) ∧ f_second K y = qI S R (3 * ((qI S (p + 10) x.toInt.toNat).toInt.toNat + y.toInt.toNat) + 2) := by
      unfold f_op f_first f_second
      rw [e1, e2, e3, o48, zR.1, ← k51, show (3 * ((qI K 0 51).toInt + y.toInt)).toNat = 3 * ((qI K 0 51).toInt.toNat + y.toInt.toNat) by omega, show (3 * ((qI K 0 51).toInt + y.toInt) + 1).toNat = 3 * ((qI K 0 51).toInt.toNat + y.toInt.toNat) + 1 by omega, show (3 * ((qI K 0 51).toInt + y.toInt) + 2).toNat = 3 * ((qI K 0 51).toInt.toNat + y.toInt.toNat) + 2 by omega]
      exact ⟨rfl, rfl, rfl⟩
    rw [k52] at y1
    have rv := md.2.2.2.1 y.toInt.toNat (by omega)
    unfold rOK at rv
    rw [rw1.1, rw1.2.1, rw1.2.2, zp.1]
    refine ⟨rv.2.2.2.2.2.1, rv.2.2.2.2.2.2, fun k => ?_⟩
    have := ck k x.toInt.toNat y.toInt.toNat (by omega) (by omega)
    have eR : qO S p 18 = R := by unfold qO; rw [r.1]; rfl
    rw [eR] at this
    exact this
  · rw [o48, zR.1, k51, k52]
    exact md.2.2.2.2.1
section NOX
variable {NL : List Nat} {kp : Prop} {AL : List (MS → Prop)}
theorem sh_rg {S : MS} {x : Int32} : ((f_isShort S x).toInt = 0 ↔ ¬ (-32768 ≤ x.toInt ∧ x.toInt ≤ 32767)) ∧ d_isShort S x := by
  unfold f_isShort d_isShort f_isShort_J18 d_isShort_J18
  have z1 : (1 : Int32).toInt = 1 := by decide
  have z0 : (0 : Int32).toInt = 0 := by decide
  by_cases c1 : x.toInt < -32768
  · rw [if_pos c1, if_pos c1, z0]
    exact ⟨⟨fun _ => by omega, fun _ => rfl⟩, trivial⟩
  · rw [if_neg c1, if_neg c1]
    by_cases c2 : 32767 < x.toInt
    · rw [if_pos c2, if_pos c2, z0]
      exact ⟨⟨fun _ => by omega, fun _ => rfl⟩, trivial⟩
    · rw [if_neg c2, if_neg c2, z1]
      exact ⟨⟨fun q => absurd q (by decide), fun q => absurd ⟨by omega, by omega⟩ q⟩, trivial⟩
theorem by_rg2 {S : MS} {x : Int32} : ((f_isByte S x).toInt = 0 ↔ ¬ (-128 ≤ x.toInt ∧ x.toInt ≤ 127)) ∧ d_isByte S x := by
  unfold f_isByte d_isByte f_isByte_J16 d_isByte_J16
  have z1 : (1 : Int32).toInt = 1 := by decide
  have z0 : (0 : Int32).toInt = 0 := by decide
  by_cases c1 : x.toInt < -128
  · rw [if_pos c1, if_pos c1, z0]
    exact ⟨⟨fun _ => by omega, fun _ => rfl⟩, trivial⟩
  · rw [if_neg c1, if_neg c1]
    by_cases c2 : 127 < x.toInt
    · rw [if_pos c2, if_pos c2, z0]
      exact ⟨⟨fun _ => by omega, fun _ => rfl⟩, trivial⟩
    · rw [if_neg c2, if_neg c2, z1]
      exact ⟨⟨fun q => absurd q (by decide), fun q => absurd ⟨by omega, by omega⟩ q⟩, trivial⟩
/-- needOf -/
def NoP (NL : List Nat) (kp : Prop) (AL : List (MS → Prop)) (S : MS) (x r : Int32) (u : MS) : Prop := WrI NL kp AL u ∧ BkX S u ∧ (0 ≤ r.toInt ∧ r.toInt ≤ 1401) ∧ ((f_op S x).toInt = 18 → ¬ (-32768 ≤ (f_first S x).toInt ∧ (f_first S x).toInt ≤ 32767) → NuK u 3 0 0 (f_first S x).toInt64 10000032 r)
theorem sp_nO {p : Nat} {S : MS} {x : Int32} (cf : CfI NL kp AL p S) (h : WrI NL kp AL S) (k : LkF kp AL p S) (hx : 0 ≤ x.toInt ∧ x.toInt < (qI S 0 52).toInt) : w_needOf S x (fun r u => NoP NL kp AL S x r u) (fun _ => ¬ kp) := by
  obtain ⟨lk, r47, rowF, -⟩ := k
  obtain ⟨f1, f2, f3⟩ := rowF x hx.1 hx.2
  obtain ⟨dop, dfi, dse⟩ := lk.dop hx
  obtain ⟨cS, ⟨c2, rows⟩, c4, o, ab, ⟨r0, r1⟩, ⟨a1, a2⟩, _, _, _, fl, mt⟩ := cf
  have o47 : qO S 0 47 = p := by unfold qO; rw [r47]; rfl
  have l0 : (0 : Int32).toInt = 0 := rfl
  have own : (f_op S x).toInt ≠ 18 → NoP NL kp AL S x 0 S := fun q => ⟨h, BkX.rf, by rw [l0]; omega, fun z => absurd z q⟩
  have lo : f_longOf S x = loV (f_first S x) (f_second S x) := rfl
  have n47 : qO S 0 47 ≠ 0 ∧ qO S 0 47 ∉ [28, 29, 30, 31, 32, 33] := by
    rw [o47]
    refine ⟨by omega, fun q => ?_⟩
    simp only [List.mem_cons, List.not_mem_nil, or_false] at q
    omega
  have mem : ∀ (g : Int32) (i j : Nat), (g.toInt = 9 ∧ i = 0 ∧ j = 1 ∨ g.toInt = 10 ∧ i = 3 ∧ j = 4) → ((f_op S x).toInt = 178 ∨ (f_op S x).toInt = 179 ∨ (f_op S x).toInt = 184) → (∃ n t : Nat, qR S (p + 1 + i) (f_first S x).toInt.toNat = some n ∧ qR S (p + 1 + j) (f_first S x).toInt.toNat = some t ∧ nmO NL kp AL S n ∧ nmO NL kp AL S t ∧ (kp → kP n t ∈ AL ∧ kM g o n t ∈ AL)) → (0 ≤ (f_first S x).toInt ∧ (f_first S x).toInt < 24) → ((qR S 0 47 = some (qO S 0 47)) ∧ ((qR S (qO S 0 47) (5 + i) = some (qO S (qO S 0 47) (5 + i))) ∧ (d_first S x ∧ (((0 : Int) ≤ (f_first S x).toInt ∧ (f_first S x).toInt < (qN S (qO S (qO S 0 47) (5 + i)) : Int)) ∧ ((qR S (qO S (qO S 0 47) (5 + i)) (((f_first S x).toInt).toNat) = some (qO S (qO S (qO S 0 47) (5 + i)) (((f_first S x).toInt).toNat))) ∧ ((qR S 0 47 = some (qO S 0 47)) ∧ ((qR S (qO S 0 47) (5 + j) = some (qO S (qO S 0 47) (5 + j))) ∧ (d_first S x ∧ (((0 : Int) ≤ (f_first S x).toInt ∧ (f_first S x).toInt < (qN S (qO S (qO S 0 47) (5 + j)) : Int)) ∧ ((qR S (qO S (qO S 0 47) (5 + j)) (((f_first S x).toInt).toNat) = some (qO S (qO S (qO S 0 47) (5 + j)) (((f_first S x).toInt).toNat))) ∧ (∃ Q81 EQ81, w_memberNumber S g (qO S (qO S (qO S 0 47) (5 + i)) (((f_first S x).toInt).toNat)) (qO S (qO S (qO S 0 47) (5 + j)) (((f_first S x).toInt).toNat)) Q81 EQ81 ∧ (∀ r82 S83, Q81 r82 S83 → NoP NL kp AL S x r82 S83) ∧ (∀ u9, EQ81 u9 → ¬ kp)))))))))))) := fun g i j hg ho hnt hb => by
    obtain ⟨n, t, n1, t1, hn, ht, hk⟩ := hnt
    have qi := rows i (by omega)
    have qj := rows j (by omega)
    have oi : qO S (qO S 0 47) (5 + i) = p + 1 + i := by rw [o47]; unfold qO; rw [qi.1]; rfl
    have oj : qO S (qO S 0 47) (5 + j) = p + 1 + j := by rw [o47]; unfold qO; rw [qj.1]; rfl
    have on : qO S (p + 1 + i) (f_first S x).toInt.toNat = n := by unfold qO; rw [n1]; rfl
    have ot : qO S (p + 1 + j) (f_first S x).toInt.toNat = t := by unfold qO; rw [t1]; rfl
    have r47' : qR S 0 47 = some (qO S 0 47) := by rw [o47]; exact r47
    rw [oi, oj, on, ot]
    refine ⟨r47', by rw [o47]; exact qi.1, dfi, ⟨hb.1, by rw [qi.2]; omega⟩, n1, r47', by rw [o47]; exact qj.1, dfi, ⟨hb.1, by rw [qj.2]; omega⟩, t1, _, _, sp_mem cS h (by omega) r47' n47 (by rw [o47]; exact r0) ⟨a1.1, a1.2.1, fun k => ⟨a1.2.2 k, a2 k⟩⟩ hn ht hk, ?_, fun u e => e⟩
    rintro r u ⟨u1, u2, u3⟩
    exact ⟨u1, u2, by omega, fun z => by omega⟩
  unfold w_needOf
  refine ⟨dop, fun e1 => ⟨dfi, sh_rg.2, fun e2 => ⟨dfi, ?_⟩, fun e2 => ⟨h, BkX.rf, by rw [l0]; omega, fun _ z => absurd (sh_rg.1.mpr z) e2⟩⟩, fun e1 => ⟨fun e2 => ?_, fun e2 => ⟨fun e3 => ?_, fun e3 => ⟨fun e4 => ?_, fun e4 => ⟨fun e5 => ?_, fun e5 => own e1⟩⟩⟩⟩⟩
  · have ns := sh_rg.1.mp e2
    have g : kp → ∃ s, s ∈ AL ∧ (s S → ∃ r' : Int32, NuK S 3 0 0 (f_first S x).toInt64 10000032 r') := fun k => by
      rcases (f3 k).1 e1 with q | q
      · exact absurd q ns
      · exact ⟨_, q, fun y => y⟩
    refine ⟨_, _, sp_need h.1 h.2.1 (by unfold tgO; decide) (by decide) (fun z => absurd z (by decide)), ?_, fun u e => h.no cS e g⟩
    rintro r u ⟨q, nr⟩
    refine ⟨h.nd cS q nr (fun z => absurd z (by decide)) (fun k => ?_), q.2.1, by have := q.2.2.2.1; omega, fun _ _ => q.2.2.1⟩
    rcases (f3 k).1 e1 with y | y
    · exact absurd y ns
    · exact ⟨_, y, fun y => y, fun y => y⟩
  · have dl : d_longOf S x := ⟨dfi, dse, trivial⟩
    have j : w_needOf_J108 (fun r u => NoP NL kp AL S x r u) (fun _ => ¬ kp) S := own e1
    refine ⟨dl, fun _ => j, fun c0 => ⟨dl, fun _ => j, fun c1 => ⟨dl, ?_⟩⟩⟩
    rw [lo] at c0 c1 ⊢
    have g : kp → kV 5 (loV (f_first S x) (f_second S x)) ∈ AL := fun k => by
      rcases (f3 k).2 e2 with q | q | q
      · exact absurd q c0
      · exact absurd q c1
      · exact q
    refine ⟨_, _, sp_need h.1 h.2.1 (by unfold tgO; decide) (by decide) (fun z => absurd z (by decide)), ?_, fun u e => h.no cS e (fun k => ⟨_, g k, fun y => y⟩)⟩
    rintro r u ⟨q, nr⟩
    exact ⟨h.nd cS q nr (fun z => absurd z (by decide)) (fun k => ⟨_, g k, fun y => y, fun y => y⟩), q.2.1, by have := q.2.2.2.1; omega, fun z => absurd z e1⟩
  · have b := f1 (Or.inl e3)
    exact mem 9 0 1 (Or.inl ⟨by decide, rfl, rfl⟩) (Or.inl e3) (fl _ (by omega)) (by omega)
  · have b := f1 (Or.inr e4)
    exact mem 9 0 1 (Or.inl ⟨by decide, rfl, rfl⟩) (Or.inr (Or.inl e4)) (fl _ (by omega)) (by omega)
  · have b := f2 e5
    exact mem 10 3 4 (Or.inr ⟨by decide, rfl, rfl⟩) (Or.inr (Or.inr e5)) (mt _ (by omega)) (by omega)
end NOX
/-! collect (behind sp_nO, sp_lookD) -/
theorem er_nm {S : MS} {e : Int32} (h : 0 ≤ e.toInt ∧ e.toInt ≤ 3) : f_errorName S e = erT e.toInt.toNat := by
  unfold f_errorName erT
  have q : e.toInt = 0 ∨ e.toInt = 1 ∨ e.toInt = 2 ∨ e.toInt = 3 := by omega
  rcases q with q | q | q | q
  · rw [if_pos q, q]; rfl
  · rw [if_neg (by omega), if_pos q, q]; rfl
  · rw [if_neg (by omega), if_neg (by omega), if_pos q, q]; rfl
  · rw [if_neg (by omega), if_neg (by omega), if_neg (by omega), q]; rfl
theorem WrI.st {NL : List Nat} {kp : Prop} {AL : List (MS → Prop)} {S : MS} (h : (qI S 0 73).toInt = 0) (h2 : (qI S 0 74).toInt = 1) : WrI NL kp AL S := by
  have e : ndN S = 0 := h
  refine ⟨⟨by omega, by omega, fun k hk => by omega⟩, ⟨fun k hk => by omega, by rw [h2, e]; rfl⟩, ?_, fun _ => by omega⟩
  unfold nmK
  rw [e]
  exact Nat.zero_le _
section COX
variable {NL : List Nat} {kp : Prop} {AL : List (MS → Prop)}
theorem sp_co_L149 {p : Nat} {A : MS} {Q E : MS → Prop} {k81 : MS → Nat → Int32 → Prop} {x : Int32} (cf : CfI NL kp AL p A) (k : LkF kp AL p A) (hE : ∀ u : MS, ¬ kp → E u) (hk : ∀ U : MS, BkX A U → WrI NL kp AL U → k81 U p (x + Int32.ofInt 1)) : ∀ (c : Nat) (U : MS) (i : Int32), 0 ≤ i.toInt → BkX A U → WrI NL kp AL U → (16 - i.toInt).toNat < c → w_collect_L149 Q E k81 c U p x i := by
  have p60 : 60 ≤ p := by have := cf.2.1.1; omega
  intro c
  induction c with
  | zero => intro U i _ _ _ h9; exact absurd h9 (Nat.not_lt_zero _)
  | succ c ih =>
    intro U i i0 xU hU hc
    have cfU := cf.fm xU.1 (by decide)
    have kU := k.fm p60 xU.1 (by decide) (by decide)
    have cn := kU.1.cnt
    unfold w_collect_L149
    refine ⟨fun _ a ea => by subst ea; exact hk U xU hU, fun c1 => ?_⟩
    have ir : 0 ≤ i.toInt ∧ i.toInt < (qI U 0 54).toInt := ⟨i0, by omega⟩
    have ei : (i + Int32.ofInt 1).toInt = i.toInt + 1 := by rw [t_add (by rw [lo_1]; omega), lo_1]
    have dc := kU.1.dcw ir (k := 3) (by decide)
    have cw := (kU.1.cw ir).2.2.2
    have nx : ∀ V : MS, BkX A V → WrI NL kp AL V → w_collect_J183 Q E (w_collect_L149 Q E k81 c) V p x i := fun V xV hV => by
      unfold w_collect_J183
      intro a ea
      subst ea
      exact ih V _ (by omega) xV hV (by omega)
    refine ⟨dc, fun _ => nx U xU hU, fun c2 => ⟨dc, trivial, ?_⟩⟩
    obtain ⟨cS, _, _, o, ab, _, _, _, _, er, _⟩ := cfU
    rw [er_nm (by omega)]
    obtain ⟨e1, e2⟩ := er (f_catchWord U i 3).toInt.toNat (by omega)
    refine ⟨_, _, sp_cls cS hU e1.1 e1.2.1 e1.2.2 e2, ?_, fun u e => hE u e⟩
    rintro r V ⟨hV, xV, _⟩
    exact nx V (xU.tr xV) hV
theorem sp_co_L124 {p : Nat} {A : MS} {Q E : MS → Prop} {k81 : MS → Nat → Int32 → Prop} {x : Int32} (cf : CfI NL kp AL p A) (k : LkF kp AL p A) (hE : ∀ u : MS, ¬ kp → E u) (hk : ∀ U : MS, BkX A U → WrI NL kp AL U → k81 U p (x + Int32.ofInt 1)) : ∀ (c : Nat) (U : MS) (i : Int32), 0 ≤ i.toInt → BkX A U → WrI NL kp AL U → (1296 - i.toInt).toNat < c → w_collect_L124 Q E k81 c U p x i := by
  have p60 : 60 ≤ p := by have := cf.2.1.1; omega
  intro c
  induction c with
  | zero => intro U i _ _ _ h9; exact absurd h9 (Nat.not_lt_zero _)
  | succ c ih =>
    intro U i i0 xU hU hc
    have cfU := cf.fm xU.1 (by decide)
    have kU := k.fm p60 xU.1 (by decide) (by decide)
    have cn := kU.1.cnt
    unfold w_collect_L124
    refine ⟨fun _ => ⟨_, sp_co_L149 cf k hE hk _ U 0 (by decide) xU hU (Nat.lt_succ_self _)⟩, fun c1 => ?_⟩
    have ei : (i + Int32.ofInt 1).toInt = i.toInt + 1 := by rw [t_add (by rw [lo_1]; omega), lo_1]
    refine ⟨_, _, sp_nO cfU hU kU ⟨i0, by omega⟩, ?_, fun u e => hE u e⟩
    rintro r V ⟨hV, xV, _⟩ a ea
    subst ea
    exact ih V _ (by omega) (xU.tr xV) hV (by omega)
/-- what collect leaves alone -/
def coF (S u : MS) : Prop := frm [28, 29, 30, 31, 32, 33] [7, 8, 47, 48, 49, 50, 51, 52, 53, 54, 73, 74] S u
theorem sp_collect {p : Nat} {S : MS} (cf : CfI NL kp AL p S) (ro : RoI p S) (ck : CkF kp AL p S) : w_collect S p (fun u => WrI NL kp AL u ∧ coF S u) (fun _ => ¬ kp) := by
  have p60 : 60 ≤ p := by have := cf.2.1.1; omega
  have rows := cf.2.1.2
  have bF := cf.2.2.1
  have l0 : (0 : Int32).toInt = 0 := rfl
  -- a name of the File
  have nm : ∀ (U : MS) (i j : Nat) (n : Nat), coF S U → i < 13 → j < 24 → qR S (p + 1 + i) j = some n → qR U p (5 + i) = some (qO U p (5 + i)) ∧ qO U p (5 + i) = p + 1 + i ∧ qN U (p + 1 + i) = 24 ∧ qR U (p + 1 + i) j = some n ∧ qO U (p + 1 + i) j = n := fun U i j n fU hi hj hn => by
    have hi' := hi_frm fU (by decide)
    have r := rows i hi
    have z := hi' (p + 1 + i) (by omega)
    have r1 : qR U p (5 + i) = some (p + 1 + i) := by rw [(hi' p p60).2.2.1]; exact r.1
    have o1 : qO U p (5 + i) = p + 1 + i := by unfold qO; rw [r1]; rfl
    have r2 : qR U (p + 1 + i) j = some n := by rw [z.2.2.1]; exact hn
    exact ⟨by rw [o1]; exact r1, o1, by rw [z.2.2.2.2]; exact r.2, r2, by unfold qO; rw [r2]; rfl⟩
  have L81 : ∀ (c : Nat) (U : MS) (x : Int32), 0 ≤ x.toInt → coF S U → WrI NL kp AL U → (24 - x.toInt).toNat < c → w_collect_L81 (fun u => WrI NL kp AL u ∧ coF S u) (fun _ => ¬ kp) c U p x := by
    intro c
    induction c with
    | zero => intro U x _ _ _ h9; exact absurd h9 (Nat.not_lt_zero _)
    | succ c ih =>
      intro U x x0 fU hU hc
      have hi := hi_frm fU (by decide)
      have u4 : qI U p 4 = qI S p 4 := by rw [(hi p p60).1]
      unfold w_collect_L81
      rw [u4]
      refine ⟨fun _ => ⟨hU, fU⟩, fun c1 => ?_⟩
      obtain ⟨cS, _, _, o, ab, _, _, _, _, _, _, mt⟩ := cf
      obtain ⟨n, t, n1, t1, hn, ht, _⟩ := mt x.toInt.toNat (by omega)
      obtain ⟨a1, a2, a3, a4, a5⟩ := nm U 3 x.toInt.toNat n fU (by decide) (by omega) n1
      rw [show (8 : Nat) = 5 + 3 from rfl, a2, a5]
      have kU : kpW S U := kpW.f9 fU (by decide)
      refine ⟨by rw [a2] at a1; exact a1, ⟨x0, by rw [a3]; omega⟩, a4, _, _, sp_nm cS hU hn.1 (hn.2.1.mv kU) hn.2.2, ?_, fun u e => e⟩
      rintro r V ⟨hV, xV, _⟩
      have fV : coF S V := frm.tr fU (xV.1.mo (by decide) (by decide))
      obtain ⟨b1, b2, b3, b4, b5⟩ := nm V 4 x.toInt.toNat t fV (by decide) (by omega) t1
      rw [show (9 : Nat) = 5 + 4 from rfl, b2, b5]
      refine ⟨by rw [b2] at b1; exact b1, ⟨x0, by rw [b3]; omega⟩, b4, _, _, sp_nm cS hV ht.1 (ht.2.1.mv (kU.tr xV.kp)) ht.2.2, ?_, fun u e => e⟩
      rintro r2 W ⟨hW, xW, _⟩
      have fW : coF S W := frm.tr fV (xW.1.mo (by decide) (by decide))
      have w4 : qI W p 4 = qI S p 4 := by rw [(hi_frm fW (by decide) p p60).1]
      have cfW := CfI.fm ⟨cS, ‹_›, ‹_›, o, ab, ‹_›, ‹_›, ‹_›, ‹_›, ‹_›, ‹_›, mt⟩ fW (by decide)
      have roW := ro.fm fW (by decide)
      have ckW := ck.fm ro fW (by decide)
      refine ⟨_, sp_lookD cfW roW ckW ⟨x0, by rw [w4]; omega⟩, ?_⟩
      rintro A ⟨⟨fA, kA⟩, _⟩
      have cfA := cfW.fm fA (by decide)
      have hA : WrI NL kp AL A := hW.f9 cS fA (by decide) (by decide)
      have ek : (x + Int32.ofInt 1).toInt = x.toInt + 1 := by rw [t_add (by rw [lo_1]; omega), lo_1]
      refine ⟨_, sp_co_L124 cfA kA (fun u e => e) (fun Z xZ hZ => ih Z _ (by omega) (fW.tr ((fA.mo (by decide) (by decide)).tr (xZ.1.mo (by decide) (by decide)))) hZ (by omega)) _ A 0 (by decide) BkX.rf hA (Nat.lt_succ_self _)⟩
  have L39 : ∀ (c : Nat) (U : MS) (x : Int32), 0 ≤ x.toInt → coF S U → WrI NL kp AL U → (24 - x.toInt).toNat < c → w_collect_L39 (fun u => WrI NL kp AL u ∧ coF S u) (fun _ => ¬ kp) c U p x := by
    intro c
    induction c with
    | zero => intro U x _ _ _ h9; exact absurd h9 (Nat.not_lt_zero _)
    | succ c ih =>
      intro U x x0 fU hU hc
      have hi := hi_frm fU (by decide)
      have u3 : qI U p 3 = qI S p 3 := by rw [(hi p p60).1]
      unfold w_collect_L39
      rw [u3]
      refine ⟨fun _ => ⟨_, L81 _ U 0 (by decide) fU hU (Nat.lt_succ_self _)⟩, fun c1 => ?_⟩
      obtain ⟨cS, _, _, o, ab, _, _, _, _, _, fl, _⟩ := cf
      obtain ⟨n, t, n1, t1, hn, ht, _⟩ := fl x.toInt.toNat (by omega)
      obtain ⟨a1, a2, a3, a4, a5⟩ := nm U 0 x.toInt.toNat n fU (by decide) (by omega) n1
      rw [show (5 : Nat) = 5 + 0 from rfl, a2, a5]
      have kU : kpW S U := kpW.f9 fU (by decide)
      refine ⟨by rw [a2] at a1; exact a1, ⟨x0, by rw [a3]; omega⟩, a4, _, _, sp_nm cS hU hn.1 (hn.2.1.mv kU) hn.2.2, ?_, fun u e => e⟩
      rintro r V ⟨hV, xV, _⟩
      have fV : coF S V := frm.tr fU (xV.1.mo (by decide) (by decide))
      obtain ⟨b1, b2, b3, b4, b5⟩ := nm V 1 x.toInt.toNat t fV (by decide) (by omega) t1
      rw [show (6 : Nat) = 5 + 1 from rfl, b2, b5]
      refine ⟨by rw [b2] at b1; exact b1, ⟨x0, by rw [b3]; omega⟩, b4, _, _, sp_nm cS hV ht.1 (ht.2.1.mv (kU.tr xV.kp)) ht.2.2, ?_, fun u e => e⟩
      rintro r2 W ⟨hW, xW, _⟩ a ea
      subst ea
      have ek : (x + Int32.ofInt 1).toInt = x.toInt + 1 := by rw [t_add (by rw [lo_1]; omega), lo_1]
      exact ih W _ (by omega) (frm.tr fV (xW.1.mo (by decide) (by decide))) hW (by omega)
  unfold w_collect
  intro A eA B eB
  have fB : coF S B := frm.tr (show coF S A by rw [eA]; exact frm.pI0 (by decide)) (show coF A B by rw [eB]; exact frm.pI0 (by decide))
  have hB : WrI NL kp AL B := WrI.st (by rw [eB, qI_wI, if_neg (by decide), eA, qI_wI, if_pos ⟨rfl, rfl⟩]; rfl) (by rw [eB, qI_wI, if_pos ⟨rfl, rfl⟩]; decide)
  have kB : kpW S B := kpW.f9 fB (by decide)
  obtain ⟨cS, _, _, o, ab, ⟨r0, r1⟩, ⟨a1, a2⟩, ⟨b1, b2⟩, cd, _, _, _⟩ := cf
  refine ⟨_, _, sp_nm cS hB cd.1 (cd.2.1.mv kB) cd.2.2, ?_, fun u e => e⟩
  rintro r C ⟨hC, xC, _⟩
  have fC : coF S C := frm.tr fB (xC.1.mo (by decide) (by decide))
  have c0 : qR C p 0 = some o := by rw [(hi_frm fC (by decide) p p60).2.2.1]; exact r0
  have oc : qO C p 0 = o := by unfold qO; rw [c0]; rfl
  rw [oc]
  refine ⟨c0, _, _, sp_cls cS hC a1.1 (a1.2.1.mv (kB.tr xC.kp)) a1.2.2 a2, ?_, fun u e => e⟩
  rintro r2 D ⟨hD, xD, _⟩
  have fD : coF S D := frm.tr fC (xD.1.mo (by decide) (by decide))
  have d0 : qR D p 1 = some ab := by rw [(hi_frm fD (by decide) p p60).2.2.1]; exact r1
  have od : qO D p 1 = ab := by unfold qO; rw [d0]; rfl
  rw [od]
  refine ⟨d0, _, _, sp_cls cS hD b1.1 (b1.2.1.mv ((kB.tr xC.kp).tr xD.kp)) b1.2.2 b2, ?_, fun u e => e⟩
  rintro r3 F ⟨hF, xF, _⟩
  exact ⟨_, L39 _ F 0 (by decide) (frm.tr fD (xF.1.mo (by decide) (by decide))) hF (Nat.lt_succ_self _)⟩
end COX
/-! bytes are written (behind frm, byt) -/
def oS (S : MS) : Int := (qI S 0 77).toInt
def wH (S : MS) : Nat := qO S 0 75
def OuI (S : MS) : Prop := ((qO S 0 75 = 34 ∧ qO S 0 76 = 35 ∨ qO S 0 75 = 35 ∧ qO S 0 76 = 34) ∧ qR S 0 75 = some (qO S 0 75) ∧ qR S 0 76 = some (qO S 0 76)) ∧ (qN S 34 = 131072 ∧ qN S 35 = 131072) ∧ (byt S 34 ∧ byt S 35) ∧ 0 ≤ oS S ∧ oS S ≤ 131072
def oc (g : Nat → Int32) (j : Nat) : Int := (g j).toInt % 256
def tw (g : Nat → Int32) (j : Nat) : Int := 256 * oc g j + oc g (j + 1)
def fo (g : Nat → Int32) (j : Nat) : Int := 65536 * tw g j + tw g (j + 2)
theorem OuI.wh {S : MS} (h : OuI S) : wH S = 34 ∨ wH S = 35 := by
  unfold wH
  have := h.1.1
  omega
theorem OuI.fm {S u : MS} {W J : List Nat} (h : OuI S) (k : frm W J S u) (h1 : 34 ∉ W) (h2 : 35 ∉ W) (h3 : 75 ∉ J) (h4 : 76 ∉ J) (h5 : 77 ∉ J) : OuI u ∧ oS u = oS S ∧ wH u = wH S := by
  have o5 : qO u 0 75 = qO S 0 75 := by unfold qO; rw [(k.2.2.2.2.2 75 h3).2.2]
  have o6 : qO u 0 76 = qO S 0 76 := by unfold qO; rw [(k.2.2.2.2.2 76 h4).2.2]
  have e : oS u = oS S := by unfold oS; rw [(k.2.2.2.2.2 77 h5).1]
  refine ⟨⟨by rw [o5, o6, (k.2.2.2.2.2 75 h3).2.2, (k.2.2.2.2.2 76 h4).2.2]; exact h.1, by rw [k.2.1]; exact h.2.1, ⟨fun i => by rw [(k.2.2.2.2.1 34 (by decide) h1).1]; exact h.2.2.1.1 i, fun i => by rw [(k.2.2.2.2.1 35 (by decide) h2).1]; exact h.2.2.1.2 i⟩, by rw [e]; exact h.2.2.2⟩, e, by unfold wH; exact o5⟩
def ByO (S : MS) : Prop := byt S 34 ∧ byt S 35
theorem ByO.fm {S u : MS} {W J : List Nat} (h : ByO S) (k : frm W J S u) (h1 : 34 ∉ W) (h2 : 35 ∉ W) : ByO u := ⟨fun i => by rw [(k.2.2.2.2.1 34 (by decide) h1).1]; exact h.1 i, fun i => by rw [(k.2.2.2.2.1 35 (by decide) h2).1]; exact h.2 i⟩
/-- what stands between two writings -/
def OuJ (S : MS) : Prop := ((qO S 0 75 = 34 ∧ qO S 0 76 = 35 ∨ qO S 0 75 = 35 ∧ qO S 0 76 = 34) ∧ qR S 0 75 = some (qO S 0 75) ∧ qR S 0 76 = some (qO S 0 76)) ∧ (qN S 34 = 131072 ∧ qN S 35 = 131072) ∧ ByO S
theorem OuI.j {S : MS} (h : OuI S) : OuJ S := ⟨h.1, h.2.1, h.2.2.1⟩
theorem OuJ.fb {S u : MS} {W J : List Nat} (h : OuJ S) (b : ByO u) (k : frm W J S u) (h3 : 75 ∉ J) (h4 : 76 ∉ J) : OuJ u := by
  have o5 : qO u 0 75 = qO S 0 75 := by unfold qO; rw [(k.2.2.2.2.2 75 h3).2.2]
  have o6 : qO u 0 76 = qO S 0 76 := by unfold qO; rw [(k.2.2.2.2.2 76 h4).2.2]
  exact ⟨by rw [o5, o6, (k.2.2.2.2.2 75 h3).2.2, (k.2.2.2.2.2 76 h4).2.2]; exact h.1, by rw [k.2.1]; exact h.2.1, b⟩
theorem OuJ.fm {S u : MS} {W J : List Nat} (h : OuJ S) (k : frm W J S u) (h1 : 34 ∉ W) (h2 : 35 ∉ W) (h3 : 75 ∉ J) (h4 : 76 ∉ J) : OuJ u := h.fb (h.2.2.fm k h1 h2) k h3 h4
def WA : List Nat := [22, 28, 29, 30, 31, 32, 33, 34, 35, 36]
def JM : List Nat := [7, 8, 47, 48, 49, 50, 51, 52, 53, 54, 56, 57, 73, 74, 77]
/-- how writing can fail -/
def eK (kp : Prop) (S u : MS) : Prop := ¬ kp ∧ ByO u ∧ frm WA JM S u
/-- n bytes more -/
def Wo (S : MS) (n : Int) (u : MS) : Prop := frm [34, 35] [77] S u ∧ OuI u ∧ oS u = oS S + n ∧ wH u = wH S ∧ ∀ j : Nat, (j : Int) < oS S → qI u (wH S) j = qI S (wH S) j
theorem by8 {x : Int32} : (vp_nar .byte (x.toInt8.toInt32)).toInt % 256 = x.toInt % 256 := by
  rw [vp_nar_byte]
  have e : (x.toInt8.toInt32).toInt8 = x.toInt8 := Int8.toInt8_toInt32 _
  rw [e, Int8.toInt_toInt32, Int32.toInt_toInt8, Int.bmod_def]
  split <;> omega
theorem by64 {y : Int64} : y.toInt32.toInt % 256 = y.toInt % 256 := by
  rw [Int64.toInt_toInt32, Int.bmod_def]
  split <;> omega
theorem shr_c {v s : Int64} {n : Nat} (h : s.toBitVec.smod 64 = BitVec.ofNat 64 n) (hn : n < 64) : (v >>> s).toInt = v.toInt / 2 ^ n := by
  show (v >>> s).toBitVec.toInt = _
  rw [Int64.toBitVec_shiftRight, h]
  show (v.toBitVec.sshiftRight (BitVec.ofNat 64 n).toNat).toInt = _
  rw [BitVec.toInt_sshiftRight, BitVec.toNat_ofNat, Nat.mod_eq_of_lt (Nat.lt_trans hn (by decide)), Int.shiftRight_eq_div_pow]
  rfl
theorem sh8 {v : Int64} {k : Int32} (h : 0 ≤ k.toInt ∧ k.toInt ≤ 7) : (v >>> (((8 : Int32) * k).toInt64 &&& 63)).toInt = v.toInt / 2 ^ (8 * k.toInt.toNat) := by
  have q : k.toInt = 0 ∨ k.toInt = 1 ∨ k.toInt = 2 ∨ k.toInt = 3 ∨ k.toInt = 4 ∨ k.toInt = 5 ∨ k.toInt = 6 ∨ k.toInt = 7 := by omega
  rcases q with q | q | q | q | q | q | q | q
  · have : k = 0 := Int32.toInt_inj.mp (by rw [q]; decide)
    subst this; exact shr_c (n := 0) (by decide) (by decide)
  · have : k = 1 := Int32.toInt_inj.mp (by rw [q]; decide)
    subst this; exact shr_c (n := 8) (by decide) (by decide)
  · have : k = 2 := Int32.toInt_inj.mp (by rw [q]; decide)
    subst this; exact shr_c (n := 16) (by decide) (by decide)
  · have : k = 3 := Int32.toInt_inj.mp (by rw [q]; decide)
    subst this; exact shr_c (n := 24) (by decide) (by decide)
  · have : k = 4 := Int32.toInt_inj.mp (by rw [q]; decide)
    subst this; exact shr_c (n := 32) (by decide) (by decide)
  · have : k = 5 := Int32.toInt_inj.mp (by rw [q]; decide)
    subst this; exact shr_c (n := 40) (by decide) (by decide)
  · have : k = 6 := Int32.toInt_inj.mp (by rw [q]; decide)
    subst this; exact shr_c (n := 48) (by decide) (by decide)
  · have : k = 7 := Int32.toInt_inj.mp (by rw [q]; decide)
    subst this; exact shr_c (n := 56) (by decide) (by decide)
theorem sp_out {S : MS} {v : Int64} {n : Int32} (h : OuI S) (hn : 0 ≤ n.toInt ∧ n.toInt ≤ 8) (hr : oS S + n.toInt ≤ 131072) : w_out S v n (fun u => Wo S n.toInt u ∧ ∀ i : Nat, (i : Int) < n.toInt → oc (qI u (wH S)) ((oS S).toNat + i) = (v.toInt / 2 ^ (8 * (n.toInt.toNat - 1 - i))) % 256) := by
  have wh := h.wh
  have o0 := h.2.2.2.1
  have lm : (Int32.ofInt (-1)).toInt = -1 := by decide
  have L : ∀ (c : Nat) (U : MS) (k : Int32), (-1 ≤ k.toInt ∧ k.toInt < n.toInt) → Wo S (n.toInt - 1 - k.toInt) U → (∀ i : Nat, (i : Int) < n.toInt - 1 - k.toInt → oc (qI U (wH S)) ((oS S).toNat + i) = (v.toInt / 2 ^ (8 * (n.toInt.toNat - 1 - i))) % 256) → (k.toInt + 1).toNat < c → w_out_L5 (fun u => Wo S n.toInt u ∧ ∀ i : Nat, (i : Int) < n.toInt → oc (qI u (wH S)) ((oS S).toNat + i) = (v.toInt / 2 ^ (8 * (n.toInt.toNat - 1 - i))) % 256) c U v k := by
    intro c
    induction c with
    | zero => intro U k _ _ _ h9; exact absurd h9 (Nat.not_lt_zero _)
    | succ c ih =>
      intro U k k0 hU hb hc
      obtain ⟨fU, oU, eU, wU, old⟩ := hU
      have oW : qO U 0 75 = wH S := wU
      have e77 : (qI U 0 77).toInt = oS S + (n.toInt - 1 - k.toInt) := eU
      unfold w_out_L5
      refine ⟨fun c1 => ?_, fun c1 => ?_⟩
      · have ek : n.toInt - 1 - k.toInt = n.toInt := by omega
        rw [ek] at eU hb
        exact ⟨⟨fU, oU, eU, wU, old⟩, hb⟩
      · have nW : qN U (wH S) = 131072 := by
          rcases wh with q | q
          · rw [q]; exact oU.2.1.1
          · rw [q]; exact oU.2.1.2
        rw [oW]
        refine ⟨by rw [← oW]; exact oU.1.2.1, ⟨by omega, by rw [nW]; omega⟩, fun A eA B eB a ea => ?_⟩
        have ek : a.toInt = k.toInt - 1 := by rw [ea, t_add (by rw [lm]; omega), lm]; omega
        clear ea
        have w0 : wH S ≠ 0 := by omega
        have a0 : qI A 0 = qI U 0 := by rw [eA, rdH w0.symm]
        have fA : frm [34, 35] [77] U A := by
          rw [eA]
          refine frm.pI ⟨?_, w0⟩
          rcases wh with q | q <;> rw [q] <;> decide
        have fB : frm [34, 35] [77] A B := by rw [eB]; exact frm.pI0 (by decide)
        have b77 : oS B = oS S + (n.toInt - 1 - k.toInt) + 1 := by
          show (qI B 0 77).toInt = _
          rw [eB, qI_wI, if_pos ⟨rfl, rfl⟩, a0, t_add (by rw [li_1]; omega), li_1]
          omega
        have bI : ∀ x j : Nat, x ≠ 0 → qI B x j = if x = wH S ∧ j = (qI U 0 77).toInt.toNat then vp_nar .byte (((v >>> (((8 : Int32) * k).toInt64 &&& 63)).toInt32).toInt8.toInt32) else qI U x j := fun x j hx => by rw [eB, rdH hx, eA, qI_wI]
        have fUB := fA.tr fB
        have o5 : qO B 0 75 = qO U 0 75 ∧ qO B 0 76 = qO U 0 76 ∧ qR B 0 75 = qR U 0 75 ∧ qR B 0 76 = qR U 0 76 := by
          have r5 := (fUB.2.2.2.2.2 75 (by decide)).2.2
          have r6 := (fUB.2.2.2.2.2 76 (by decide)).2.2
          exact ⟨by unfold qO; rw [r5], by unfold qO; rw [r6], r5, r6⟩
        have byB : ∀ x : Nat, (x = 34 ∨ x = 35) → byt B x := fun x hx i => by
          rw [bI x i (by omega)]
          by_cases q : x = wH S ∧ i = (qI U 0 77).toInt.toNat
          · rw [if_pos q]; exact fitB _
          · rw [if_neg q]
            rcases hx with y | y
            · rw [y]; exact oU.2.2.1.1 i
            · rw [y]; exact oU.2.2.1.2 i
        have ed : n.toInt - 1 - a.toInt = n.toInt - 1 - k.toInt + 1 := by omega
        refine ih B a (by omega) ⟨fU.tr fUB, ⟨by rw [o5.1, o5.2.1, o5.2.2.1, o5.2.2.2]; exact oU.1, by rw [fUB.2.1]; exact oU.2.1, ⟨byB 34 (Or.inl rfl), byB 35 (Or.inr rfl)⟩, by omega, by omega⟩, by rw [ed]; omega, by show qO B 0 75 = _; rw [o5.1]; exact oW, fun j hj => ?_⟩ (fun i hi => ?_) (by omega)
        · rw [bI _ j w0, if_neg (fun q => by have := q.2; omega)]
          exact old j hj
        · rw [ed] at hi
          unfold oc
          rw [bI _ _ w0]
          by_cases q : (i : Int) = n.toInt - 1 - k.toInt
          · rw [if_pos ⟨rfl, by omega⟩, by8, by64, sh8 ⟨by omega, by omega⟩, show n.toInt.toNat - 1 - i = k.toInt.toNat by omega]
          · rw [if_neg (fun z => by have := z.2; omega)]
            exact hb i (by omega)
  unfold w_out
  intro a ea
  have e : a.toInt = n.toInt - 1 := by rw [ea, t_sub (by rw [li_1]; omega), li_1]
  refine ⟨_, L _ S a (by omega) ⟨frm.rf, h, by omega, rfl, fun _ _ => rfl⟩ (fun i hi => by omega) (Nat.lt_succ_self _)⟩
theorem Wo.rf {S : MS} (h : OuI S) : Wo S 0 S := ⟨frm.rf, h, by omega, rfl, fun _ _ => rfl⟩
theorem Wo.tr {S u v : MS} {a b : Int} (h : Wo S a u) (k : Wo u b v) (ha : 0 ≤ a) : Wo S (a + b) v := ⟨h.1.tr k.1, k.2.1, by have := h.2.2.1; have := k.2.2.1; omega, k.2.2.2.1.trans h.2.2.2.1, fun j hj => by
  have := k.2.2.2.2 j (by have := h.2.2.1; omega)
  rw [h.2.2.2.1] at this
  rw [this]
  exact h.2.2.2.2 j hj⟩
/-- one, two, four bytes of a small number -/
theorem wo_mo {S : MS} {v : Int64} {n : Int32} {Q Q' : MS → Prop} (h : w_out S v n Q) (hq : ∀ u, Q u → Q' u) : w_out S v n Q' := by
  have m : ∀ (c : Nat) (U : MS) (k : Int32), w_out_L5 Q c U v k → w_out_L5 Q' c U v k := by
    intro c
    induction c with
    | zero => intro U k g; unfold w_out_L5 at g; exact g.elim
    | succ c ih =>
      intro U k g
      unfold w_out_L5 at g ⊢
      refine ⟨fun z => hq _ (g.1 z), fun z => ?_⟩
      obtain ⟨g1, g2, g3⟩ := g.2 z
      exact ⟨g1, g2, fun A eA B eB a ea => ih B a (g3 A eA B eB a ea)⟩
  unfold w_out at h ⊢
  intro a ea
  obtain ⟨c, g⟩ := h a ea
  exact ⟨c, m c S a g⟩
theorem sp_out1 {S : MS} {v : Int64} (h : OuI S) (hr : oS S + 1 ≤ 131072) (hv : 0 ≤ v.toInt ∧ v.toInt ≤ 255) : w_out S v (1 : Int32) (fun u => Wo S 1 u ∧ oc (qI u (wH S)) (oS S).toNat = v.toInt) := by
  refine wo_mo (sp_out (S := S) (v := v) (n := 1) h (by decide) (by rw [li_1]; exact hr)) (fun u hu => ?_)
  obtain ⟨a, b⟩ := hu
  rw [li_1] at a b
  refine ⟨a, ?_⟩
  have b0 := b 0 (by decide)
  rw [Nat.add_zero] at b0
  rw [b0]
  show v.toInt / 1 % 256 = v.toInt
  omega
theorem sp_out2 {S : MS} {v : Int64} (h : OuI S) (hr : oS S + 2 ≤ 131072) (hv : 0 ≤ v.toInt ∧ v.toInt ≤ 65535) : w_out S v (2 : Int32) (fun u => Wo S 2 u ∧ tw (qI u (wH S)) (oS S).toNat = v.toInt) := by
  refine wo_mo (sp_out (S := S) (v := v) (n := 2) h (by decide) (by rw [li_2]; exact hr)) (fun u hu => ?_)
  obtain ⟨a, b⟩ := hu
  rw [li_2] at a b
  refine ⟨a, ?_⟩
  have b0 := b 0 (by decide)
  have b1 := b 1 (by decide)
  unfold tw
  rw [Nat.add_zero] at b0
  rw [b0, b1]
  show 256 * (v.toInt / 256 % 256) + v.toInt / 1 % 256 = v.toInt
  omega
theorem sp_out4 {S : MS} {v : Int64} (h : OuI S) (hr : oS S + 4 ≤ 131072) (hv : 0 ≤ v.toInt ∧ v.toInt ≤ 2147483647) : w_out S v (4 : Int32) (fun u => Wo S 4 u ∧ fo (qI u (wH S)) (oS S).toNat = v.toInt) := by
  refine wo_mo (sp_out (S := S) (v := v) (n := 4) h (by decide) (by rw [li_4]; exact hr)) (fun u hu => ?_)
  obtain ⟨a, b⟩ := hu
  rw [li_4] at a b
  refine ⟨a, ?_⟩
  have b0 := b 0 (by decide)
  have b1 := b 1 (by decide)
  have b2 := b 2 (by decide)
  have b3 := b 3 (by decide)
  unfold fo tw
  rw [Nat.add_zero] at b0
  rw [show (oS S).toNat + 2 + 1 = (oS S).toNat + 3 by omega, b0, b1, b2, b3]
  show 65536 * (256 * (v.toInt / 16777216 % 256) + v.toInt / 65536 % 256) + (256 * (v.toInt / 256 % 256) + v.toInt / 1 % 256) = v.toInt
  omega
/-- n bytes, whatever they are -/
theorem sp_outN {S : MS} {v : Int64} {n : Int32} {m : Int} (h : OuI S) (e : n.toInt = m) (hn : 0 ≤ m ∧ m ≤ 8) (hr : oS S + m ≤ 131072) : w_out S v n (Wo S m) := wo_mo (sp_out h (by omega) (by omega)) (fun u hu => by have := hu.1; rw [e] at this; exact this)
