/-! count as a whole, but for keptDraft (behind sp_count_L196, DhI, sp_cname) -/
def frX (W J : List Nat) (S u : MS) : Prop := kpW S u ∧ (∀ a : Nat, a ≤ 92 → qT u a = qT S a ∧ qN u a = qN S a) ∧ (∀ h : Nat, h ≠ 0 → h ≤ 92 → h ∉ W → qI u h = qI S h ∧ qJ u h = qJ S h ∧ qR u h = qR S h) ∧ ∀ j : Nat, j ∉ J → qI u 0 j = qI S 0 j ∧ qJ u 0 j = qJ S 0 j ∧ qR u 0 j = qR S 0 j
theorem frX.rf {W J : List Nat} {S : MS} : frX W J S S := ⟨kpW.rf, fun _ _ => ⟨rfl, rfl⟩, fun _ _ _ _ => ⟨rfl, rfl, rfl⟩, fun _ _ => ⟨rfl, rfl, rfl⟩⟩
theorem frX.tr {W J : List Nat} {S u v : MS} (h : frX W J S u) (k : frX W J u v) : frX W J S v := ⟨h.1.tr k.1, fun a ha => ⟨(k.2.1 a ha).1.trans (h.2.1 a ha).1, (k.2.1 a ha).2.trans (h.2.1 a ha).2⟩, fun a a0 a1 a2 => ⟨(k.2.2.1 a a0 a1 a2).1.trans (h.2.2.1 a a0 a1 a2).1, (k.2.2.1 a a0 a1 a2).2.1.trans (h.2.2.1 a a0 a1 a2).2.1, (k.2.2.1 a a0 a1 a2).2.2.trans (h.2.2.1 a a0 a1 a2).2.2⟩, fun j hj => ⟨(k.2.2.2 j hj).1.trans (h.2.2.2 j hj).1, (k.2.2.2 j hj).2.1.trans (h.2.2.2 j hj).2.1, (k.2.2.2 j hj).2.2.trans (h.2.2.2 j hj).2.2⟩⟩
theorem frX.of {W J : List Nat} {S u : MS} (k : frm W J S u) (hW : ∀ w ∈ W, w ≤ 92) : frX W J S u := ⟨kpW.f9 k hW, fun a _ => ⟨by rw [k.1], by rw [k.2.1]⟩, fun h h0 _ h2 => k.2.2.2.2.1 h h0 h2, k.2.2.2.2.2⟩
theorem frX.mo {W J W' J' : List Nat} {S u : MS} (h : frX W J S u) (hW : W.all (fun x => W'.contains x) = true) (hJ : J.all (fun x => J'.contains x) = true) : frX W' J' S u := by
  have mW : ∀ a : Nat, a ∉ W' → a ∉ W := fun a n q => n (List.contains_iff_mem.mp (List.all_eq_true.mp hW a q))
  have mJ : ∀ a : Nat, a ∉ J' → a ∉ J := fun a n q => n (List.contains_iff_mem.mp (List.all_eq_true.mp hJ a q))
  exact ⟨h.1, h.2.1, fun a a0 a1 a2 => h.2.2.1 a a0 a1 (mW a a2), fun j hj => h.2.2.2 j (mJ j hj)⟩
theorem FsI.fx {S u : MS} {W J : List Nat} (h : FsI VfI S) (hk : knI S) (k : frX W J S u) (hW : 1 ∉ W) (hJ : 1 ∉ J) : FsI VfI u := h.mv VfI.st hk (fun a a0 a1 => k.1.1 a a0 (Or.inl a1)) (fun a ha => k.1.1 a (by rw [show TXB = 10000000 from rfl] at ha; omega) (Or.inr ha)) k.1.2 (k.2.2.2 1 hJ).1 (k.2.2.1 1 (by decide) (by decide) hW).2.2
theorem FlI.fx {S u : MS} {f : Nat} {W J : List Nat} (h : FlI S f) (k : frX W J S u) : FlI u f := h.mv (fun a a0 a1 => (k.1.1 a (by have := h.1.1.1; omega) (Or.inl a1)).s6) k.1.2
theorem GrJ.fx {S u : MS} {W J : List Nat} (h : GrJ S) (F : FsI VfI S) (k : frX W J S u) (hW : ∀ w ∈ W, 60 ≤ w ∧ w ≤ 92) (hJ : ∀ j ∈ J, j ≠ 1 ∧ j ≠ 105 ∧ j ≠ 106 ∧ j ≠ 107 ∧ j ≠ 110) : GrJ u := by
  have lw := fun (a : Nat) (h0 : a ≠ 0) (h1 : a < 60) => k.2.2.1 a h0 (by omega) (fun q => by have := hW a q; omega)
  have lj := fun (j : Nat) (q : j = 1 ∨ j = 105 ∨ j = 106 ∨ j = 107 ∨ j = 110) => (k.2.2.2 j (fun z => by have := hJ j z; omega)).1
  exact h.mv F (fun a a0 a1 => (k.1.1 a a0 (Or.inl a1)).s6) ⟨lj 1 (by omega), lj 105 (by omega), lj 106 (by omega), lj 107 (by omega), lj 110 (by omega)⟩ (lw 1 (by decide) (by decide)).2.2 ⟨(lw 49 (by decide) (by decide)).1, (lw 50 (by decide) (by decide)).1, (lw 51 (by decide) (by decide)).1, (lw 52 (by decide) (by decide)).1, (lw 53 (by decide) (by decide)).1⟩
theorem GnA.kp {S u : MS} {f m n : Nat} (h : GnA S f m n) (hf : FlI S f) (k : kpW S u) : GnA u f m n := by
  have f92 := hf.1.1.1
  obtain ⟨h1, h2, h3, h4, h5, R, T, C, nc, ts, cn, r1, r2, r3, r4, r5, r6⟩ := hf
  have eR : qO S f 18 = R := by unfold qO; rw [r2.1]; rfl
  have eT : qO S f 19 = T := by unfold qO; rw [r2.2.1]; rfl
  have eC : qO S f 20 = C := by unfold qO; rw [r2.2.2]; rfl
  have kb := fun (a : Nat) (h0 : 92 < a) (h1 : a < qn S) => k.1 a h0 (Or.inl h1)
  refine h.mv ?_ ?_ ?_
  · rw [(kb f f92 (by omega)).2.2.1]; exact ⟨rfl, rfl, rfl⟩
  · rw [eR, eT, eC]; exact ⟨(kb R (by omega) (by omega)).1, (kb T (by omega) (by omega)).1, (kb C (by omega) (by omega)).1⟩
  · exact ⟨by rw [(kb _ (by omega) (by omega)).1], by rw [(kb _ (by omega) (by omega)).1], by rw [(kb _ (by omega) (by omega)).1], by rw [(kb _ (by omega) (by omega)).1]⟩
theorem TbF.kp {S u : MS} {f : Nat} (h : TbF S f) (hf : FlI S f) (k : kpW S u) : TbF u f := by
  have f92 := hf.1.1.1
  obtain ⟨h1, h2, h3, h4, h5, R, T, C, nc, ts, cn, r1, r2, r3, r4, r5, r6⟩ := hf
  have eR : qO S f 18 = R := by unfold qO; rw [r2.1]; rfl
  have kb := fun (a : Nat) (h0 : 92 < a) (h1 : a < qn S) => k.1 a h0 (Or.inl h1)
  have oR : qO u f 18 = qO S f 18 := by unfold qO; rw [(kb f f92 (by omega)).2.2.1]
  unfold TbF mL mR mF
  rw [oR, eR, (kb R (by omega) (by omega)).1, (kb f f92 (by omega)).1, (kb (f + 10) (by omega) (by omega)).1, (kb (f + 11) (by omega) (by omega)).1, ← eR]
  exact h
/-- the names so far -/
def NaI (C : MS) (F k : Int) (U : MS) : Prop := knI U ∧ frX [61, 62, 63] [] C U ∧ (∀ j : Nat, (j : Int) < F → qR U 61 j = qR C 61 j ∧ qR U 62 j = qR C 62 j ∧ qR U 63 j = qR C 63 j) ∧ (∀ j : Nat, F ≤ j → (j : Int) < k → ∃ s : Nat, qR U 61 j = some s ∧ qR U 62 j = some 10000022 ∧ qR U 63 j = some 10000022 ∧ txW U s) ∧ ((qn U : Int) ≤ qn C + 4 * (k - F) ∧ (qu U : Int) ≤ qu C + 32 * (k - F)) ∧ qI U 61 = qI C 61 ∧ qI U 62 = qI C 62 ∧ qI U 63 = qI C 63
theorem frX.wR {W J : List Nat} {S : MS} {h i : Nat} {v : Option Nat} (hm : W.contains h = true ∧ h ≠ 0 ∧ h ≤ 92) : frX W J S (wR S h i v) := ⟨⟨fun a a0 _ => sm5.wR (by omega), Nat.le_refl _⟩, fun _ _ => ⟨rfl, rfl⟩, fun a h0 h1 hn => ⟨rfl, rfl, if_neg (fun (q : a = h) => hn (by rw [q]; exact List.contains_iff_mem.mp hm.1))⟩, fun j hj => ⟨rfl, rfl, by rw [qR_wR, if_neg (fun q => hm.2.1 q.1.symm)]⟩⟩
theorem exS.fx {W J : List Nat} {S u : MS} {c s : Nat} (h : exS S u c s) (k : knI S) (hr : qn u ≤ KC) : frX W J S u := by
  have k93 := k.1
  have o := fun (a : Nat) (ha : a < qn S ∨ TXB ≤ a) => h.ol hr ha
  exact ⟨⟨fun a _ a1 => o a a1, h.2.1.1⟩, fun a ha => ⟨(o a (Or.inl (by omega))).2.2.2.1, (o a (Or.inl (by omega))).2.2.2.2⟩, fun a _ a1 _ => ⟨(o a (Or.inl (by omega))).1, (o a (Or.inl (by omega))).2.1, (o a (Or.inl (by omega))).2.2.1⟩, fun j _ => ⟨by rw [(o 0 (Or.inl (by omega))).1], by rw [(o 0 (Or.inl (by omega))).2.1], by rw [(o 0 (Or.inl (by omega))).2.2.1]⟩⟩
theorem sp_count_L105 {C : MS} {f : Nat} {y al : Int32} {Q : Int32 → MS → Prop} (h : FlI C f) (tx : TxI C) (hk : knI C) (hd : DrO C) (hr : qn C + 96 ≤ KC ∧ qu C + 768 ≤ KS) (hal : (qI C f 3).toInt ≤ al.toInt ∧ al.toInt ≤ 24) (done : ∀ U : MS, NaI C (qI C f 3).toInt al.toInt U → ∀ D : MS, D = wI U 60 3 al → ∀ a : Int32, a = qI D f 3 → ∃ n, w_count_L196 Q n D y f a 0) : ∃ n, w_count_L105 Q n C y f al (qI C f 3) := by
  have f92 := h.1.1.1
  have fq := h.2.1
  have F0 := h.2.2.2.1.1
  have kKC : KC = 300000 := rfl
  have L : ∀ (c : Nat) (U : MS) (k : Int32), ((qI C f 3).toInt ≤ k.toInt ∧ k.toInt ≤ al.toInt) → NaI C (qI C f 3).toInt k.toInt U → (24 - k.toInt).toNat < c → w_count_L105 Q c U y f al k := by
    intro c
    induction c with
    | zero => intro U k _ _ h9; exact absurd h9 (Nat.not_lt_zero _)
    | succ c ih =>
      intro U k k0 hU hc
      have hU' := hU
      obtain ⟨kn, fx, e1, e2, ⟨q1, q2⟩, i1, i2, i3⟩ := hU
      have uf3 : qI U f 3 = qI C f 3 := by rw [(fx.1.1 f f92 (Or.inl (by omega))).1]
      have u60 : qR U 60 = qR C 60 := (fx.2.2.1 60 (by decide) (by decide) (by decide)).2.2
      have o5 : qO U 60 5 = 61 := by unfold qO; rw [u60, (hd 0 (by decide)).1]; rfl
      unfold w_count_L105
      refine ⟨fun c1 D eD a ea => ?_, fun c1 => ?_⟩
      · exact done U (by rw [show al.toInt = k.toInt by omega]; exact hU') D eD a ea
      have nx : qn C ≤ qn U := fx.1.2
      rw [o5]
      refine ⟨by rw [u60]; exact (hd 0 (by decide)).1, ⟨by omega, by omega⟩, fun D eD => ?_⟩
      have ex : (k - qI U f 3).toInt = k.toInt - (qI C f 3).toInt := by rw [uf3, t_sub (by omega)]
      have txU : TxI U := tx.kp fx.1
      refine sp_cname (U := U) (x := k - qI U f 3) txU kn (by omega) ⟨by omega, by omega⟩ D eD (fun V => k - qI V f 3) (fun V hV => by
        show k - qI V f 3 = k - qI U f 3
        rw [(hV f (by omega)).1]) (fun r u er ht hx => ?_)
      obtain ⟨n, g, hn, st⟩ := ht
      have qnu : qn u ≤ KC := by have := hx.2.1; omega
      have fu : frX [61, 62, 63] [] U u := hx.fx kn qnu
      have knu : knI u := hx.kn kn qnu
      have f24 := fu.2.1
      have N : ∀ i : Nat, i < 13 → qN u (61 + i) = 24 := fun i hi => by rw [(fu.2.1 (61 + i) (by omega)).2, (fx.2.1 (61 + i) (by omega)).2]; exact (hd i hi).2
      refine ⟨⟨by omega, by rw [N 0 (by decide)]; omega⟩, fun A eA => ?_⟩
      have fA : frX [61, 62, 63] [] u A := by rw [eA]; exact frX.wR (by decide)
      have a60 : qR A 60 = qR C 60 := by rw [(fA.2.2.1 60 (by decide) (by decide) (by decide)).2.2, (fu.2.2.1 60 (by decide) (by decide) (by decide)).2.2, u60]
      have o6 : qO A 60 6 = 62 := by unfold qO; rw [a60, (hd 1 (by decide)).1]; rfl
      rw [o6]
      refine ⟨by rw [a60]; exact (hd 1 (by decide)).1, ⟨by omega, by rw [(fA.2.1 62 (by decide)).2, N 1 (by decide)]; omega⟩, fun B eB => ?_⟩
      have fB : frX [61, 62, 63] [] A B := by rw [eB]; exact frX.wR (by decide)
      have b60 : qR B 60 = qR C 60 := by rw [(fB.2.2.1 60 (by decide) (by decide) (by decide)).2.2, a60]
      have o7 : qO B 60 7 = 63 := by unfold qO; rw [b60, (hd 2 (by decide)).1]; rfl
      rw [o7]
      refine ⟨by rw [b60]; exact (hd 2 (by decide)).1, ⟨by omega, by rw [(fB.2.1 63 (by decide)).2, (fA.2.1 63 (by decide)).2, N 2 (by decide)]; omega⟩, fun E eE a ea => ?_⟩
      have fE : frX [61, 62, 63] [] B E := by rw [eE]; exact frX.wR (by decide)
      have fuE : frX [61, 62, 63] [] u E := (fA.tr fB).tr fE
      subst ea
      have ek : (k + Int32.ofInt 1).toInt = k.toInt + 1 := by rw [t_add (by rw [lo_1]; omega), lo_1]
      have lw := fun (j : Nat) (hj : j < 93) => hx.1 j (Or.inl (by have := kn.1; omega))
      have r61 : ∀ j : Nat, qR E 61 j = if j = k.toInt.toNat then some r else qR U 61 j := fun j => by
        rw [eE, qR_wR, if_neg (fun q => absurd q.1 (by decide)), eB, qR_wR, if_neg (fun q => absurd q.1 (by decide)), eA, qR_wR, (lw 61 (by decide)).2.2.1]
        by_cases q : j = k.toInt.toNat
        · rw [if_pos ⟨rfl, q⟩, if_pos q]
        · rw [if_neg (fun z => q z.2), if_neg q]
      have r62 : ∀ j : Nat, qR E 62 j = if j = k.toInt.toNat then some 10000022 else qR U 62 j := fun j => by
        rw [eE, qR_wR, if_neg (fun q => absurd q.1 (by decide)), eB, qR_wR]
        by_cases q : j = k.toInt.toNat
        · rw [if_pos ⟨rfl, q⟩, if_pos q]
        · rw [if_neg (fun z => q z.2), if_neg q, eA, qR_wR, if_neg (fun q => absurd q.1 (by decide)), (lw 62 (by decide)).2.2.1]
      have r63 : ∀ j : Nat, qR E 63 j = if j = k.toInt.toNat then some 10000022 else qR U 63 j := fun j => by
        rw [eE, qR_wR]
        by_cases q : j = k.toInt.toNat
        · rw [if_pos ⟨rfl, q⟩, if_pos q]
        · rw [if_neg (fun z => q z.2), if_neg q, eB, qR_wR, if_neg (fun q => absurd q.1 (by decide)), eA, qR_wR, if_neg (fun q => absurd q.1 (by decide)), (lw 63 (by decide)).2.2.1]
      have nE : qn E = qn u ∧ qu E = qu u := by rw [eE, eB, eA]; exact ⟨rfl, rfl⟩
      have iE : ∀ a : Nat, qI E a = qI u a := fun a => by rw [eE, eB, eA]; rfl
      have knE : knI E := by
        have tE : qT E = qT u := by rw [eE, eB, eA]; rfl
        unfold knI
        rw [tE, nE.1]
        exact knu
      have tr : txW u r := ⟨st.1.2, Or.inl ⟨by have := kn.1; omega, by
        rcases st.2.1 with q | q
        · exact q
        · rw [show TXB = 10000000 from rfl] at q; omega⟩, by rw [st.2.2.1]; omega⟩
      have x2 := hx.2
      refine ih E _ (by omega) ⟨knE, fx.tr (fu.tr fuE), fun j hj => ?_, fun j j0 j1 => ?_, by omega, by rw [iE, (lw 61 (by decide)).1, i1], by rw [iE, (lw 62 (by decide)).1, i2], by rw [iE, (lw 63 (by decide)).1, i3]⟩ (by omega)
      · rw [r61, r62, r63, if_neg (by omega), if_neg (by omega), if_neg (by omega)]
        exact e1 j hj
      · by_cases q : j = k.toInt.toNat
        · refine ⟨r, by rw [r61, if_pos q], by rw [r62, if_pos q], by rw [r63, if_pos q], tr.mv fuE.1⟩
        · obtain ⟨s, s1, s2, s3, s4⟩ := e2 j j0 (by omega)
          refine ⟨s, by rw [r61, if_neg q]; exact s1, by rw [r62, if_neg q]; exact s2, by rw [r63, if_neg q]; exact s3, (s4.mv fu.1).mv fuE.1⟩
  exact ⟨_, L _ C (qI C f 3) ⟨Int.le_refl _, hal.1⟩ ⟨hk, frX.rf, fun _ _ => ⟨rfl, rfl, rfl⟩, fun j j0 j1 => by omega, by omega, rfl, rfl, rfl⟩ (Nat.lt_succ_self _)⟩
/-! count as a whole, but for keptDraft (behind sp_count_L105, sp_count_L196) -/
theorem nzN_le {g : Nat → Int32} : ∀ n : Nat, nzN g n ≤ n := by
  intro n
  induction n with
  | zero => exact Nat.le_refl _
  | succ n ih =>
    show nzN g n + (if (g n).toInt = 0 then 0 else 1) ≤ n + 1
    split <;> omega
def TbS (S : MS) : Prop := ∀ (i f : Nat), (i : Int) < (qI S 0 1).toInt → qR S 1 i = some f → TbF S f
def cuG (S : MS) (f : Nat) (m : Nat) (al : Int) (U : MS) : Prop := frm [49, 50, 51, 52, 53, 54, 55, 56, 57, 58, 59] [47, 48, 49, 50, 51, 52, 53, 54, 105, 106, 107, 110] S U ∧ GrJ U ∧ ∃ nf : Nat → Nat, (∀ m' : Nat, m' < m → GnA S f m' (nf m')) ∧ al = (qI S f 3).toInt + sumN nf m ∧ sumN nf m ≤ 1200 * m
theorem sp_count {S : MS} {x : Int32} {Q : Int32 → MS → Prop} (fs : FsI VfI S) (hk : knI S) (tx : TxI S) (g : GrJ S) (hd : DrO S) (tb : TbS S) (hr : qn S + 96 ≤ KC ∧ qu S + 768 ≤ KS) (hmd : 0 ≤ (qI S 0 2).toInt ∧ (qI S 0 2).toInt ≤ 16) (hQ : ∀ (r : Int32) (u : MS), frX [49, 50, 51, 52, 53, 54, 55, 56, 57, 58, 59] [2, 47, 48, 49, 50, 51, 52, 53, 54, 105, 106, 107, 110] S u → GrJ u → ((qI S 0 2).toInt ≤ (qI u 0 2).toInt ∧ (qI u 0 2).toInt ≤ 16) → (qn u = qn S ∧ qu u = qu S) → knI u → Q r u) (done : ∀ U : MS, DfI U → FsI VfI U → knI U → GrJ U → TxI U → frX [49, 50, 51, 52, 53, 54, 55, 56, 57, 58, 59, 60, 61, 62, 63, 64, 65, 66, 67, 70, 71, 72, 73, 74, 75, 76, 78, 79, 80, 81, 82, 83, 84, 85, 86, 91, 92] [2, 47, 48, 49, 50, 51, 52, 53, 54, 105, 106, 107, 110, 122, 123, 129, 135] S U → ((qI S 0 2).toInt + 1 ≤ (qI U 0 2).toInt ∧ (qI U 0 2).toInt ≤ 16) → (qn U ≤ qn S + 96 ∧ qu U ≤ qu S + 768) → (qI S 0 1).toInt < 12 → ∃ Q20, w_keptDraft U Q20 ∧ ∀ r21 S22, Q20 r21 S22 → Q r21 S22) : w_count S x Q := by
  unfold w_count
  refine ⟨_, sp_isRight fs, ?_⟩
  rintro r0 S' ⟨rfl, hr0⟩
  have own : ∀ r : Int32, Q r S' := fun r => hQ r S' frX.rf g ⟨Int.le_refl _, hmd.2⟩ ⟨rfl, rfl⟩ hk
  refine ⟨fun _ => own _, fun c0 => ⟨fun _ => own _, fun c1 => ⟨fun _ => own _, fun c2 A eA => ?_⟩⟩⟩
  obtain ⟨f, hx, hf, flS, vfS⟩ := hr0 c0
  have fs12 := fs.1
  have fA : frm [] [2] S' A := by rw [eA]; exact frm.pI0 (by decide)
  have f92 := flS.1.1.1
  have kbA := big_frm fA (by decide)
  have a1 : qR A 1 = qR S' 1 := (fA.2.2.2.2.1 1 (by decide) (by decide)).2.2
  have a01 : qI A 0 1 = qI S' 0 1 := (fA.2.2.2.2.2 1 (by decide)).1
  have oA : qO A 1 x.toInt.toNat = f := by unfold qO; rw [a1, hf]; rfl
  have flA : FlI A f := flS.fm f92 fA (by decide)
  have fsA := fs.f9 hk fA (by decide) (by decide)
  have knA := hk.f9 fA
  have grA := g.f9 fs fA (by decide) (by decide)
  have tbA : TbF A f := (tb x.toInt.toNat f (by omega) hf).kp flS (kpW.f9 fA (by decide))
  have mA : (qI S' 0 2).toInt + 1 ≤ (qI A 0 2).toInt ∧ (qI A 0 2).toInt ≤ 16 := by
    have e : (qI S' 0 2 + (1 : Int32)).toInt = (qI S' 0 2).toInt + 1 := by rw [t_add (by rw [li_1]; omega), li_1]
    rw [eA, qI_wI, if_pos ⟨rfl, rfl⟩, e]
    omega
  have txA : TxI A := tx.kp (kpW.f9 fA (by decide))
  have hdA : DrO A := fun i hi => ⟨by rw [(fA.2.2.2.2.1 60 (by decide) (by decide)).2.2]; exact (hd i hi).1, by rw [fA.2.1]; exact (hd i hi).2⟩
  have qA : qn A = qn S' ∧ qu A = qu S' := ⟨fA.2.2.1, fA.2.2.2.1⟩
  rw [oA]
  refine ⟨by omega, by rw [a1]; exact hf, fun a13 e13 => ?_⟩
  have F4 := flA.2.2.2.1
  have L56 : ∀ (c : Nat) (U : MS) (al m : Int32), (0 ≤ m.toInt ∧ m.toInt ≤ (qI A f 4).toInt) → cuG A f m.toInt.toNat al.toInt U → (24 - m.toInt).toNat < c → w_count_L56 Q c U x f al m := by
    intro c
    induction c with
    | zero => intro U al m _ _ h9; exact absurd h9 (Nat.not_lt_zero _)
    | succ c ih =>
      intro U al m m0 hU hc
      obtain ⟨fU, gU, nf, n1, n2, n3⟩ := hU
      have kbU := big_frm fU (by decide)
      have flU : FlI U f := flA.fm f92 fU (by decide)
      have fsU := fsA.f9 knA fU (by decide) (by decide)
      have knU := knA.f9 fU
      have uf4 : qI U f 4 = qI A f 4 := by rw [(kbU f f92).1]
      have u1 : qR U 1 = qR A 1 := (fU.2.2.2.2.1 1 (by decide) (by decide)).2.2
      have u01 : qI U 0 1 = qI A 0 1 := (fU.2.2.2.2.2 1 (by decide)).1
      have fSU : frX [49, 50, 51, 52, 53, 54, 55, 56, 57, 58, 59] [2, 47, 48, 49, 50, 51, 52, 53, 54, 105, 106, 107, 110] S' U := ((frX.of fA (by decide)).mo (by decide) (by decide)).tr ((frX.of fU (by decide)).mo (by decide) (by decide))
      have mU : (qI S' 0 2).toInt + 1 ≤ (qI U 0 2).toInt ∧ (qI U 0 2).toInt ≤ 16 := by rw [(fU.2.2.2.2.2 2 (by decide)).1]; exact mA
      have qU : qn U = qn S' ∧ qu U = qu S' := ⟨fU.2.2.1.trans qA.1, fU.2.2.2.1.trans qA.2⟩
      unfold w_count_L56
      rw [uf4]
      refine ⟨fun c3 => ⟨fun c4 => ?_, fun _ => hQ _ U fSU gU ⟨by have := mU.1; omega, mU.2⟩ qU knU⟩, fun c3 => ?_⟩
      · -- the names, then the methods
        have hdU : DrO U := fun i hi => ⟨by rw [(fU.2.2.2.2.1 60 (by decide) (by decide)).2.2]; exact (hdA i hi).1, by rw [fU.2.1]; exact (hdA i hi).2⟩
        refine ⟨_, sp_copyHead flU hdU, fun C hC a19 e19 => ?_⟩
        have dhC := hC.dh flU hdU
        have fC := hC.1
        have kbC := big_frm fC (by decide)
        have flC : FlI C f := flU.fm f92 fC (by decide)
        have fsC := fsU.f9 knU fC (by decide) (by decide)
        have knC := knU.f9 fC
        have grC := gU.f9 fsU fC (by decide) (by decide)
        have txC : TxI C := (txA.kp (kpW.f9 fU (by decide))).kp (kpW.f9 fC (by decide))
        have cf : qI C f = qI A f := by rw [(kbC f f92).1, (kbU f f92).1]
        have qC : qn C = qn S' ∧ qu C = qu S' := ⟨fC.2.2.1.trans qU.1, fC.2.2.2.1.trans qU.2⟩
        have em : m.toInt.toNat = (qI A f 4).toInt.toNat := by omega
        rw [em] at n1 n2 n3
        subst e19
        refine sp_count_L105 flC txC knC dhC.1 (by omega) (by rw [cf]; omega) (fun V hV D eD a22 e22 => ?_)
        obtain ⟨knV, fxV, v1, v2, ⟨v3, v4⟩, v5, v6, v7⟩ := hV
        have fD : frX [60] [] V D := frX.of (show frm [60] [] V D by rw [eD]; exact frm.pI (by decide)) (by decide)
        have fCD : frX [60, 61, 62, 63] [] C D := (fxV.mo (by decide) (by decide)).tr (fD.mo (by decide) (by decide))
        have fAC : frX [49, 50, 51, 52, 53, 54, 55, 56, 57, 58, 59, 60, 61, 62, 63, 64, 65, 66, 67, 75] [47, 48, 49, 50, 51, 52, 53, 54, 105, 106, 107, 110, 122, 123] A C := ((frX.of fU (by decide)).mo (by decide) (by decide)).tr ((frX.of fC (by decide)).mo (by decide) (by decide))
        have flD := flC.fx fCD
        have fsD := fsC.fx knC fCD (by decide) (by decide)
        have knD : knI D := by
          have tD : qT D = qT V ∧ qn D = qn V := by rw [eD]; exact ⟨rfl, rfl⟩
          unfold knI
          rw [tD.1, tD.2]
          exact knV
        have grD := grC.fx fsC fCD (by decide) (by decide)
        have txD : TxI D := txC.kp fCD.1
        have df : qI D f = qI A f := by rw [(fCD.1.1 f f92 (Or.inl (by have := flC.2.1; omega))).1, cf]
        have dr : qR D f = qR A f := by rw [(fCD.1.1 f f92 (Or.inl (by have := flC.2.1; omega))).2.2.1, (kbC f f92).2.2.1, (kbU f f92).2.2.1]
        have hdD : DrO D := fun i hi => ⟨by
          have : qR D 60 = qR C 60 := by rw [eD]; exact (fxV.2.2.1 60 (by decide) (by decide) (by decide)).2.2
          rw [this]; exact (dhC.1 i hi).1, by rw [(fCD.2.1 (61 + i) (by omega)).2]; exact (dhC.1 i hi).2⟩
        have d60 : qR D 60 = qR C 60 := by rw [eD]; exact (fxV.2.2.1 60 (by decide) (by decide) (by decide)).2.2
        have d604 : qI D 60 4 = qI A f 4 := by rw [eD, qI_wI, if_neg (fun q => absurd q.2 (by decide)), (fxV.2.2.1 60 (by decide) (by decide) (by decide)).1, hC.2.1.2.2.2, uf4]
        have d603 : qI D 60 3 = al := by rw [eD, qI_wI, if_pos ⟨rfl, rfl⟩]
        have r6 : ∀ a : Nat, a ≠ 60 → qR D a = qR V a := fun a ha => by rw [eD]; rfl
        have dhD : DhI D := by
          obtain ⟨w1, w2, w3, ⟨s1, s2, y1, y2, y3, y4⟩, w5, w6⟩ := dhC
          have tJ := tx_J txD
          have cF : qI C 60 3 = qI A f 3 := by rw [hC.2.1.2.2.1, (kbU f f92).1]
          have cM : qI C 60 4 = qI A f 4 := by rw [hC.2.1.2.2.2, uf4]
          rw [cF] at w5
          rw [cM] at w6
          refine ⟨hdD, by rw [d60]; exact w2, by rw [d603, d604]; omega, ⟨s1, s2, by rw [d60]; exact y1, by rw [d60]; exact y2, y3.mv fCD.1, y4.mv fCD.1⟩, fun i hi => ?_, fun m' hm' => ?_⟩
          · rw [d603] at hi
            rw [r6 61 (by decide), r6 62 (by decide), r6 63 (by decide)]
            by_cases q : (i : Int) < (qI A f 3).toInt
            · obtain ⟨b1, b2, b3, z1, z2, z3, z4, z5, z6⟩ := w5 i q
              obtain ⟨x1, x2, x3⟩ := v1 i (by rw [cf]; exact q)
              exact ⟨b1, b2, b3, by rw [x1]; exact z1, by rw [x2]; exact z2, by rw [x3]; exact z3, z4.mv fCD.1, z5.mv fCD.1, z6.mv fCD.1⟩
            · obtain ⟨s, x1, x2, x3, x4⟩ := v2 i (by rw [cf]; omega) hi
              exact ⟨s, 10000022, 10000022, x1, x2, x3, x4.mv fD.1, tJ.1, tJ.2⟩
          · rw [d604] at hm'
            have rr : ∀ a : Nat, 64 ≤ a → a ≤ 67 → qR D a = qR C a := fun a a0 a1 => by rw [r6 a (by omega), (fxV.2.2.1 a (by omega) (by omega) (by simp only [List.mem_cons, List.not_mem_nil, or_false]; omega)).2.2]
            rw [rr 64 (by decide) (by decide), rr 65 (by decide) (by decide), rr 66 (by decide) (by decide), rr 67 (by decide) (by decide)]
            obtain ⟨b1, b2, b3, b4, z1, z2, z3, z4, z5, z6, z7, z8⟩ := w6 m' hm'
            exact ⟨b1, b2, b3, b4, z1, z2, z3, z4, z5.mv fCD.1, z6.mv fCD.1, z7.mv fCD.1, z8.mv fCD.1⟩
        have T92 : 92 < qO A f 19 ∧ qO A f 19 < qn A := by
          obtain ⟨h1, h2, h3, h4, h5, R, T, C', nc, ts, cn, r1, r2, r3, r4, r5, r6'⟩ := flA
          have : qO A f 19 = T := by unfold qO; rw [r2.2.1]; rfl
          omega
        have oT : qO D f 19 = qO A f 19 := by unfold qO; rw [dr]
        have kAD : kpW A D := fAC.1.tr fCD.1
        have w75 : ∀ j : Nat, j < qN D (qO D f 19) → qI D 75 j = qI D (qO D f 19) j := fun j hj => by
          have sT := kAD.1 (qO A f 19) T92.1 (Or.inl T92.2)
          have oU : qO U f 19 = qO A f 19 := by unfold qO; rw [(kbU f f92).2.2.1]
          rw [oT] at hj ⊢
          rw [sT.2.2.2.2] at hj
          rw [sT.1, (fCD.2.2.1 75 (by decide) (by decide) (by decide)).1]
          have := hC.2.2.2.2.1 j (by rw [oU, (kbU _ T92.1).2.2.2.2]; exact hj)
          rw [this, oU, (kbU _ T92.1).1]
        have c0 : ∀ j : Nat, qI D 0 j = qI C 0 j := fun j => (fCD.2.2.2 j List.not_mem_nil).1
        subst e22
        refine sp_count_L196 (X := al.toInt) (nf := nf) fsD knD grD (by rw [c0, (fC.2.2.2.2.2 1 (by decide)).1, u01, a01]; exact hx) ?_ flD (tbA.kp flA kAD) w75 hdD ?_ (by rw [df]; omega) (fun m' hm' => ?_) (fun V' hV' => ?_)
        · rw [r6 1 (by decide), (fxV.2.2.1 1 (by decide) (by decide) (by decide)).2.2, (fC.2.2.2.2.1 1 (by decide) (by decide)).2.2, u1, a1]
          exact hf
        · rw [c0, c0]
          exact hC.2.2.2.2.2.2.1
        · rw [df] at hm'
          exact (n1 m' (by omega)).kp flA kAD
        · obtain ⟨fV', gV', ⟨p1, p2⟩, p3, p4⟩ := hV'
          rw [df] at p1 p2 p3
          have xV' := frX.of fV' (by decide)
          have dhV : DhI V' := dhD.mv xV'.1 (fun a a0 a1 => by
            have z := fV'.2.2.2.2.1 a (by omega) (by simp only [List.mem_cons, List.not_mem_nil, or_false]; omega)
            exact ⟨z.1, z.2.2⟩) (fun a _ _ => by rw [fV'.2.1])
          have e603 : qI V' 60 3 = al := by rw [(fV'.2.2.2.2.1 60 (by decide) (by decide)).1]; exact d603
          have e604 : qI V' 60 4 = qI A f 4 := by rw [(fV'.2.2.2.2.1 60 (by decide) (by decide)).1]; exact d604
          have fSV : frX [49, 50, 51, 52, 53, 54, 55, 56, 57, 58, 59, 60, 61, 62, 63, 64, 65, 66, 67, 70, 71, 72, 73, 74, 75, 76, 78, 79, 80, 81, 82, 83, 84, 85, 86, 91, 92] [2, 47, 48, 49, 50, 51, 52, 53, 54, 105, 106, 107, 110, 122, 123, 129, 135] S' V' := ((frX.of fA (by decide)).mo (by decide) (by decide)).tr ((fAC.mo (by decide) (by decide)).tr ((fCD.mo (by decide) (by decide)).tr (xV'.mo (by decide) (by decide))))
          refine done V' ⟨dhV, by omega, fun m' hm' => ?_⟩ (fsD.f9 knD fV' (by decide) (by decide)) (knD.f9 fV') gV' (txD.kp xV'.1) fSV ?_ ?_ (by omega)
          · rw [e604] at hm'
            have d := (p3 m' (by omega)).1
            rw [df] at d
            rw [e603, e604]
            have lr : 0 ≤ (qI D (f + 9) m').toInt ∧ (qI D (f + 9) m').toInt ≤ 24 := by
              obtain ⟨h1, h2, h3, h4, h5, R, T, C', nc, ts, cn, r1, r2, r3, r4, r5, r6'⟩ := flD
              exact (r6' m' (by rw [df]; exact hm')).2.2.1
            exact ⟨_, lr, d⟩
          · rw [(fV'.2.2.2.2.2 2 (by decide)).1, c0, (fC.2.2.2.2.2 2 (by decide)).1]; exact mU
          · have dq : qn D = qn V ∧ qu D = qu V := by rw [eD]; exact ⟨rfl, rfl⟩
            rw [fV'.2.2.1, fV'.2.2.2.1, dq.1, dq.2]
            rw [cf] at v3 v4
            omega
      · -- one method more
        refine ⟨_, fr_graph (sp_graph2 gU fsU.1.2 (by rw [u01, a01]; exact hx) (by rw [u1, a1]; exact hf) flU ⟨m0.1, by rw [uf4]; omega⟩), ?_⟩
        rintro V ⟨⟨gV, gb, ge, gn⟩, fV⟩
        refine ⟨_, sp_reachedBlocks ge, ?_⟩
        rintro r V' ⟨rfl, er⟩ a97 e97 a98 e98
        have nle := nzN_le (g := qI V' 53) (qI V' 0 105).toInt.toNat
        have bc := ge.1
        have gn' : GnA A f m.toInt.toNat (nzN (qI V' 53) (qI V' 0 105).toInt.toNat) := gn.f9 flU fU.sy (by decide)
        have ek : (m + Int32.ofInt 1).toInt = m.toInt + 1 := by rw [t_add (by rw [lo_1]; omega), lo_1]
        have ekn : (m + Int32.ofInt 1).toInt.toNat = m.toInt.toNat + 1 := by omega
        subst e98
        have s2 : sumN (fun j => if j = m.toInt.toNat then nzN (qI V' 53) (qI V' 0 105).toInt.toNat else nf j) (m.toInt.toNat + 1) = sumN nf m.toInt.toNat + nzN (qI V' 53) (qI V' 0 105).toInt.toNat := by
          show sumN (fun j => if j = m.toInt.toNat then nzN (qI V' 53) (qI V' 0 105).toInt.toNat else nf j) m.toInt.toNat + (if m.toInt.toNat = m.toInt.toNat then nzN (qI V' 53) (qI V' 0 105).toInt.toNat else nf m.toInt.toNat) = _
          rw [if_pos rfl, sumN_eq m.toInt.toNat (g := nf) (fun j hj => if_neg (by omega))]
        refine ih V' _ _ (by omega) ⟨fU.tr fV, gV, fun j => if j = m.toInt.toNat then nzN (qI V' 53) (qI V' 0 105).toInt.toNat else nf j, fun m' hm' => ?_, ?_, ?_⟩ (by omega)
        · rw [ekn] at hm'
          by_cases q : m' = m.toInt.toNat
          · show GnA A f m' (if m' = m.toInt.toNat then _ else nf m')
            rw [if_pos q, q]; exact gn'
          · show GnA A f m' (if m' = m.toInt.toNat then _ else nf m')
            rw [if_neg q]; exact n1 m' (by omega)
        · rw [ekn, s2, e97, t_add (by omega), er, n2]
          omega
        · rw [ekn, s2]
          omega
  have zz : (0 : Int32).toInt = 0 := rfl
  subst e13
  exact ⟨_, L56 _ A _ 0 ⟨by decide, by rw [zz]; omega⟩ ⟨frm.rf, grA, fun _ => 0, fun m' hm' => by rw [zz] at hm'; omega, by show _ = _ + ((0 : Nat) : Int); omega, Nat.zero_le _⟩ (Nat.lt_succ_self _)⟩
/-! improve as a whole, but for keptDraft (behind sp_improve_L88, DhI, frX) -/
theorem sp_improve {S : MS} {x o : Int32} {Q : Int32 → MS → Prop} (fs : FsI VfI S) (hk : knI S) (tx : TxI S) (g : GrJ S) (hd : DrO S) (tb : TbS S) (hmd : 0 ≤ (qI S 0 2).toInt ∧ (qI S 0 2).toInt ≤ 16) (hQ : ∀ r : Int32, Q r S) (done : ∀ U : MS, DfI U → FsI VfI U → knI U → GrJ U → TxI U → frX [60, 61, 62, 63, 64, 65, 66, 67, 70, 71, 72, 73, 74, 75, 76, 77, 78, 79, 80, 81, 82, 83, 84, 85, 86, 87, 88, 89, 90, 91, 92] [2, 47, 48, 49, 50, 51, 52, 53, 54, 122, 123, 129, 135, 139] S U → ((qI S 0 2).toInt ≤ (qI U 0 2).toInt ∧ (qI U 0 2).toInt ≤ 16) → (qn U = qn S ∧ qu U = qu S) → (qI S 0 1).toInt < 12 → ∃ Q20, w_keptDraft U Q20 ∧ ∀ r21 S22, Q20 r21 S22 → Q r21 S22) : w_improve S x o Q := by
  unfold w_improve
  refine ⟨_, sp_isRight fs, ?_⟩
  rintro r0 S' ⟨rfl, hr0⟩
  refine ⟨fun _ => hQ _, fun c0 => ⟨fun _ => hQ _, fun _ => ⟨fun _ => ⟨fun _ => hQ _, fun c1 => ⟨fun _ => hQ _, fun c2 A eA => ?_⟩⟩, fun _ => hQ _⟩⟩⟩
  obtain ⟨f, hx, hf, flS, vfS⟩ := hr0 c0
  have fs12 := fs.1
  have f92 := flS.1.1.1
  have fA : frm [77] [2] S' A := by rw [eA]; exact frm.pI0 (by decide)
  have mA : (qI S' 0 2).toInt ≤ (qI A 0 2).toInt ∧ (qI A 0 2).toInt ≤ 16 := by
    have e : (qI S' 0 2 + (1 : Int32)).toInt = (qI S' 0 2).toInt + 1 := by rw [t_add (by rw [li_1]; omega), li_1]
    rw [eA, qI_wI, if_pos ⟨rfl, rfl⟩, e]
    omega
  have L54 : ∀ (c : Nat) (U : MS) (k : Int32), 0 ≤ k.toInt → frm [77] [2] S' U → qI U 0 2 = qI A 0 2 → (12 - k.toInt).toNat < c → w_improve_L54 Q c U x o k := by
    intro c
    induction c with
    | zero => intro U k _ _ _ h9; exact absurd h9 (Nat.not_lt_zero _)
    | succ c ih =>
      intro U k k0 fU mU hc
      unfold w_improve_L54
      refine ⟨fun c3 => ?_, fun c3 => ⟨⟨k0, by omega⟩, fun D eD a ea => ?_⟩⟩
      · have kbU := big_frm fU (by decide)
        have u1 : qR U 1 = qR S' 1 := (fU.2.2.2.2.1 1 (by decide) (by decide)).2.2
        have u01 : qI U 0 1 = qI S' 0 1 := (fU.2.2.2.2.2 1 (by decide)).1
        have oU : qO U 1 x.toInt.toNat = f := by unfold qO; rw [u1, hf]; rfl
        have flU : FlI U f := flS.fm f92 fU (by decide)
        have fsU := fs.f9 hk fU (by decide) (by decide)
        have knU := hk.f9 fU
        have grU := g.f9 fs fU (by decide) (by decide)
        have hdU : DrO U := fun i hi => ⟨by rw [(fU.2.2.2.2.1 60 (by decide) (by decide)).2.2]; exact (hd i hi).1, by rw [fU.2.1]; exact (hd i hi).2⟩
        have tbU : TbF U f := (tb x.toInt.toNat f (by omega) hf).kp flS (kpW.f9 fU (by decide))
        have txU : TxI U := tx.kp (kpW.f9 fU (by decide))
        rw [oU]
        refine ⟨by omega, by rw [u1]; exact hf, _, sp_copyHead flU hdU, fun C hC => ?_⟩
        have dhC := hC.dh flU hdU
        have fC := hC.1
        have kbC := big_frm fC (by decide)
        have flC : FlI C f := flU.fm f92 fC (by decide)
        have fsC := fsU.f9 knU fC (by decide) (by decide)
        have knC := knU.f9 fC
        have grC := grU.f9 fsU fC (by decide) (by decide)
        have txC : TxI C := txU.kp (kpW.f9 fC (by decide))
        have cf : qI C f = qI U f := (kbC f f92).1
        have T92 : 92 < qO U f 19 := by
          obtain ⟨h1, h2, h3, h4, h5, R, T, C', nc, ts, cn, r1, r2, r3, r4, r5, r6'⟩ := flU
          have : qO U f 19 = T := by unfold qO; rw [r2.2.1]; rfl
          omega
        have oT : qO C f 19 = qO U f 19 := by unfold qO; rw [(kbC f f92).2.2.1]
        have w75 : ∀ j : Nat, j < qN C (qO C f 19) → qI C 75 j = qI C (qO C f 19) j := fun j hj => by
          rw [oT] at hj ⊢
          rw [(kbC _ T92).2.2.2.2] at hj
          rw [(kbC _ T92).1]
          exact hC.2.2.2.2.1 j hj
        refine sp_improve_L88 flC (tbU.kp flU (kpW.f9 fC (by decide))) w75 dhC.1 hC.2.2.2.2.2.2.1 (fun V hV => ?_)
        obtain ⟨fV, ⟨p1, p2⟩, p3, p4⟩ := hV
        have xV := frX.of fV (by decide)
        have dhV : DhI V := dhC.mv xV.1 (fun a a0 a1 => by
          have z := fV.2.2.2.2.1 a (by omega) (by simp only [List.mem_cons, List.not_mem_nil, or_false]; omega)
          exact ⟨z.1, z.2.2⟩) (fun a _ _ => by rw [fV.2.1])
        have e60 : qI V 60 = qI C 60 := (fV.2.2.2.2.1 60 (by decide) (by decide)).1
        have c3' : qI C 60 3 = qI C f 3 := by rw [hC.2.1.2.2.1, cf]
        have c4' : qI C 60 4 = qI C f 4 := by rw [hC.2.1.2.2.2, cf]
        have F4 := flC.2.2.2.1
        have fSV : frX [60, 61, 62, 63, 64, 65, 66, 67, 70, 71, 72, 73, 74, 75, 76, 77, 78, 79, 80, 81, 82, 83, 84, 85, 86, 87, 88, 89, 90, 91, 92] [2, 47, 48, 49, 50, 51, 52, 53, 54, 122, 123, 129, 135, 139] S' V := ((frX.of fU (by decide)).mo (by decide) (by decide)).tr (((frX.of fC (by decide)).mo (by decide) (by decide)).tr (xV.mo (by decide) (by decide)))
        refine done V ⟨dhV, by omega, fun m' hm' => ?_⟩ (fsC.f9 knC fV (by decide) (by decide)) (knC.f9 fV) (grC.f9 fsC fV (by decide) (by decide)) (txC.kp xV.1) fSV ?_ ?_ (by omega)
        · rw [e60, c4'] at hm'
          have d := (p3 m' (by omega)).j.1
          rw [e60, c3', c4']
          have lr : 0 ≤ (qI C (f + 9) m').toInt ∧ (qI C (f + 9) m').toInt ≤ 24 := by
            obtain ⟨h1, h2, h3, h4, h5, R, T, C', nc, ts, cn, r1, r2, r3, r4, r5, r6'⟩ := flC
            exact (r6' m' hm').2.2.1
          exact ⟨_, lr, d⟩
        · rw [(fV.2.2.2.2.2 2 (by decide)).1, (fC.2.2.2.2.2 2 (by decide)).1, mU]; exact mA
        · rw [fV.2.2.1, fV.2.2.2.1, fC.2.2.1, fC.2.2.2.1, fU.2.2.1, fU.2.2.2.1]; exact ⟨rfl, rfl⟩
      · have ek : (k + Int32.ofInt 1).toInt = k.toInt + 1 := by rw [t_add (by rw [lo_1]; omega), lo_1]
        subst ea
        exact ih D _ (by omega) (fU.tr (by rw [eD]; exact frm.pI (by decide))) (by rw [eD, rdH (by decide)]; exact mU) (by omega)
  exact ⟨_, L54 _ A 0 (by decide) fA rfl (Nat.lt_succ_self _)⟩
/-! tables of kept Files in order (behind XfI, TbF) -/
theorem XfI.tb {S : MS} {f : Nat} (h : XfI S f) (hf : FlI S f) : TbF S f := by
  obtain ⟨R, nc, x1, x2, tg, wv, pc, y1, y2, y3, y4⟩ := h
  obtain ⟨h1, h2, h3, h4, h5, R', T, C, nc', ts, cn, r1, r2, r3, r4, r5, r6⟩ := hf
  have eR : R' = R := by rw [x1] at r2; injection r2.1.symm
  subst eR
  have en : nc' = nc := by omega
  subst en
  have oR : qO S f 18 = R' := by unfold qO; rw [x1]; rfl
  intro m1 m2 i j hm2 hi hj lt ti tj
  have a1 := (r6 m1 (by omega)).2.2.2
  have a2 := (r6 m2 hm2).2.2.2
  have p1 := a1.1
  have p2 := a2.1
  have q2 := a2.2.2.1
  unfold mL at hi hj
  unfold rwS rwO rwA rwB mR mF at *
  rw [oR] at *
  have lt2 : (qI S (f + 10) m1).toInt.toNat + i < (qI S (f + 10) m2).toInt.toNat + j := by
    rcases lt with q | ⟨q, q'⟩
    · have := y3 m1 m2 q hm2
      omega
    · subst q; omega
  exact y2 _ _ lt2 (by omega) ti tj
theorem XsI.tb {S : MS} (h : XsI S) (F : FsI VfI S) : TbS S := fun i f hi hr => by
  obtain ⟨f', a, b, _⟩ := F.2 i hi
  have ef : f' = f := by rw [hr] at a; injection a.symm
  subst ef
  exact (h i f' hi hr).tb b
