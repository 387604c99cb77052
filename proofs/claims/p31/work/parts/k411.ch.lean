/-! copyHead (behind FlI) -/
def DrO (S : MS) : Prop := ∀ i : Nat, i < 13 → qR S 60 (5 + i) = some (61 + i) ∧ qN S (61 + i) = 24
def ChK (A V : MS) (p a b c : Nat) : Prop := qR V 60 a = some b ∧ qO V 60 a = b ∧ qR V p a = some c ∧ qO V p a = c ∧ qN V b = 24 ∧ qN V c = 24 ∧ qR V c = qR A c
theorem cp_st {A U D : MS} {d s i : Nat} (e : qR U s = qR A s) (nz : ∃ z, qR A s i = some z) (eD : D = wR U d i (some (qO U s i))) : qR D d i = qR A s i := by
  obtain ⟨z, hz⟩ := nz
  rw [eD, qR_wR, if_pos ⟨rfl, rfl⟩]
  unfold qO
  rw [e, hz]
  rfl
theorem cp_ot {U D : MS} {d i a j : Nat} {v : Option Nat} (eD : D = wR U d i v) (h : ¬ (a = d ∧ j = i)) : qR D a j = qR U a j := by rw [eD, qR_wR, if_neg h]
theorem so_nz {U A : MS} {s i : Nat} (e : qR U s = qR A s) (nz : ∃ z, qR A s i = some z) : qR U s i = some (qO U s i) := by
  obtain ⟨z, hz⟩ := nz
  unfold qO
  rw [e, hz]
  rfl
def CpP (S : MS) (p : Nat) (u : MS) : Prop := frm [60, 61, 62, 63, 64, 65, 66, 67, 75] [122, 123] S u ∧ (qR u 60 0 = qR S p 0 ∧ qR u 60 1 = qR S p 1 ∧ qI u 60 3 = qI S p 3 ∧ qI u 60 4 = qI S p 4) ∧ (∀ j : Nat, (j : Int) < (qI S p 3).toInt → qR u 61 j = qR S (p + 1) j ∧ qR u 62 j = qR S (p + 2) j ∧ qR u 63 j = qR S (p + 3) j) ∧ (∀ j : Nat, (j : Int) < (qI S p 4).toInt → qR u 64 j = qR S (p + 4) j ∧ qR u 65 j = qR S (p + 5) j ∧ qR u 66 j = qR S (p + 6) j ∧ qR u 67 j = qR S (p + 7) j) ∧ (∀ j : Nat, j < qN S (qO S p 19) → qI u 75 j = qI S (qO S p 19) j) ∧ (qR u 60 18 = some 74 ∧ qR u 60 19 = some 75 ∧ qR u 60 20 = some 76) ∧ (qI u 0 122 = 0 ∧ qI u 0 123 = 0) ∧ ∀ i : Nat, i < 13 → qR u 60 (5 + i) = some (61 + i)
theorem sp_copyHead {S : MS} {p : Nat} (h : FlI S p) (hd : DrO S) : w_copyHead S p (CpP S p) := by
  have h' := h
  obtain ⟨h1, h2, ⟨o1, o2, _, _, ow1, ow2, _⟩, h4, h5, R, T, C, nc, ts, cn, r1, r2, r3, r4, r5, r6⟩ := h
  have p92 := h1.1.1
  have nf : ∀ i : Nat, (i : Int) < (qI S p 3).toInt → (∃ z, qR S (p + 1) i = some z) ∧ (∃ z, qR S (p + 2) i = some z) ∧ ∃ z, qR S (p + 3) i = some z := fun i hi => by
    obtain ⟨s1, s2, s3, _, _, _, y1, y2, y3, _⟩ := h5 i hi
    exact ⟨⟨s1, y1⟩, ⟨s2, y2⟩, s3, y3⟩
  have nm : ∀ i : Nat, (i : Int) < (qI S p 4).toInt → (∃ z, qR S (p + 4) i = some z) ∧ (∃ z, qR S (p + 5) i = some z) ∧ (∃ z, qR S (p + 6) i = some z) ∧ ∃ z, qR S (p + 7) i = some z := fun i hi => by
    obtain ⟨⟨pl, ⟨s1, s2, s3, s4, _, _, _, _, y1, y2, y3, y4, _⟩, _⟩, _⟩ := r6 i hi
    exact ⟨⟨s1, y1⟩, ⟨s2, y2⟩, ⟨s3, y3⟩, s4, y4⟩
  have eT : qO S p 19 = T := by unfold qO; rw [r2.2.1]; rfl
  have t92 : 92 < T := by omega
  have q0 : qR S p 0 = some (qO S p 0) := by unfold qO; rw [ow1]; rfl
  have q1 : qR S p 1 = some (qO S p 1) := by unfold qO; rw [ow2]; rfl
  -- a state that keeps all but the draft's rows
  have fp : ∀ V : MS, frm [60, 61, 62, 63, 64, 65, 66, 67, 75] [122, 123] S V → ∀ a : Nat, 92 < a → qI V a = qI S a ∧ qR V a = qR S a := fun V f a ha => by
    have z := f.2.2.2.2.1 a (by omega) (fun q => by simp only [List.mem_cons, List.not_mem_nil, or_false] at q; omega)
    exact ⟨z.1, z.2.2⟩
  have G : ∀ V : MS, frm [60, 61, 62, 63, 64, 65, 66, 67, 75] [122, 123] S V → (∀ i : Nat, i < 13 → qR V 60 (5 + i) = some (61 + i)) → ∀ i : Nat, i < 13 → ChK S V p (5 + i) (61 + i) (p + 1 + i) := fun V f h60 i hi => by
    have g := h'.row hi
    have vp := (fp V f p p92).2
    have vc := (fp V f (p + 1 + i) (by omega)).2
    refine ⟨h60 i hi, by unfold qO; rw [h60 i hi]; rfl, by rw [vp]; exact g.1, by unfold qO; rw [vp, g.1]; rfl, by rw [f.2.1]; exact (hd i hi).2, by rw [f.2.1]; exact g.2.2, vc⟩
  have eN : qN S T = ts := r4.2.1
  let Hd : MS → Prop := fun U => frm [60, 61, 62, 63, 64, 65, 66, 67, 75] [122, 123] S U ∧ (∀ i : Nat, i < 13 → qR U 60 (5 + i) = some (61 + i)) ∧ (qR U 60 0 = qR S p 0 ∧ qR U 60 1 = qR S p 1 ∧ qI U 60 3 = qI S p 3 ∧ qI U 60 4 = qI S p 4)
  let Fd : MS → Int → Prop := fun U n => ∀ j : Nat, (j : Int) < n → qR U 61 j = qR S (p + 1) j ∧ qR U 62 j = qR S (p + 2) j ∧ qR U 63 j = qR S (p + 3) j
  let Md : MS → Int → Prop := fun U n => ∀ j : Nat, (j : Int) < n → qR U 64 j = qR S (p + 4) j ∧ qR U 65 j = qR S (p + 5) j ∧ qR U 66 j = qR S (p + 6) j ∧ qR U 67 j = qR S (p + 7) j
  have hdW : ∀ (U D : MS) (d i : Nat) (v : Option Nat), Hd U → (61 ≤ d ∧ d ≤ 67) → D = wR U d i v → Hd D := fun U D d i v hU hd' eD => by
    have c : [60, 61, 62, 63, 64, 65, 66, 67, 75].contains d = true := by
      rw [List.contains_iff_mem]
      simp only [List.mem_cons, List.not_mem_nil, or_false]
      omega
    have fD : frm [60, 61, 62, 63, 64, 65, 66, 67, 75] [122, 123] U D := by rw [eD]; exact frm.pR ⟨c, by omega⟩
    have e60 : ∀ j : Nat, qR D 60 j = qR U 60 j := fun j => cp_ot eD (fun q => by omega)
    have ei : qI D 60 = qI U 60 := by rw [eD]; rfl
    exact ⟨hU.1.tr fD, fun j hj => by rw [e60]; exact hU.2.1 j hj, by rw [e60]; exact hU.2.2.1, by rw [e60]; exact hU.2.2.2.1, by rw [ei]; exact hU.2.2.2.2.1, by rw [ei]; exact hU.2.2.2.2.2⟩
  have L183 : ∀ (c : Nat) (U : MS) (x : Int32), Hd U → Fd U (qI S p 3).toInt → Md U (qI S p 4).toInt → 0 ≤ x.toInt → (∀ j : Nat, (j : Int) < x.toInt → qI U 75 j = qI S T j) → (40000 - x.toInt).toNat < c → w_copyHead_L183 (CpP S p) c U p x := by
    intro c
    induction c with
    | zero => intro U x _ _ _ _ _ h9; exact absurd h9 (Nat.not_lt_zero _)
    | succ c ih =>
      intro U x hU hf hmm x0 hw hc
      have up := (fp U hU.1 p p92).2
      have uT : qO U p 19 = T := by unfold qO; rw [up, r2.2.1]; rfl
      have u19 : qR U p 19 = some T := by rw [up]; exact r2.2.1
      have un : qN U T = ts := by rw [hU.1.2.1]; exact eN
      unfold w_copyHead_L183
      rw [uT, un, oN (by omega)]
      refine ⟨u19, fun c1 A eA B eB D eD E eE G' eG => ?_, fun c1 => ⟨u19, ⟨by omega, by omega⟩, ⟨by omega, by omega⟩, fun D eD a ea => ?_⟩⟩
      · have fA : frm [60, 61, 62, 63, 64, 65, 66, 67, 75] [122, 123] U A := by rw [eA]; exact frm.pR (by decide)
        have fB : frm [60, 61, 62, 63, 64, 65, 66, 67, 75] [122, 123] A B := by rw [eB]; exact frm.pR (by decide)
        have fD : frm [60, 61, 62, 63, 64, 65, 66, 67, 75] [122, 123] B D := by rw [eD]; exact frm.pR (by decide)
        have fE : frm [60, 61, 62, 63, 64, 65, 66, 67, 75] [122, 123] D E := by rw [eE]; exact frm.pI0 (by decide)
        have fG : frm [60, 61, 62, 63, 64, 65, 66, 67, 75] [122, 123] E G' := by rw [eG]; exact frm.pI0 (by decide)
        have gr : ∀ a j : Nat, qR G' a j = qR D a j := fun a j => by rw [eG, eE]; rfl
        have ge : ∀ a j : Nat, ¬ (a = 60 ∧ (j = 18 ∨ j = 19 ∨ j = 20)) → qR G' a j = qR U a j := fun a j q => by
          rw [gr, cp_ot eD (fun y => q ⟨y.1, by omega⟩), cp_ot eB (fun y => q ⟨y.1, by omega⟩), cp_ot eA (fun y => q ⟨y.1, by omega⟩)]
        have di : ∀ a : Nat, qI D a = qI U a := fun a => by rw [eD, eB, eA]; rfl
        have gi : ∀ a : Nat, a ≠ 0 → qI G' a = qI U a := fun a q => by rw [eG, rdH q, eE, rdH q, di]
        refine ⟨hU.1.tr (fA.tr (fB.tr (fD.tr (fE.tr fG)))), ⟨by rw [ge _ _ (by omega)]; exact hU.2.2.1, by rw [ge _ _ (by omega)]; exact hU.2.2.2.1, by rw [gi _ (by decide)]; exact hU.2.2.2.2.1, by rw [gi _ (by decide)]; exact hU.2.2.2.2.2⟩, fun j hj => ?_, fun j hj => ?_, fun j hj => ?_, ⟨?_, ?_, ?_⟩, ⟨?_, ?_⟩, fun i hi => ?_⟩
        · rw [ge _ _ (by omega), ge _ _ (by omega), ge _ _ (by omega)]; exact hf j hj
        · rw [ge _ _ (by omega), ge _ _ (by omega), ge _ _ (by omega), ge _ _ (by omega)]; exact hmm j hj
        · rw [eT, eN] at hj
          rw [gi _ (by decide), eT]
          exact hw j (by omega)
        · rw [gr, cp_ot eD (by omega), cp_ot eB (by omega), eA, qR_wR, if_pos ⟨rfl, rfl⟩]
        · rw [gr, cp_ot eD (by omega), eB, qR_wR, if_pos ⟨rfl, rfl⟩]
        · rw [gr, eD, qR_wR, if_pos ⟨rfl, rfl⟩]
        · rw [eG, qI_wI, if_neg (by decide), eE, qI_wI, if_pos ⟨rfl, rfl⟩]
        · rw [eG, qI_wI, if_pos ⟨rfl, rfl⟩]
        · rw [ge _ _ (by omega)]; exact hU.2.1 i hi
      · have ek : (x + Int32.ofInt 1).toInt = x.toInt + 1 := by rw [t_add (by rw [lo_1]; omega), lo_1]
        subst ea
        have fD : frm [60, 61, 62, 63, 64, 65, 66, 67, 75] [122, 123] U D := by rw [eD]; exact frm.pI (by decide)
        have rr : ∀ a j : Nat, qR D a j = qR U a j := fun a j => by rw [eD]; rfl
        have ii : qI D 60 = qI U 60 := by rw [eD, rdH (by decide)]
        have hD : Hd D := ⟨hU.1.tr fD, fun i hi => by rw [rr]; exact hU.2.1 i hi, by rw [rr]; exact hU.2.2.1, by rw [rr]; exact hU.2.2.2.1, by rw [ii]; exact hU.2.2.2.2.1, by rw [ii]; exact hU.2.2.2.2.2⟩
        refine ih D _ hD (fun j hj => by rw [rr, rr, rr]; exact hf j hj) (fun j hj => by rw [rr, rr, rr, rr]; exact hmm j hj) (by omega) (fun j hj => ?_) (by omega)
        rw [eD, qI_wI]
        by_cases q : j = x.toInt.toNat
        · rw [if_pos ⟨rfl, q⟩, (fp U hU.1 T t92).1, q]
        · rw [if_neg (fun y => q y.2)]
          exact hw j (by omega)
  have L107 : ∀ (c : Nat) (U : MS) (x : Int32), Hd U → Fd U (qI S p 3).toInt → 0 ≤ x.toInt → Md U x.toInt → (24 - x.toInt).toNat < c → w_copyHead_L107 (CpP S p) c U p x := by
    intro c
    induction c with
    | zero => intro U x _ _ _ _ h9; exact absurd h9 (Nat.not_lt_zero _)
    | succ c ih =>
      intro U x hU hf x0 hmm hc
      have z0 : (0 : Int32).toInt = 0 := rfl
      unfold w_copyHead_L107
      rw [(fp U hU.1 p p92).1]
      refine ⟨fun c1 => ⟨_, L183 _ U 0 hU hf (fun j hj => hmm j (by omega)) (by decide) (fun j hj => by omega) (Nat.lt_succ_self _)⟩, fun c1 => ?_⟩
      have ek : (x + Int32.ofInt 1).toInt = x.toInt + 1 := by rw [t_add (by rw [lo_1]; omega), lo_1]
      obtain ⟨m1, m2, m3, m4⟩ := nm x.toInt.toNat (by omega)
      obtain ⟨a1, a2, a3, a4, a5, a6, a7⟩ : ChK S U p 8 64 (p + 4) := G U hU.1 hU.2.1 3 (by decide)
      rw [a2, a4, a5, a6]
      refine ⟨a1, a3, ⟨by omega, by omega⟩, so_nz a7 m1, ⟨by omega, by omega⟩, fun A eA => ?_⟩
      have hA := hdW U A 64 _ _ hU (by omega) eA
      obtain ⟨b1, b2, b3, b4, b5, b6, b7⟩ : ChK S A p 9 65 (p + 5) := G A hA.1 hA.2.1 4 (by decide)
      rw [b2, b4, b5, b6]
      refine ⟨b1, b3, ⟨by omega, by omega⟩, so_nz b7 m2, ⟨by omega, by omega⟩, fun B eB => ?_⟩
      have hB := hdW A B 65 _ _ hA (by omega) eB
      obtain ⟨c1', c2, c3, c4, c5, c6, c7⟩ : ChK S B p 10 66 (p + 6) := G B hB.1 hB.2.1 5 (by decide)
      rw [c2, c4, c5, c6]
      refine ⟨c1', c3, ⟨by omega, by omega⟩, so_nz c7 m3, ⟨by omega, by omega⟩, fun D eD => ?_⟩
      have hD := hdW B D 66 _ _ hB (by omega) eD
      obtain ⟨d1, d2, d3, d4, d5, d6, d7⟩ : ChK S D p 11 67 (p + 7) := G D hD.1 hD.2.1 6 (by decide)
      rw [d2, d4, d5, d6]
      refine ⟨d1, d3, ⟨by omega, by omega⟩, so_nz d7 m4, ⟨by omega, by omega⟩, fun E eE a ea => ?_⟩
      have hE := hdW D E 67 _ _ hD (by omega) eE
      subst ea
      have ot : ∀ a j : Nat, ¬ (64 ≤ a ∧ a ≤ 67 ∧ j = x.toInt.toNat) → qR E a j = qR U a j := fun a j q => by
        rw [cp_ot eE (fun y => q (by omega)), cp_ot eD (fun y => q (by omega)), cp_ot eB (fun y => q (by omega)), cp_ot eA (fun y => q (by omega))]
      refine ih E _ hE (fun j hj => by rw [ot _ _ (by omega), ot _ _ (by omega), ot _ _ (by omega)]; exact hf j hj) (by omega) (fun j hj => ?_) (by omega)
      by_cases q : j = x.toInt.toNat
      · subst q
        refine ⟨?_, ?_, ?_, ?_⟩
        · rw [cp_ot eE (by omega), cp_ot eD (by omega), cp_ot eB (by omega)]; exact cp_st a7 m1 eA
        · rw [cp_ot eE (by omega), cp_ot eD (by omega)]; exact cp_st b7 m2 eB
        · rw [cp_ot eE (by omega)]; exact cp_st c7 m3 eD
        · exact cp_st d7 m4 eE
      · rw [ot _ _ (by omega), ot _ _ (by omega), ot _ _ (by omega), ot _ _ (by omega)]
        exact hmm j (by omega)
  have L46 : ∀ (c : Nat) (U : MS) (x : Int32), Hd U → 0 ≤ x.toInt → Fd U x.toInt → (24 - x.toInt).toNat < c → w_copyHead_L46 (CpP S p) c U p x := by
    intro c
    induction c with
    | zero => intro U x _ _ _ h9; exact absurd h9 (Nat.not_lt_zero _)
    | succ c ih =>
      intro U x hU x0 hf hc
      have z0 : (0 : Int32).toInt = 0 := rfl
      unfold w_copyHead_L46
      rw [(fp U hU.1 p p92).1]
      refine ⟨fun c1 => ⟨_, L107 _ U 0 hU (fun j hj => hf j (by omega)) (by decide) (fun j hj => by omega) (Nat.lt_succ_self _)⟩, fun c1 => ?_⟩
      have ek : (x + Int32.ofInt 1).toInt = x.toInt + 1 := by rw [t_add (by rw [lo_1]; omega), lo_1]
      obtain ⟨m1, m2, m3⟩ := nf x.toInt.toNat (by omega)
      obtain ⟨a1, a2, a3, a4, a5, a6, a7⟩ : ChK S U p 5 61 (p + 1) := G U hU.1 hU.2.1 0 (by decide)
      rw [a2, a4, a5, a6]
      refine ⟨a1, a3, ⟨by omega, by omega⟩, so_nz a7 m1, ⟨by omega, by omega⟩, fun A eA => ?_⟩
      have hA := hdW U A 61 _ _ hU (by omega) eA
      obtain ⟨b1, b2, b3, b4, b5, b6, b7⟩ : ChK S A p 6 62 (p + 2) := G A hA.1 hA.2.1 1 (by decide)
      rw [b2, b4, b5, b6]
      refine ⟨b1, b3, ⟨by omega, by omega⟩, so_nz b7 m2, ⟨by omega, by omega⟩, fun B eB => ?_⟩
      have hB := hdW A B 62 _ _ hA (by omega) eB
      obtain ⟨c1', c2, c3, c4, c5, c6, c7⟩ : ChK S B p 7 63 (p + 3) := G B hB.1 hB.2.1 2 (by decide)
      rw [c2, c4, c5, c6]
      refine ⟨c1', c3, ⟨by omega, by omega⟩, so_nz c7 m3, ⟨by omega, by omega⟩, fun D eD a ea => ?_⟩
      have hD := hdW B D 63 _ _ hB (by omega) eD
      subst ea
      have ot : ∀ a j : Nat, ¬ (61 ≤ a ∧ a ≤ 63 ∧ j = x.toInt.toNat) → qR D a j = qR U a j := fun a j q => by
        rw [cp_ot eD (fun y => q (by omega)), cp_ot eB (fun y => q (by omega)), cp_ot eA (fun y => q (by omega))]
      refine ih D _ hD (by omega) (fun j hj => ?_) (by omega)
      by_cases q : j = x.toInt.toNat
      · subst q
        refine ⟨?_, ?_, ?_⟩
        · rw [cp_ot eD (by omega), cp_ot eB (by omega)]; exact cp_st a7 m1 eA
        · rw [cp_ot eD (by omega)]; exact cp_st b7 m2 eB
        · exact cp_st c7 m3 eD
      · rw [ot _ _ (by omega), ot _ _ (by omega), ot _ _ (by omega)]
        exact hf j (by omega)
  have np60 : p ≠ 60 := by omega
  unfold w_copyHead
  refine ⟨q0, fun A eA => ?_⟩
  have ra : ∀ j : Nat, qR A p j = qR S p j := fun j => cp_ot eA (fun y => np60 y.1)
  have oa : qO A p 1 = qO S p 1 := by unfold qO; rw [ra]
  rw [oa]
  refine ⟨by rw [ra]; exact q1, fun B eB D eD E eE => ?_⟩
  have fA : frm [60, 61, 62, 63, 64, 65, 66, 67, 75] [122, 123] S A := by rw [eA]; exact frm.pR (by decide)
  have fB : frm [60, 61, 62, 63, 64, 65, 66, 67, 75] [122, 123] A B := by rw [eB]; exact frm.pR (by decide)
  have fD : frm [60, 61, 62, 63, 64, 65, 66, 67, 75] [122, 123] B D := by rw [eD]; exact frm.pI (by decide)
  have fE : frm [60, 61, 62, 63, 64, 65, 66, 67, 75] [122, 123] D E := by rw [eE]; exact frm.pI (by decide)
  have bi : ∀ a : Nat, qI B a = qI S a := fun a => by rw [eB, eA]; rfl
  have er : ∀ a j : Nat, qR E a j = qR B a j := fun a j => by rw [eE, eD]; rfl
  have dp : qI D p 4 = qI S p 4 := by rw [eD, rdH np60, bi]
  have hE : Hd E := by
    refine ⟨fA.tr (fB.tr (fD.tr fE)), fun i hi => ?_, ?_, ?_, ?_, ?_⟩
    · rw [er, cp_ot eB (by omega), cp_ot eA (by omega)]; exact (hd i hi).1
    · rw [er, cp_ot eB (by omega), eA, qR_wR, if_pos ⟨rfl, rfl⟩, q0]
    · rw [er, eB, qR_wR, if_pos ⟨rfl, rfl⟩, q1]
    · rw [eE, qI_wI, if_neg (by decide), eD, qI_wI, if_pos ⟨rfl, rfl⟩, bi]
    · rw [eE, qI_wI, if_pos ⟨rfl, rfl⟩, dp]
  have z0 : (0 : Int32).toInt = 0 := rfl
  exact ⟨_, L46 _ E 0 hE (by decide) (fun j hj => by omega) (Nat.lt_succ_self _)⟩
/-! counters are at most as many as blocks that are reached (behind GbI, nzN) -/
def rbN (S : MS) (i : Nat) : Nat := sumN (fun b => if (qI S 49 b).toInt < i ∧ ¬ (qI S 53 b).toInt = 0 then 1 else 0) (qI S 0 105).toInt.toNat
theorem gb_rc {S : MS} {N : Int} (h : GbI S N) : (∀ i : Nat, rbN S i ≤ nzN (qI S 53) (qI S 0 105).toInt.toNat) ∧ (∀ i : Nat, rbN S i ≤ rbN S (i + 1)) ∧ ∀ i : Nat, (i : Int) < N → (0 ≤ (qI S 50 i).toInt ∧ (qI S 50 i).toInt < 1200) ∧ ((qI S 49 (qI S 50 i).toInt.toNat).toInt = i → ¬ (qI S 53 (qI S 50 i).toInt.toNat).toInt = 0 → rbN S i + 1 ≤ rbN S (i + 1)) := by
  have le : ∀ i b : Nat, (if (qI S 49 b).toInt < (i : Int) ∧ ¬ (qI S 53 b).toInt = 0 then 1 else 0) ≤ (if (qI S 49 b).toInt < ((i + 1 : Nat) : Int) ∧ ¬ (qI S 53 b).toInt = 0 then 1 else 0) := fun i b => by
    by_cases q : (qI S 49 b).toInt < (i : Int) ∧ ¬ (qI S 53 b).toInt = 0
    · rw [if_pos q, if_pos ⟨by omega, q.2⟩]; exact Nat.le_refl _
    · rw [if_neg q]; exact Nat.zero_le _
  refine ⟨fun i => sumN_le _ (fun b _ => ?_), fun i => sumN_le _ (fun b _ => le i b), fun i hi => ?_⟩
  · by_cases q : (qI S 53 b).toInt = 0
    · show (if (qI S 49 b).toInt < (i : Int) ∧ ¬ (qI S 53 b).toInt = 0 then 1 else 0) ≤ (if (qI S 53 b).toInt = 0 then 0 else 1)
      rw [if_neg (fun y => y.2 q)]; exact Nat.zero_le _
    · show (if (qI S 49 b).toInt < (i : Int) ∧ ¬ (qI S 53 b).toInt = 0 then 1 else 0) ≤ (if (qI S 53 b).toInt = 0 then 0 else 1)
      rw [if_neg q]
      by_cases w : (qI S 49 b).toInt < (i : Int) ∧ ¬ (qI S 53 b).toInt = 0
      · rw [if_pos w]; exact Nat.le_refl _
      · rw [if_neg w]; exact Nat.zero_le _
  · have b := h.1
    have g := h.2.2.2.2.1 i hi
    refine ⟨by omega, fun e q => ?_⟩
    refine sumN_lt (i := (qI S 50 i).toInt.toNat) _ (fun b _ => le i b) (by omega) ?_
    show (if (qI S 49 (qI S 50 i).toInt.toNat).toInt < (i : Int) ∧ ¬ (qI S 53 (qI S 50 i).toInt.toNat).toInt = 0 then 1 else 0) < (if (qI S 49 (qI S 50 i).toInt.toNat).toInt < ((i + 1 : Nat) : Int) ∧ ¬ (qI S 53 (qI S 50 i).toInt.toNat).toInt = 0 then 1 else 0)
    rw [if_neg (fun y => by omega), if_pos ⟨by omega, q⟩]
    decide
/-! improve, one method: taken, bettered, marked, put (behind sp_take, sp_rounds, sp_markC, sp_putMethod) -/
def rwO (R : Nat → Int32) (fst i : Nat) : Int32 := R (3 * (fst + i))
def rwA (R : Nat → Int32) (fst i : Nat) : Int32 := R (3 * (fst + i) + 1)
def rwB (R : Nat → Int32) (fst i : Nat) : Int32 := R (3 * (fst + i) + 2)
def rwS (R : Nat → Int32) (fst i : Nat) : Prop := (rwO R fst i).toInt = 170 ∨ (rwO R fst i).toInt = 171
/-- the tables of a method lie one behind the other -/
def TbM (R : Nat → Int32) (fst : Nat) (len : Int) : Prop := ∀ i j : Nat, i < j → (j : Int) < len → rwS R fst i → rwS R fst j → (rwA R fst i).toInt + 2 * (rwB R fst i).toInt + 1 ≤ (rwA R fst j).toInt
def TkP (U : MS) (R : Nat → Int32) (fst : Nat) (len L F M : Int) (u : MS) : Prop := OpE u L F M 3600 u ∧ gN u = len ∧ ∀ i : Nat, (i : Int) < len → (qI u 78 i = rwO R fst i ∧ qI u 79 i = rwA R fst i ∧ qI u 80 i = rwB R fst i) ∧ (qI u 81 i).toInt = 0
theorem sp_takeMethod {U : MS} {f : Nat} {x : Int32} {L F M : Int} (h : FlI U f) (hx : 0 ≤ x.toInt ∧ x.toInt < (qI U f 4).toInt) (hb : (0 ≤ L ∧ L ≤ 24) ∧ F ≤ 24 ∧ M ≤ 24) (hT : ∀ i : Nat, (i : Int) < (qI U (f + 11) x.toInt.toNat).toInt → rOK (qI U (qO U f 18)) (qI U 75) 40000 (qI U (f + 11) x.toInt.toNat).toInt L F M ((qI U (f + 10) x.toInt.toNat).toInt.toNat + i)) : w_takeMethod U f x (fun u => TkP U (qI U (qO U f 18)) (qI U (f + 10) x.toInt.toNat).toInt.toNat (qI U (f + 11) x.toInt.toNat).toInt L F M u) := by
  unfold w_takeMethod
  refine ⟨_, sp_look h hx, ?_⟩
  rintro V ⟨⟨fV, lk⟩, lo⟩ A eA
  have kc := lk.cnt
  obtain ⟨⟨l1, l2, l3, l4⟩, l5, l6, l7, l8⟩ := lo
  have e48 : qO V 0 48 = qO U f 18 := by unfold qO; rw [l2]
  have n18 : qO U f 18 ≠ 0 := by
    obtain ⟨h1, h2, h3, h4, h5, R, T, C, nc, ts, cn, r1, r2, r3, r4, r5, r6⟩ := h
    have : qO U f 18 = R := by unfold qO; rw [r2.1]; rfl
    omega
  have vR : qI V (qO U f 18) = qI U (qO U f 18) := (fV.2.2.2.2.1 _ n18 List.not_mem_nil).1
  have v75 : qI V 75 = qI U 75 := (fV.2.2.2.2.1 75 (by decide) (by decide)).1
  have row : ∀ y : Int32, 0 ≤ y.toInt → y.toInt < (qI V 0 52).toInt → f_op V y = rwO (qI U (qO U f 18)) (qI U (f + 10) x.toInt.toNat).toInt.toNat y.toInt.toNat ∧ f_first V y = rwA (qI U (qO U f 18)) (qI U (f + 10) x.toInt.toNat).toInt.toNat y.toInt.toNat ∧ f_second V y = rwB (qI U (qO U f 18)) (qI U (f + 10) x.toInt.toNat).toInt.toNat y.toInt.toNat := fun y y0 y1 => by
    obtain ⟨z1, z2, z3⟩ := lk_ix lk (x := y) ⟨y0, y1⟩
    unfold f_op f_first f_second rwO rwA rwB
    rw [z1, z2, z3, e48, vR, ← l5, show (3 * ((qI V 0 51).toInt + y.toInt)).toNat = 3 * ((qI V 0 51).toInt.toNat + y.toInt.toNat) by omega, show (3 * ((qI V 0 51).toInt + y.toInt) + 1).toNat = 3 * ((qI V 0 51).toInt.toNat + y.toInt.toNat) + 1 by omega, show (3 * ((qI V 0 51).toInt + y.toInt) + 2).toNat = 3 * ((qI V 0 51).toInt.toNat + y.toInt.toNat) + 2 by omega]
    exact ⟨rfl, rfl, rfl⟩
  have tk := sp_take (L := L) (F := F) (M := M) lk hb (fun y y0 y1 => by
    obtain ⟨z1, z2, z3⟩ := row y y0 y1
    rw [z1, z2, z3, v75, l6]
    exact hT y.toInt.toNat (by rw [← l6]; omega)) A eA
  obtain ⟨n, hn⟩ := tk
  have mono80 : ∀ (Q Q' : MS → Prop), (∀ u, Q u → Q' u) → ∀ (c : Nat) (W : MS) (k : Int32), w_takeMethod_L80 Q c W k → w_takeMethod_L80 Q' c W k := by
    intro Q Q' hQ c
    induction c with
    | zero => intro W k hW; unfold w_takeMethod_L80 at hW; exact hW.elim
    | succ c ih =>
      intro W k hW
      unfold w_takeMethod_L80 at hW ⊢
      refine ⟨fun z => hQ _ (hW.1 z), fun z => ?_⟩
      obtain ⟨y1, y2, y3⟩ := hW.2 z
      refine ⟨y1, y2, fun A eA => ?_⟩
      obtain ⟨a1, a2, a3⟩ := y3 A eA
      refine ⟨a1, a2, fun B eB => ?_⟩
      obtain ⟨b1, b2, b3⟩ := a3 B eB
      refine ⟨b1, b2, fun C eC => ?_⟩
      obtain ⟨c1, c2, c3⟩ := b3 C eC
      refine ⟨c1, c2, fun D eD => ?_⟩
      obtain ⟨d1, d2⟩ := c3 D eD
      exact ⟨d1, fun E eE a ea => ih E a (d2 E eE a ea)⟩
  have mono16 : ∀ (Q Q' : MS → Prop), (∀ u, Q u → Q' u) → ∀ (c : Nat) (W : MS) (k : Int32), w_takeMethod_L16 Q c W k → w_takeMethod_L16 Q' c W k := by
    intro Q Q' hQ c
    induction c with
    | zero => intro W k hW; unfold w_takeMethod_L16 at hW; exact hW.elim
    | succ c ih =>
      intro W k hW
      unfold w_takeMethod_L16 at hW ⊢
      refine ⟨fun z A eA => ?_, fun z => ?_⟩
      · obtain ⟨n, hn⟩ := hW.1 z A eA
        exact ⟨n, mono80 Q Q' hQ n A 0 hn⟩
      obtain ⟨y1, y2, y3⟩ := hW.2 z
      refine ⟨y1, y2, fun A eA => ?_⟩
      obtain ⟨a1, a2, a3⟩ := y3 A eA
      refine ⟨a1, a2, fun B eB => ?_⟩
      obtain ⟨b1, b2, b3⟩ := a3 B eB
      refine ⟨b1, b2, fun C eC => ?_⟩
      obtain ⟨c1, c2⟩ := b3 C eC
      exact ⟨c1, fun E eE a ea => ih E a (c2 E eE a ea)⟩
  refine ⟨n, mono16 _ _ (fun u hu => ?_) n A 0 hn⟩
  obtain ⟨u1, u2, u3⟩ := hu
  rw [l6] at u2 u3
  refine ⟨u1, u2, fun i hi => ?_⟩
  obtain ⟨y, ey⟩ := i32_ex i (by rw [l6] at kc; omega)
  have ei : y.toInt.toNat = i := by omega
  obtain ⟨⟨q1, q2, q3⟩, q4⟩ := u3 y (by omega) (by omega)
  obtain ⟨z1, z2, z3⟩ := row y (by omega) (by rw [l6]; omega)
  rw [z1] at q1
  rw [z2] at q2
  rw [z3] at q3
  rw [ei] at q1 q2 q3 q4
  exact ⟨⟨q1, q2, q3⟩, q4⟩
/-! improve, one method (behind sp_takeMethod, sp_rounds, sp_markC, sp_putMethod) -/
def ImP (U : MS) (R : Nat → Int32) (fst : Nat) (len L F M : Int) (B m : Nat) (u : MS) : Prop := frm [70, 71, 72, 73, 74, 75, 76, 77, 78, 79, 80, 81, 82, 83, 84, 85, 86, 87, 88, 89, 90, 91, 92] [47, 48, 49, 50, 51, 52, 53, 54, 122, 123, 129, 135, 139] U u ∧ ∃ e n : Nat, (1 ≤ e ∧ (e : Int) ≤ len ∧ n ≤ 16) ∧ ((qI u 0 122).toInt = (B : Int) + e ∧ (qI u 0 123).toInt = (qI U 0 123).toInt + n) ∧ ((∀ j : Nat, j < 3 * B → qI u 74 j = qI U 74 j) ∧ (∀ j : Nat, j < 4 * (qI U 0 123).toInt.toNat → qI u 76 j = qI U 76 j) ∧ ∀ q : Nat, (∀ j : Nat, (j : Int) < len → rwS R fst j → ¬ ((rwA R fst j).toInt ≤ q ∧ (q : Int) ≤ (rwA R fst j).toInt + 2 * (rwB R fst j).toInt)) → qI u 75 q = qI U 75 q) ∧ (sameBut U u 70 m ∧ sameBut U u 71 m ∧ sameBut U u 72 m ∧ sameBut U u 73 m) ∧ ((qI u 70 m).toInt = B ∧ (qI u 71 m).toInt = e ∧ (qI u 72 m).toInt = (qI U 0 123).toInt ∧ (qI u 73 m).toInt = n) ∧ (∀ p : Nat, p < e → rOK (qI u 74) (qI u 75) 40000 e L F M (B + p)) ∧ wtS (qI u 74) B e ≤ 3600 ∧ (∀ p : Nat, p < e → (qI u 74 (3 * (B + p))).toInt = 170 ∨ (qI u 74 (3 * (B + p))).toInt = 171 → ∃ j : Nat, (j : Int) < len ∧ rwS R fst j ∧ (qI u 74 (3 * (B + p) + 1)).toInt = (rwA R fst j).toInt ∧ (qI u 74 (3 * (B + p) + 2)).toInt = (rwB R fst j).toInt) ∧ ∀ c : Nat, c < n → cOK (qI u 76) e ((qI U 0 123).toInt.toNat + c)
theorem sp_impOne {U : MS} {f : Nat} {x o : Int32} {L F M : Int} {B : Nat} {K : MS → Prop} (h : FlI U f) (hx : 0 ≤ x.toInt ∧ x.toInt < (qI U f 4).toInt) (hb : (0 ≤ L ∧ L ≤ 24) ∧ F ≤ 24 ∧ M ≤ 24) (hT : ∀ i : Nat, (i : Int) < (qI U (f + 11) x.toInt.toNat).toInt → rOK (qI U (qO U f 18)) (qI U 75) 40000 (qI U (f + 11) x.toInt.toNat).toInt L F M ((qI U (f + 10) x.toInt.toNat).toInt.toNat + i)) (hS : TbM (qI U (qO U f 18)) (qI U (f + 10) x.toInt.toNat).toInt.toNat (qI U (f + 11) x.toInt.toNat).toInt) (eB : (qI U 0 122).toInt = B) (hB : (B : Int) + (qI U (f + 11) x.toInt.toNat).toInt ≤ 29000) (hC : 0 ≤ (qI U 0 123).toInt ∧ (qI U 0 123).toInt + 16 ≤ 384) (hd : qR U 60 14 = some 70 ∧ qR U 60 15 = some 71 ∧ qR U 60 16 = some 72 ∧ qR U 60 17 = some 73) (hn : qN U 70 = 24 ∧ qN U 71 = 24 ∧ qN U 72 = 24 ∧ qN U 73 = 24) (hm : x.toInt < 24) (hK : ∀ u : MS, ImP U (qI U (qO U f 18)) (qI U (f + 10) x.toInt.toNat).toInt.toNat (qI U (f + 11) x.toInt.toNat).toInt L F M B x.toInt.toNat u → K u) : ∃ Q25, w_takeMethod U f x Q25 ∧ ∀ S26, Q25 S26 → (∃ Q28, w_rounds S26 o Q28 ∧ ∀ S29, Q28 S29 → (∃ Q31, w_mark S29 Q31 ∧ ∀ S32, Q31 S32 → (∃ Q34, w_putMethod S32 x (-1 : Int32) Q34 ∧ ∀ S35, Q34 S35 → K S35))) := by
  refine ⟨_, fr_takeMethod (sp_takeMethod h hx hb hT), ?_⟩
  rintro u1 ⟨⟨o1, g1, t1⟩, f1⟩
  refine ⟨_, fr_rounds (sp_rounds (o := o) o1), ?_⟩
  rintro u2 ⟨⟨r2, ⟨l, a2⟩, w2, s2⟩, f2⟩
  refine ⟨_, sp_markC r2, ?_⟩
  rintro u3 ⟨f3, m3, c3⟩
  have sm3 : smO u2 u3 := smO.fm f3 (by decide) (by decide) (by decide)
  have r3 := sm3.r r2
  have a3 := sm3.a a2 m3
  have s3 : swE u1 u3 := s2.tr (swE.sm sm3)
  have F1 : frm [75, 77, 78, 79, 80, 81, 82, 83, 84, 85, 86, 87, 88, 89, 90] [47, 48, 49, 50, 51, 52, 53, 54, 129, 135, 139] U u3 := (f1.mo (by decide) (by decide)).tr ((f2.mo (by decide) (by decide)).tr (f3.mo (by decide) (by decide)))
  have z := fun (a : Nat) (h1 : a ≠ 0) (h2 : a ∉ [75, 77, 78, 79, 80, 81, 82, 83, 84, 85, 86, 87, 88, 89, 90]) => F1.2.2.2.2.1 a h1 h2
  have z60 := (z 60 (by decide) (by decide)).2.2
  have z122 : qI u3 0 122 = qI U 0 122 := (F1.2.2.2.2.2 122 (by decide)).1
  have z123 : qI u3 0 123 = qI U 0 123 := (F1.2.2.2.2.2 123 (by decide)).1
  have g3 : gN u3 = (qI U (f + 11) x.toInt.toNat).toInt := by rw [s3.1, g1]
  -- the switches that are left
  have sw : ∀ j : Nat, (j : Int) < gN u3 → isW u3 j → rwS (qI U (qO U f 18)) (qI U (f + 10) x.toInt.toNat).toInt.toNat j ∧ (qI u3 79 j).toInt = (rwA (qI U (qO U f 18)) (qI U (f + 10) x.toInt.toNat).toInt.toNat j).toInt ∧ (qI u3 80 j).toInt = (rwB (qI U (qO U f 18)) (qI U (f + 10) x.toInt.toNat).toInt.toNat j).toInt := fun j hj wj => by
    obtain ⟨d1, d2, d3⟩ := s3.2.1 j wj
    obtain ⟨⟨q1, q2, q3⟩, _⟩ := t1 j (by rw [← g3]; exact hj)
    unfold isW at wj
    rw [d1, q1] at wj
    exact ⟨wj, by rw [d2, q2], by rw [d3, q3]⟩
  have a0 : ∀ j : Nat, (j : Int) < gN u3 → isW u3 j → 0 ≤ (qI u3 79 j).toInt ∧ 0 ≤ (qI u3 80 j).toInt := fun j hj wj => by
    have := (r3.2.2.1 j hj).2.2.1 wj
    exact ⟨this.1, this.2.1⟩
  have tb : TbD u3 := fun i j ij hj gi gj wi wj => by
    obtain ⟨i1, i2, i3⟩ := sw i (by omega) wi
    obtain ⟨j1, j2, j3⟩ := sw j hj wj
    have := hS i j ij (by rw [← g3]; exact hj) i1 j1
    have p1 := a0 i (by omega) wi
    have p2 := a0 j hj wj
    unfold tA tB
    omega
  have pc : ∀ c : Nat, (c : Int) < (qI u3 0 135).toInt → (qI u3 86 c).toInt = 0 → (qI u3 82 c).toInt ≤ l ∧ (qI u3 84 c).toInt ≤ l := fun c hc g => by
    obtain ⟨b1, b2, b3, b4, b5, b6, b7, b8, b9, b10, b11⟩ := id sm3
    rw [b2] at hc
    obtain ⟨i, i1, i2, i3, i4⟩ := c3 c hc g
    have il : i ≤ l := by
      by_cases q : l < i
      · exact absurd i2 (a2.1.2.2 i q i1)
      · omega
    rw [b8, b10]
    exact ⟨by omega, a2.2.2 c i hc (m3 c g) i1 i2 i3 i4⟩
  have lm : (-1 : Int32).toInt = -1 := by decide
  refine ⟨_, sp_putMethod (L := L) (F := F) (F' := F) (M := M) (B := B) (K := 0) (rc := fun _ => 0) r3 a3 tb (by rw [wtN_sm sm3]; exact w2) pc (by rw [z122]; exact eB) (by rw [g3]; omega) (by rw [z123]; exact hC) (by rw [z60]; exact hd) (by rw [F1.2.1]; exact hn) ⟨hx.1, hm⟩ (Int.le_refl _) (fun _ => Nat.le_refl _) (fun _ _ => Nat.le_refl _) (fun q => absurd (by rw [lm]; decide) q), ?_⟩
  rintro u ⟨fu, e, n, p1, p2, ⟨p3, p4, p5⟩, ⟨p6, p7, p8, p9⟩, p10, p11, p12, p14, p13⟩
  rw [z123] at p2 p4 p10 p13
  have zz := fun (a : Nat) (h1 : a ≠ 0) (h2 : a ∉ [75, 77, 78, 79, 80, 81, 82, 83, 84, 85, 86, 87, 88, 89, 90]) => (z a h1 h2).1
  refine hK u ⟨(F1.mo (by decide) (by decide)).tr (fu.mo (by decide) (by decide)), e, n, by omega, p2, ⟨fun j hj => by rw [p3 j hj, zz 74 (by decide) (by decide)], fun j hj => by rw [p4 j hj, zz 76 (by decide) (by decide)], fun q hq => ?_⟩, ⟨fun j hj => by rw [p6 j hj, zz 70 (by decide) (by decide)], fun j hj => by rw [p7 j hj, zz 71 (by decide) (by decide)], fun j hj => by rw [p8 j hj, zz 72 (by decide) (by decide)], fun j hj => by rw [p9 j hj, zz 73 (by decide) (by decide)]⟩, p10, p11, by omega, fun p hp hw => (by
    obtain ⟨j, j1, _, j3, j4, j5⟩ := p14 p hp hw
    obtain ⟨y1, y2, y3⟩ := sw j j1 j3
    exact ⟨j, by rw [← g3]; exact j1, y1, by rw [j4, y2], by rw [j5, y3]⟩), p13⟩
  rw [p5 q (fun j hj gj wj y => ?_), s3.2.2 q (fun j hj wj y => ?_), (f1.2.2.2.2.1 75 (by decide) (by decide)).1]
  · obtain ⟨⟨q1, q2, q3⟩, _⟩ := t1 j (by rw [← g1]; exact hj)
    rw [q1] at wj
    rw [q2, q3] at y
    exact hq j (by rw [← g1]; exact hj) wj y
  · obtain ⟨j1, j2, j3⟩ := sw j hj wj
    have q2 := a0 j hj wj
    refine hq j (by rw [← g3]; exact hj) j1 ?_
    unfold tA tB at y
    omega
/-! improve: all methods, one behind the other (behind sp_impOne) -/
def mR (S : MS) (f : Nat) : Nat → Int32 := qI S (qO S f 18)
def mF (S : MS) (f m : Nat) : Nat := (qI S (f + 10) m).toInt.toNat
def mL (S : MS) (f m : Nat) : Int := (qI S (f + 11) m).toInt
/-- the tables of a File lie one behind the other -/
def TbF (S : MS) (f : Nat) : Prop := ∀ m1 m2 i j : Nat, (m2 : Int) < (qI S f 4).toInt → (i : Int) < mL S f m1 → (j : Int) < mL S f m2 → (m1 < m2 ∨ m1 = m2 ∧ i < j) → rwS (mR S f) (mF S f m1) i → rwS (mR S f) (mF S f m2) j → (rwA (mR S f) (mF S f m1) i).toInt + 2 * (rwB (mR S f) (mF S f m1) i).toInt + 1 ≤ (rwA (mR S f) (mF S f m2) j).toInt
/-- a method of the draft -/
def DmI (S : MS) (f : Nat) (U : MS) (m : Nat) : Prop := MtI (qI U 74) (qI U 75) (qI U 76) (qI U 0 122).toInt 40000 (qI U 0 123).toInt (qI S (f + 9) m).toInt (qI S f 3).toInt (qI S f 4).toInt (qI U 70 m) (qI U 71 m) (qI U 72 m) (qI U 73 m) ∧ ∀ p : Nat, (p : Int) < (qI U 71 m).toInt → (qI U 74 (3 * ((qI U 70 m).toInt.toNat + p))).toInt = 170 ∨ (qI U 74 (3 * ((qI U 70 m).toInt.toNat + p))).toInt = 171 → ∃ j : Nat, (j : Int) < mL S f m ∧ rwS (mR S f) (mF S f m) j ∧ (qI U 74 (3 * ((qI U 70 m).toInt.toNat + p) + 1)).toInt = (rwA (mR S f) (mF S f m) j).toInt ∧ (qI U 74 (3 * ((qI U 70 m).toInt.toNat + p) + 2)).toInt = (rwB (mR S f) (mF S f m) j).toInt
/-- outside the tables of method m -/
def ouT (S : MS) (f m q : Nat) : Prop := ∀ j : Nat, (j : Int) < mL S f m → rwS (mR S f) (mF S f m) j → ¬ ((rwA (mR S f) (mF S f m) j).toInt ≤ q ∧ (q : Int) ≤ (rwA (mR S f) (mF S f m) j).toInt + 2 * (rwB (mR S f) (mF S f m) j).toInt)
theorem DmI.mv {S U u : MS} {f m n : Nat} {B : Nat} (h : DmI S f U m) (tb : TbF S f) (mn : m < n) (hn : (n : Int) < (qI S f 4).toInt) (eB : (qI U 0 122).toInt = B) (e1 : (B : Int) ≤ (qI u 0 122).toInt) (e2 : 0 ≤ (qI U 0 123).toInt ∧ (qI U 0 123).toInt ≤ (qI u 0 123).toInt) (k1 : ∀ j : Nat, j < 3 * B → qI u 74 j = qI U 74 j) (k2 : ∀ j : Nat, j < 4 * (qI U 0 123).toInt.toNat → qI u 76 j = qI U 76 j) (k3 : ∀ q : Nat, ouT S f n q → qI u 75 q = qI U 75 q) (s1 : sameBut U u 70 n) (s2 : sameBut U u 71 n) (s3 : sameBut U u 72 n) (s4 : sameBut U u 73 n) : DmI S f u m := by
  have ne : m ≠ n := by omega
  obtain ⟨⟨d1, d2, d3, d4, d5, d6, d7, d8, d9⟩, d10⟩ := h
  rw [eB] at d3
  have rr : ∀ p : Nat, (p : Int) < (qI U 71 m).toInt → qI u 74 (3 * ((qI U 70 m).toInt.toNat + p)) = qI U 74 (3 * ((qI U 70 m).toInt.toNat + p)) ∧ qI u 74 (3 * ((qI U 70 m).toInt.toNat + p) + 1) = qI U 74 (3 * ((qI U 70 m).toInt.toNat + p) + 1) ∧ qI u 74 (3 * ((qI U 70 m).toInt.toNat + p) + 2) = qI U 74 (3 * ((qI U 70 m).toInt.toNat + p) + 2) := fun p hp => ⟨k1 _ (by omega), k1 _ (by omega), k1 _ (by omega)⟩
  unfold DmI
  rw [s1 m ne, s2 m ne, s3 m ne, s4 m ne]
  refine ⟨⟨d1, d2, by omega, fun i hi => ?_, ?_, d6, d7, by omega, fun c hc => ?_⟩, fun p hp hw => ?_⟩
  · have r := d4 i hi
    obtain ⟨q1, q2, q3⟩ := rr i hi
    unfold rOK at r ⊢
    rw [q1, q2, q3]
    refine ⟨r.1, r.2.1, fun w => ?_, r.2.2.2⟩
    obtain ⟨y1, y2, y3, y4, y5, y6⟩ := r.2.2.1 w
    refine ⟨y1, y2, y3, y4, fun k hk => ?_, y6⟩
    obtain ⟨j, j1, j2, j3, j4⟩ := d10 i hi w
    rw [k3 _ (fun i2 hi2 w2 y => ?_)]
    · exact y5 k hk
    · have := tb m n j i2 hn j1 hi2 (Or.inl mn) j2 w2
      omega
  · rw [wtS_eq2 (R := qI U 74) _ (fun i hi => ⟨(rr i (by omega)).1, (rr i (by omega)).2.2⟩)]
    exact d5
  · exact (d9 c hc).mv (fun j hj => k2 j (by omega))
  · obtain ⟨q1, q2, q3⟩ := rr p hp
    rw [q1] at hw
    rw [q2, q3]
    exact d10 p hp hw
/-! improve: the loop over the methods (behind sp_impOne, DmI) -/
def ImI (S : MS) (f m : Nat) (U : MS) : Prop := frm [70, 71, 72, 73, 74, 75, 76, 77, 78, 79, 80, 81, 82, 83, 84, 85, 86, 87, 88, 89, 90, 91, 92] [47, 48, 49, 50, 51, 52, 53, 54, 122, 123, 129, 135, 139] S U ∧ ((0 ≤ (qI U 0 122).toInt ∧ (qI U 0 122).toInt ≤ 1200 * m) ∧ 0 ≤ (qI U 0 123).toInt ∧ (qI U 0 123).toInt ≤ 16 * m) ∧ (∀ n : Nat, n < m → DmI S f U n) ∧ ∀ n i q : Nat, m ≤ n → (n : Int) < (qI S f 4).toInt → (i : Int) < mL S f n → rwS (mR S f) (mF S f n) i → (rwA (mR S f) (mF S f n) i).toInt ≤ q → (q : Int) ≤ (rwA (mR S f) (mF S f n) i).toInt + 2 * (rwB (mR S f) (mF S f n) i).toInt → qI U 75 q = qI S 75 q
theorem sp_improve_L88 {S : MS} {f : Nat} {o : Int32} {Q : Int32 → MS → Prop} (h : FlI S f) (tb : TbF S f) (w75 : ∀ j : Nat, j < qN S (qO S f 19) → qI S 75 j = qI S (qO S f 19) j) (hd : DrO S) (z0 : qI S 0 122 = 0 ∧ qI S 0 123 = 0) (done : ∀ U : MS, ImI S f (qI S f 4).toInt.toNat U → ∃ Q20, w_keptDraft U Q20 ∧ ∀ r21 S22, Q20 r21 S22 → Q r21 S22) : ∃ n, w_improve_L88 Q n S o f 0 := by
  have h' := h
  obtain ⟨h1, h2, h3, h4, h5, R, T, C, nc, ts, cn, r1, r2, r3, r4, r5, r6⟩ := h
  have f92 := h1.1.1
  have eR : qO S f 18 = R := by unfold qO; rw [r2.1]; rfl
  have eT : qO S f 19 = T := by unfold qO; rw [r2.2.1]; rfl
  rw [eT, r4.2.1] at w75
  have L88 : ∀ (c : Nat) (U : MS) (x : Int32), 0 ≤ x.toInt → x.toInt ≤ (qI S f 4).toInt → ImI S f x.toInt.toNat U → (24 - x.toInt).toNat < c → w_improve_L88 Q c U o f x := by
    intro c
    induction c with
    | zero => intro U x _ _ _ h9; exact absurd h9 (Nat.not_lt_zero _)
    | succ c ih =>
      intro U x x0 xM hU hc
      have hU' := hU
      obtain ⟨fU, ⟨b1, b2⟩, dm, wd⟩ := hU
      have big : ∀ a : Nat, 92 < a → qI U a = qI S a ∧ qR U a = qR S a := fun a ha => by
        have z := fU.2.2.2.2.1 a (by omega) (fun q => by simp only [List.mem_cons, List.not_mem_nil, or_false] at q; omega)
        exact ⟨z.1, z.2.2⟩
      have uf4 : qI U f 4 = qI S f 4 := by rw [(big f f92).1]
      unfold w_improve_L88
      rw [uf4]
      refine ⟨fun c1 => done U (by rw [show (qI S f 4).toInt.toNat = x.toInt.toNat by omega]; exact hU'), fun c1 => ?_⟩
      have ek : (x + Int32.ofInt 1).toInt = x.toInt + 1 := by rw [t_add (by rw [lo_1]; omega), lo_1]
      have ekN : (x + Int32.ofInt 1).toInt.toNat = x.toInt.toNat + 1 := by omega
      have xlt : (x.toInt.toNat : Int) < (qI S f 4).toInt := by omega
      have eO : qI U (qO U f 18) = mR S f := by
        have : qO U f 18 = R := by unfold qO; rw [(big f f92).2, r2.1]; rfl
        rw [this, (big R (by omega)).1]
        unfold mR
        rw [eR]
      have e10 : qI U (f + 10) = qI S (f + 10) := (big _ (by omega)).1
      have e11 : qI U (f + 11) = qI S (f + 11) := (big _ (by omega)).1
      have flU : FlI U f := h'.fm f92 fU (by decide)
      obtain ⟨_, _, lc, mt⟩ := r6 x.toInt.toNat xlt
      obtain ⟨t1, t2, t3, t4, t5, t6, t7, t8, t9⟩ := mt
      have u60 : qR U 60 = qR S 60 := (fU.2.2.2.2.1 60 (by decide) (by decide)).2.2
      obtain ⟨B, eB⟩ : ∃ B : Nat, (qI U 0 122).toInt = B := ⟨(qI U 0 122).toInt.toNat, by omega⟩
      have eF : (qI S (f + 10) x.toInt.toNat).toInt.toNat = mF S f x.toInt.toNat := rfl
      have eL : (qI S (f + 11) x.toInt.toNat).toInt = mL S f x.toInt.toNat := rfl
      have hT : ∀ i : Nat, (i : Int) < mL S f x.toInt.toNat → rOK (mR S f) (qI U 75) 40000 (mL S f x.toInt.toNat) (qI S (f + 9) x.toInt.toNat).toInt (qI S f 3).toInt (qI S f 4).toInt (mF S f x.toInt.toNat + i) := fun i hi => by
        have r := t4 i hi
        have em : qI S R = mR S f := by unfold mR; rw [eR]
        rw [em, eF] at r
        refine ⟨r.1, r.2.1, fun w => ?_, r.2.2.2⟩
        obtain ⟨y1, y2, y3, y4, y5, y6⟩ := r.2.2.1 w
        refine ⟨y1, y2, y3, by omega, fun k hk => ?_, y6⟩
        have q := wd x.toInt.toNat i ((mR S f (3 * (mF S f x.toInt.toNat + i) + 1)).toInt.toNat + 2 * k) (Nat.le_refl _) xlt hi w (by unfold rwA; omega) (by unfold rwA rwB; omega)
        rw [q, w75 _ (by omega)]
        exact y5 k hk
      have hS : TbM (mR S f) (mF S f x.toInt.toNat) (mL S f x.toInt.toNat) := fun i j ij hj wi wj => tb x.toInt.toNat x.toInt.toNat i j xlt (by omega) hj (Or.inr ⟨rfl, ij⟩) wi wj
      have one := sp_impOne (U := U) (f := f) (x := x) (o := o) (L := (qI S (f + 9) x.toInt.toNat).toInt) (F := (qI S f 3).toInt) (M := (qI S f 4).toInt) (B := B) (K := fun S35 => ∀ a37 : Int32, a37 = (x + Int32.ofInt 1) → w_improve_L88 Q c S35 o f a37) flU ⟨x0, by rw [uf4]; omega⟩ ⟨lc, h4.1.2, h4.2.2⟩ (by rw [eO, e10, e11]; exact hT) (by rw [eO, e10, e11]; exact hS) eB (by rw [e11]; omega) ⟨b2.1, by omega⟩ (by rw [u60]; exact ⟨(hd 9 (by decide)).1, (hd 10 (by decide)).1, (hd 11 (by decide)).1, (hd 12 (by decide)).1⟩) (by rw [fU.2.1]; exact ⟨(hd 9 (by decide)).2, (hd 10 (by decide)).2, (hd 11 (by decide)).2, (hd 12 (by decide)).2⟩) (by omega) (fun u hu a ea => ?_)
      · exact one
      rw [eO, e10, e11, eF, eL] at hu
      obtain ⟨fu, e, n, ⟨p1, p2, p3⟩, ⟨p4, p5⟩, ⟨p6, p7, p8⟩, ⟨p9, p10, p11, p12⟩, ⟨q1, q2, q3, q4⟩, p13, p14, p15, p16⟩ := hu
      subst ea
      have len1200 : mL S f x.toInt.toNat ≤ 1200 := t2.2
      refine ih u _ (by omega) (by omega) ⟨fU.tr fu, by rw [ekN]; omega, fun m' hm' => ?_, fun m' i q hm' hM hi wi y1 y2 => ?_⟩ (by omega)
      · rw [ekN] at hm'
        by_cases w : m' = x.toInt.toNat
        · subst w
          unfold DmI
          have qb : (qI u 70 x.toInt.toNat).toInt.toNat = B := by omega
          have qc : (qI u 72 x.toInt.toNat).toInt.toNat = (qI U 0 123).toInt.toNat := by rw [q3]
          refine ⟨⟨by omega, by omega, by omega, fun i hi => ?_, ?_, by omega, by omega, by omega, fun c' hc' => ?_⟩, fun p hp hw => ?_⟩
          · rw [qb, q2]; exact p13 i (by omega)
          · rw [qb, q2]; exact p14
          · rw [qc, q2]; exact p16 c' (by omega)
          · rw [qb] at hw ⊢
            exact p15 p (by omega) hw
        · exact (dm m' (by omega)).mv tb (by omega) xlt eB (by omega) ⟨b2.1, by omega⟩ p6 p7 p8 p9 p10 p11 p12
      · rw [ekN] at hm'
        rw [p8 q (fun j hj wj y => ?_)]
        · exact wd m' i q (by omega) hM hi wi y1 y2
        · have := tb x.toInt.toNat m' j i hM hj hi (Or.inl (by omega)) wj wi
          omega
  have zz : (0 : Int32).toInt = 0 := rfl
  refine ⟨_, L88 _ S 0 (by decide) (by omega) ⟨frm.rf, by rw [z0.1, z0.2]; omega, fun n hn => by omega, fun n i q _ _ _ _ _ _ => rfl⟩ (Nat.lt_succ_self _)⟩
