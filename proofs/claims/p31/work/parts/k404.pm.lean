/-! putMethod, its first loop: the rows are laid (behind OpR, wtV, wtS) -/
def DrP (S : MS) (a b c : Int32) (u : MS) : Prop := frm [74] [122] S u ∧ (qI u 0 122).toInt = (qI S 0 122).toInt + 1 ∧ (∀ j : Nat, j < 3 * (qI S 0 122).toInt.toNat → qI u 74 j = qI S 74 j) ∧ qI u 74 (3 * (qI S 0 122).toInt.toNat) = a ∧ qI u 74 (3 * (qI S 0 122).toInt.toNat + 1) = b ∧ qI u 74 (3 * (qI S 0 122).toInt.toNat + 2) = c
theorem sp_draftRow {S : MS} {a b c : Int32} (h : 0 ≤ (qI S 0 122).toInt ∧ (qI S 0 122).toInt < 29000) : w_draftRow S a b c (DrP S a b c) := by
  have e3 : ((3 : Int32) * qI S 0 122).toInt = 3 * (qI S 0 122).toInt := by rw [t_mul (by rw [li_3]; omega), li_3]
  have e4 : ((3 : Int32) * qI S 0 122 + 1).toInt = 3 * (qI S 0 122).toInt + 1 := by rw [t_add (by rw [li_1]; omega), li_1, e3]
  have e5 : ((3 : Int32) * qI S 0 122 + 2).toInt = 3 * (qI S 0 122).toInt + 2 := by rw [t_add (by rw [li_2]; omega), li_2, e3]
  have e1 : (qI S 0 122 + (1 : Int32)).toInt = (qI S 0 122).toInt + 1 := by rw [t_add (by rw [li_1]; omega), li_1]
  unfold w_draftRow
  refine ⟨by omega, fun A eA => ?_⟩
  have a0 : qI A 0 122 = qI S 0 122 := by rw [eA, rdH (by decide)]
  rw [a0]
  refine ⟨by omega, fun B eB => ?_⟩
  have b0 : qI B 0 122 = qI S 0 122 := by rw [eB, rdH (by decide), a0]
  rw [b0]
  refine ⟨by omega, fun C eC D eD => ?_⟩
  have c0 : qI C 0 122 = qI S 0 122 := by rw [eC, rdH (by decide), b0]
  rw [e3] at eA
  rw [e4] at eB
  rw [e5] at eC
  have fA : frm [74] [122] S A := by rw [eA]; exact frm.pI (by decide)
  have fB : frm [74] [122] A B := by rw [eB]; exact frm.pI (by decide)
  have fC : frm [74] [122] B C := by rw [eC]; exact frm.pI (by decide)
  have fD : frm [74] [122] C D := by rw [eD]; exact frm.pI0 (by decide)
  have d74 : qI D 74 = qI C 74 := by rw [eD, rdH (by decide)]
  refine ⟨fA.tr (fB.tr (fC.tr fD)), ?_, fun j hj => ?_, ?_, ?_, ?_⟩
  · rw [eD, qI_wI, if_pos ⟨rfl, rfl⟩, c0, e1]
  · rw [d74, eC, qI_wI, if_neg (fun q => by omega), eB, qI_wI, if_neg (fun q => by omega), eA, qI_wI, if_neg (fun q => by omega)]
  · rw [d74, eC, qI_wI, if_neg (fun q => by omega), eB, qI_wI, if_neg (fun q => by omega), eA, qI_wI, if_pos ⟨rfl, by omega⟩]
  · rw [d74, eC, qI_wI, if_neg (fun q => by omega), eB, qI_wI, if_pos ⟨rfl, by omega⟩]
  · rw [d74, eC, qI_wI, if_pos ⟨rfl, by omega⟩]
def wtF (S : MS) (i : Nat) : Nat := (wtV (qI S 78 i).toInt (qI S 80 i).toInt).toNat
def rowE (S U : MS) (j q : Nat) : Prop := qI U 74 (3 * q) = qI S 78 j ∧ qI U 74 (3 * q + 1) = qI S 79 j ∧ qI U 74 (3 * q + 2) = qI S 80 j
/-- a row of a counter -/
def cRo (F : Int) (o a : Int32) : Prop := o.toInt = 20 ∨ o.toInt = 97 ∨ ((o.toInt = 178 ∨ o.toInt = 179) ∧ 0 ≤ a.toInt ∧ a.toInt < F)
def PmJ (S U : MS) (Z : Nat → Int32) (B : Nat) (F : Int) (x e c : Nat) : Prop := (frm [70, 74, 91, 92] [122] S U ∧ (qI U 0 122).toInt = (B : Int) + e ∧ e ≤ x + c ∧ ((∀ j : Nat, j < 3 * B → qI U 74 j = qI S 74 j) ∧ qI U 70 = Z) ∧ wtS (qI U 74) B e ≤ ((sumN (wtF S) x : Nat) : Int) + 3 * (c : Int)) ∧ (∀ j : Nat, j < x → (0 ≤ (qI U 91 j).toInt ∧ (qI U 91 j).toInt ≤ e) ∧ ((qI S 81 j).toInt = 0 → (qI U 91 j).toInt < e)) ∧ (∀ j : Nat, j < x → (qI S 81 j).toInt = 0 → ∃ p : Nat, p < e ∧ (qI U 92 j).toInt = (B : Int) + p ∧ rowE S U j (B + p)) ∧ (∀ p : Nat, p < e → (∃ j : Nat, j < x ∧ (qI S 81 j).toInt = 0 ∧ (qI U 92 j).toInt = (B : Int) + p) ∨ cRo F (qI U 74 (3 * (B + p))) (qI U 74 (3 * (B + p) + 1))) ∧ ∀ i j : Nat, i < x → j < x → (qI S 81 i).toInt = 0 → (qI S 81 j).toInt = 0 → (qI U 92 i).toInt = (qI U 92 j).toInt → i = j
/-- a row of a counter is laid -/
theorem PmJ.cn {S U V : MS} {Z : Nat → Int32} {B : Nat} {F : Int} {x e c : Nat} {a b d : Int32} (h : PmJ S U Z B F x e c) (k : DrP U a b d V) (hc : cRo F a b) : PmJ S V Z B F x (e + 1) (c + 1) := by
  obtain ⟨⟨f, n1, n2, n3, n4⟩, h2, h3, h4, h5⟩ := h
  obtain ⟨g, k1, k2, k3, k4, k5⟩ := k
  have en : (qI U 0 122).toInt.toNat = B + e := by omega
  rw [en] at k2 k3 k4 k5
  have g91 : qI V 91 = qI U 91 := (g.2.2.2.2.1 91 (by decide) (by decide)).1
  have g92 : qI V 92 = qI U 92 := (g.2.2.2.2.1 92 (by decide) (by decide)).1
  have w : wtS (qI V 74) B (e + 1) = wtS (qI U 74) B e + wtV a.toInt d.toInt := by
    show wtS (qI V 74) B e + wtR (qI V 74) (B + e) = _
    rw [wtS_eq (R := qI U 74) e (fun j _ hj => k2 j hj)]
    unfold wtR
    rw [k3, k5]
  have w3 : wtV a.toInt d.toInt ≤ 3 := wt3 (by unfold cRo at hc; omega)
  refine ⟨⟨f.tr (g.mo (by decide) (by decide)), by omega, by omega, ⟨fun j hj => by rw [k2 j (by omega)]; exact n3.1 j hj, by rw [(g.2.2.2.2.1 70 (by decide) (by decide)).1]; exact n3.2⟩, by rw [w]; omega⟩, fun j hj => ?_, fun j hj q => ?_, fun p hp => ?_, ?_⟩
  · rw [g91]
    have := h2 j hj
    exact ⟨by omega, fun q => by have := this.2 q; omega⟩
  · obtain ⟨p, p1, p2, p3, p4, p5⟩ := h3 j hj q
    exact ⟨p, by omega, by rw [g92]; exact p2, by rw [k2 _ (by omega)]; exact p3, by rw [k2 _ (by omega)]; exact p4, by rw [k2 _ (by omega)]; exact p5⟩
  · by_cases q : p = e
    · subst q
      rw [k3, k4]
      exact Or.inr hc
    · rw [g92, k2 _ (by omega), k2 _ (by omega)]
      exact h4 p (by omega)
  · rw [g92]
    exact h5
/-- a row that is there is laid -/
theorem PmJ.pl {S U W V : MS} {Z : Nat → Int32} {B : Nat} {F : Int} {x e c : Nat} (h : PmJ S U Z B F x e c) (gx : (qI S 81 x).toInt = 0) (n91 : 0 ≤ (qI U 91 x).toInt ∧ (qI U 91 x).toInt ≤ e) (eW : W = wI U 92 x (qI U 0 122)) (k : DrP W (qI W 78 x) (qI W 79 x) (qI W 80 x) V) : PmJ S V Z B F (x + 1) (e + 1) c := by
  obtain ⟨⟨f, n1, n2, n3, n4⟩, h2, h3, h4, h5⟩ := h
  obtain ⟨g, k1, k2, k3, k4, k5⟩ := k
  have fW : frm [70, 74, 91, 92] [122] U W := by rw [eW]; exact frm.pI (by decide)
  have fSW := f.tr fW
  have z := fun (a : Nat) (h1 : a ≠ 0) (h2 : a ∉ [70, 74, 91, 92]) => (fSW.2.2.2.2.1 a h1 h2).1
  have w122 : qI W 0 122 = qI U 0 122 := by rw [eW, rdH (by decide)]
  rw [w122] at k1 k2 k3 k4 k5
  have en : (qI U 0 122).toInt.toNat = B + e := by omega
  rw [en] at k2 k3 k4 k5
  rw [z 78 (by decide) (by decide)] at k3
  rw [z 79 (by decide) (by decide)] at k4
  rw [z 80 (by decide) (by decide)] at k5
  have w74 : qI W 74 = qI U 74 := by rw [eW, rdH (by decide)]
  rw [w74] at k2
  have g91 : qI V 91 = qI U 91 := by rw [(g.2.2.2.2.1 91 (by decide) (by decide)).1, eW, rdH (by decide)]
  have g92 : ∀ j : Nat, qI V 92 j = if j = x then qI U 0 122 else qI U 92 j := fun j => by
    rw [(g.2.2.2.2.1 92 (by decide) (by decide)).1, eW, qI_wI]
    by_cases q : j = x
    · rw [if_pos ⟨rfl, q⟩, if_pos q]
    · rw [if_neg (fun y => q y.2), if_neg q]
  have w : wtS (qI V 74) B (e + 1) = wtS (qI U 74) B e + wtV (qI S 78 x).toInt (qI S 80 x).toInt := by
    show wtS (qI V 74) B e + wtR (qI V 74) (B + e) = _
    rw [wtS_eq (R := qI U 74) e (fun j _ hj => k2 j hj)]
    unfold wtR
    rw [k3, k5]
  have wf : wtV (qI S 78 x).toInt (qI S 80 x).toInt ≤ ((wtF S x : Nat) : Int) := by unfold wtF; omega
  have su : sumN (wtF S) (x + 1) = sumN (wtF S) x + wtF S x := rfl
  refine ⟨⟨fSW.tr (g.mo (by decide) (by decide)), by omega, by omega, ⟨fun j hj => by rw [k2 j (by omega)]; exact n3.1 j hj, by rw [(g.2.2.2.2.1 70 (by decide) (by decide)).1, eW, rdH (by decide)]; exact n3.2⟩, by rw [w, su]; omega⟩, fun j hj => ?_, fun j hj q => ?_, fun p hp => ?_, fun i j hi hj gi gj q => ?_⟩
  · rw [g91]
    by_cases y : j = x
    · subst y
      exact ⟨by omega, fun _ => by omega⟩
    · have := h2 j (by omega)
      exact ⟨by omega, fun q => by have := this.2 q; omega⟩
  · by_cases y : j = x
    · subst y
      exact ⟨e, by omega, by rw [g92, if_pos rfl]; exact n1, k3, k4, k5⟩
    · obtain ⟨p, p1, p2, p3, p4, p5⟩ := h3 j (by omega) q
      exact ⟨p, by omega, by rw [g92, if_neg y]; exact p2, by rw [k2 _ (by omega)]; exact p3, by rw [k2 _ (by omega)]; exact p4, by rw [k2 _ (by omega)]; exact p5⟩
  · by_cases q : p = e
    · subst q
      exact Or.inl ⟨x, by omega, gx, by rw [g92, if_pos rfl]; exact n1⟩
    · rcases h4 p (by omega) with ⟨j, j1, j2, j3⟩ | y
      · exact Or.inl ⟨j, by omega, j2, by rw [g92, if_neg (by omega)]; exact j3⟩
      · rw [k2 _ (by omega), k2 _ (by omega)]
        exact Or.inr y
  · rw [g92, g92] at q
    by_cases y : i = x
    · by_cases y2 : j = x
      · omega
      · rw [if_pos y, if_neg y2] at q
        obtain ⟨p, p1, p2, _⟩ := h3 j (by omega) gj
        omega
    · by_cases y2 : j = x
      · rw [if_neg y, if_pos y2] at q
        obtain ⟨p, p1, p2, _⟩ := h3 i (by omega) gi
        omega
      · rw [if_neg y, if_neg y2] at q
        exact h5 i j (by omega) (by omega) gi gj q
/-! putMethod, its first loop (behind PmJ) -/
theorem pm_L21 {S : MS} {Q : MS → Prop} {Z : Nat → Int32} {B N K : Nat} {F : Int} {m x2 bs : Int32} {rc : Nat → Nat} (hN : gN S = N ∧ N ≤ 1200) (hb : bs.toInt = B) (hB : B + N + 4 * K ≤ 29000) (r1 : ∀ i : Nat, rc i ≤ K) (r2 : ∀ i : Nat, i < N → rc i ≤ rc (i + 1)) (r3 : ¬ x2.toInt < 0 → x2.toInt + K ≤ F ∧ F ≤ 24 ∧ ∀ i : Nat, i < N → (0 ≤ (qI S 50 i).toInt ∧ (qI S 50 i).toInt < 1200) ∧ ((qI S 81 i).toInt = 0 → (qI S 49 (qI S 50 i).toInt.toNat).toInt = i → ¬ (qI S 53 (qI S 50 i).toInt.toNat).toInt = 0 → rc i + 1 ≤ rc (i + 1))) (done : ∀ (U : MS) (e c : Nat), PmJ S U Z B F N e c → c ≤ 4 * K → (∀ S9, S9 = wI U 91 (((qI U 0 129).toInt).toNat) ((qI U 0 122) - bs) → ((qR S9 60 15 = some (qO S9 60 15)) ∧ (((0 : Int) ≤ m.toInt ∧ m.toInt < (qN S9 (qO S9 60 15) : Int)) ∧ (∀ S14, S14 = wI S9 (qO S9 60 15) m.toInt.toNat ((qI S9 0 122) - bs) → (∃ n, w_putMethod_L206 Q n S14 m 0)))))) : ∀ (k : Nat) (U : MS) (t x : Int32) (e n : Nat), 0 ≤ x.toInt → x.toInt ≤ N → PmJ S U Z B F x.toInt.toNat e (4 * n) → (¬ x2.toInt < 0 → t.toInt = x2.toInt + n) → n ≤ rc x.toInt.toNat → (1200 - x.toInt).toNat < k → w_putMethod_L21 Q k U m x2 bs t x := by
  intro k
  induction k with
  | zero => intro U t x e n _ _ _ _ _ h9; exact absurd h9 (Nat.not_lt_zero _)
  | succ k ih =>
    intro U t x e n x0 xN h ht hn hk
    have f := h.1.1
    have n1 := h.1.2.1
    have n2 := h.1.2.2.1
    have rk := r1 x.toInt.toNat
    have eg : (qI U 0 129).toInt = N := by rw [(f.2.2.2.2.2 129 (by decide)).1]; exact hN.1
    unfold w_putMethod_L21
    refine ⟨fun c1 => ⟨by omega, done U e (4 * n) (by rw [show x.toInt.toNat = N by omega] at h; exact h) (by omega)⟩, fun c1 => ⟨by omega, fun A eA => ⟨by omega, ?_⟩⟩⟩
    have ek : (x + Int32.ofInt 1).toInt = x.toInt + 1 := by rw [t_add (by rw [lo_1]; omega), lo_1]
    have ekN : (x + Int32.ofInt 1).toInt.toNat = x.toInt.toNat + 1 := by omega
    have rm := r2 x.toInt.toNat (by omega)
    -- the place of x is set
    have fA : frm [70, 74, 91, 92] [122] U A := by rw [eA]; exact frm.pI (by decide)
    have a91 : ∀ j : Nat, j ≠ x.toInt.toNat → qI A 91 j = qI U 91 j := fun j hj => by rw [eA, qI_wI, if_neg (fun q => hj q.2)]
    have s122 : (qI U 0 122 - bs).toInt = e := by rw [t_sub (by omega)]; omega
    have ax : (qI A 91 x.toInt.toNat).toInt = e := by rw [eA, qI_wI, if_pos ⟨rfl, rfl⟩, s122]
    have a74 : qI A 74 = qI U 74 := by rw [eA, rdH (by decide)]
    have a92 : qI A 92 = qI U 92 := by rw [eA, rdH (by decide)]
    have a0 : qI A 0 = qI U 0 := by rw [eA, rdH (by decide)]
    have hA : PmJ S A Z B F x.toInt.toNat e (4 * n) := by
      obtain ⟨⟨_, p2, p3, p4, p5⟩, h2, h3, h4, h5⟩ := h
      refine ⟨⟨f.tr fA, by rw [a0]; exact p2, p3, ⟨by rw [a74]; exact p4.1, by rw [eA, rdH (by decide)]; exact p4.2⟩, by rw [a74]; exact p5⟩, fun j hj => by rw [a91 j (by omega)]; exact h2 j hj, ?_, by rw [a92, a74]; exact h4, by rw [a92]; exact h5⟩
      unfold rowE at h3 ⊢
      rw [a92, a74]
      exact h3
    have z := fun (a : Nat) (h1 : a ≠ 0) (h2 : a ∉ [70, 74, 91, 92]) => ((f.tr fA).2.2.2.2.1 a h1 h2).1
    have a81 := z 81 (by decide) (by decide)
    rw [a81]
    -- the row of x is laid, and on
    have J131 : ∀ (V : MS) (t2 : Int32) (e2 n2 : Nat), PmJ S V Z B F x.toInt.toNat e2 (4 * n2) → qI V 91 = qI A 91 → e ≤ e2 → (¬ x2.toInt < 0 → t2.toInt = x2.toInt + n2) → n2 ≤ rc (x.toInt.toNat + 1) → (qI S 81 x.toInt.toNat).toInt = 0 → w_putMethod_J131 Q (w_putMethod_L21 Q k) V m x2 bs t2 x := fun V t2 e2 n2 hV v91 ee ht2 hn2 gx => by
      have m1 := hV.1.2.1
      have m2 := hV.1.2.2.1
      have rk2 := r1 (x.toInt.toNat + 1)
      unfold w_putMethod_J131 w_putMethod_J167
      refine ⟨by omega, fun W eW => ⟨by omega, by omega, by omega, _, sp_draftRow (by rw [eW, rdH (by decide)]; omega), ?_⟩⟩
      intro X hX a ea
      subst ea
      have p := hV.pl gx (by rw [v91, ax]; omega) eW hX
      exact ih X t2 _ (e2 + 1) n2 (by omega) (by omega) (by rw [ekN]; exact p) ht2 (by rw [ekN]; exact hn2) (by omega)
    have J0 : (qI S 81 x.toInt.toNat).toInt = 0 → w_putMethod_J131 Q (w_putMethod_L21 Q k) A m x2 bs t x := fun gx => J131 A t e n hA rfl (Nat.le_refl _) ht (by omega) gx
    refine ⟨fun gx => ⟨fun _ => J0 gx, fun c2 => ⟨by omega, ?_⟩⟩, fun gx => ?_⟩
    · obtain ⟨q1, q2, q3⟩ := r3 c2
      have q4 := q3 x.toInt.toNat (by omega)
      rw [z 50 (by decide) (by decide), z 49 (by decide) (by decide), z 53 (by decide) (by decide)]
      refine ⟨by omega, fun c3 => ⟨by omega, by omega, fun _ => J0 gx, fun c4 => ?_⟩, fun _ => J0 gx⟩
      have q5 := q4.2 gx (by omega) c4
      have rk2 := r1 (x.toInt.toNat + 1)
      have tt := ht c2
      have a1 := hA.1.2.1
      refine ⟨_, sp_draftRow (by omega), fun V1 h1 => ?_⟩
      have p1 := hA.cn h1 (Or.inr (Or.inr ⟨Or.inl rfl, by omega, by omega⟩))
      have b1 := p1.1.2.1
      refine ⟨_, sp_draftRow (by omega), fun V2 h2 => ?_⟩
      have p2 := p1.cn h2 (Or.inl rfl)
      have b2 := p2.1.2.1
      refine ⟨_, sp_draftRow (by omega), fun V3 h3 => ?_⟩
      have p3 := p2.cn h3 (Or.inr (Or.inl rfl))
      have b3 := p3.1.2.1
      refine ⟨_, sp_draftRow (by omega), fun V4 h4 => ?_⟩
      have p4 := p3.cn h4 (Or.inr (Or.inr ⟨Or.inr rfl, by omega, by omega⟩))
      intro t2 et
      have e91 : qI V4 91 = qI A 91 := by rw [(h4.1.2.2.2.2.1 91 (by decide) (by decide)).1, (h3.1.2.2.2.2.1 91 (by decide) (by decide)).1, (h2.1.2.2.2.2.1 91 (by decide) (by decide)).1, (h1.1.2.2.2.2.1 91 (by decide) (by decide)).1]
      refine J131 V4 t2 (e + 1 + 1 + 1 + 1) (n + 1) (by rw [show 4 * (n + 1) = 4 * n + 1 + 1 + 1 + 1 by omega]; exact p4) e91 (by omega) (fun _ => ?_) (by omega) gx
      rw [et, t_add (by rw [lo_1]; omega), lo_1]
      omega
    · unfold w_putMethod_J167
      intro a ea
      subst ea
      refine ih A t _ e n (by omega) (by omega) ?_ ht (by rw [ekN]; omega) (by omega)
      rw [ekN]
      obtain ⟨⟨p1, p2, p3, p4, p5⟩, h2, h3, h4, h5⟩ := hA
      have su : sumN (wtF S) (x.toInt.toNat + 1) = sumN (wtF S) x.toInt.toNat + wtF S x.toInt.toNat := rfl
      refine ⟨⟨p1, p2, by omega, p4, by rw [su]; omega⟩, fun j hj => ?_, fun j hj q => ?_, fun p hp => ?_, fun i j hi hj gi gj q => ?_⟩
      · by_cases y : j = x.toInt.toNat
        · subst y
          exact ⟨by omega, fun q => absurd q gx⟩
        · exact h2 j (by omega)
      · by_cases y : j = x.toInt.toNat
        · subst y; exact absurd q gx
        · exact h3 j (by omega) q
      · rcases h4 p hp with ⟨j, j1, j2, j3⟩ | y
        · exact Or.inl ⟨j, by omega, j2, j3⟩
        · exact Or.inr y
      · have y1 : i ≠ x.toInt.toNat := fun y => gx (by rw [← y]; exact gi)
        have y2 : j ≠ x.toInt.toNat := fun y => gx (by rw [← y]; exact gj)
        exact h5 i j (by omega) (by omega) gi gj q
/-! putMethod: ways get their new aims (behind OpR, OpA) -/
/-- the same rows, as far as aims go -/
def smA (S u : MS) : Prop := qI u 0 129 = qI S 0 129 ∧ qI u 78 = qI S 78 ∧ qI u 79 = qI S 79 ∧ qI u 80 = qI S 80 ∧ qI u 81 = qI S 81
theorem smA.hr {S u : MS} (h : smA S u) {i r : Nat} : HrP u i r ↔ HrP S i r := by
  unfold HrP gN
  rw [h.1, h.2.2.2.2]
theorem smA.fm {S u v : MS} {W J : List Nat} (h : smA S u) (f : frm W J u v) (hW : W.all (fun w => ! [78, 79, 80, 81].contains w) = true) (hJ : 129 ∉ J) : smA S v := by
  have z : ∀ a : Nat, a ∈ [78, 79, 80, 81] → qI v a = qI u a := fun a ha => (f.2.2.2.2.1 a (fun q => by subst q; revert ha; decide) (fun q => by
    have y := List.all_eq_true.mp hW a q
    rw [List.contains_iff_mem.mpr ha] at y
    exact absurd y (by decide))).1
  exact ⟨(f.2.2.2.2.2 129 hJ).1.trans h.1, (z 78 (by decide)).trans h.2.1, (z 79 (by decide)).trans h.2.2.1, (z 80 (by decide)).trans h.2.2.2.1, (z 81 (by decide)).trans h.2.2.2.2⟩
def tA (S : MS) (i : Nat) : Nat := (qI S 79 i).toInt.toNat
def tB (S : MS) (i : Nat) : Int := (qI S 80 i).toInt
theorem aim_tab {S U0 : MS} {L F M e : Int} {l : Nat} {x : Int32} (h : OpR S L F M) (ha : OpA S l) (s : smA S U0) (np : ∀ r : Nat, (r : Int) < gN S → (qI S 81 r).toInt = 0 → 0 ≤ (qI U0 91 r).toInt ∧ (qI U0 91 r).toInt < e) (hx : 0 ≤ x.toInt ∧ x.toInt < gN S) (g : (qI S 81 x.toInt.toNat).toInt = 0) (hs : (qI S 78 x.toInt.toNat).toInt = 170 ∨ (qI S 78 x.toInt.toNat).toInt = 171) (old : ∀ k : Nat, (k : Int) ≤ tB S x.toInt.toNat → qI U0 75 (tA S x.toInt.toNat + 2 * k) = qI S 75 (tA S x.toInt.toNat + 2 * k)) : ∃ n, w_aimRow_L52 (fun u => frm [75] [] U0 u ∧ (∀ q : Nat, ¬ (tA S x.toInt.toNat ≤ q ∧ (q : Int) ≤ tA S x.toInt.toNat + 2 * tB S x.toInt.toNat) → qI u 75 q = qI U0 75 q) ∧ ∀ k : Nat, (k : Int) ≤ tB S x.toInt.toNat → 0 ≤ (qI u 75 (tA S x.toInt.toNat + 2 * k)).toInt ∧ (qI u 75 (tA S x.toInt.toNat + 2 * k)).toInt < e) n U0 x 0 := by
  have b := h.1
  have ll := ha.1.1
  have rx : 0 ≤ x.toInt ∧ x.toInt < 1200 := by omega
  have l2 : (2 : Int32).toInt = 2 := by decide
  obtain ⟨a0, b0, b1, ab, wd, _⟩ := (h.2.2.1 x.toInt.toNat (by omega)).2.2.1 hs
  have nj : (f_isJump S (qI S 78 x.toInt.toNat)).toInt = 0 := by
    by_cases q : (f_isJump S (qI S 78 x.toInt.toNat)).toInt = 0
    · exact q
    · have := jp_op q; omega
  have wy : wyN S x.toInt.toNat = tB S x.toInt.toNat + 1 := by
    unfold wyN tB
    rw [if_pos nj, if_neg (sw_is hs)]
  have tg : ∀ k : Nat, tgV S x.toInt.toNat k = qI S 75 (tA S x.toInt.toNat + 2 * k) := fun k => by
    unfold tgV tA
    rw [if_pos nj]
  have ea : (qI S 79 x.toInt.toNat).toInt = tA S x.toInt.toNat := by unfold tA; omega
  have eb : (qI S 80 x.toInt.toNat).toInt = tB S x.toInt.toNat := rfl
  have et : (qI S 79 x.toInt.toNat).toInt.toNat = tA S x.toInt.toNat := rfl
  rw [eb] at b0 b1 ab wd
  rw [ea] at ab
  rw [et] at wd
  have L52 : ∀ (c : Nat) (U : MS) (k : Int32), frm [75] [] U0 U → 0 ≤ k.toInt → (∀ q : Nat, ¬ (tA S x.toInt.toNat ≤ q ∧ (q : Int) ≤ tA S x.toInt.toNat + 2 * tB S x.toInt.toNat) → qI U 75 q = qI U0 75 q) → (∀ j : Nat, (j : Int) ≤ tB S x.toInt.toNat → ((j : Int) < k.toInt → 0 ≤ (qI U 75 (tA S x.toInt.toNat + 2 * j)).toInt ∧ (qI U 75 (tA S x.toInt.toNat + 2 * j)).toInt < e) ∧ (k.toInt ≤ j → qI U 75 (tA S x.toInt.toNat + 2 * j) = qI S 75 (tA S x.toInt.toNat + 2 * j))) → (202 - k.toInt).toNat < c → w_aimRow_L52 (fun u => frm [75] [] U0 u ∧ (∀ q : Nat, ¬ (tA S x.toInt.toNat ≤ q ∧ (q : Int) ≤ tA S x.toInt.toNat + 2 * tB S x.toInt.toNat) → qI u 75 q = qI U0 75 q) ∧ ∀ k : Nat, (k : Int) ≤ tB S x.toInt.toNat → 0 ≤ (qI u 75 (tA S x.toInt.toNat + 2 * k)).toInt ∧ (qI u 75 (tA S x.toInt.toNat + 2 * k)).toInt < e) c U x k := by
    intro c
    induction c with
    | zero => intro U k _ _ _ _ h9; exact absurd h9 (Nat.not_lt_zero _)
    | succ c ih =>
      intro U k fU k0 hq hw hc
      have sU := s.fm fU (by decide) (by decide)
      unfold w_aimRow_L52
      rw [sU.2.2.2.1, sU.2.2.1, eb]
      refine ⟨rx, fun c1 => ⟨fU, hq, fun j hj => (hw j hj).1 (by omega)⟩, fun c1 => ⟨rx, rx, ?_⟩⟩
      have e2 : ((2 : Int32) * k).toInt = 2 * k.toInt := by rw [t_mul (by rw [l2]; omega), l2]
      have e3 : (qI S 79 x.toInt.toNat + (2 : Int32) * k).toInt = tA S x.toInt.toNat + 2 * k.toInt := by rw [t_add (by rw [e2]; omega), e2, ea]
      have e4 : ((tA S x.toInt.toNat : Int) + 2 * k.toInt).toNat = tA S x.toInt.toNat + 2 * k.toInt.toNat := by omega
      have ek : (k + Int32.ofInt 1).toInt = k.toInt + 1 := by rw [t_add (by rw [lo_1]; omega), lo_1]
      rw [e3, e4]
      have wk := (hw k.toInt.toNat (by omega)).2 (by omega)
      have w1 := wd k.toInt.toNat (by omega)
      have al := ha.2.1 x.toInt.toNat k.toInt.toNat (by omega) g (by rw [wy]; omega)
      rw [tg] at al
      rw [wk]
      have eg : gN U = gN S := by unfold gN; rw [sU.1]
      refine ⟨by omega, _, fn_here (by rw [eg]; omega) (by rw [eg]; omega), ?_⟩
      rintro r V ⟨eV, r0, r1⟩
      subst eV
      rw [sU.hr] at r1
      have rl := r1.le (j := l) (by omega) ha.1.2.1
      have gr := r1.2.2.1 (by omega)
      have n1 := np r.toInt.toNat (by omega) gr
      refine ⟨by omega, by omega, fun D eD a ea' => ?_⟩
      subst ea'
      have v91 : qI V 91 = qI U0 91 := (fU.2.2.2.2.1 91 (by decide) (by decide)).1
      rw [v91] at eD
      have d75 : ∀ q : Nat, q ≠ tA S x.toInt.toNat + 2 * k.toInt.toNat → qI D 75 q = qI V 75 q := fun q hq => by rw [eD, qI_wI, if_neg (fun y => hq y.2)]
      have dk : qI D 75 (tA S x.toInt.toNat + 2 * k.toInt.toNat) = qI U0 91 r.toInt.toNat := by rw [eD, qI_wI, if_pos ⟨rfl, rfl⟩]
      refine ih D _ (fU.tr (by rw [eD]; exact frm.pI (by decide))) (by omega) (fun q y => by rw [d75 q (by omega)]; exact hq q y) (fun j hj => ⟨fun y => ?_, fun y => by rw [d75 _ (by omega)]; exact (hw j hj).2 (by omega)⟩) (by omega)
      by_cases w : j = k.toInt.toNat
      · rw [w, dk]; exact n1
      · rw [d75 _ (by omega)]
        exact (hw j hj).1 (by omega)
  have z0 : (0 : Int32).toInt = 0 := rfl
  exact ⟨_, L52 _ U0 0 frm.rf (by decide) (fun _ _ => rfl) (fun j hj => ⟨fun y => by omega, fun _ => old j hj⟩) (Nat.lt_succ_self _)⟩
/-- one row gets its aims -/
def AmP (S U : MS) (e : Int) (i pl : Nat) (u : MS) : Prop := frm [74, 75] [] U u ∧ (∀ q : Nat, ¬ (q = 3 * pl + 1 ∧ ¬ (f_isJump S (qI S 78 i)).toInt = 0) → qI u 74 q = qI U 74 q) ∧ (¬ (f_isJump S (qI S 78 i)).toInt = 0 → 0 ≤ (qI u 74 (3 * pl + 1)).toInt ∧ (qI u 74 (3 * pl + 1)).toInt < e) ∧ (∀ q : Nat, ¬ (((qI S 78 i).toInt = 170 ∨ (qI S 78 i).toInt = 171) ∧ tA S i ≤ q ∧ (q : Int) ≤ tA S i + 2 * tB S i) → qI u 75 q = qI U 75 q) ∧ ((qI S 78 i).toInt = 170 ∨ (qI S 78 i).toInt = 171 → ∀ k : Nat, (k : Int) ≤ tB S i → 0 ≤ (qI u 75 (tA S i + 2 * k)).toInt ∧ (qI u 75 (tA S i + 2 * k)).toInt < e)
theorem sp_aimRow {S U : MS} {L F M e : Int} {l : Nat} {x p : Int32} (h : OpR S L F M) (ha : OpA S l) (s : smA S U) (np : ∀ r : Nat, (r : Int) < gN S → (qI S 81 r).toInt = 0 → 0 ≤ (qI U 91 r).toInt ∧ (qI U 91 r).toInt < e) (hx : 0 ≤ x.toInt ∧ x.toInt < gN S) (g : (qI S 81 x.toInt.toNat).toInt = 0) (hp : 0 ≤ p.toInt ∧ p.toInt < 29000) (old : (qI S 78 x.toInt.toNat).toInt = 170 ∨ (qI S 78 x.toInt.toNat).toInt = 171 → ∀ k : Nat, (k : Int) ≤ tB S x.toInt.toNat → qI U 75 (tA S x.toInt.toNat + 2 * k) = qI S 75 (tA S x.toInt.toNat + 2 * k)) : w_aimRow U x p (AmP S U e x.toInt.toNat p.toInt.toNat) := by
  have b := h.1
  have ll := ha.1.1
  have rx : 0 ≤ x.toInt ∧ x.toInt < 1200 := by omega
  have dj : ∀ (V : MS) (o : Int32), d_isJump V o ∧ d_isSwitch V o := fun V o => by
    unfold d_isJump d_isJump_J14 d_isJump_J28 d_isSwitch d_isSwitch_J14
    simp only [ite_self]
    exact ⟨trivial, trivial⟩
  have eg : gN U = gN S := by unfold gN; rw [s.1]
  unfold w_aimRow
  rw [s.2.1, s.2.2.1]
  refine ⟨rx, (dj _ _).1, fun c1 => ?_, fun c1 => ⟨rx, ?_⟩⟩
  · have c1' : (f_isJump S (qI S 78 x.toInt.toNat)).toInt = 0 := c1
    unfold w_aimRow_J37
    rw [s.2.1]
    refine ⟨rx, (dj _ _).2, fun c2 => ⟨frm.rf, fun _ _ => rfl, fun q => absurd c1' q, fun _ _ => rfl, fun q => absurd c2 (sw_is q)⟩, fun c2 => ?_⟩
    have so := sw_op c2
    obtain ⟨n, hn⟩ := aim_tab h ha s np hx g so (old so)
    refine ⟨n, ?_⟩
    have mono : ∀ (Q Q' : MS → Prop), (∀ u, Q u → Q' u) → ∀ (c : Nat) (V : MS) (k : Int32), w_aimRow_L52 Q c V x k → w_aimRow_L52 Q' c V x k := by
      intro Q Q' hQ c
      induction c with
      | zero => intro V k hV; unfold w_aimRow_L52 at hV; exact hV.elim
      | succ c ih =>
        intro V k hV
        unfold w_aimRow_L52 at hV ⊢
        obtain ⟨y1, y2, y3⟩ := hV
        refine ⟨y1, fun z => hQ _ (y2 z), fun z => ?_⟩
        obtain ⟨z1, z2, z3, Q25, z4, z5⟩ := y3 z
        refine ⟨z1, z2, z3, Q25, z4, fun r V2 hr => ?_⟩
        obtain ⟨t1, t2, t3⟩ := z5 r V2 hr
        exact ⟨t1, t2, fun D eD a ea => ih D a (t3 D eD a ea)⟩
    refine mono _ _ (fun u hu => ?_) n U 0 hn
    obtain ⟨u1, u2, u3⟩ := hu
    refine ⟨u1.mo (by decide) (by decide), fun q _ => by rw [(u1.2.2.2.2.1 74 (by decide) (by decide)).1], fun q => absurd c1' q, fun q y => u2 q (fun w => y ⟨so, w⟩), fun _ => u3⟩
  · have c1' : ¬ (f_isJump S (qI S 78 x.toInt.toNat)).toInt = 0 := c1
    have jo := jp_op c1'
    have rv := (h.2.2.1 x.toInt.toNat (by omega)).2.1 jo
    have al := ha.2.1 x.toInt.toNat 0 (by omega) g (by unfold wyN; rw [if_neg c1']; decide)
    unfold tgV at al
    rw [if_neg c1'] at al
    refine ⟨_, fn_here (by rw [eg]; omega) (by rw [eg]; omega), ?_⟩
    rintro r V ⟨eV, r0, r1⟩
    subst eV
    rw [s.hr] at r1
    have rl := r1.le (j := l) (by omega) ha.1.2.1
    have gr := r1.2.2.1 (by omega)
    have n1 := np r.toInt.toNat (by omega) gr
    have e3 : ((3 : Int32) * p).toInt = 3 * p.toInt := by rw [t_mul (by rw [li_3]; omega), li_3]
    have e4 : ((3 : Int32) * p + 1).toInt = 3 * p.toInt + 1 := by rw [t_add (by rw [li_1]; omega), li_1, e3]
    rw [e4]
    refine ⟨by omega, by omega, fun D eD => ?_⟩
    have e5 : (3 * p.toInt + 1).toNat = 3 * p.toInt.toNat + 1 := by omega
    rw [e5] at eD
    have fD : frm [74, 75] [] V D := by rw [eD]; exact frm.pI (by decide)
    have sD := s.fm fD (by decide) (by decide)
    have d75 : qI D 75 = qI V 75 := by rw [eD, rdH (by decide)]
    unfold w_aimRow_J37
    rw [sD.2.1]
    refine ⟨rx, (dj _ _).2, fun _ => ⟨fD, fun q hq => by rw [eD, qI_wI, if_neg (fun y => hq ⟨y.2, c1'⟩)], fun _ => by rw [eD, qI_wI, if_pos ⟨rfl, rfl⟩]; exact n1, fun q _ => by rw [d75], fun q => by omega⟩, fun c2 => ?_⟩
    have := sw_op c2
    omega
/-! putMethod: its second loop, aims (behind sp_aimRow) -/
def isW (S : MS) (j : Nat) : Prop := (qI S 78 j).toInt = 170 ∨ (qI S 78 j).toInt = 171
def isJ (S : MS) (j : Nat) : Prop := ¬ (f_isJump S (qI S 78 j)).toInt = 0
/-- tables lie one behind the other -/
def TbD (S : MS) : Prop := ∀ i j : Nat, i < j → (j : Int) < gN S → (qI S 81 i).toInt = 0 → (qI S 81 j).toInt = 0 → isW S i → isW S j → (tA S i : Int) + 2 * tB S i + 1 ≤ tA S j
def plN (X : MS) (j : Nat) : Nat := (qI X 92 j).toInt.toNat
def AmI (S X : MS) (e : Int) (x : Nat) (U : MS) : Prop := frm [74, 75] [] X U ∧ (∀ q : Nat, (∀ j : Nat, j < x → (qI S 81 j).toInt = 0 → isJ S j → q ≠ 3 * plN X j + 1) → qI U 74 q = qI X 74 q) ∧ (∀ j : Nat, j < x → (qI S 81 j).toInt = 0 → isJ S j → 0 ≤ (qI U 74 (3 * plN X j + 1)).toInt ∧ (qI U 74 (3 * plN X j + 1)).toInt < e) ∧ (∀ q : Nat, (∀ j : Nat, j < x → (qI S 81 j).toInt = 0 → isW S j → ¬ (tA S j ≤ q ∧ (q : Int) ≤ tA S j + 2 * tB S j)) → qI U 75 q = qI X 75 q) ∧ ∀ j : Nat, j < x → (qI S 81 j).toInt = 0 → isW S j → ∀ k : Nat, (k : Int) ≤ tB S j → 0 ≤ (qI U 75 (tA S j + 2 * k)).toInt ∧ (qI U 75 (tA S j + 2 * k)).toInt < e
theorem pm_L206 {S X : MS} {Q : MS → Prop} {L F M e : Int} {l : Nat} {m : Int32} (h : OpR S L F M) (ha : OpA S l) (s : smA S X) (np : ∀ r : Nat, (r : Int) < gN S → (qI S 81 r).toInt = 0 → 0 ≤ (qI X 91 r).toInt ∧ (qI X 91 r).toInt < e) (pl : ∀ j : Nat, (j : Int) < gN S → (qI S 81 j).toInt = 0 → 0 ≤ (qI X 92 j).toInt ∧ (qI X 92 j).toInt < 29000) (inj : ∀ i j : Nat, (i : Int) < gN S → (j : Int) < gN S → (qI S 81 i).toInt = 0 → (qI S 81 j).toInt = 0 → (qI X 92 i).toInt = (qI X 92 j).toInt → i = j) (tb : TbD S) (w75 : qI X 75 = qI S 75) (done : ∀ U : MS, AmI S X e (gN S).toNat U → ((qR U 60 16 = some (qO U 60 16)) ∧ (((0 : Int) ≤ m.toInt ∧ m.toInt < (qN U (qO U 60 16) : Int)) ∧ (∀ S19, S19 = wI U (qO U 60 16) m.toInt.toNat (qI U 0 123) → (∃ n, w_putMethod_L260 Q n S19 m 0))))) : ∃ n, w_putMethod_L206 Q n X m 0 := by
  have b := h.1
  have L206 : ∀ (c : Nat) (U : MS) (x : Int32), 0 ≤ x.toInt → x.toInt ≤ gN S → AmI S X e x.toInt.toNat U → (1200 - x.toInt).toNat < c → w_putMethod_L206 Q c U m x := by
    intro c
    induction c with
    | zero => intro U x _ _ _ h9; exact absurd h9 (Nat.not_lt_zero _)
    | succ c ih =>
      intro U x x0 xN hU hc
      have hU' := hU
      obtain ⟨f, p1, p2, p3, p4⟩ := hU
      have sU := s.fm f (by decide) (by decide)
      have eg : (qI U 0 129).toInt = gN S := by rw [sU.1]; rfl
      unfold w_putMethod_L206 w_putMethod_J238
      rw [eg, sU.2.2.2.2]
      refine ⟨fun c1 => done U (by rw [show (gN S).toNat = x.toInt.toNat by omega]; exact hU'), fun c1 => ?_⟩
      have ek : (x + Int32.ofInt 1).toInt = x.toInt + 1 := by rw [t_add (by rw [lo_1]; omega), lo_1]
      have ekN : (x + Int32.ofInt 1).toInt.toNat = x.toInt.toNat + 1 := by omega
      have xlt : (x.toInt.toNat : Int) < gN S := by omega
      have u92 : qI U 92 = qI X 92 := (f.2.2.2.2.1 92 (by decide) (by decide)).1
      have u91 : qI U 91 = qI X 91 := (f.2.2.2.2.1 91 (by decide) (by decide)).1
      refine ⟨by omega, fun gx => ⟨by omega, ?_⟩, fun gx a ea => ?_⟩
      · rw [u92]
        have px := pl x.toInt.toNat xlt gx
        -- the table of x is still the old one
        have old : isW S x.toInt.toNat → ∀ k : Nat, (k : Int) ≤ tB S x.toInt.toNat → qI U 75 (tA S x.toInt.toNat + 2 * k) = qI S 75 (tA S x.toInt.toNat + 2 * k) := fun wx k hk => by
          rw [p3 _ (fun j hj gj wj q => ?_), w75]
          have := tb j x.toInt.toNat hj xlt gj gx wj wx
          omega
        refine ⟨_, sp_aimRow h ha sU (fun r r1 r2 => by rw [u91]; exact np r r1 r2) ⟨x0, by omega⟩ gx px old, ?_⟩
        rintro V ⟨fV, v1, v2, v3, v4⟩ a ea
        subst ea
        have ep : (qI X 92 x.toInt.toNat).toInt.toNat = plN X x.toInt.toNat := rfl
        rw [ep] at v1 v2
        refine ih V _ (by omega) (by omega) ?_ (by omega)
        rw [ekN]
        refine ⟨f.tr fV, fun q hq => ?_, fun j hj gj jj => ?_, fun q hq => ?_, fun j hj gj wj k hk => ?_⟩
        · rw [v1 q (fun y => hq x.toInt.toNat (by omega) gx y.2 y.1)]
          exact p1 q (fun j hj gj jj => hq j (by omega) gj jj)
        · by_cases y : j = x.toInt.toNat
          · subst y
            exact v2 jj
          · have pj := pl j (by omega) gj
            have ne : ¬ plN X j = plN X x.toInt.toNat := fun w => y (inj j x.toInt.toNat (by omega) xlt gj gx (by unfold plN at w; omega))
            rw [v1 _ (fun w => ne (by omega))]
            exact p2 j (by omega) gj jj
        · rw [v3 q (fun y => hq x.toInt.toNat (by omega) gx y.1 y.2)]
          exact p3 q (fun j hj gj wj => hq j (by omega) gj wj)
        · by_cases y : j = x.toInt.toNat
          · subst y
            exact v4 wj k hk
          · rw [v3 _ (fun w => by
              have := tb j x.toInt.toNat (by omega) xlt gj gx wj w.1
              omega)]
            exact p4 j (by omega) gj wj k hk
      · subst ea
        refine ih U _ (by omega) (by omega) ?_ (by omega)
        rw [ekN]
        have nx : ∀ j : Nat, (qI S 81 j).toInt = 0 → j ≠ x.toInt.toNat := fun j gj y => gx (by rw [← y]; exact gj)
        exact ⟨f, fun q hq => p1 q (fun j hj gj jj => hq j (by omega) gj jj), fun j hj gj jj => p2 j (by have := nx j gj; omega) gj jj, fun q hq => p3 q (fun j hj gj wj => hq j (by omega) gj wj), fun j hj gj wj => p4 j (by have := nx j gj; omega) gj wj⟩
  have z0 : (0 : Int32).toInt = 0 := rfl
  exact ⟨_, L206 _ X 0 (by decide) (by omega) ⟨frm.rf, fun _ _ => rfl, fun j hj => by omega, fun _ _ => rfl, fun j hj => by omega⟩ (Nat.lt_succ_self _)⟩
/-! putMethod: its third loop, catches (behind OpR, cOK) -/
def smH (S u : MS) : Prop := qI u 0 129 = qI S 0 129 ∧ qI u 0 135 = qI S 0 135 ∧ qI u 81 = qI S 81 ∧ qI u 82 = qI S 82 ∧ qI u 83 = qI S 83 ∧ qI u 84 = qI S 84 ∧ qI u 85 = qI S 85 ∧ qI u 86 = qI S 86
theorem smH.fm {S u v : MS} {W J : List Nat} (h : smH S u) (f : frm W J u v) (hW : W.all (fun w => ! [81, 82, 83, 84, 85, 86].contains w) = true) (h1 : 129 ∉ J) (h2 : 135 ∉ J) : smH S v := by
  have z : ∀ a : Nat, a ∈ [81, 82, 83, 84, 85, 86] → qI v a = qI u a := fun a ha => (f.2.2.2.2.1 a (fun q => by subst q; revert ha; decide) (fun q => by
    have y := List.all_eq_true.mp hW a q
    rw [List.contains_iff_mem.mpr ha] at y
    exact absurd y (by decide))).1
  exact ⟨(f.2.2.2.2.2 129 h1).1.trans h.1, (f.2.2.2.2.2 135 h2).1.trans h.2.1, (z 81 (by decide)).trans h.2.2.1, (z 82 (by decide)).trans h.2.2.2.1, (z 83 (by decide)).trans h.2.2.2.2.1, (z 84 (by decide)).trans h.2.2.2.2.2.1, (z 85 (by decide)).trans h.2.2.2.2.2.2.1, (z 86 (by decide)).trans h.2.2.2.2.2.2.2⟩
theorem smH.hr {S u : MS} (h : smH S u) {i r : Nat} : HrP u i r ↔ HrP S i r := by
  unfold HrP gN
  rw [h.1, h.2.2.1]
def DcP (U : MS) (e : Int) (u : MS) : Prop := frm [76] [123] U u ∧ (qI u 0 123).toInt = (qI U 0 123).toInt + 1 ∧ (∀ j : Nat, j < 4 * (qI U 0 123).toInt.toNat → qI u 76 j = qI U 76 j) ∧ cOK (qI u 76) e (qI U 0 123).toInt.toNat
theorem sp_draftCatch {S U : MS} {L F M e : Int} {l : Nat} {x : Int32} (h : OpR S L F M) (hl : LsP S l) (s : smH S U) (np : ∀ r : Nat, (r : Int) < gN S → (qI S 81 r).toInt = 0 → 0 ≤ (qI U 91 r).toInt ∧ (qI U 91 r).toInt < e) (nN : 0 ≤ (qI U 91 (gN S).toNat).toInt ∧ (qI U 91 (gN S).toNat).toInt ≤ e) (hx : 0 ≤ x.toInt ∧ x.toInt < (qI S 0 135).toInt) (pc : (qI S 82 x.toInt.toNat).toInt ≤ l ∧ (qI S 84 x.toInt.toNat).toInt ≤ l) (hc : 0 ≤ (qI U 0 123).toInt ∧ (qI U 0 123).toInt < 384) : w_draftCatch U x (DcP U e) := by
  have b := h.1
  have ll := hl.1
  have cc := h.2.2.2.1
  have cx := h.2.2.2.2 x.toInt.toNat (by omega)
  have rx : 0 ≤ x.toInt ∧ x.toInt < 16 := by omega
  have l3 : (3 : Int32).toInt = 3 := by decide
  have e4 : ((4 : Int32) * qI U 0 123).toInt = 4 * (qI U 0 123).toInt := by rw [t_mul (by rw [li_4]; omega), li_4]
  have f1 : ((4 : Int32) * qI U 0 123 + 1).toInt = 4 * (qI U 0 123).toInt + 1 := by rw [t_add (by rw [li_1]; omega), li_1, e4]
  have f2 : ((4 : Int32) * qI U 0 123 + 2).toInt = 4 * (qI U 0 123).toInt + 2 := by rw [t_add (by rw [li_2]; omega), li_2, e4]
  have f3 : ((4 : Int32) * qI U 0 123 + 3).toInt = 4 * (qI U 0 123).toInt + 3 := by rw [t_add (by rw [l3]; omega), l3, e4]
  have g1 : (qI U 0 123 + (1 : Int32)).toInt = (qI U 0 123).toInt + 1 := by rw [t_add (by rw [li_1]; omega), li_1]
  have eg : ∀ V : MS, smH S V → gN V = gN S := fun V sV => by unfold gN; rw [sV.1]
  have nr : ∀ r : Nat, (r : Int) ≤ gN S → ((r : Int) < gN S → (qI S 81 r).toInt = 0) → 0 ≤ (qI U 91 r).toInt ∧ (qI U 91 r).toInt ≤ e := fun r r1 r2 => by
    by_cases q : (r : Int) < gN S
    · have := np r q (r2 q); omega
    · rw [show r = (gN S).toNat by omega]; exact nN
  unfold w_draftCatch
  rw [s.2.2.2.1, e4]
  refine ⟨rx, _, fn_here (by rw [eg U s]; omega) (by rw [eg U s]; omega), ?_⟩
  rintro r V ⟨eV, r0, r1⟩
  subst eV
  rw [s.hr] at r1
  have rl := r1.le (j := l) (by omega) hl.2.1
  have n1 := np r.toInt.toNat (by omega) (r1.2.2.1 (by omega))
  refine ⟨by omega, by omega, fun A eA => ⟨rx, ?_⟩⟩
  have fA : frm [76] [123] V A := by rw [eA]; exact frm.pI (by decide)
  have sA := s.fm fA (by decide) (by decide) (by decide)
  have a0 : qI A 0 = qI V 0 := by rw [eA, rdH (by decide)]
  have a91 : qI A 91 = qI V 91 := by rw [eA, rdH (by decide)]
  rw [sA.2.2.2.2.1, a0, f1]
  refine ⟨_, fn_here (by rw [eg A sA]; omega) (by rw [eg A sA]; omega), ?_⟩
  rintro r' A' ⟨eA', r0', r1'⟩
  rw [eA']
  rw [sA.hr] at r1'
  have n2 := nr r'.toInt.toNat r1'.2.1 r1'.2.2.1
  have r2' := r1'.2.1
  refine ⟨by omega, by omega, fun B eB => ⟨rx, ?_⟩⟩
  have fB : frm [76] [123] A B := by rw [eB]; exact frm.pI (by decide)
  have sB := sA.fm fB (by decide) (by decide) (by decide)
  have b0 : qI B 0 = qI V 0 := by rw [eB, rdH (by decide), a0]
  have b91 : qI B 91 = qI V 91 := by rw [eB, rdH (by decide), a91]
  rw [sB.2.2.2.2.2.1, b0, f2]
  refine ⟨_, fn_here (by rw [eg B sB]; omega) (by rw [eg B sB]; omega), ?_⟩
  rintro r'' B' ⟨eB', r0'', r1''⟩
  rw [eB']
  rw [sB.hr] at r1''
  have rl'' := r1''.le (j := l) (by omega) hl.2.1
  have n3 := np r''.toInt.toNat (by omega) (r1''.2.2.1 (by omega))
  refine ⟨by omega, by omega, fun C eC => ⟨rx, ?_⟩⟩
  have fC : frm [76] [123] B C := by rw [eC]; exact frm.pI (by decide)
  have sC := sB.fm fC (by decide) (by decide) (by decide)
  have c0 : qI C 0 = qI V 0 := by rw [eC, rdH (by decide), b0]
  rw [sC.2.2.2.2.2.2.1, c0, f3]
  refine ⟨by omega, fun D eD E eE => ?_⟩
  have fD : frm [76] [123] C D := by rw [eD]; exact frm.pI (by decide)
  have fE : frm [76] [123] D E := by rw [eE]; exact frm.pI0 (by decide)
  have d0 : qI D 0 = qI V 0 := by rw [eD, rdH (by decide), c0]
  have e76 : qI E 76 = qI D 76 := by rw [eE, rdH (by decide)]
  refine ⟨fA.tr (fB.tr (fC.tr (fD.tr fE))), ?_, fun j hj => ?_, ?_⟩
  · rw [eE, qI_wI, if_pos ⟨rfl, rfl⟩, d0, g1]
  · rw [e76, eD, qI_wI, if_neg (fun q => by omega), eC, qI_wI, if_neg (fun q => by omega), eB, qI_wI, if_neg (fun q => by omega), eA, qI_wI, if_neg (fun q => by omega)]
  · have w0 : qI E 76 (4 * (qI V 0 123).toInt.toNat) = qI V 91 r.toInt.toNat := by
      rw [e76, eD, qI_wI, if_neg (fun q => by omega), eC, qI_wI, if_neg (fun q => by omega), eB, qI_wI, if_neg (fun q => by omega), eA, qI_wI, if_pos ⟨rfl, by omega⟩]
    have w1 : qI E 76 (4 * (qI V 0 123).toInt.toNat + 1) = qI V 91 r'.toInt.toNat := by
      rw [e76, eD, qI_wI, if_neg (fun q => by omega), eC, qI_wI, if_neg (fun q => by omega), eB, qI_wI, if_pos ⟨rfl, by omega⟩, a91]
    have w2 : qI E 76 (4 * (qI V 0 123).toInt.toNat + 2) = qI V 91 r''.toInt.toNat := by
      rw [e76, eD, qI_wI, if_neg (fun q => by omega), eC, qI_wI, if_pos ⟨rfl, by omega⟩, b91]
    have w3 : qI E 76 (4 * (qI V 0 123).toInt.toNat + 3) = qI S 85 x.toInt.toNat := by
      rw [e76, eD, qI_wI, if_pos ⟨rfl, by omega⟩]
    unfold cOK
    rw [w0, w1, w2, w3]
    exact ⟨n1, n2, n3, cx.2.2.2⟩
def LcI (Y : MS) (e : Int) (x : Nat) (U : MS) : Prop := frm [76] [123] Y U ∧ ((qI Y 0 123).toInt ≤ (qI U 0 123).toInt ∧ (qI U 0 123).toInt ≤ (qI Y 0 123).toInt + x) ∧ (∀ j : Nat, j < 4 * (qI Y 0 123).toInt.toNat → qI U 76 j = qI Y 76 j) ∧ ∀ c : Nat, (qI Y 0 123).toInt ≤ c → (c : Int) < (qI U 0 123).toInt → cOK (qI U 76) e c
theorem pm_L260 {S Y : MS} {Q : MS → Prop} {L F M e : Int} {l : Nat} {m : Int32} (h : OpR S L F M) (hl : LsP S l) (s : smH S Y) (np : ∀ r : Nat, (r : Int) < gN S → (qI S 81 r).toInt = 0 → 0 ≤ (qI Y 91 r).toInt ∧ (qI Y 91 r).toInt < e) (nN : 0 ≤ (qI Y 91 (gN S).toNat).toInt ∧ (qI Y 91 (gN S).toNat).toInt ≤ e) (pc : ∀ c : Nat, (c : Int) < (qI S 0 135).toInt → (qI S 86 c).toInt = 0 → (qI S 82 c).toInt ≤ l ∧ (qI S 84 c).toInt ≤ l) (hc : 0 ≤ (qI Y 0 123).toInt ∧ (qI Y 0 123).toInt + 16 ≤ 384) (done : ∀ (U : MS), LcI Y e 16 U → ((qR U 60 17 = some (qO U 60 17)) ∧ ((qR U 60 16 = some (qO U 60 16)) ∧ (((0 : Int) ≤ m.toInt ∧ m.toInt < (qN U (qO U 60 16) : Int)) ∧ (((0 : Int) ≤ m.toInt ∧ m.toInt < (qN U (qO U 60 17) : Int)) ∧ (∀ S29, S29 = wI U (qO U 60 17) m.toInt.toNat ((qI U 0 123) - (qI U (qO U 60 16) m.toInt.toNat)) → Q S29)))))) : ∃ n, w_putMethod_L260 Q n Y m 0 := by
  have cc := h.2.2.2.1
  have L260 : ∀ (c : Nat) (U : MS) (x : Int32), 0 ≤ x.toInt → x.toInt ≤ 16 → LcI Y e x.toInt.toNat U → (16 - x.toInt).toNat < c → w_putMethod_L260 Q c U m x := by
    intro c
    induction c with
    | zero => intro U x _ _ _ h9; exact absurd h9 (Nat.not_lt_zero _)
    | succ c ih =>
      intro U x x0 x16 hU hk
      obtain ⟨f, p1, p2, p3⟩ := hU
      have sU := s.fm f (by decide) (by decide) (by decide)
      unfold w_putMethod_L260 w_putMethod_J285
      rw [sU.2.1, sU.2.2.2.2.2.2.2]
      refine ⟨fun c1 => done U ⟨f, ⟨p1.1, by omega⟩, p2, p3⟩, fun c1 => ?_⟩
      have ek : (x + Int32.ofInt 1).toInt = x.toInt + 1 := by rw [t_add (by rw [lo_1]; omega), lo_1]
      have ekN : (x + Int32.ofInt 1).toInt.toNat = x.toInt.toNat + 1 := by omega
      have u91 : qI U 91 = qI Y 91 := (f.2.2.2.2.1 91 (by decide) (by decide)).1
      refine ⟨by omega, fun c2 => ⟨_, sp_draftCatch h hl sU (fun r r1 r2 => by rw [u91]; exact np r r1 r2) (by rw [u91]; exact nN) ⟨x0, by omega⟩ (pc _ (by omega) c2) (by omega), ?_⟩, fun _ a ea => ?_⟩
      · rintro V ⟨g, v1, v2, v3⟩ a ea
        subst ea
        refine ih V _ (by omega) (by omega) ⟨f.tr g, by omega, fun j hj => by rw [v2 j (by omega)]; exact p2 j hj, fun c' h1 h2 => ?_⟩ (by omega)
        by_cases q : c' = (qI U 0 123).toInt.toNat
        · rw [q]; exact v3
        · have k := p3 c' h1 (by omega)
          unfold cOK at k ⊢
          rw [v2 _ (by omega), v2 _ (by omega), v2 _ (by omega), v2 _ (by omega)]
          exact k
      · subst ea
        exact ih U _ (by omega) (by omega) ⟨f, by omega, p2, p3⟩ (by omega)
  have z0 : (0 : Int32).toInt = 0 := rfl
  exact ⟨_, L260 _ Y 0 (by decide) (by decide) ⟨frm.rf, by omega, fun _ _ => rfl, fun c' h1 h2 => by omega⟩ (Nat.lt_succ_self _)⟩
/-! putMethod: the rows that were laid and aimed are good (behind PmJ, AmI) -/
theorem jp_is2 {S : MS} {o : Int32} (h : (153 ≤ o.toInt ∧ o.toInt ≤ 167) ∨ o.toInt = 198 ∨ o.toInt = 199) : ¬ (f_isJump S o).toInt = 0 := by
  by_cases c : 153 ≤ o.toInt ∧ o.toInt ≤ 167
  · exact jp_is c
  · unfold f_isJump f_isJump_J14 f_isJump_J28
    by_cases d : o.toInt < 153
    · omega
    · rw [if_neg d, if_neg (by omega)]
      by_cases e : o.toInt = 198
      · rw [if_pos e]; decide
      · rw [if_neg e, if_pos (by omega)]; decide
theorem wtS_eq2 {R R' : Nat → Int32} {a : Nat} : ∀ n : Nat, (∀ i : Nat, i < n → R' (3 * (a + i)) = R (3 * (a + i)) ∧ R' (3 * (a + i) + 2) = R (3 * (a + i) + 2)) → wtS R' a n = wtS R a n := by
  intro n
  induction n with
  | zero => intro _; rfl
  | succ n ih =>
    intro h
    show wtS R' a n + wtR R' (a + n) = wtS R a n + wtR R (a + n)
    rw [ih (fun i hi => h i (by omega))]
    unfold wtR
    rw [(h n (by omega)).1, (h n (by omega)).2]
theorem pm_rows {S U X V : MS} {L F F' M : Int} {Z : Nat → Int32} {B e c N : Nat} (h : OpR S L F M) (hN : gN S = N) (hF : F ≤ F') (j1 : PmJ S U Z B F' N e c) (x74 : qI X 74 = qI U 74) (x92 : qI X 92 = qI U 92) (hA : AmI S X e N V) : (∀ p : Nat, p < e → rOK (qI V 74) (qI V 75) 40000 e L F' M (B + p)) ∧ wtS (qI V 74) B e = wtS (qI U 74) B e := by
  obtain ⟨⟨f, n1, n2, n3, n4⟩, h2, h3, h4, h5⟩ := j1
  obtain ⟨g, a1, a2, a3, a4⟩ := hA
  have pj : ∀ j : Nat, j < N → (qI S 81 j).toInt = 0 → ∃ p : Nat, p < e ∧ plN X j = B + p ∧ rowE S U j (B + p) := fun j hj gj => by
    obtain ⟨p, p1, p2, p3⟩ := h3 j hj gj
    exact ⟨p, p1, by unfold plN; rw [x92]; omega, p3⟩
  have r0 : ∀ q : Nat, qI V 74 (3 * q) = qI U 74 (3 * q) ∧ qI V 74 (3 * q + 2) = qI U 74 (3 * q + 2) := fun q => by
    rw [a1 (3 * q) (fun j _ _ _ => by omega), a1 (3 * q + 2) (fun j _ _ _ => by omega), x74]
    exact ⟨rfl, rfl⟩
  refine ⟨fun p hp => ?_, wtS_eq2 e (fun i _ => r0 (B + i))⟩
  unfold rOK
  rw [(r0 (B + p)).1, (r0 (B + p)).2]
  have jn : ∀ j : Nat, ¬ isJ S j → ¬ ((153 ≤ (qI S 78 j).toInt ∧ (qI S 78 j).toInt ≤ 167) ∨ (qI S 78 j).toInt = 198 ∨ (qI S 78 j).toInt = 199) := fun j hj q => hj (jp_is2 q)
  rcases h4 p hp with ⟨j, hj, gj, ej⟩ | hc
  · -- a row that is there
    obtain ⟨p', p1, p2, q1, q2, q3⟩ := pj j hj gj
    have epl : plN X j = B + p := by unfold plN; rw [x92]; omega
    have epp : p' = p := by omega
    subst epp
    rw [q1, q3]
    have rv := h.2.2.1 j (by omega)
    have aj : isJ S j → 0 ≤ (qI V 74 (3 * (B + p') + 1)).toInt ∧ (qI V 74 (3 * (B + p') + 1)).toInt < e := fun jj => by
      have := a2 j hj gj jj
      rw [epl] at this
      exact this
    have an : ¬ isJ S j → qI V 74 (3 * (B + p') + 1) = qI S 79 j := fun nj => by
      rw [a1 _ (fun i hi gi ii => ?_), x74, q2]
      intro w
      obtain ⟨pi, i1, i2, _⟩ := pj i hi gi
      have e1 : (qI U 92 i).toInt = (qI U 92 j).toInt := by
        obtain ⟨ui, _, u2, _⟩ := h3 i hi gi
        have v : plN X i = B + ui := by unfold plN; rw [x92]; omega
        omega
      have := h5 i j hi hj gi gj e1
      subst this
      exact nj ii
    have nj : ∀ o : Int, (qI S 78 j).toInt = o → ¬ ((153 ≤ o ∧ o ≤ 167) ∨ o = 198 ∨ o = 199) → ¬ isJ S j := fun o e w q => w (by rw [← e]; exact jp_op q)
    refine ⟨rv.1, fun q => aj (jp_is2 q), fun q => ?_, fun q => ?_, fun q => ?_, fun q => ?_, fun q => ?_⟩
    · rw [an (nj _ rfl (by omega))]
      obtain ⟨y1, y2, y3, y4, y5, y6⟩ := rv.2.2.1 q
      exact ⟨y1, y2, y3, y4, fun k hk => a4 j hj gj q k hk, y6⟩
    · rw [an (nj _ rfl (by omega))]; exact rv.2.2.2.1 q
    · rw [an (nj _ rfl (by omega))]; exact rv.2.2.2.2.1 q
    · rw [an (nj _ rfl (by omega))]
      have := rv.2.2.2.2.2.1 q
      omega
    · rw [an (nj _ rfl (by omega))]; exact rv.2.2.2.2.2.2 q
  · -- a counter's row
    have e1 : qI V 74 (3 * (B + p) + 1) = qI U 74 (3 * (B + p) + 1) := by
      rw [a1 _ (fun i hi gi ii => ?_), x74]
      intro w
      obtain ⟨pi, i1, i2, i3, _⟩ := pj i hi gi
      have : B + pi = B + p := by omega
      rw [this] at i3
      rw [i3] at hc
      have := jp_op ii
      unfold cRo at hc
      omega
    rw [e1]
    unfold cRo at hc
    exact ⟨by unfold opW; omega, fun w => by omega, fun w => by omega, fun w => by omega, fun w => by omega, fun w => by omega, fun w => by omega⟩
/-- a switch that was laid is one of the rows, with its table -/
theorem pm_sw {S U X V : MS} {F' : Int} {Z : Nat → Int32} {B e c N : Nat} (hN : gN S = N) (j1 : PmJ S U Z B F' N e c) (x74 : qI X 74 = qI U 74) (x92 : qI X 92 = qI U 92) (hA : AmI S X e N V) : ∀ p : Nat, p < e → (qI V 74 (3 * (B + p))).toInt = 170 ∨ (qI V 74 (3 * (B + p))).toInt = 171 → ∃ j : Nat, (j : Int) < gN S ∧ (qI S 81 j).toInt = 0 ∧ isW S j ∧ qI V 74 (3 * (B + p) + 1) = qI S 79 j ∧ qI V 74 (3 * (B + p) + 2) = qI S 80 j := by
  obtain ⟨⟨f, n1, n2, n3, n4⟩, h2, h3, h4, h5⟩ := j1
  obtain ⟨g, a1, a2, a3, a4⟩ := hA
  intro p hp hw
  have r0 : ∀ q : Nat, qI V 74 (3 * q) = qI U 74 (3 * q) ∧ qI V 74 (3 * q + 2) = qI U 74 (3 * q + 2) := fun q => by
    rw [a1 (3 * q) (fun j _ _ _ => by omega), a1 (3 * q + 2) (fun j _ _ _ => by omega), x74]
    exact ⟨rfl, rfl⟩
  rw [(r0 (B + p)).1] at hw
  rw [(r0 (B + p)).2]
  rcases h4 p hp with ⟨j, hj, gj, ej⟩ | hc
  · obtain ⟨p', p1, p2, q1, q2, q3⟩ := h3 j hj gj
    have epp : p' = p := by omega
    subst epp
    rw [q1] at hw
    have nj : ¬ isJ S j := fun q => by
      have := jp_op q
      omega
    refine ⟨j, by omega, gj, hw, ?_, q3⟩
    rw [a1 _ (fun i hi gi ii w => ?_), x74, q2]
    obtain ⟨pi, i1, i2, _⟩ := h3 i hi gi
    have v : plN X i = B + pi := by unfold plN; rw [x92]; omega
    have := h5 i j hi hj gi gj (by omega)
    subst this
    exact nj ii
  · unfold cRo at hc
    omega
/-! putMethod as a whole (behind pm_L21, pm_L206, pm_L260, pm_rows) -/
def sameBut (S u : MS) (a m : Nat) : Prop := ∀ j : Nat, j ≠ m → qI u a j = qI S a j
def PutP (S : MS) (L F M : Int) (B K m : Nat) (u : MS) : Prop := frm [70, 71, 72, 73, 74, 75, 76, 91, 92] [122, 123] S u ∧ ∃ e n : Nat, (1 ≤ e ∧ (e : Int) ≤ gN S + 4 * K ∧ n ≤ 16) ∧ ((qI u 0 122).toInt = (B : Int) + e ∧ (qI u 0 123).toInt = (qI S 0 123).toInt + n) ∧ ((∀ j : Nat, j < 3 * B → qI u 74 j = qI S 74 j) ∧ (∀ j : Nat, j < 4 * (qI S 0 123).toInt.toNat → qI u 76 j = qI S 76 j) ∧ ∀ q : Nat, (∀ j : Nat, (j : Int) < gN S → (qI S 81 j).toInt = 0 → isW S j → ¬ (tA S j ≤ q ∧ (q : Int) ≤ tA S j + 2 * tB S j)) → qI u 75 q = qI S 75 q) ∧ (sameBut S u 70 m ∧ sameBut S u 71 m ∧ sameBut S u 72 m ∧ sameBut S u 73 m) ∧ ((qI u 70 m).toInt = B ∧ (qI u 71 m).toInt = e ∧ (qI u 72 m).toInt = (qI S 0 123).toInt ∧ (qI u 73 m).toInt = n) ∧ (∀ p : Nat, p < e → rOK (qI u 74) (qI u 75) 40000 e L F M (B + p)) ∧ wtS (qI u 74) B e ≤ 3600 + 12 * K ∧ (∀ p : Nat, p < e → (qI u 74 (3 * (B + p))).toInt = 170 ∨ (qI u 74 (3 * (B + p))).toInt = 171 → ∃ j : Nat, (j : Int) < gN S ∧ (qI S 81 j).toInt = 0 ∧ isW S j ∧ qI u 74 (3 * (B + p) + 1) = qI S 79 j ∧ qI u 74 (3 * (B + p) + 2) = qI S 80 j) ∧ ∀ c : Nat, c < n → cOK (qI u 76) e ((qI S 0 123).toInt.toNat + c)
theorem sp_putMethod {S : MS} {L F F' M : Int} {l B K : Nat} {m x2 : Int32} {rc : Nat → Nat} (h : OpR S L F M) (ha : OpA S l) (tb : TbD S) (hw : wtN S ≤ 3600) (pc : ∀ c : Nat, (c : Int) < (qI S 0 135).toInt → (qI S 86 c).toInt = 0 → (qI S 82 c).toInt ≤ l ∧ (qI S 84 c).toInt ≤ l) (eB : (qI S 0 122).toInt = B) (hB : (B : Int) + gN S + 4 * K ≤ 29000) (hC : 0 ≤ (qI S 0 123).toInt ∧ (qI S 0 123).toInt + 16 ≤ 384) (hd : qR S 60 14 = some 70 ∧ qR S 60 15 = some 71 ∧ qR S 60 16 = some 72 ∧ qR S 60 17 = some 73) (hn : qN S 70 = 24 ∧ qN S 71 = 24 ∧ qN S 72 = 24 ∧ qN S 73 = 24) (hm : 0 ≤ m.toInt ∧ m.toInt < 24) (hF : F ≤ F') (r1 : ∀ i : Nat, rc i ≤ K) (r2 : ∀ i : Nat, (i : Int) < gN S → rc i ≤ rc (i + 1)) (r3 : ¬ x2.toInt < 0 → x2.toInt + K ≤ F' ∧ F' ≤ 24 ∧ ∀ i : Nat, (i : Int) < gN S → (0 ≤ (qI S 50 i).toInt ∧ (qI S 50 i).toInt < 1200) ∧ ((qI S 81 i).toInt = 0 → (qI S 49 (qI S 50 i).toInt.toNat).toInt = i → ¬ (qI S 53 (qI S 50 i).toInt.toNat).toInt = 0 → rc i + 1 ≤ rc (i + 1))) : w_putMethod S m x2 (PutP S L F' M B K m.toInt.toNat) := by
  have b := h.1
  have ll := ha.1.1
  obtain ⟨N, eN⟩ : ∃ N : Nat, gN S = N := ⟨(gN S).toNat, by omega⟩
  have qo : ∀ (V : MS) (a b : Nat), qR V 60 a = some b → qO V 60 a = b := fun V a b q => by unfold qO; rw [q]; rfl
  have o14 := qo S 14 70 hd.1
  unfold w_putMethod
  intro bs ebs
  have hb : bs.toInt = B := by rw [ebs]; exact eB
  refine ⟨by rw [o14]; exact hd.1, by rw [o14, hn.1]; exact ⟨hm.1, by omega⟩, fun A eA => ?_⟩
  rw [o14] at eA
  have fA : frm [70, 74, 91, 92] [122] S A := by rw [eA]; exact frm.pI (by decide)
  have a0 : qI A 0 = qI S 0 := by rw [eA, rdH (by decide)]
  have pA : PmJ S A (qI A 70) B F' 0 0 (4 * 0) := ⟨⟨fA, by rw [a0]; omega, by omega, ⟨fun j _ => by rw [eA, rdH (by decide)], rfl⟩, by show (0 : Int) ≤ _; omega⟩, fun j hj => absurd hj (Nat.not_lt_zero _), fun j hj => absurd hj (Nat.not_lt_zero _), fun p hp => absurd hp (Nat.not_lt_zero _), fun i j hi => absurd hi (Nat.not_lt_zero _)⟩
  refine ⟨_, pm_L21 (S := S) (Q := PutP S L F' M B K m.toInt.toNat) (N := N) (K := K) (F := F') (rc := rc) ⟨eN, by omega⟩ hb (by omega) r1 (fun i hi => r2 i (by omega)) (fun q => ⟨(r3 q).1, (r3 q).2.1, fun i hi => (r3 q).2.2 i (by omega)⟩) ?_ _ A x2 0 0 0 (by decide) (by show (0 : Int) ≤ N; omega) pA (fun _ => by omega) (Nat.zero_le _) (Nat.lt_succ_self _)⟩
  -- the rows are laid
  intro U e c pU hc T eT
  have fU := pU.1.1
  have u122 := pU.1.2.1
  have eU := pU.1.2.2.1
  have s122 : (qI U 0 122 - bs).toInt = e := by rw [t_sub (by omega)]; omega
  have u129 : (qI U 0 129).toInt.toNat = N := by
    have : (qI U 0 129).toInt = N := by rw [(fU.2.2.2.2.2 129 (by decide)).1]; exact eN
    omega
  rw [u129] at eT
  have fT : frm [70, 74, 91, 92] [122] U T := by rw [eT]; exact frm.pI (by decide)
  have fST := fU.tr fT
  have t60 : qR T 60 = qR S 60 := (fST.2.2.2.2.1 60 (by decide) (by decide)).2.2
  have o15 := qo T 15 71 (by rw [t60]; exact hd.2.1)
  have t0 : qI T 0 = qI U 0 := by rw [eT, rdH (by decide)]
  rw [o15, t0]
  refine ⟨by rw [t60]; exact hd.2.1, by rw [fST.2.1, hn.2.1]; exact ⟨hm.1, by omega⟩, fun X eX => ?_⟩
  have fX : frm [71] [] T X := by rw [eX]; exact frm.pI (by decide)
  have fSX : frm [70, 71, 74, 91, 92] [122] S X := (fST.mo (by decide) (by decide)).tr (fX.mo (by decide) (by decide))
  have zX := fun (a : Nat) (h1 : a ≠ 0) (h2 : a ∉ [70, 71, 74, 91, 92]) => (fSX.2.2.2.2.1 a h1 h2).1
  have x74 : qI X 74 = qI U 74 := by rw [eX, rdH (by decide), eT, rdH (by decide)]
  have x92 : qI X 92 = qI U 92 := by rw [eX, rdH (by decide), eT, rdH (by decide)]
  have x91 : ∀ j : Nat, j < N → qI X 91 j = qI U 91 j := fun j hj => by rw [eX, rdH (by decide), eT, qI_wI, if_neg (fun q => by omega)]
  have x91N : (qI X 91 N).toInt = e := by rw [eX, rdH (by decide), eT, qI_wI, if_pos ⟨rfl, rfl⟩, s122]
  have sX : smA S X := ⟨(fSX.2.2.2.2.2 129 (by decide)).1, zX 78 (by decide) (by decide), zX 79 (by decide) (by decide), zX 80 (by decide) (by decide), zX 81 (by decide) (by decide)⟩
  have np : ∀ r : Nat, (r : Int) < gN S → (qI S 81 r).toInt = 0 → 0 ≤ (qI X 91 r).toInt ∧ (qI X 91 r).toInt < (e : Int) := fun r q1 q2 => by
    rw [x91 r (by omega)]
    have := pU.2.1 r (by omega)
    exact ⟨this.1.1, this.2 q2⟩
  have e1 : 1 ≤ e := by have := np l ll ha.1.2.1; omega
  refine pm_L206 (e := e) h ha sX np (fun j q1 q2 => ?_) (fun i j q1 q2 q3 q4 q5 => ?_) tb (zX 75 (by decide) (by decide)) (fun V hV => ?_)
  · rw [x92]
    obtain ⟨p, p1, p2, _⟩ := pU.2.2.1 j (by omega) q2
    omega
  · rw [x92] at q5
    exact pU.2.2.2.2 i j (by omega) (by omega) q3 q4 q5
  -- the ways are led
  rw [show (gN S).toNat = N by omega] at hV
  have fV := hV.1
  obtain ⟨rows, wts⟩ := pm_rows h eN hF pU x74 x92 hV
  have fSV : frm [70, 71, 74, 75, 91, 92] [122] S V := (fSX.mo (by decide) (by decide)).tr (fV.mo (by decide) (by decide))
  have v60 : qR V 60 = qR S 60 := (fSV.2.2.2.2.1 60 (by decide) (by decide)).2.2
  have o16 := qo V 16 72 (by rw [v60]; exact hd.2.2.1)
  have v123 : qI V 0 123 = qI S 0 123 := (fSV.2.2.2.2.2 123 (by decide)).1
  rw [o16]
  refine ⟨by rw [v60]; exact hd.2.2.1, by rw [fSV.2.1, hn.2.2.1]; exact ⟨hm.1, by omega⟩, fun Y eY => ?_⟩
  have fY : frm [72] [] V Y := by rw [eY]; exact frm.pI (by decide)
  have fSY : frm [70, 71, 72, 74, 75, 91, 92] [122] S Y := (fSV.mo (by decide) (by decide)).tr (fY.mo (by decide) (by decide))
  have zY := fun (a : Nat) (h1 : a ≠ 0) (h2 : a ∉ [70, 71, 72, 74, 75, 91, 92]) => (fSY.2.2.2.2.1 a h1 h2).1
  have y91 : qI Y 91 = qI X 91 := by rw [eY, rdH (by decide), (fV.2.2.2.2.1 91 (by decide) (by decide)).1]
  have y123 : qI Y 0 123 = qI S 0 123 := (fSY.2.2.2.2.2 123 (by decide)).1
  have sY : smH S Y := ⟨(fSY.2.2.2.2.2 129 (by decide)).1, (fSY.2.2.2.2.2 135 (by decide)).1, zY 81 (by decide) (by decide), zY 82 (by decide) (by decide), zY 83 (by decide) (by decide), zY 84 (by decide) (by decide), zY 85 (by decide) (by decide), zY 86 (by decide) (by decide)⟩
  refine pm_L260 (e := e) h ha.1 sY (fun r q1 q2 => by rw [y91]; exact np r q1 q2) (by rw [y91, show (gN S).toNat = N by omega, x91N]; omega) pc (by rw [y123]; exact hC) (fun W hW => ?_)
  -- the catches are laid
  obtain ⟨fW, w1, w2, w3⟩ := hW
  rw [y123] at w1 w2 w3
  have fSW : frm [70, 71, 72, 74, 75, 76, 91, 92] [122, 123] S W := (fSY.mo (by decide) (by decide)).tr (fW.mo (by decide) (by decide))
  have w60 : qR W 60 = qR S 60 := (fSW.2.2.2.2.1 60 (by decide) (by decide)).2.2
  have o16' := qo W 16 72 (by rw [w60]; exact hd.2.2.1)
  have o17 := qo W 17 73 (by rw [w60]; exact hd.2.2.2)
  rw [o16', o17]
  refine ⟨by rw [w60]; exact hd.2.2.2, by rw [w60]; exact hd.2.2.1, by rw [fSW.2.1, hn.2.2.1]; exact ⟨hm.1, by omega⟩, by rw [fSW.2.1, hn.2.2.2]; exact ⟨hm.1, by omega⟩, fun Z eZ => ?_⟩
  have fZ : frm [73] [] W Z := by rw [eZ]; exact frm.pI (by decide)
  have fSZ : frm [70, 71, 72, 73, 74, 75, 76, 91, 92] [122, 123] S Z := (fSW.mo (by decide) (by decide)).tr (fZ.mo (by decide) (by decide))
  obtain ⟨n, en⟩ : ∃ n : Nat, (qI W 0 123).toInt = (qI S 0 123).toInt + n := ⟨((qI W 0 123).toInt - (qI S 0 123).toInt).toNat, by omega⟩
  have zz := fun (a : Nat) (h1 : a ≠ 73) => (show qI Z a = qI W a by rw [eZ, rdH h1])
  have ww := fun (a : Nat) (h1 : a ≠ 0) (h2 : a ∉ [76]) => (fW.2.2.2.2.1 a h1 h2).1
  have yy := fun (a : Nat) (h1 : a ≠ 72) => (show qI Y a = qI V a by rw [eY, rdH h1])
  have vv := fun (a : Nat) (h1 : a ≠ 0) (h2 : a ∉ [74, 75]) => (fV.2.2.2.2.1 a h1 h2).1
  have uu := fun (a : Nat) (h1 : a ≠ 0) (h2 : a ∉ [70, 74, 91, 92]) => (fU.2.2.2.2.1 a h1 h2).1
  have z74 : qI Z 74 = qI V 74 := by rw [zz 74 (by decide), ww 74 (by decide) (by decide), yy 74 (by decide)]
  have z75 : qI Z 75 = qI V 75 := by rw [zz 75 (by decide), ww 75 (by decide) (by decide), yy 75 (by decide)]
  have z76 : qI Z 76 = qI W 76 := zz 76 (by decide)
  have z70 : qI Z 70 = qI U 70 := by rw [zz 70 (by decide), ww 70 (by decide) (by decide), yy 70 (by decide), vv 70 (by decide) (by decide), eX, rdH (by decide), eT, rdH (by decide)]
  have z71 : qI Z 71 = qI X 71 := by rw [zz 71 (by decide), ww 71 (by decide) (by decide), yy 71 (by decide), vv 71 (by decide) (by decide)]
  have z72 : qI Z 72 = qI Y 72 := by rw [zz 72 (by decide), ww 72 (by decide) (by decide)]
  have t71 : qI T 71 = qI S 71 := by rw [eT, rdH (by decide), uu 71 (by decide) (by decide)]
  have v72 : qI V 72 = qI S 72 := (fSV.2.2.2.2.1 72 (by decide) (by decide)).1
  have w73 : qI W 73 = qI S 73 := (fSW.2.2.2.2.1 73 (by decide) (by decide)).1
  have w72 : qI W 72 m.toInt.toNat = qI S 0 123 := by rw [ww 72 (by decide) (by decide), eY, qI_wI, if_pos ⟨rfl, rfl⟩, v123]
  have u70 : qI U 70 = qI A 70 := pU.1.2.2.2.1.2
  refine ⟨fSZ, e, n, ⟨e1, by omega, by omega⟩, ⟨?_, ?_⟩, ⟨fun j hj => ?_, fun j hj => ?_, fun q hq => ?_⟩, ⟨fun j hj => ?_, fun j hj => ?_, fun j hj => ?_, fun j hj => ?_⟩, ⟨?_, ?_, ?_, ?_⟩, ?_, ?_, ?_, fun c' hc' => ?_⟩
  · rw [zz 0 (by decide), (fW.2.2.2.2.2 122 (by decide)).1, yy 0 (by decide), (fV.2.2.2.2.2 122 (by decide)).1, (fX.2.2.2.2.2 122 (by decide)).1, t0]
    exact u122
  · rw [zz 0 (by decide)]; exact en
  · rw [z74, hV.2.1 j (fun i q1 q2 _ q3 => ?_), x74]
    · exact pU.1.2.2.2.1.1 j hj
    · obtain ⟨p, p1, p2, _⟩ := pU.2.2.1 i q1 q2
      have : plN X i = B + p := by unfold plN; rw [x92]; omega
      omega
  · rw [z76, w2 j hj, zY 76 (by decide) (by decide)]
  · rw [z75, hV.2.2.2.1 q (fun j q1 q2 q3 => hq j (by omega) q2 q3), zX 75 (by decide) (by decide)]
  · rw [z70, u70, eA, qI_wI, if_neg (fun q => hj q.2)]
  · rw [z71, eX, qI_wI, if_neg (fun q => hj q.2), t71]
  · rw [z72, eY, qI_wI, if_neg (fun q => hj q.2), v72]
  · rw [eZ, qI_wI, if_neg (fun q => hj q.2), w73]
  · rw [z70, u70, eA, qI_wI, if_pos ⟨rfl, rfl⟩]; exact hb
  · rw [z71, eX, qI_wI, if_pos ⟨rfl, rfl⟩]; exact s122
  · rw [z72, eY, qI_wI, if_pos ⟨rfl, rfl⟩, v123]
  · rw [eZ, qI_wI, if_pos ⟨rfl, rfl⟩, w72, t_sub (by omega)]; omega
  · rw [z74, z75]; exact rows
  · rw [z74, wts]
    have q1 := pU.1.2.2.2.2
    have q2 : sumN (wtF S) N = wtN S := by unfold wtN wtF; rw [show (gN S).toNat = N by omega]
    rw [q2] at q1
    omega
  · rw [z74]; exact pm_sw eN pU x74 x92 hV
  · rw [z76]
    exact w3 _ (by omega) (by omega)
/-! copyHead (behind FlI) -/
def DrO (S : MS) : Prop := ∀ i : Nat, i < 13 → qR S 60 (5 + i) = some (61 + i) ∧ qN S (61 + i) = 24
def ChK (A V : MS) (p a b c : Nat) : Prop := qR V 60 a = some b ∧ qO V 60 a = b ∧ qR V p a = some c ∧ qO V p a = c ∧ qN V b = 24 ∧ qN V c = 24 ∧ qR V c = qR A c
theorem cp_st {A U D : MS} {d s i : Nat} (e : qR U s = qR A s) (nz : ∃ z, qR A s i = some z) (eD : D = wR U d i (some (qO U s i))) : qR D d i = qR A s i := by
  obtain ⟨z, hz⟩ := nz
  rw [eD, qR_wR, if_pos ⟨rfl, rfl⟩]
  unfold qO
  rw [e, hz]
  rfl
theorem cp_ot {U D : MS} {d i a j : Nat} {v : Option Nat} (eD : D = wR U d i v) (h : ¬ (a = d ∧ j = i)) : qR D a j = qR U a j := by rw [eD, qR_wR, if_neg h]
theorem so_nz {U A : MS} {s i : Nat} (e : qR U s = qR A s) (nz : ∃ z, qR A s i = some z) : qR U s i = some (qO U s i) := by
  obtain ⟨z, hz⟩ := nz
  unfold qO
  rw [e, hz]
  rfl
def CpP (S : MS) (p : Nat) (u : MS) : Prop := frm [60, 61, 62, 63, 64, 65, 66, 67, 75] [122, 123] S u ∧ (qR u 60 0 = qR S p 0 ∧ qR u 60 1 = qR S p 1 ∧ qI u 60 3 = qI S p 3 ∧ qI u 60 4 = qI S p 4) ∧ (∀ j : Nat, (j : Int) < (qI S p 3).toInt → qR u 61 j = qR S (p + 1) j ∧ qR u 62 j = qR S (p + 2) j ∧ qR u 63 j = qR S (p + 3) j) ∧ (∀ j : Nat, (j : Int) < (qI S p 4).toInt → qR u 64 j = qR S (p + 4) j ∧ qR u 65 j = qR S (p + 5) j ∧ qR u 66 j = qR S (p + 6) j ∧ qR u 67 j = qR S (p + 7) j) ∧ (∀ j : Nat, j < qN S (qO S p 19) → qI u 75 j = qI S (qO S p 19) j) ∧ (qR u 60 18 = some 74 ∧ qR u 60 19 = some 75 ∧ qR u 60 20 = some 76) ∧ (qI u 0 122 = 0 ∧ qI u 0 123 = 0) ∧ ∀ i : Nat, i < 13 → qR u 60 (5 + i) = some (61 + i)
theorem sp_copyHead {S : MS} {p : Nat} (h : FlI S p) (hd : DrO S) : w_copyHead S p (CpP S p) := by
  have h' := h
  obtain ⟨h1, h2, ⟨o1, o2, _, _, ow1, ow2, _⟩, h4, h5, R, T, C, nc, ts, cn, r1, r2, r3, r4, r5, r6⟩ := h
  have p92 := h1.1.1
  have nf : ∀ i : Nat, (i : Int) < (qI S p 3).toInt → (∃ z, qR S (p + 1) i = some z) ∧ (∃ z, qR S (p + 2) i = some z) ∧ ∃ z, qR S (p + 3) i = some z := fun i hi => by
    obtain ⟨s1, s2, s3, _, _, _, y1, y2, y3, _⟩ := h5 i hi
    exact ⟨⟨s1, y1⟩, ⟨s2, y2⟩, s3, y3⟩
  have nm : ∀ i : Nat, (i : Int) < (qI S p 4).toInt → (∃ z, qR S (p + 4) i = some z) ∧ (∃ z, qR S (p + 5) i = some z) ∧ (∃ z, qR S (p + 6) i = some z) ∧ ∃ z, qR S (p + 7) i = some z := fun i hi => by
    obtain ⟨⟨pl, ⟨s1, s2, s3, s4, _, _, _, _, y1, y2, y3, y4, _⟩, _⟩, _⟩ := r6 i hi
    exact ⟨⟨s1, y1⟩, ⟨s2, y2⟩, ⟨s3, y3⟩, s4, y4⟩
  have eT : qO S p 19 = T := by unfold qO; rw [r2.2.1]; rfl
  have t92 : 92 < T := by omega
  have q0 : qR S p 0 = some (qO S p 0) := by unfold qO; rw [ow1]; rfl
  have q1 : qR S p 1 = some (qO S p 1) := by unfold qO; rw [ow2]; rfl
  -- a state that keeps all but the draft's rows
  have fp : ∀ V : MS, frm [60, 61, 62, 63, 64, 65, 66, 67, 75] [122, 123] S V → ∀ a : Nat, 92 < a → qI V a = qI S a ∧ qR V a = qR S a := fun V f a ha => by
    have z := f.2.2.2.2.1 a (by omega) (fun q => by simp only [List.mem_cons, List.not_mem_nil, or_false] at q; omega)
    exact ⟨z.1, z.2.2⟩
  have G : ∀ V : MS, frm [60, 61, 62, 63, 64, 65, 66, 67, 75] [122, 123] S V → (∀ i : Nat, i < 13 → qR V 60 (5 + i) = some (61 + i)) → ∀ i : Nat, i < 13 → ChK S V p (5 + i) (61 + i) (p + 1 + i) := fun V f h60 i hi => by
    have g := h'.row hi
    have vp := (fp V f p p92).2
    have vc := (fp V f (p + 1 + i) (by omega)).2
    refine ⟨h60 i hi, by unfold qO; rw [h60 i hi]; rfl, by rw [vp]; exact g.1, by unfold qO; rw [vp, g.1]; rfl, by rw [f.2.1]; exact (hd i hi).2, by rw [f.2.1]; exact g.2.2, vc⟩
  have eN : qN S T = ts := r4.2.1
  let Hd : MS → Prop := fun U => frm [60, 61, 62, 63, 64, 65, 66, 67, 75] [122, 123] S U ∧ (∀ i : Nat, i < 13 → qR U 60 (5 + i) = some (61 + i)) ∧ (qR U 60 0 = qR S p 0 ∧ qR U 60 1 = qR S p 1 ∧ qI U 60 3 = qI S p 3 ∧ qI U 60 4 = qI S p 4)
  let Fd : MS → Int → Prop := fun U n => ∀ j : Nat, (j : Int) < n → qR U 61 j = qR S (p + 1) j ∧ qR U 62 j = qR S (p + 2) j ∧ qR U 63 j = qR S (p + 3) j
  let Md : MS → Int → Prop := fun U n => ∀ j : Nat, (j : Int) < n → qR U 64 j = qR S (p + 4) j ∧ qR U 65 j = qR S (p + 5) j ∧ qR U 66 j = qR S (p + 6) j ∧ qR U 67 j = qR S (p + 7) j
  have hdW : ∀ (U D : MS) (d i : Nat) (v : Option Nat), Hd U → (61 ≤ d ∧ d ≤ 67) → D = wR U d i v → Hd D := fun U D d i v hU hd' eD => by
    have c : [60, 61, 62, 63, 64, 65, 66, 67, 75].contains d = true := by
      rw [List.contains_iff_mem]
      simp only [List.mem_cons, List.not_mem_nil, or_false]
      omega
    have fD : frm [60, 61, 62, 63, 64, 65, 66, 67, 75] [122, 123] U D := by rw [eD]; exact frm.pR ⟨c, by omega⟩
    have e60 : ∀ j : Nat, qR D 60 j = qR U 60 j := fun j => cp_ot eD (fun q => by omega)
    have ei : qI D 60 = qI U 60 := by rw [eD]; rfl
    exact ⟨hU.1.tr fD, fun j hj => by rw [e60]; exact hU.2.1 j hj, by rw [e60]; exact hU.2.2.1, by rw [e60]; exact hU.2.2.2.1, by rw [ei]; exact hU.2.2.2.2.1, by rw [ei]; exact hU.2.2.2.2.2⟩
  have L183 : ∀ (c : Nat) (U : MS) (x : Int32), Hd U → Fd U (qI S p 3).toInt → Md U (qI S p 4).toInt → 0 ≤ x.toInt → (∀ j : Nat, (j : Int) < x.toInt → qI U 75 j = qI S T j) → (40000 - x.toInt).toNat < c → w_copyHead_L183 (CpP S p) c U p x := by
    intro c
    induction c with
    | zero => intro U x _ _ _ _ _ h9; exact absurd h9 (Nat.not_lt_zero _)
    | succ c ih =>
      intro U x hU hf hmm x0 hw hc
      have up := (fp U hU.1 p p92).2
      have uT : qO U p 19 = T := by unfold qO; rw [up, r2.2.1]; rfl
      have u19 : qR U p 19 = some T := by rw [up]; exact r2.2.1
      have un : qN U T = ts := by rw [hU.1.2.1]; exact eN
      unfold w_copyHead_L183
      rw [uT, un, oN (by omega)]
      refine ⟨u19, fun c1 A eA B eB D eD E eE G' eG => ?_, fun c1 => ⟨u19, ⟨by omega, by omega⟩, ⟨by omega, by omega⟩, fun D eD a ea => ?_⟩⟩
      · have fA : frm [60, 61, 62, 63, 64, 65, 66, 67, 75] [122, 123] U A := by rw [eA]; exact frm.pR (by decide)
        have fB : frm [60, 61, 62, 63, 64, 65, 66, 67, 75] [122, 123] A B := by rw [eB]; exact frm.pR (by decide)
        have fD : frm [60, 61, 62, 63, 64, 65, 66, 67, 75] [122, 123] B D := by rw [eD]; exact frm.pR (by decide)
        have fE : frm [60, 61, 62, 63, 64, 65, 66, 67, 75] [122, 123] D E := by rw [eE]; exact frm.pI0 (by decide)
        have fG : frm [60, 61, 62, 63, 64, 65, 66, 67, 75] [122, 123] E G' := by rw [eG]; exact frm.pI0 (by decide)
        have gr : ∀ a j : Nat, qR G' a j = qR D a j := fun a j => by rw [eG, eE]; rfl
        have ge : ∀ a j : Nat, ¬ (a = 60 ∧ (j = 18 ∨ j = 19 ∨ j = 20)) → qR G' a j = qR U a j := fun a j q => by
          rw [gr, cp_ot eD (fun y => q ⟨y.1, by omega⟩), cp_ot eB (fun y => q ⟨y.1, by omega⟩), cp_ot eA (fun y => q ⟨y.1, by omega⟩)]
        have di : ∀ a : Nat, qI D a = qI U a := fun a => by rw [eD, eB, eA]; rfl
        have gi : ∀ a : Nat, a ≠ 0 → qI G' a = qI U a := fun a q => by rw [eG, rdH q, eE, rdH q, di]
        refine ⟨hU.1.tr (fA.tr (fB.tr (fD.tr (fE.tr fG)))), ⟨by rw [ge _ _ (by omega)]; exact hU.2.2.1, by rw [ge _ _ (by omega)]; exact hU.2.2.2.1, by rw [gi _ (by decide)]; exact hU.2.2.2.2.1, by rw [gi _ (by decide)]; exact hU.2.2.2.2.2⟩, fun j hj => ?_, fun j hj => ?_, fun j hj => ?_, ⟨?_, ?_, ?_⟩, ⟨?_, ?_⟩, fun i hi => ?_⟩
        · rw [ge _ _ (by omega), ge _ _ (by omega), ge _ _ (by omega)]; exact hf j hj
        · rw [ge _ _ (by omega), ge _ _ (by omega), ge _ _ (by omega), ge _ _ (by omega)]; exact hmm j hj
        · rw [eT, eN] at hj
          rw [gi _ (by decide), eT]
          exact hw j (by omega)
        · rw [gr, cp_ot eD (by omega), cp_ot eB (by omega), eA, qR_wR, if_pos ⟨rfl, rfl⟩]
        · rw [gr, cp_ot eD (by omega), eB, qR_wR, if_pos ⟨rfl, rfl⟩]
        · rw [gr, eD, qR_wR, if_pos ⟨rfl, rfl⟩]
        · rw [eG, qI_wI, if_neg (by decide), eE, qI_wI, if_pos ⟨rfl, rfl⟩]
        · rw [eG, qI_wI, if_pos ⟨rfl, rfl⟩]
        · rw [ge _ _ (by omega)]; exact hU.2.1 i hi
      · have ek : (x + Int32.ofInt 1).toInt = x.toInt + 1 := by rw [t_add (by rw [lo_1]; omega), lo_1]
        subst ea
        have fD : frm [60, 61, 62, 63, 64, 65, 66, 67, 75] [122, 123] U D := by rw [eD]; exact frm.pI (by decide)
        have rr : ∀ a j : Nat, qR D a j = qR U a j := fun a j => by rw [eD]; rfl
        have ii : qI D 60 = qI U 60 := by rw [eD, rdH (by decide)]
        have hD : Hd D := ⟨hU.1.tr fD, fun i hi => by rw [rr]; exact hU.2.1 i hi, by rw [rr]; exact hU.2.2.1, by rw [rr]; exact hU.2.2.2.1, by rw [ii]; exact hU.2.2.2.2.1, by rw [ii]; exact hU.2.2.2.2.2⟩
        refine ih D _ hD (fun j hj => by rw [rr, rr, rr]; exact hf j hj) (fun j hj => by rw [rr, rr, rr, rr]; exact hmm j hj) (by omega) (fun j hj => ?_) (by omega)
        rw [eD, qI_wI]
        by_cases q : j = x.toInt.toNat
        · rw [if_pos ⟨rfl, q⟩, (fp U hU.1 T t92).1, q]
        · rw [if_neg (fun y => q y.2)]
          exact hw j (by omega)
  have L107 : ∀ (c : Nat) (U : MS) (x : Int32), Hd U → Fd U (qI S p 3).toInt → 0 ≤ x.toInt → Md U x.toInt → (24 - x.toInt).toNat < c → w_copyHead_L107 (CpP S p) c U p x := by
    intro c
    induction c with
    | zero => intro U x _ _ _ _ h9; exact absurd h9 (Nat.not_lt_zero _)
    | succ c ih =>
      intro U x hU hf x0 hmm hc
      have z0 : (0 : Int32).toInt = 0 := rfl
      unfold w_copyHead_L107
      rw [(fp U hU.1 p p92).1]
      refine ⟨fun c1 => ⟨_, L183 _ U 0 hU hf (fun j hj => hmm j (by omega)) (by decide) (fun j hj => by omega) (Nat.lt_succ_self _)⟩, fun c1 => ?_⟩
      have ek : (x + Int32.ofInt 1).toInt = x.toInt + 1 := by rw [t_add (by rw [lo_1]; omega), lo_1]
      obtain ⟨m1, m2, m3, m4⟩ := nm x.toInt.toNat (by omega)
      obtain ⟨a1, a2, a3, a4, a5, a6, a7⟩ : ChK S U p 8 64 (p + 4) := G U hU.1 hU.2.1 3 (by decide)
      rw [a2, a4, a5, a6]
      refine ⟨a1, a3, ⟨by omega, by omega⟩, so_nz a7 m1, ⟨by omega, by omega⟩, fun A eA => ?_⟩
      have hA := hdW U A 64 _ _ hU (by omega) eA
      obtain ⟨b1, b2, b3, b4, b5, b6, b7⟩ : ChK S A p 9 65 (p + 5) := G A hA.1 hA.2.1 4 (by decide)
      rw [b2, b4, b5, b6]
      refine ⟨b1, b3, ⟨by omega, by omega⟩, so_nz b7 m2, ⟨by omega, by omega⟩, fun B eB => ?_⟩
      have hB := hdW A B 65 _ _ hA (by omega) eB
      obtain ⟨c1', c2, c3, c4, c5, c6, c7⟩ : ChK S B p 10 66 (p + 6) := G B hB.1 hB.2.1 5 (by decide)
      rw [c2, c4, c5, c6]
      refine ⟨c1', c3, ⟨by omega, by omega⟩, so_nz c7 m3, ⟨by omega, by omega⟩, fun D eD => ?_⟩
      have hD := hdW B D 66 _ _ hB (by omega) eD
      obtain ⟨d1, d2, d3, d4, d5, d6, d7⟩ : ChK S D p 11 67 (p + 7) := G D hD.1 hD.2.1 6 (by decide)
      rw [d2, d4, d5, d6]
      refine ⟨d1, d3, ⟨by omega, by omega⟩, so_nz d7 m4, ⟨by omega, by omega⟩, fun E eE a ea => ?_⟩
      have hE := hdW D E 67 _ _ hD (by omega) eE
      subst ea
      have ot : ∀ a j : Nat, ¬ (64 ≤ a ∧ a ≤ 67 ∧ j = x.toInt.toNat) → qR E a j = qR U a j := fun a j q => by
        rw [cp_ot eE (fun y => q (by omega)), cp_ot eD (fun y => q (by omega)), cp_ot eB (fun y => q (by omega)), cp_ot eA (fun y => q (by omega))]
      refine ih E _ hE (fun j hj => by rw [ot _ _ (by omega), ot _ _ (by omega), ot _ _ (by omega)]; exact hf j hj) (by omega) (fun j hj => ?_) (by omega)
      by_cases q : j = x.toInt.toNat
      · subst q
        refine ⟨?_, ?_, ?_, ?_⟩
        · rw [cp_ot eE (by omega), cp_ot eD (by omega), cp_ot eB (by omega)]; exact cp_st a7 m1 eA
        · rw [cp_ot eE (by omega), cp_ot eD (by omega)]; exact cp_st b7 m2 eB
        · rw [cp_ot eE (by omega)]; exact cp_st c7 m3 eD
        · exact cp_st d7 m4 eE
      · rw [ot _ _ (by omega), ot _ _ (by omega), ot _ _ (by omega), ot _ _ (by omega)]
        exact hmm j (by omega)
  have L46 : ∀ (c : Nat) (U : MS) (x : Int32), Hd U → 0 ≤ x.toInt → Fd U x.toInt → (24 - x.toInt).toNat < c → w_copyHead_L46 (CpP S p) c U p x := by
    intro c
    induction c with
    | zero => intro U x _ _ _ h9; exact absurd h9 (Nat.not_lt_zero _)
    | succ c ih =>
      intro U x hU x0 hf hc
      have z0 : (0 : Int32).toInt = 0 := rfl
      unfold w_copyHead_L46
      rw [(fp U hU.1 p p92).1]
      refine ⟨fun c1 => ⟨_, L107 _ U 0 hU (fun j hj => hf j (by omega)) (by decide) (fun j hj => by omega) (Nat.lt_succ_self _)⟩, fun c1 => ?_⟩
      have ek : (x + Int32.ofInt 1).toInt = x.toInt + 1 := by rw [t_add (by rw [lo_1]; omega), lo_1]
      obtain ⟨m1, m2, m3⟩ := nf x.toInt.toNat (by omega)
      obtain ⟨a1, a2, a3, a4, a5, a6, a7⟩ : ChK S U p 5 61 (p + 1) := G U hU.1 hU.2.1 0 (by decide)
      rw [a2, a4, a5, a6]
      refine ⟨a1, a3, ⟨by omega, by omega⟩, so_nz a7 m1, ⟨by omega, by omega⟩, fun A eA => ?_⟩
      have hA := hdW U A 61 _ _ hU (by omega) eA
      obtain ⟨b1, b2, b3, b4, b5, b6, b7⟩ : ChK S A p 6 62 (p + 2) := G A hA.1 hA.2.1 1 (by decide)
      rw [b2, b4, b5, b6]
      refine ⟨b1, b3, ⟨by omega, by omega⟩, so_nz b7 m2, ⟨by omega, by omega⟩, fun B eB => ?_⟩
      have hB := hdW A B 62 _ _ hA (by omega) eB
      obtain ⟨c1', c2, c3, c4, c5, c6, c7⟩ : ChK S B p 7 63 (p + 3) := G B hB.1 hB.2.1 2 (by decide)
      rw [c2, c4, c5, c6]
      refine ⟨c1', c3, ⟨by omega, by omega⟩, so_nz c7 m3, ⟨by omega, by omega⟩, fun D eD a ea => ?_⟩
      have hD := hdW B D 63 _ _ hB (by omega) eD
      subst ea
      have ot : ∀ a j : Nat, ¬ (61 ≤ a ∧ a ≤ 63 ∧ j = x.toInt.toNat) → qR D a j = qR U a j := fun a j q => by
        rw [cp_ot eD (fun y => q (by omega)), cp_ot eB (fun y => q (by omega)), cp_ot eA (fun y => q (by omega))]
      refine ih D _ hD (by omega) (fun j hj => ?_) (by omega)
      by_cases q : j = x.toInt.toNat
      · subst q
        refine ⟨?_, ?_, ?_⟩
        · rw [cp_ot eD (by omega), cp_ot eB (by omega)]; exact cp_st a7 m1 eA
        · rw [cp_ot eD (by omega)]; exact cp_st b7 m2 eB
        · exact cp_st c7 m3 eD
      · rw [ot _ _ (by omega), ot _ _ (by omega), ot _ _ (by omega)]
        exact hf j (by omega)
  have np60 : p ≠ 60 := by omega
  unfold w_copyHead
  refine ⟨q0, fun A eA => ?_⟩
  have ra : ∀ j : Nat, qR A p j = qR S p j := fun j => cp_ot eA (fun y => np60 y.1)
  have oa : qO A p 1 = qO S p 1 := by unfold qO; rw [ra]
  rw [oa]
  refine ⟨by rw [ra]; exact q1, fun B eB D eD E eE => ?_⟩
  have fA : frm [60, 61, 62, 63, 64, 65, 66, 67, 75] [122, 123] S A := by rw [eA]; exact frm.pR (by decide)
  have fB : frm [60, 61, 62, 63, 64, 65, 66, 67, 75] [122, 123] A B := by rw [eB]; exact frm.pR (by decide)
  have fD : frm [60, 61, 62, 63, 64, 65, 66, 67, 75] [122, 123] B D := by rw [eD]; exact frm.pI (by decide)
  have fE : frm [60, 61, 62, 63, 64, 65, 66, 67, 75] [122, 123] D E := by rw [eE]; exact frm.pI (by decide)
  have bi : ∀ a : Nat, qI B a = qI S a := fun a => by rw [eB, eA]; rfl
  have er : ∀ a j : Nat, qR E a j = qR B a j := fun a j => by rw [eE, eD]; rfl
  have dp : qI D p 4 = qI S p 4 := by rw [eD, rdH np60, bi]
  have hE : Hd E := by
    refine ⟨fA.tr (fB.tr (fD.tr fE)), fun i hi => ?_, ?_, ?_, ?_, ?_⟩
    · rw [er, cp_ot eB (by omega), cp_ot eA (by omega)]; exact (hd i hi).1
    · rw [er, cp_ot eB (by omega), eA, qR_wR, if_pos ⟨rfl, rfl⟩, q0]
    · rw [er, eB, qR_wR, if_pos ⟨rfl, rfl⟩, q1]
    · rw [eE, qI_wI, if_neg (by decide), eD, qI_wI, if_pos ⟨rfl, rfl⟩, bi]
    · rw [eE, qI_wI, if_pos ⟨rfl, rfl⟩, dp]
  have z0 : (0 : Int32).toInt = 0 := rfl
  exact ⟨_, L46 _ E 0 hE (by decide) (fun j hj => by omega) (Nat.lt_succ_self _)⟩
/-! counters are at most as many as blocks that are reached (behind GbI, nzN) -/
def rbN (S : MS) (i : Nat) : Nat := sumN (fun b => if (qI S 49 b).toInt < i ∧ ¬ (qI S 53 b).toInt = 0 then 1 else 0) (qI S 0 105).toInt.toNat
theorem gb_rc {S : MS} {N : Int} (h : GbI S N) : (∀ i : Nat, rbN S i ≤ nzN (qI S 53) (qI S 0 105).toInt.toNat) ∧ (∀ i : Nat, rbN S i ≤ rbN S (i + 1)) ∧ ∀ i : Nat, (i : Int) < N → (0 ≤ (qI S 50 i).toInt ∧ (qI S 50 i).toInt < 1200) ∧ ((qI S 49 (qI S 50 i).toInt.toNat).toInt = i → ¬ (qI S 53 (qI S 50 i).toInt.toNat).toInt = 0 → rbN S i + 1 ≤ rbN S (i + 1)) := by
  have le : ∀ i b : Nat, (if (qI S 49 b).toInt < (i : Int) ∧ ¬ (qI S 53 b).toInt = 0 then 1 else 0) ≤ (if (qI S 49 b).toInt < ((i + 1 : Nat) : Int) ∧ ¬ (qI S 53 b).toInt = 0 then 1 else 0) := fun i b => by
    by_cases q : (qI S 49 b).toInt < (i : Int) ∧ ¬ (qI S 53 b).toInt = 0
    · rw [if_pos q, if_pos ⟨by omega, q.2⟩]; exact Nat.le_refl _
    · rw [if_neg q]; exact Nat.zero_le _
  refine ⟨fun i => sumN_le _ (fun b _ => ?_), fun i => sumN_le _ (fun b _ => le i b), fun i hi => ?_⟩
  · by_cases q : (qI S 53 b).toInt = 0
    · show (if (qI S 49 b).toInt < (i : Int) ∧ ¬ (qI S 53 b).toInt = 0 then 1 else 0) ≤ (if (qI S 53 b).toInt = 0 then 0 else 1)
      rw [if_neg (fun y => y.2 q)]; exact Nat.zero_le _
    · show (if (qI S 49 b).toInt < (i : Int) ∧ ¬ (qI S 53 b).toInt = 0 then 1 else 0) ≤ (if (qI S 53 b).toInt = 0 then 0 else 1)
      rw [if_neg q]
      by_cases w : (qI S 49 b).toInt < (i : Int) ∧ ¬ (qI S 53 b).toInt = 0
      · rw [if_pos w]; exact Nat.le_refl _
      · rw [if_neg w]; exact Nat.zero_le _
  · have b := h.1
    have g := h.2.2.2.2.1 i hi
    refine ⟨by omega, fun e q => ?_⟩
    refine sumN_lt (i := (qI S 50 i).toInt.toNat) _ (fun b _ => le i b) (by omega) ?_
    show (if (qI S 49 (qI S 50 i).toInt.toNat).toInt < (i : Int) ∧ ¬ (qI S 53 (qI S 50 i).toInt.toNat).toInt = 0 then 1 else 0) < (if (qI S 49 (qI S 50 i).toInt.toNat).toInt < ((i + 1 : Nat) : Int) ∧ ¬ (qI S 53 (qI S 50 i).toInt.toNat).toInt = 0 then 1 else 0)
    rw [if_neg (fun y => by omega), if_pos ⟨by omega, q⟩]
    decide
/-! improve, one method: taken, bettered, marked, put (behind sp_take, sp_rounds, sp_markC, sp_putMethod) -/
def rwO (R : Nat → Int32) (fst i : Nat) : Int32 := R (3 * (fst + i))
def rwA (R : Nat → Int32) (fst i : Nat) : Int32 := R (3 * (fst + i) + 1)
def rwB (R : Nat → Int32) (fst i : Nat) : Int32 := R (3 * (fst + i) + 2)
def rwS (R : Nat → Int32) (fst i : Nat) : Prop := (rwO R fst i).toInt = 170 ∨ (rwO R fst i).toInt = 171
/-- the tables of a method lie one behind the other -/
def TbM (R : Nat → Int32) (fst : Nat) (len : Int) : Prop := ∀ i j : Nat, i < j → (j : Int) < len → rwS R fst i → rwS R fst j → (rwA R fst i).toInt + 2 * (rwB R fst i).toInt + 1 ≤ (rwA R fst j).toInt
def TkP (U : MS) (R : Nat → Int32) (fst : Nat) (len L F M : Int) (u : MS) : Prop := OpE u L F M 3600 u ∧ gN u = len ∧ ∀ i : Nat, (i : Int) < len → (qI u 78 i = rwO R fst i ∧ qI u 79 i = rwA R fst i ∧ qI u 80 i = rwB R fst i) ∧ (qI u 81 i).toInt = 0
theorem sp_takeMethod {U : MS} {f : Nat} {x : Int32} {L F M : Int} (h : FlI U f) (hx : 0 ≤ x.toInt ∧ x.toInt < (qI U f 4).toInt) (hb : (0 ≤ L ∧ L ≤ 24) ∧ F ≤ 24 ∧ M ≤ 24) (hT : ∀ i : Nat, (i : Int) < (qI U (f + 11) x.toInt.toNat).toInt → rOK (qI U (qO U f 18)) (qI U 75) 40000 (qI U (f + 11) x.toInt.toNat).toInt L F M ((qI U (f + 10) x.toInt.toNat).toInt.toNat + i)) : w_takeMethod U f x (fun u => TkP U (qI U (qO U f 18)) (qI U (f + 10) x.toInt.toNat).toInt.toNat (qI U (f + 11) x.toInt.toNat).toInt L F M u) := by
  unfold w_takeMethod
  refine ⟨_, sp_look h hx, ?_⟩
  rintro V ⟨⟨fV, lk⟩, lo⟩ A eA
  have kc := lk.cnt
  obtain ⟨⟨l1, l2, l3, l4⟩, l5, l6, l7, l8⟩ := lo
  have e48 : qO V 0 48 = qO U f 18 := by unfold qO; rw [l2]
  have n18 : qO U f 18 ≠ 0 := by
    obtain ⟨h1, h2, h3, h4, h5, R, T, C, nc, ts, cn, r1, r2, r3, r4, r5, r6⟩ := h
    have : qO U f 18 = R := by unfold qO; rw [r2.1]; rfl
    omega
  have vR : qI V (qO U f 18) = qI U (qO U f 18) := (fV.2.2.2.2.1 _ n18 List.not_mem_nil).1
  have v75 : qI V 75 = qI U 75 := (fV.2.2.2.2.1 75 (by decide) (by decide)).1
  have row : ∀ y : Int32, 0 ≤ y.toInt → y.toInt < (qI V 0 52).toInt → f_op V y = rwO (qI U (qO U f 18)) (qI U (f + 10) x.toInt.toNat).toInt.toNat y.toInt.toNat ∧ f_first V y = rwA (qI U (qO U f 18)) (qI U (f + 10) x.toInt.toNat).toInt.toNat y.toInt.toNat ∧ f_second V y = rwB (qI U (qO U f 18)) (qI U (f + 10) x.toInt.toNat).toInt.toNat y.toInt.toNat := fun y y0 y1 => by
    obtain ⟨z1, z2, z3⟩ := lk_ix lk (x := y) ⟨y0, y1⟩
    unfold f_op f_first f_second rwO rwA rwB
    rw [z1, z2, z3, e48, vR, ← l5, show (3 * ((qI V 0 51).toInt + y.toInt)).toNat = 3 * ((qI V 0 51).toInt.toNat + y.toInt.toNat) by omega, show (3 * ((qI V 0 51).toInt + y.toInt) + 1).toNat = 3 * ((qI V 0 51).toInt.toNat + y.toInt.toNat) + 1 by omega, show (3 * ((qI V 0 51).toInt + y.toInt) + 2).toNat = 3 * ((qI V 0 51).toInt.toNat + y.toInt.toNat) + 2 by omega]
    exact ⟨rfl, rfl, rfl⟩
  have tk := sp_take (L := L) (F := F) (M := M) lk hb (fun y y0 y1 => by
    obtain ⟨z1, z2, z3⟩ := row y y0 y1
    rw [z1, z2, z3, v75, l6]
    exact hT y.toInt.toNat (by rw [← l6]; omega)) A eA
  obtain ⟨n, hn⟩ := tk
  have mono80 : ∀ (Q Q' : MS → Prop), (∀ u, Q u → Q' u) → ∀ (c : Nat) (W : MS) (k : Int32), w_takeMethod_L80 Q c W k → w_takeMethod_L80 Q' c W k := by
    intro Q Q' hQ c
    induction c with
    | zero => intro W k hW; unfold w_takeMethod_L80 at hW; exact hW.elim
    | succ c ih =>
      intro W k hW
      unfold w_takeMethod_L80 at hW ⊢
      refine ⟨fun z => hQ _ (hW.1 z), fun z => ?_⟩
      obtain ⟨y1, y2, y3⟩ := hW.2 z
      refine ⟨y1, y2, fun A eA => ?_⟩
      obtain ⟨a1, a2, a3⟩ := y3 A eA
      refine ⟨a1, a2, fun B eB => ?_⟩
      obtain ⟨b1, b2, b3⟩ := a3 B eB
      refine ⟨b1, b2, fun C eC => ?_⟩
      obtain ⟨c1, c2, c3⟩ := b3 C eC
      refine ⟨c1, c2, fun D eD => ?_⟩
      obtain ⟨d1, d2⟩ := c3 D eD
      exact ⟨d1, fun E eE a ea => ih E a (d2 E eE a ea)⟩
  have mono16 : ∀ (Q Q' : MS → Prop), (∀ u, Q u → Q' u) → ∀ (c : Nat) (W : MS) (k : Int32), w_takeMethod_L16 Q c W k → w_takeMethod_L16 Q' c W k := by
    intro Q Q' hQ c
    induction c with
    | zero => intro W k hW; unfold w_takeMethod_L16 at hW; exact hW.elim
    | succ c ih =>
      intro W k hW
      unfold w_takeMethod_L16 at hW ⊢
      refine ⟨fun z A eA => ?_, fun z => ?_⟩
      · obtain ⟨n, hn⟩ := hW.1 z A eA
        exact ⟨n, mono80 Q Q' hQ n A 0 hn⟩
      obtain ⟨y1, y2, y3⟩ := hW.2 z
      refine ⟨y1, y2, fun A eA => ?_⟩
      obtain ⟨a1, a2, a3⟩ := y3 A eA
      refine ⟨a1, a2, fun B eB => ?_⟩
      obtain ⟨b1, b2, b3⟩ := a3 B eB
      refine ⟨b1, b2, fun C eC => ?_⟩
      obtain ⟨c1, c2⟩ := b3 C eC
      exact ⟨c1, fun E eE a ea => ih E a (c2 E eE a ea)⟩
  refine ⟨n, mono16 _ _ (fun u hu => ?_) n A 0 hn⟩
  obtain ⟨u1, u2, u3⟩ := hu
  rw [l6] at u2 u3
  refine ⟨u1, u2, fun i hi => ?_⟩
  obtain ⟨y, ey⟩ := i32_ex i (by rw [l6] at kc; omega)
  have ei : y.toInt.toNat = i := by omega
  obtain ⟨⟨q1, q2, q3⟩, q4⟩ := u3 y (by omega) (by omega)
  obtain ⟨z1, z2, z3⟩ := row y (by omega) (by rw [l6]; omega)
  rw [z1] at q1
  rw [z2] at q2
  rw [z3] at q3
  rw [ei] at q1 q2 q3 q4
  exact ⟨⟨q1, q2, q3⟩, q4⟩
/-! improve, one method (behind sp_takeMethod, sp_rounds, sp_markC, sp_putMethod) -/
def ImP (U : MS) (R : Nat → Int32) (fst : Nat) (len L F M : Int) (B m : Nat) (u : MS) : Prop := frm [70, 71, 72, 73, 74, 75, 76, 77, 78, 79, 80, 81, 82, 83, 84, 85, 86, 87, 88, 89, 90, 91, 92] [47, 48, 49, 50, 51, 52, 53, 54, 122, 123, 129, 135, 139] U u ∧ ∃ e n : Nat, (1 ≤ e ∧ (e : Int) ≤ len ∧ n ≤ 16) ∧ ((qI u 0 122).toInt = (B : Int) + e ∧ (qI u 0 123).toInt = (qI U 0 123).toInt + n) ∧ ((∀ j : Nat, j < 3 * B → qI u 74 j = qI U 74 j) ∧ (∀ j : Nat, j < 4 * (qI U 0 123).toInt.toNat → qI u 76 j = qI U 76 j) ∧ ∀ q : Nat, (∀ j : Nat, (j : Int) < len → rwS R fst j → ¬ ((rwA R fst j).toInt ≤ q ∧ (q : Int) ≤ (rwA R fst j).toInt + 2 * (rwB R fst j).toInt)) → qI u 75 q = qI U 75 q) ∧ (sameBut U u 70 m ∧ sameBut U u 71 m ∧ sameBut U u 72 m ∧ sameBut U u 73 m) ∧ ((qI u 70 m).toInt = B ∧ (qI u 71 m).toInt = e ∧ (qI u 72 m).toInt = (qI U 0 123).toInt ∧ (qI u 73 m).toInt = n) ∧ (∀ p : Nat, p < e → rOK (qI u 74) (qI u 75) 40000 e L F M (B + p)) ∧ wtS (qI u 74) B e ≤ 3600 ∧ (∀ p : Nat, p < e → (qI u 74 (3 * (B + p))).toInt = 170 ∨ (qI u 74 (3 * (B + p))).toInt = 171 → ∃ j : Nat, (j : Int) < len ∧ rwS R fst j ∧ (qI u 74 (3 * (B + p) + 1)).toInt = (rwA R fst j).toInt ∧ (qI u 74 (3 * (B + p) + 2)).toInt = (rwB R fst j).toInt) ∧ ∀ c : Nat, c < n → cOK (qI u 76) e ((qI U 0 123).toInt.toNat + c)
theorem sp_impOne {U : MS} {f : Nat} {x o : Int32} {L F M : Int} {B : Nat} {K : MS → Prop} (h : FlI U f) (hx : 0 ≤ x.toInt ∧ x.toInt < (qI U f 4).toInt) (hb : (0 ≤ L ∧ L ≤ 24) ∧ F ≤ 24 ∧ M ≤ 24) (hT : ∀ i : Nat, (i : Int) < (qI U (f + 11) x.toInt.toNat).toInt → rOK (qI U (qO U f 18)) (qI U 75) 40000 (qI U (f + 11) x.toInt.toNat).toInt L F M ((qI U (f + 10) x.toInt.toNat).toInt.toNat + i)) (hS : TbM (qI U (qO U f 18)) (qI U (f + 10) x.toInt.toNat).toInt.toNat (qI U (f + 11) x.toInt.toNat).toInt) (eB : (qI U 0 122).toInt = B) (hB : (B : Int) + (qI U (f + 11) x.toInt.toNat).toInt ≤ 29000) (hC : 0 ≤ (qI U 0 123).toInt ∧ (qI U 0 123).toInt + 16 ≤ 384) (hd : qR U 60 14 = some 70 ∧ qR U 60 15 = some 71 ∧ qR U 60 16 = some 72 ∧ qR U 60 17 = some 73) (hn : qN U 70 = 24 ∧ qN U 71 = 24 ∧ qN U 72 = 24 ∧ qN U 73 = 24) (hm : x.toInt < 24) (hK : ∀ u : MS, ImP U (qI U (qO U f 18)) (qI U (f + 10) x.toInt.toNat).toInt.toNat (qI U (f + 11) x.toInt.toNat).toInt L F M B x.toInt.toNat u → K u) : ∃ Q25, w_takeMethod U f x Q25 ∧ ∀ S26, Q25 S26 → (∃ Q28, w_rounds S26 o Q28 ∧ ∀ S29, Q28 S29 → (∃ Q31, w_mark S29 Q31 ∧ ∀ S32, Q31 S32 → (∃ Q34, w_putMethod S32 x (-1 : Int32) Q34 ∧ ∀ S35, Q34 S35 → K S35))) := by
  refine ⟨_, fr_takeMethod (sp_takeMethod h hx hb hT), ?_⟩
  rintro u1 ⟨⟨o1, g1, t1⟩, f1⟩
  refine ⟨_, fr_rounds (sp_rounds (o := o) o1), ?_⟩
  rintro u2 ⟨⟨r2, ⟨l, a2⟩, w2, s2⟩, f2⟩
  refine ⟨_, sp_markC r2, ?_⟩
  rintro u3 ⟨f3, m3, c3⟩
  have sm3 : smO u2 u3 := smO.fm f3 (by decide) (by decide) (by decide)
  have r3 := sm3.r r2
  have a3 := sm3.a a2 m3
  have s3 : swE u1 u3 := s2.tr (swE.sm sm3)
  have F1 : frm [75, 77, 78, 79, 80, 81, 82, 83, 84, 85, 86, 87, 88, 89, 90] [47, 48, 49, 50, 51, 52, 53, 54, 129, 135, 139] U u3 := (f1.mo (by decide) (by decide)).tr ((f2.mo (by decide) (by decide)).tr (f3.mo (by decide) (by decide)))
  have z := fun (a : Nat) (h1 : a ≠ 0) (h2 : a ∉ [75, 77, 78, 79, 80, 81, 82, 83, 84, 85, 86, 87, 88, 89, 90]) => F1.2.2.2.2.1 a h1 h2
  have z60 := (z 60 (by decide) (by decide)).2.2
  have z122 : qI u3 0 122 = qI U 0 122 := (F1.2.2.2.2.2 122 (by decide)).1
  have z123 : qI u3 0 123 = qI U 0 123 := (F1.2.2.2.2.2 123 (by decide)).1
  have g3 : gN u3 = (qI U (f + 11) x.toInt.toNat).toInt := by rw [s3.1, g1]
  -- the switches that are left
  have sw : ∀ j : Nat, (j : Int) < gN u3 → isW u3 j → rwS (qI U (qO U f 18)) (qI U (f + 10) x.toInt.toNat).toInt.toNat j ∧ (qI u3 79 j).toInt = (rwA (qI U (qO U f 18)) (qI U (f + 10) x.toInt.toNat).toInt.toNat j).toInt ∧ (qI u3 80 j).toInt = (rwB (qI U (qO U f 18)) (qI U (f + 10) x.toInt.toNat).toInt.toNat j).toInt := fun j hj wj => by
    obtain ⟨d1, d2, d3⟩ := s3.2.1 j wj
    obtain ⟨⟨q1, q2, q3⟩, _⟩ := t1 j (by rw [← g3]; exact hj)
    unfold isW at wj
    rw [d1, q1] at wj
    exact ⟨wj, by rw [d2, q2], by rw [d3, q3]⟩
  have a0 : ∀ j : Nat, (j : Int) < gN u3 → isW u3 j → 0 ≤ (qI u3 79 j).toInt ∧ 0 ≤ (qI u3 80 j).toInt := fun j hj wj => by
    have := (r3.2.2.1 j hj).2.2.1 wj
    exact ⟨this.1, this.2.1⟩
  have tb : TbD u3 := fun i j ij hj gi gj wi wj => by
    obtain ⟨i1, i2, i3⟩ := sw i (by omega) wi
    obtain ⟨j1, j2, j3⟩ := sw j hj wj
    have := hS i j ij (by rw [← g3]; exact hj) i1 j1
    have p1 := a0 i (by omega) wi
    have p2 := a0 j hj wj
    unfold tA tB
    omega
  have pc : ∀ c : Nat, (c : Int) < (qI u3 0 135).toInt → (qI u3 86 c).toInt = 0 → (qI u3 82 c).toInt ≤ l ∧ (qI u3 84 c).toInt ≤ l := fun c hc g => by
    obtain ⟨b1, b2, b3, b4, b5, b6, b7, b8, b9, b10, b11⟩ := id sm3
    rw [b2] at hc
    obtain ⟨i, i1, i2, i3, i4⟩ := c3 c hc g
    have il : i ≤ l := by
      by_cases q : l < i
      · exact absurd i2 (a2.1.2.2 i q i1)
      · omega
    rw [b8, b10]
    exact ⟨by omega, a2.2.2 c i hc (m3 c g) i1 i2 i3 i4⟩
  have lm : (-1 : Int32).toInt = -1 := by decide
  refine ⟨_, sp_putMethod (L := L) (F := F) (F' := F) (M := M) (B := B) (K := 0) (rc := fun _ => 0) r3 a3 tb (by rw [wtN_sm sm3]; exact w2) pc (by rw [z122]; exact eB) (by rw [g3]; omega) (by rw [z123]; exact hC) (by rw [z60]; exact hd) (by rw [F1.2.1]; exact hn) ⟨hx.1, hm⟩ (Int.le_refl _) (fun _ => Nat.le_refl _) (fun _ _ => Nat.le_refl _) (fun q => absurd (by rw [lm]; decide) q), ?_⟩
  rintro u ⟨fu, e, n, p1, p2, ⟨p3, p4, p5⟩, ⟨p6, p7, p8, p9⟩, p10, p11, p12, p14, p13⟩
  rw [z123] at p2 p4 p10 p13
  have zz := fun (a : Nat) (h1 : a ≠ 0) (h2 : a ∉ [75, 77, 78, 79, 80, 81, 82, 83, 84, 85, 86, 87, 88, 89, 90]) => (z a h1 h2).1
  refine hK u ⟨(F1.mo (by decide) (by decide)).tr (fu.mo (by decide) (by decide)), e, n, by omega, p2, ⟨fun j hj => by rw [p3 j hj, zz 74 (by decide) (by decide)], fun j hj => by rw [p4 j hj, zz 76 (by decide) (by decide)], fun q hq => ?_⟩, ⟨fun j hj => by rw [p6 j hj, zz 70 (by decide) (by decide)], fun j hj => by rw [p7 j hj, zz 71 (by decide) (by decide)], fun j hj => by rw [p8 j hj, zz 72 (by decide) (by decide)], fun j hj => by rw [p9 j hj, zz 73 (by decide) (by decide)]⟩, p10, p11, by omega, fun p hp hw => (by
    obtain ⟨j, j1, _, j3, j4, j5⟩ := p14 p hp hw
    obtain ⟨y1, y2, y3⟩ := sw j j1 j3
    exact ⟨j, by rw [← g3]; exact j1, y1, by rw [j4, y2], by rw [j5, y3]⟩), p13⟩
  rw [p5 q (fun j hj gj wj y => ?_), s3.2.2 q (fun j hj wj y => ?_), (f1.2.2.2.2.1 75 (by decide) (by decide)).1]
  · obtain ⟨⟨q1, q2, q3⟩, _⟩ := t1 j (by rw [← g1]; exact hj)
    rw [q1] at wj
    rw [q2, q3] at y
    exact hq j (by rw [← g1]; exact hj) wj y
  · obtain ⟨j1, j2, j3⟩ := sw j hj wj
    have q2 := a0 j hj wj
    refine hq j (by rw [← g3]; exact hj) j1 ?_
    unfold tA tB at y
    omega
/-! improve: all methods, one behind the other (behind sp_impOne) -/
def mR (S : MS) (f : Nat) : Nat → Int32 := qI S (qO S f 18)
def mF (S : MS) (f m : Nat) : Nat := (qI S (f + 10) m).toInt.toNat
def mL (S : MS) (f m : Nat) : Int := (qI S (f + 11) m).toInt
/-- the tables of a File lie one behind the other -/
def TbF (S : MS) (f : Nat) : Prop := ∀ m1 m2 i j : Nat, (m2 : Int) < (qI S f 4).toInt → (i : Int) < mL S f m1 → (j : Int) < mL S f m2 → (m1 < m2 ∨ m1 = m2 ∧ i < j) → rwS (mR S f) (mF S f m1) i → rwS (mR S f) (mF S f m2) j → (rwA (mR S f) (mF S f m1) i).toInt + 2 * (rwB (mR S f) (mF S f m1) i).toInt + 1 ≤ (rwA (mR S f) (mF S f m2) j).toInt
/-- a method of the draft -/
def DmI (S : MS) (f : Nat) (U : MS) (m : Nat) : Prop := MtI (qI U 74) (qI U 75) (qI U 76) (qI U 0 122).toInt 40000 (qI U 0 123).toInt (qI S (f + 9) m).toInt (qI S f 3).toInt (qI S f 4).toInt (qI U 70 m) (qI U 71 m) (qI U 72 m) (qI U 73 m) ∧ ∀ p : Nat, (p : Int) < (qI U 71 m).toInt → (qI U 74 (3 * ((qI U 70 m).toInt.toNat + p))).toInt = 170 ∨ (qI U 74 (3 * ((qI U 70 m).toInt.toNat + p))).toInt = 171 → ∃ j : Nat, (j : Int) < mL S f m ∧ rwS (mR S f) (mF S f m) j ∧ (qI U 74 (3 * ((qI U 70 m).toInt.toNat + p) + 1)).toInt = (rwA (mR S f) (mF S f m) j).toInt ∧ (qI U 74 (3 * ((qI U 70 m).toInt.toNat + p) + 2)).toInt = (rwB (mR S f) (mF S f m) j).toInt
/-- outside the tables of method m -/
def ouT (S : MS) (f m q : Nat) : Prop := ∀ j : Nat, (j : Int) < mL S f m → rwS (mR S f) (mF S f m) j → ¬ ((rwA (mR S f) (mF S f m) j).toInt ≤ q ∧ (q : Int) ≤ (rwA (mR S f) (mF S f m) j).toInt + 2 * (rwB (mR S f) (mF S f m) j).toInt)
theorem DmI.mv {S U u : MS} {f m n : Nat} {B : Nat} (h : DmI S f U m) (tb : TbF S f) (mn : m < n) (hn : (n : Int) < (qI S f 4).toInt) (eB : (qI U 0 122).toInt = B) (e1 : (B : Int) ≤ (qI u 0 122).toInt) (e2 : 0 ≤ (qI U 0 123).toInt ∧ (qI U 0 123).toInt ≤ (qI u 0 123).toInt) (k1 : ∀ j : Nat, j < 3 * B → qI u 74 j = qI U 74 j) (k2 : ∀ j : Nat, j < 4 * (qI U 0 123).toInt.toNat → qI u 76 j = qI U 76 j) (k3 : ∀ q : Nat, ouT S f n q → qI u 75 q = qI U 75 q) (s1 : sameBut U u 70 n) (s2 : sameBut U u 71 n) (s3 : sameBut U u 72 n) (s4 : sameBut U u 73 n) : DmI S f u m := by
  have ne : m ≠ n := by omega
  obtain ⟨⟨d1, d2, d3, d4, d5, d6, d7, d8, d9⟩, d10⟩ := h
  rw [eB] at d3
  have rr : ∀ p : Nat, (p : Int) < (qI U 71 m).toInt → qI u 74 (3 * ((qI U 70 m).toInt.toNat + p)) = qI U 74 (3 * ((qI U 70 m).toInt.toNat + p)) ∧ qI u 74 (3 * ((qI U 70 m).toInt.toNat + p) + 1) = qI U 74 (3 * ((qI U 70 m).toInt.toNat + p) + 1) ∧ qI u 74 (3 * ((qI U 70 m).toInt.toNat + p) + 2) = qI U 74 (3 * ((qI U 70 m).toInt.toNat + p) + 2) := fun p hp => ⟨k1 _ (by omega), k1 _ (by omega), k1 _ (by omega)⟩
  unfold DmI
  rw [s1 m ne, s2 m ne, s3 m ne, s4 m ne]
  refine ⟨⟨d1, d2, by omega, fun i hi => ?_, ?_, d6, d7, by omega, fun c hc => ?_⟩, fun p hp hw => ?_⟩
  · have r := d4 i hi
    obtain ⟨q1, q2, q3⟩ := rr i hi
    unfold rOK at r ⊢
    rw [q1, q2, q3]
    refine ⟨r.1, r.2.1, fun w => ?_, r.2.2.2⟩
    obtain ⟨y1, y2, y3, y4, y5, y6⟩ := r.2.2.1 w
    refine ⟨y1, y2, y3, y4, fun k hk => ?_, y6⟩
    obtain ⟨j, j1, j2, j3, j4⟩ := d10 i hi w
    rw [k3 _ (fun i2 hi2 w2 y => ?_)]
    · exact y5 k hk
    · have := tb m n j i2 hn j1 hi2 (Or.inl mn) j2 w2
      omega
  · rw [wtS_eq2 (R := qI U 74) _ (fun i hi => ⟨(rr i (by omega)).1, (rr i (by omega)).2.2⟩)]
    exact d5
  · exact (d9 c hc).mv (fun j hj => k2 j (by omega))
  · obtain ⟨q1, q2, q3⟩ := rr p hp
    rw [q1] at hw
    rw [q2, q3]
    exact d10 p hp hw
/-! improve: the loop over the methods (behind sp_impOne, DmI) -/
def ImI (S : MS) (f m : Nat) (U : MS) : Prop := frm [70, 71, 72, 73, 74, 75, 76, 77, 78, 79, 80, 81, 82, 83, 84, 85, 86, 87, 88, 89, 90, 91, 92] [47, 48, 49, 50, 51, 52, 53, 54, 122, 123, 129, 135, 139] S U ∧ ((0 ≤ (qI U 0 122).toInt ∧ (qI U 0 122).toInt ≤ 1200 * m) ∧ 0 ≤ (qI U 0 123).toInt ∧ (qI U 0 123).toInt ≤ 16 * m) ∧ (∀ n : Nat, n < m → DmI S f U n) ∧ ∀ n i q : Nat, m ≤ n → (n : Int) < (qI S f 4).toInt → (i : Int) < mL S f n → rwS (mR S f) (mF S f n) i → (rwA (mR S f) (mF S f n) i).toInt ≤ q → (q : Int) ≤ (rwA (mR S f) (mF S f n) i).toInt + 2 * (rwB (mR S f) (mF S f n) i).toInt → qI U 75 q = qI S 75 q
theorem sp_improve_L88 {S : MS} {f : Nat} {o : Int32} {Q : Int32 → MS → Prop} (h : FlI S f) (tb : TbF S f) (w75 : ∀ j : Nat, j < qN S (qO S f 19) → qI S 75 j = qI S (qO S f 19) j) (hd : DrO S) (z0 : qI S 0 122 = 0 ∧ qI S 0 123 = 0) (done : ∀ U : MS, ImI S f (qI S f 4).toInt.toNat U → ∃ Q20, w_keptDraft U Q20 ∧ ∀ r21 S22, Q20 r21 S22 → Q r21 S22) : ∃ n, w_improve_L88 Q n S o f 0 := by
  have h' := h
  obtain ⟨h1, h2, h3, h4, h5, R, T, C, nc, ts, cn, r1, r2, r3, r4, r5, r6⟩ := h
  have f92 := h1.1.1
  have eR : qO S f 18 = R := by unfold qO; rw [r2.1]; rfl
  have eT : qO S f 19 = T := by unfold qO; rw [r2.2.1]; rfl
  rw [eT, r4.2.1] at w75
  have L88 : ∀ (c : Nat) (U : MS) (x : Int32), 0 ≤ x.toInt → x.toInt ≤ (qI S f 4).toInt → ImI S f x.toInt.toNat U → (24 - x.toInt).toNat < c → w_improve_L88 Q c U o f x := by
    intro c
    induction c with
    | zero => intro U x _ _ _ h9; exact absurd h9 (Nat.not_lt_zero _)
    | succ c ih =>
      intro U x x0 xM hU hc
      have hU' := hU
      obtain ⟨fU, ⟨b1, b2⟩, dm, wd⟩ := hU
      have big : ∀ a : Nat, 92 < a → qI U a = qI S a ∧ qR U a = qR S a := fun a ha => by
        have z := fU.2.2.2.2.1 a (by omega) (fun q => by simp only [List.mem_cons, List.not_mem_nil, or_false] at q; omega)
        exact ⟨z.1, z.2.2⟩
      have uf4 : qI U f 4 = qI S f 4 := by rw [(big f f92).1]
      unfold w_improve_L88
      rw [uf4]
      refine ⟨fun c1 => done U (by rw [show (qI S f 4).toInt.toNat = x.toInt.toNat by omega]; exact hU'), fun c1 => ?_⟩
      have ek : (x + Int32.ofInt 1).toInt = x.toInt + 1 := by rw [t_add (by rw [lo_1]; omega), lo_1]
      have ekN : (x + Int32.ofInt 1).toInt.toNat = x.toInt.toNat + 1 := by omega
      have xlt : (x.toInt.toNat : Int) < (qI S f 4).toInt := by omega
      have eO : qI U (qO U f 18) = mR S f := by
        have : qO U f 18 = R := by unfold qO; rw [(big f f92).2, r2.1]; rfl
        rw [this, (big R (by omega)).1]
        unfold mR
        rw [eR]
      have e10 : qI U (f + 10) = qI S (f + 10) := (big _ (by omega)).1
      have e11 : qI U (f + 11) = qI S (f + 11) := (big _ (by omega)).1
      have flU : FlI U f := h'.fm f92 fU (by decide)
      obtain ⟨_, _, lc, mt⟩ := r6 x.toInt.toNat xlt
      obtain ⟨t1, t2, t3, t4, t5, t6, t7, t8, t9⟩ := mt
      have u60 : qR U 60 = qR S 60 := (fU.2.2.2.2.1 60 (by decide) (by decide)).2.2
      obtain ⟨B, eB⟩ : ∃ B : Nat, (qI U 0 122).toInt = B := ⟨(qI U 0 122).toInt.toNat, by omega⟩
      have eF : (qI S (f + 10) x.toInt.toNat).toInt.toNat = mF S f x.toInt.toNat := rfl
      have eL : (qI S (f + 11) x.toInt.toNat).toInt = mL S f x.toInt.toNat := rfl
      have hT : ∀ i : Nat, (i : Int) < mL S f x.toInt.toNat → rOK (mR S f) (qI U 75) 40000 (mL S f x.toInt.toNat) (qI S (f + 9) x.toInt.toNat).toInt (qI S f 3).toInt (qI S f 4).toInt (mF S f x.toInt.toNat + i) := fun i hi => by
        have r := t4 i hi
        have em : qI S R = mR S f := by unfold mR; rw [eR]
        rw [em, eF] at r
        refine ⟨r.1, r.2.1, fun w => ?_, r.2.2.2⟩
        obtain ⟨y1, y2, y3, y4, y5, y6⟩ := r.2.2.1 w
        refine ⟨y1, y2, y3, by omega, fun k hk => ?_, y6⟩
        have q := wd x.toInt.toNat i ((mR S f (3 * (mF S f x.toInt.toNat + i) + 1)).toInt.toNat + 2 * k) (Nat.le_refl _) xlt hi w (by unfold rwA; omega) (by unfold rwA rwB; omega)
        rw [q, w75 _ (by omega)]
        exact y5 k hk
      have hS : TbM (mR S f) (mF S f x.toInt.toNat) (mL S f x.toInt.toNat) := fun i j ij hj wi wj => tb x.toInt.toNat x.toInt.toNat i j xlt (by omega) hj (Or.inr ⟨rfl, ij⟩) wi wj
      have one := sp_impOne (U := U) (f := f) (x := x) (o := o) (L := (qI S (f + 9) x.toInt.toNat).toInt) (F := (qI S f 3).toInt) (M := (qI S f 4).toInt) (B := B) (K := fun S35 => ∀ a37 : Int32, a37 = (x + Int32.ofInt 1) → w_improve_L88 Q c S35 o f a37) flU ⟨x0, by rw [uf4]; omega⟩ ⟨lc, h4.1.2, h4.2.2⟩ (by rw [eO, e10, e11]; exact hT) (by rw [eO, e10, e11]; exact hS) eB (by rw [e11]; omega) ⟨b2.1, by omega⟩ (by rw [u60]; exact ⟨(hd 9 (by decide)).1, (hd 10 (by decide)).1, (hd 11 (by decide)).1, (hd 12 (by decide)).1⟩) (by rw [fU.2.1]; exact ⟨(hd 9 (by decide)).2, (hd 10 (by decide)).2, (hd 11 (by decide)).2, (hd 12 (by decide)).2⟩) (by omega) (fun u hu a ea => ?_)
      · exact one
      rw [eO, e10, e11, eF, eL] at hu
      obtain ⟨fu, e, n, ⟨p1, p2, p3⟩, ⟨p4, p5⟩, ⟨p6, p7, p8⟩, ⟨p9, p10, p11, p12⟩, ⟨q1, q2, q3, q4⟩, p13, p14, p15, p16⟩ := hu
      subst ea
      have len1200 : mL S f x.toInt.toNat ≤ 1200 := t2.2
      refine ih u _ (by omega) (by omega) ⟨fU.tr fu, by rw [ekN]; omega, fun m' hm' => ?_, fun m' i q hm' hM hi wi y1 y2 => ?_⟩ (by omega)
      · rw [ekN] at hm'
        by_cases w : m' = x.toInt.toNat
        · subst w
          unfold DmI
          have qb : (qI u 70 x.toInt.toNat).toInt.toNat = B := by omega
          have qc : (qI u 72 x.toInt.toNat).toInt.toNat = (qI U 0 123).toInt.toNat := by rw [q3]
          refine ⟨⟨by omega, by omega, by omega, fun i hi => ?_, ?_, by omega, by omega, by omega, fun c' hc' => ?_⟩, fun p hp hw => ?_⟩
          · rw [qb, q2]; exact p13 i (by omega)
          · rw [qb, q2]; exact p14
          · rw [qc, q2]; exact p16 c' (by omega)
          · rw [qb] at hw ⊢
            exact p15 p (by omega) hw
        · exact (dm m' (by omega)).mv tb (by omega) xlt eB (by omega) ⟨b2.1, by omega⟩ p6 p7 p8 p9 p10 p11 p12
      · rw [ekN] at hm'
        rw [p8 q (fun j hj wj y => ?_)]
        · exact wd m' i q (by omega) hM hi wi y1 y2
        · have := tb x.toInt.toNat m' j i hM hj hi (Or.inl (by omega)) wj wi
          omega
  have zz : (0 : Int32).toInt = 0 := rfl
  refine ⟨_, L88 _ S 0 (by decide) (by omega) ⟨frm.rf, by rw [z0.1, z0.2]; omega, fun n hn => by omega, fun n i q _ _ _ _ _ _ => rfl⟩ (Nat.lt_succ_self _)⟩
/-! the graph drawn twice: what is reached is the least closed set (behind sp_reach, GeI) -/
def eG (S : MS) (b c : Nat) : Prop := ∃ k : Nat, (qI S 51 b).toInt ≤ k ∧ (k : Int) < (qI S 51 (b + 1)).toInt ∧ (qI S 52 k).toInt = c
def clG (S : MS) (P : Nat → Prop) : Prop := ∀ b c : Nat, (b : Int) < (qI S 0 105).toInt → P b → eG S b c → P c
def lsG (S u : MS) : Prop := ∀ P : Nat → Prop, P 0 → clG S P → ∀ b : Nat, (b : Int) < (qI S 0 105).toInt → ¬ (qI u 53 b).toInt = 0 → P b
def RhP (S u : MS) : Prop := ¬ (qI u 53 0).toInt = 0 ∧ clG S (fun b => ¬ (qI u 53 b).toInt = 0) ∧ lsG S u
def RcX (S S0 U : MS) (m : Int32) (B : Nat) : Prop := RcR S0 U m ∧ lsG S U ∧ ¬ (qI U 53 0).toInt = 0 ∧ (m.toInt = 0 → ∀ b c : Nat, b < B → ¬ (qI U 53 b).toInt = 0 → eG S b c → ¬ (qI U 53 c).toInt = 0)
theorem sp_reach2 {S : MS} (h : GeI S) (h1 : 1 ≤ (qI S 0 105).toInt) : w_reach S (fun u => frm [53] [] S u ∧ RhP S u) := by
  have l0 : (0 : Int32).toInt = 0 := rfl
  have bc := h.1
  have ec := h.2.1
  have same : ∀ U : MS, frm [53] [] S U → qI U 51 = qI S 51 ∧ qI U 52 = qI S 52 ∧ qI U 0 105 = qI S 0 105 ∧ qI U 0 110 = qI S 0 110 := fun U fU => ⟨(fU.2.2.2.2.1 51 (by decide) (by decide)).1, (fU.2.2.2.2.1 52 (by decide) (by decide)).1, (fU.2.2.2.2.2 105 (by decide)).1, (fU.2.2.2.2.2 110 (by decide)).1⟩
  have L56 : ∀ (S0 : MS) (k41 : MS → Int32 → Int32 → Prop) (b : Int32), frm [53] [] S S0 → (0 ≤ b.toInt ∧ b.toInt < (qI S 0 105).toInt) → (∀ (U : MS) (m : Int32), RcX S S0 U m (b.toInt.toNat + 1) → k41 U m (b + Int32.ofInt 1)) → ∀ (c : Nat) (U : MS) (m k : Int32), RcX S S0 U m b.toInt.toNat → 0 ≤ k.toInt → (m.toInt = 0 → ∀ k' : Nat, (qI S 51 b.toInt.toNat).toInt ≤ k' → (k' : Int) < k.toInt → ¬ (qI U 53 (qI S 52 k').toInt.toNat).toInt = 0) → (qI S 51 b.toInt.toNat).toInt ≤ k.toInt → (24000 - k.toInt).toNat < c → w_reach_L56 (fun u => frm [53] [] S u ∧ RhP S u) k41 c U m b k := by
    intro S0 k41 b f0 hb hk
    intro c
    induction c with
    | zero => intro U m k _ _ _ _ h9; exact absurd h9 (Nat.not_lt_zero _)
    | succ c ih =>
      intro U m k hU k0 hkk hkl hc
      have fU : frm [53] [] S U := f0.tr hU.1.1
      obtain ⟨u51, u52, u105, u110⟩ := same U fU
      have eb : (b + (1 : Int32)).toInt = b.toInt + 1 := by rw [t_add (by rw [li_1]; omega), li_1]
      have ebn : (b.toInt + 1).toNat = b.toInt.toNat + 1 := by omega
      have nxt : (m.toInt = 0 → ¬ (qI U 53 b.toInt.toNat).toInt = 0 → ∀ k' : Nat, (qI S 51 b.toInt.toNat).toInt ≤ k' → (k' : Int) < (qI S 51 (b.toInt.toNat + 1)).toInt → ¬ (qI U 53 (qI S 52 k').toInt.toNat).toInt = 0) → w_reach_J119 (fun u => frm [53] [] S u ∧ RhP S u) k41 U m b := fun hz => by
        unfold w_reach_J119
        intro a ea
        subst ea
        refine hk U m ⟨hU.1, hU.2.1, hU.2.2.1, fun mz b' c' hb' nb eg => ?_⟩
        by_cases q : b' = b.toInt.toNat
        · subst q
          obtain ⟨k', k1, k2, k3⟩ := eg
          have := hz mz nb k' k1 k2
          rw [k3] at this
          exact this
        · exact hU.2.2.2 mz b' c' (by omega) nb eg
      unfold w_reach_L56
      rw [eb, u51, u52]
      refine ⟨⟨hb.1, by omega⟩, fun z => nxt (fun _ nb => absurd z nb), fun c0 => ⟨⟨by omega, by omega⟩, fun z => nxt (fun mz _ k' k1 k2 => hkk mz k' k1 (by rw [ebn] at z; omega)), fun c1 => ?_⟩⟩
      have e1 := h.2.2.1 (b.toInt + 1).toNat (by omega)
      have e2 := h.2.2.2 k.toInt.toNat (by omega)
      have ek : (k + Int32.ofInt 1).toInt = k.toInt + 1 := by rw [t_add (by rw [lo_1]; omega), lo_1]
      have j100 : ∀ m' : Int32, (¬ m'.toInt = 0 → ¬ m.toInt = 0 ∨ (qI U 53 (qI S 52 k.toInt.toNat).toInt.toNat).toInt = 0) → (m'.toInt = 0 → m.toInt = 0 ∧ ¬ (qI U 53 (qI S 52 k.toInt.toNat).toInt.toNat).toInt = 0) → w_reach_J100 (fun u => frm [53] [] S u ∧ RhP S u) (w_reach_L56 (fun u => frm [53] [] S u ∧ RhP S u) k41 c) U m' b k := fun m' hm hm2 => by
        unfold w_reach_J100
        rw [u52]
        refine ⟨⟨k0, by omega⟩, ⟨by omega, by omega⟩, fun D eD a ea => ?_⟩
        subst ea
        have z := zc_set (S := U) (h := 53) (i := (qI S 52 k.toInt.toNat).toInt.toNat) (n := (qI U 0 105).toInt.toNat) (v := vp_nar .boolean (1 : Int32)) (by rw [u105]; omega) vb1
        rw [← eD] at z
        have d105 : qI D 0 105 = qI U 0 105 := by rw [eD, rdH (by decide)]
        have d53 : ∀ j : Nat, qI D 53 j = if j = (qI S 52 k.toInt.toNat).toInt.toNat then vp_nar .boolean (1 : Int32) else qI U 53 j := fun j => by
          rw [eD, qI_wI]
          by_cases q : j = (qI S 52 k.toInt.toNat).toInt.toNat
          · rw [if_pos ⟨rfl, q⟩, if_pos q]
          · rw [if_neg (fun z => q z.2), if_neg q]
        have up : ∀ j : Nat, ¬ (qI U 53 j).toInt = 0 → ¬ (qI D 53 j).toInt = 0 := fun j hj => by
          rw [d53]
          by_cases q : j = (qI S 52 k.toInt.toNat).toInt.toNat
          · rw [if_pos q]; exact vb1
          · rw [if_neg q]; exact hj
        have dn : ¬ (qI U 53 (qI S 52 k.toInt.toNat).toInt.toNat).toInt = 0 → ∀ j : Nat, ¬ (qI D 53 j).toInt = 0 → ¬ (qI U 53 j).toInt = 0 := fun hn j hj => by
          rw [d53] at hj
          by_cases q : j = (qI S 52 k.toInt.toNat).toInt.toNat
          · rw [q]; exact hn
          · rw [if_neg q] at hj; exact hj
        have r1 : rcN D ≤ rcN U := by unfold rcN; rw [d105]; exact z.1
        have r2 : (qI U 53 (qI S 52 k.toInt.toNat).toInt.toNat).toInt = 0 → rcN D < rcN U := fun q => by unfold rcN; rw [d105]; exact z.2 q
        refine ih D m' _ ⟨⟨hU.1.1.tr (by rw [eD]; exact frm.pI (by decide)), by have := hU.1.2.1; omega, fun q => ?_⟩, fun P p0 pc b' hb' nb => ?_, up 0 hU.2.2.1, fun mz b' c' hb' nb eg => ?_⟩ (by omega) (fun mz k' k1 k2 => ?_) (by omega) (by omega)
        · rcases hm q with y | y
          · have := hU.1.2.2 y; omega
          · have := r2 y; have := hU.1.2.1; omega
        · rw [d53] at nb
          by_cases q : b' = (qI S 52 k.toInt.toNat).toInt.toNat
          · have pb := hU.2.1 P p0 pc b.toInt.toNat (by omega) c0
            refine pc b.toInt.toNat b' (by omega) pb ⟨k.toInt.toNat, by omega, by rw [ebn] at c1; omega, by omega⟩
          · rw [if_neg q] at nb
            exact hU.2.1 P p0 pc b' hb' nb
        · obtain ⟨m0, hn⟩ := hm2 mz
          exact up c' (hU.2.2.2 m0 b' c' hb' (dn hn b' nb) eg)
        · obtain ⟨m0, hn⟩ := hm2 mz
          by_cases q : k' = k.toInt.toNat
          · rw [q]; exact up _ hn
          · exact up _ (hkk m0 k' k1 (by omega))
      refine ⟨fun c2 => ⟨⟨k0, by omega⟩, ⟨by omega, by omega⟩, fun c3 => ?_, fun c3 => j100 0 (fun q => absurd rfl q) (fun _ => ⟨c2, c3⟩)⟩, fun c2 => ?_⟩
      · exact j100 1 (fun _ => Or.inr c3) (fun q => absurd q (by decide))
      · exact j100 1 (fun _ => Or.inl c2) (fun q => absurd q (by decide))
  have L41 : ∀ (S0 : MS) (k33 : MS → Int32 → Prop), frm [53] [] S S0 → (∀ (U : MS) (m : Int32), RcX S S0 U m (qI S 0 105).toInt.toNat → k33 U m) → ∀ (c : Nat) (U : MS) (m b : Int32), RcX S S0 U m b.toInt.toNat → 0 ≤ b.toInt → b.toInt ≤ (qI S 0 105).toInt → (1200 - b.toInt).toNat < c → w_reach_L41 (fun u => frm [53] [] S u ∧ RhP S u) k33 c U m b := by
    intro S0 k33 f0 hk c
    induction c with
    | zero => intro U m b _ _ _ h9; exact absurd h9 (Nat.not_lt_zero _)
    | succ c ih =>
      intro U m b hU b0 b1 hc
      have fU : frm [53] [] S U := f0.tr hU.1.1
      obtain ⟨u51, u52, u105, u110⟩ := same U fU
      unfold w_reach_L41
      rw [u105, u51]
      refine ⟨fun c1 => hk U m (by rw [show (qI S 0 105).toInt.toNat = b.toInt.toNat by omega]; exact hU), fun c1 => ⟨⟨b0, by omega⟩, fun a ea => ?_⟩⟩
      have e1 := h.2.2.1 b.toInt.toNat (by omega)
      have ek : (b + Int32.ofInt 1).toInt = b.toInt + 1 := by rw [t_add (by rw [lo_1]; omega), lo_1]
      exact ⟨_, L56 S0 _ b f0 ⟨b0, by omega⟩ (fun U' m' h' => ih U' m' _ (by rw [show (b + Int32.ofInt 1).toInt.toNat = b.toInt.toNat + 1 by omega]; exact h') (by omega) (by omega) (by omega)) _ U m a hU (by rw [ea]; exact e1.1) (fun _ k' k1 k2 => by rw [ea] at k2; omega) (by rw [ea]; omega) (Nat.lt_succ_self _)⟩
  have L33 : ∀ (c : Nat) (U : MS) (m : Int32), frm [53] [] S U → lsG S U → ¬ (qI U 53 0).toInt = 0 → (m.toInt = 0 → clG S (fun b => ¬ (qI U 53 b).toInt = 0)) → (m.toInt = 0 ∧ 1 ≤ c ∨ rcN U + 2 ≤ c) → w_reach_L33 (fun u => frm [53] [] S u ∧ RhP S u) c U m := by
    intro c
    induction c with
    | zero => intro U m _ _ _ _ h9; exact absurd h9 (by omega)
    | succ c ih =>
      intro U m fU hl hz hcl hc
      unfold w_reach_L33
      refine ⟨fun c1 => ⟨fU, hz, hcl c1, hl⟩, fun c1 => ?_⟩
      have hc2 : rcN U + 2 ≤ c + 1 := by omega
      refine ⟨_, L41 U _ fU (fun V m' hV => ih V m' (fU.tr hV.1.1) hV.2.1 hV.2.2.1 (fun mz b c' hb nb eg => hV.2.2.2 mz b c' (by omega) nb eg) ?_) _ U 0 0 ⟨⟨frm.rf, Nat.le_refl _, fun q => absurd rfl q⟩, hl, hz, fun _ b c' hb => absurd hb (by rw [l0]; exact Nat.not_lt_zero _)⟩ (by decide) (by rw [l0]; exact bc.1) (Nat.lt_succ_self _)⟩
      by_cases z : m'.toInt = 0
      · exact Or.inl ⟨z, by omega⟩
      · have := hV.1.2.2 z
        exact Or.inr (by omega)
  have L2 : ∀ (c : Nat) (U : MS) (b : Int32), frm [53] [] S U → 0 ≤ b.toInt → b.toInt ≤ (qI S 0 105).toInt → (∀ j : Nat, (j : Int) < b.toInt → ¬ (qI U 53 j).toInt = 0 → j = 0) → (1 ≤ b.toInt → ¬ (qI U 53 0).toInt = 0) → (1200 - b.toInt).toNat < c → w_reach_L2 (fun u => frm [53] [] S u ∧ RhP S u) c U b := by
    intro c
    induction c with
    | zero => intro U b _ _ _ _ _ h9; exact absurd h9 (Nat.not_lt_zero _)
    | succ c ih =>
      intro U b fU b0 b1 hj hz hc
      obtain ⟨u51, u52, u105, u110⟩ := same U fU
      unfold w_reach_L2
      rw [u105]
      refine ⟨fun c1 => ⟨_, L33 _ U 1 fU (fun P p0 _ j jb nj => ?_) (hz (by omega)) (fun q => absurd q (by decide)) (Or.inr (Nat.le_refl _))⟩, fun c1 => ?_⟩
      · have := hj j (by omega) nj
        rw [this]; exact p0
      have ek : (b + Int32.ofInt 1).toInt = b.toInt + 1 := by rw [t_add (by rw [lo_1]; omega), lo_1]
      have j24 : ∀ v : Int32, (b.toInt = 0 → v = 1) → (¬ b.toInt = 0 → v = 0) → w_reach_J24 (fun u => frm [53] [] S u ∧ RhP S u) (w_reach_L2 (fun u => frm [53] [] S u ∧ RhP S u) c) U v b b := fun v v1 v2 => by
        unfold w_reach_J24
        refine ⟨⟨b0, by omega⟩, fun D eD a ea => ?_⟩
        subst ea
        have d53 : ∀ j : Nat, qI D 53 j = if j = b.toInt.toNat then vp_nar .boolean v else qI U 53 j := fun j => by
          rw [eD, qI_wI]
          by_cases q : j = b.toInt.toNat
          · rw [if_pos ⟨rfl, q⟩, if_pos q]
          · rw [if_neg (fun z => q z.2), if_neg q]
        refine ih D _ (fU.tr (by rw [eD]; exact frm.pI (by decide))) (by omega) (by omega) (fun j jb nj => ?_) (fun _ => ?_) (by omega)
        · rw [d53] at nj
          by_cases q : j = b.toInt.toNat
          · rw [if_pos q] at nj
            by_cases z : b.toInt = 0
            · omega
            · rw [v2 z] at nj; exact absurd (by decide) nj
          · rw [if_neg q] at nj
            exact hj j (by omega) nj
        · rw [d53]
          by_cases q : 0 = b.toInt.toNat
          · rw [if_pos q, v1 (by omega)]; exact vb1
          · rw [if_neg q]; exact hz (by omega)
      exact ⟨fun z => j24 1 (fun _ => rfl) (fun q => absurd z q), fun z => j24 0 (fun q => absurd q z) (fun _ => rfl)⟩
  unfold w_reach
  exact ⟨_, L2 _ S 0 frm.rf (by decide) (by rw [l0]; exact bc.1) (fun j hj => by rw [l0] at hj; omega) (fun q => by rw [l0] at q; omega) (Nat.lt_succ_self _)⟩
