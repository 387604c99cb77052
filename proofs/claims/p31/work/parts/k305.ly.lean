/-! the layout -/
/-- a state that the layout leaves -/
def LyT (S u : MS) : Prop := AtI u ∧ smB S u ∧ qI u 0 12 = qI S 0 12 ∧ (0 ≤ (qI u 0 20).toInt ∧ (qI u 0 20).toInt + 8 ≤ (qI u 0 12).toInt) ∧ (0 ≤ (qI u 0 22).toInt ∧ (qI u 0 22).toInt ≤ 24 ∧ (qI u 0 22).toInt ≤ (qI u 0 21).toInt ∧ (qI u 0 21).toInt ≤ (qI u 0 22).toInt + 24) ∧ (∀ i : Nat, (i : Int) < (qI u 0 21).toInt → mOK u i) ∧ (∀ a : Nat, (a : Int) < (qI u 0 25).toInt → aOK u a) ∧ qI u 4 = qI S 4 ∧ qI u 6 = qI S 6 ∧ qI u 7 = qI S 7 ∧ qI u 0 14 = qI S 0 14
theorem mOK.mv {S u : MS} {i : Nat} (h : mOK S i) (e1 : qI u 9 i = qI S 9 i) (e2 : qI u 0 12 = qI S 0 12) : mOK u i := by
  unfold mOK
  rw [e1, e2]
  exact h
theorem sp_layT {U : MS} {Q : MS → Prop} (h : RdI U) (h16 : (qI U 0 12).toInt ≤ 16000) (hQ : ∀ u, LyT U u → Q u) :
    (∃ Q16 EQ16, w_over U (2 : Int64) Q16 EQ16 ∧ (∀ r17 S18, Q16 r17 S18 → (∀ S20, S20 = wI S18 0 20 r17 → (∃ Q21 EQ21, w_over S20 (6 : Int64) Q21 EQ21 ∧ (∀ r22 S23, Q21 r22 S23 → (∀ S25, S25 = wI S23 0 21 0 → (∀ S26, S26 = wI S25 0 25 0 → (∃ Q27 EQ27, w_members S26 Q27 EQ27 ∧ (∀ S28, Q27 S28 → (∀ S30, S30 = wI S28 0 22 (qI S28 0 21) → (∃ Q31 EQ31, w_members S30 Q31 EQ31 ∧ (∀ S32, Q31 S32 → (∃ Q34 EQ34, w_attributesOf S32 (-1 : Int32) Q34 EQ34 ∧ (∀ S35, Q34 S35 → (∀ S37, S37 = wI S35 0 28 (qI S35 0 13) → Q S37)) ∧ (∀ u9, EQ34 u9 → (fun _ : MS => True) u9))) ∧ (∀ u9, EQ31 u9 → (fun _ : MS => True) u9)))) ∧ (∀ u9, EQ27 u9 → (fun _ : MS => True) u9))))) ∧ (∀ u9, EQ21 u9 → (fun _ : MS => True) u9)))) ∧ (∀ u9, EQ16 u9 → (fun _ : MS => True) u9)) := by
  have hb := h.bnd
  have l2 : (2 : Int64).toInt = 2 := by decide
  have l6 : (6 : Int64).toInt = 6 := by decide
  refine ⟨_, _, sp_over h (by decide), ?_, fun _ _ => trivial⟩
  rintro r17 S18 ⟨e17, v1, rfl, a1, b1⟩ S20 e20
  rw [l2] at a1
  have h1 : RdI (wI U 0 13 v1) := h.nx (by omega) b1
  have h2 : RdI S20 := by rw [e20]; exact h1.fld (by decide)
  have x13 : qI S20 0 13 = v1 := by rw [e20, qI_wI, if_neg (by decide), n_13]
  have x12 : qI S20 0 12 = qI U 0 12 := by rw [e20, qI_wI, if_neg (by decide), n_12]
  have x20 : qI S20 0 20 = qI U 0 13 := by rw [e20, qI_wI, if_pos ⟨rfl, rfl⟩, e17]
  refine ⟨_, _, sp_over h2 (by decide), ?_, fun _ _ => trivial⟩
  rintro r22 S23 ⟨-, v2, e23, a2, b2⟩ S25 e25 S26 e26
  rw [x13, l6] at a2
  rw [x12] at b2
  have h3 : RdI S23 := by rw [e23]; exact h2.nx (by omega) (by rw [x12]; exact b2)
  have h4 : RdI S26 := by rw [e26, e25]; exact (h3.fld (by decide)).fld (by decide)
  have y : ∀ j : Nat, j ≠ 13 → j ≠ 21 → j ≠ 25 → j ≠ 20 → qI S26 0 j = qI U 0 j := fun j k1 k2 k3 k4 => by
    rw [e26, qI_wI, if_neg (fun q => k3 q.2), e25, qI_wI, if_neg (fun q => k2 q.2), e23, qI_wI, if_neg (fun q => k1 q.2), e20, qI_wI, if_neg (fun q => k4 q.2), qI_wI, if_neg (fun q => k1 q.2)]
  have yr : ∀ a : Nat, a ≠ 0 → qI S26 a = qI U a := fun a ha => by rw [e26, rdH ha, e25, rdH ha, e23, rdH ha, e20, rdH ha, rdH ha]
  have y13 : qI S26 0 13 = v2 := by rw [e26, qI_wI, if_neg (by decide), e25, qI_wI, if_neg (by decide), e23, n_13]
  have y20 : qI S26 0 20 = qI U 0 13 := by rw [e26, qI_wI, if_neg (by decide), e25, qI_wI, if_neg (by decide), e23, qI_wI, if_neg (by decide), x20]
  have y21 : qI S26 0 21 = 0 := by rw [e26, qI_wI, if_neg (by decide), e25, qI_wI, if_pos ⟨rfl, rfl⟩]
  have y25 : qI S26 0 25 = 0 := by rw [e26, qI_wI, if_pos ⟨rfl, rfl⟩]
  have y12 : qI S26 0 12 = qI U 0 12 := y 12 (by decide) (by decide) (by decide) (by decide)
  have sU : smB U S26 := ⟨by rw [e26, e25, e23, e20]; rfl, yr _ (h.ne h.z (by decide))⟩
  have hA : AtI S26 := ⟨h4, by rw [y12]; exact h16, by rw [y25, li_0]; omega, by rw [y25, y13, li_0]; omega⟩
  refine ⟨_, _, fr_members (sp_members hA (by rw [y21, li_0]; omega)), ?_, fun _ _ => trivial⟩
  rintro S28 ⟨⟨k, hk, p1, p2, p3, p4, p5, p6, p7, p8, p9, p10⟩, hf⟩ S30 e30
  have g20 : qI S28 0 20 = qI S26 0 20 := (hf.2.2.2.2.2 20 (by decide)).1
  have g14 : qI S28 0 14 = qI S26 0 14 := (hf.2.2.2.2.2 14 (by decide)).1
  have g4 : qI S28 4 = qI S26 4 := (hf.2.2.2.2.1 4 (by decide) (by decide)).1
  have g6 : qI S28 6 = qI S26 6 := (hf.2.2.2.2.1 6 (by decide) (by decide)).1
  have g7 : qI S28 7 = qI S26 7 := (hf.2.2.2.2.1 7 (by decide) (by decide)).1
  rw [y21, li_0] at p5 p8
  rw [y25, li_0] at p6 p10
  have hA2 : AtI S30 := by rw [e30]; exact p1.fld (by decide)
  have z22 : qI S30 0 22 = qI S28 0 21 := by rw [e30, qI_wI, if_pos ⟨rfl, rfl⟩]
  have z : ∀ j : Nat, j ≠ 22 → qI S30 0 j = qI S28 0 j := fun j hj => by rw [e30, qI_wI, if_neg (fun q => hj q.2)]
  have zr : ∀ a : Nat, a ≠ 0 → qI S30 a = qI S28 a := fun a ha => by rw [e30, rdH ha]
  have s30 : smB S28 S30 := by rw [e30]; exact p1.1.ss (a := 0) (t := 10) p1.1.z (by decide)
  refine ⟨_, _, fr_members (sp_members hA2 (by rw [z 21 (by decide)]; omega)), ?_, fun _ _ => trivial⟩
  rintro S32 ⟨⟨k2, hk2, r1, r2, r3, r4, r5, r6, r7, r8, r9, r10⟩, hf2⟩
  have i20 : qI S32 0 20 = qI S30 0 20 := (hf2.2.2.2.2.2 20 (by decide)).1
  have i22 : qI S32 0 22 = qI S30 0 22 := (hf2.2.2.2.2.2 22 (by decide)).1
  have i14 : qI S32 0 14 = qI S30 0 14 := (hf2.2.2.2.2.2 14 (by decide)).1
  have i4 : qI S32 4 = qI S30 4 := (hf2.2.2.2.2.1 4 (by decide) (by decide)).1
  have i6 : qI S32 6 = qI S30 6 := (hf2.2.2.2.2.1 6 (by decide) (by decide)).1
  have i7 : qI S32 7 = qI S30 7 := (hf2.2.2.2.2.1 7 (by decide) (by decide)).1
  rw [z 21 (by decide)] at r5 r7 r8
  rw [z 25 (by decide)] at r6 r9 r10
  rw [z 12 (by decide)] at r3
  have m32 : ∀ i : Nat, (i : Int) < (qI S32 0 21).toInt → mOK S32 i := fun i hi => by
    by_cases e : (i : Int) < (qI S28 0 21).toInt
    · exact (p8 i (by omega) e).mv (by rw [r7 i e, zr 9 (by decide)]) r3
    · exact r8 i (by omega) hi
  have a32 : ∀ a : Nat, (a : Int) < (qI S32 0 25).toInt → aOK S32 a := fun a ha => by
    by_cases e : (a : Int) < (qI S28 0 25).toInt
    · exact (p10 a (by omega) e).mv (s30.tr r2) (by rw [r9 a e, zr 10 (by decide)]) r3
    · exact r10 a (by omega) ha
  refine ⟨_, _, fr_attributesOf (sp_attributesOf r1), ?_, fun _ _ => trivial⟩
  rintro S35 ⟨⟨o1, o2, o3, o4, o5, o6, o7⟩, hf3⟩ S37 e37
  have w : ∀ j : Nat, j ≠ 28 → qI S37 0 j = qI S35 0 j := fun j hj => by rw [e37, qI_wI, if_neg (fun q => hj q.2)]
  have wr : ∀ a : Nat, a ≠ 0 → qI S37 a = qI S35 a := fun a ha => by rw [e37, rdH ha]
  have f3 : ∀ j : Nat, j ∉ [7, 8, 13, 25] → qI S35 0 j = qI S32 0 j := fun j hj => (hf3.2.2.2.2.2 j hj).1
  have s37 : smB S35 S37 := by rw [e37]; exact o1.1.ss (a := 0) (t := 10) o1.1.z (by decide)
  have c12 : qI S37 0 12 = qI U 0 12 := by rw [w 12 (by decide), f3 12 (by decide), r3, p3, y12]
  have c20 : qI S37 0 20 = qI U 0 13 := by rw [w 20 (by decide), f3 20 (by decide), i20, z 20 (by decide), g20, y20]
  have c21 : qI S37 0 21 = qI S32 0 21 := by rw [w 21 (by decide), f3 21 (by decide)]
  have c22 : qI S37 0 22 = qI S28 0 21 := by rw [w 22 (by decide), f3 22 (by decide), i22, z22]
  have c9 : qI S37 9 = qI S32 9 := by rw [wr 9 (by decide)]; exact (hf3.2.2.2.2.1 9 (by decide) (by decide)).1
  have d12 : qI S37 0 12 = qI S32 0 12 := by rw [w 12 (by decide), f3 12 (by decide)]
  refine hQ S37 ⟨by rw [e37]; exact o1.fld (by decide), sU.tr (p2.tr (s30.tr (r2.tr (o2.tr s37)))), c12, ?_, ?_, fun i hi => ?_, fun a ha => ?_, ?_, ?_, ?_, ?_⟩
  · rw [c20, c12]; omega
  · rw [c22, c21]; omega
  · rw [c21] at hi
    exact (m32 i hi).mv (by rw [c9]) d12
  · rw [w 25 (by decide)] at ha
    by_cases e : (a : Int) < (qI S32 0 25).toInt
    · exact (a32 a e).mv (o2.tr s37) (by rw [wr 10 (by decide), (o6 a e).1]) d12
    · exact (o7 a (by omega) ha).1.mv s37 (by rw [wr 10 (by decide)]) (w 12 (by decide))
  · rw [wr 4 (by decide), (hf3.2.2.2.2.1 4 (by decide) (by decide)).1, i4, zr 4 (by decide), g4, yr 4 (by decide)]
  · rw [wr 6 (by decide), (hf3.2.2.2.2.1 6 (by decide) (by decide)).1, i6, zr 6 (by decide), g6, yr 6 (by decide)]
  · rw [wr 7 (by decide), (hf3.2.2.2.2.1 7 (by decide) (by decide)).1, i7, zr 7 (by decide), g7, yr 7 (by decide)]
  · rw [w 14 (by decide), f3 14 (by decide), i14, z 14 (by decide), g14, y 14 (by decide) (by decide) (by decide) (by decide)]
/-! the layout, whole -/
def eO0 (S : MS) (k : Nat) : Prop := eOK S k ∨ (qI S 4 k).toInt = 0
theorem eO0.mv {S u : MS} {k : Nat} (h : eO0 S k) (e4 : qI u 4 k = qI S 4 k) (e6 : qI u 6 k = qI S 6 k) (e7 : qI u 7 k = qI S 7 k) (e12 : qI u 0 12 = qI S 0 12) (sb : smB S u) : eO0 u k := by
  unfold eO0 eOK
  rw [e4, e6, e7, e12, sb.bt]
  exact h
/-- what the layout leaves -/
def LyP (S u : MS) : Prop := AtI u ∧ smB S u ∧ qI u 0 12 = qI S 0 12 ∧ (0 ≤ (qI u 0 20).toInt ∧ (qI u 0 20).toInt + 8 ≤ (qI u 0 12).toInt) ∧ (0 ≤ (qI u 0 22).toInt ∧ (qI u 0 22).toInt ≤ 24 ∧ (qI u 0 22).toInt ≤ (qI u 0 21).toInt ∧ (qI u 0 21).toInt ≤ (qI u 0 22).toInt + 24) ∧ (∀ i : Nat, (i : Int) < (qI u 0 21).toInt → mOK u i) ∧ (∀ a : Nat, (a : Int) < (qI u 0 25).toInt → aOK u a) ∧ (1 ≤ (qI u 0 14).toInt ∧ (qI u 0 14).toInt ≤ 500) ∧ ∀ j : Nat, 1 ≤ j → (j : Int) < (qI u 0 14).toInt → eO0 u j
def LyL (S U : MS) (k : Int) : Prop := RdI U ∧ smB S U ∧ qI U 0 12 = qI S 0 12 ∧ (1 ≤ (qI U 0 14).toInt ∧ (qI U 0 14).toInt ≤ 500) ∧ (∀ j : Nat, 1 ≤ j → (j : Int) < k → eO0 U j) ∧ ∀ j : Nat, k ≤ (j : Int) → j < 502 → (qI U 4 j).toInt = 0
theorem sp_layout_L136 {S : MS} {Q : MS → Prop} (h16 : (qI S 0 12).toInt ≤ 16000) (hQ : ∀ u, LyP S u → Q u) :
    ∀ (m : Nat) (U : MS) (k : Int32), (1 ≤ k.toInt ∧ k.toInt ≤ 501 ∧ LyL S U k.toInt) → (502 - k.toInt).toNat < m → w_layout_L136 Q (fun _ => True) m U k := by
  intro m
  induction m with
  | zero => intro U i _ h9; exact absurd h9 (Nat.not_lt_zero _)
  | succ m ih =>
    rintro U k ⟨k0, k1, hR, hs, e12, hp, hL, hZ⟩ hm
    unfold w_layout_L136
    refine ⟨fun c => sp_layT hR (by rw [e12]; exact h16) (fun u hu => ?_), fun c => ?_⟩
    · obtain ⟨p1, p2, p3, p4, p5, p6, p7, p8, p9, p10, p11⟩ := hu
      refine hQ u ⟨p1, hs.tr p2, by rw [p3, e12], p4, p5, p6, p7, by rw [p11]; exact hp, fun j hj hj2 => ?_⟩
      rw [p11] at hj2
      exact (hL j hj (by omega)).mv (by rw [p8]) (by rw [p9]) (by rw [p10]) p3 p2
    · refine ⟨_, _, fr_entry (sp_entry hR ⟨by omega, by omega⟩), ?_, fun _ _ => trivial⟩
      rintro u ⟨⟨q1, q2, q3, q4, q5, q6⟩, hf⟩
      have f14 : qI u 0 14 = qI U 0 14 := (hf.2.2.2.2.2 14 (by decide)).1
      have hk : (k.toInt.toNat : Int) = k.toInt := by omega
      have ol : ∀ j : Nat, 1 ≤ j → (j : Int) < k.toInt + 1 → eO0 u j := fun j hj hj2 => by
        by_cases e : j = k.toInt.toNat
        · rw [e]; exact Or.inl q6
        · exact (hL j hj (by omega)).mv (q5 j e).1 (q5 j e).2.1 (q5 j e).2.2 q3 q2
      have oz : ∀ j : Nat, k.toInt + 1 ≤ (j : Int) → j < 502 → (qI u 4 j).toInt = 0 := fun j hj hj2 => by
        rw [(q5 j (by omega)).1]
        exact hZ j (by omega) hj2
      have e1 : (k + (1 : Int32)).toInt = k.toInt + 1 := by rw [t_add (by rw [li_1]; omega), li_1]
      have e2 : (k + (2 : Int32)).toInt = k.toInt + 2 := by rw [t_add (by rw [li_2]; omega), li_2]
      refine ⟨⟨by omega, by omega⟩, fun _ => ?_, fun _ => ?_⟩
      · unfold w_layout_J165
        intro a ea
        subst ea
        refine ih _ _ ⟨by omega, by omega, q1, hs.tr q2, by rw [q3, e12], by rw [f14]; exact hp, fun j hj hj2 => ?_, fun j hj hj2 => oz j (by omega) hj2⟩ (by omega)
        by_cases e : (j : Int) < k.toInt + 1
        · exact ol j hj e
        · exact Or.inr (oz j (by omega) (by omega))
      · unfold w_layout_J165
        intro a ea
        subst ea
        exact ih _ _ ⟨by omega, by omega, q1, hs.tr q2, by rw [q3, e12], by rw [f14]; exact hp, fun j hj hj2 => ol j hj (by omega), fun j hj hj2 => oz j (by omega) hj2⟩ (by omega)
theorem sp_layout_L112 {S : MS} {Q : MS → Prop} (h16 : (qI S 0 12).toInt ≤ 16000) (hQ : ∀ u, LyP S u → Q u) :
    ∀ (m : Nat) (U : MS) (k : Int32), (0 ≤ k.toInt ∧ k.toInt ≤ 502 ∧ qN U 4 = 502 ∧ RdI U ∧ smB S U ∧ qI U 0 12 = qI S 0 12 ∧ (1 ≤ (qI U 0 14).toInt ∧ (qI U 0 14).toInt ≤ 500) ∧ ∀ j : Nat, (j : Int) < k.toInt → (qI U 4 j).toInt = 0) → (502 - k.toInt).toNat < m → w_layout_L112 Q (fun _ => True) m U k := by
  intro m
  induction m with
  | zero => intro U i _ h9; exact absurd h9 (Nat.not_lt_zero _)
  | succ m ih =>
    rintro U k ⟨k0, k1, hN, hR, hs, e12, hp, hZ⟩ hm
    unfold w_layout_L112
    have eN : (Int32.ofNat (qN U 4)).toInt = 502 := by rw [hN]; decide
    rw [eN]
    refine ⟨fun c => ⟨_, sp_layout_L136 h16 hQ _ U 1 ⟨by decide, by decide, hR, hs, e12, hp, fun j hj hj2 => ?_, fun j hj hj2 => hZ j (by omega)⟩ (Nat.lt_succ_self _)⟩, fun c => ?_⟩
    · rw [li_1] at hj2; omega
    · refine ⟨⟨k0, by omega⟩, fun u eu a ea => ?_⟩
      have t4 : qT U 4 = 2 := hR.fin fin_15
      have e1 : a.toInt = k.toInt + 1 := by rw [ea, t_add (by rw [lo_1]; omega), lo_1]
      have u0 : qI u 0 = qI U 0 := by rw [eu, rdH (by decide)]
      refine ih u a ⟨by omega, by omega, by rw [eu]; exact hN, by rw [eu]; exact hR.row (by decide), by rw [eu]; exact hs.tr (hR.ss (a := 4) (t := 2) t4 (by decide)), by rw [u0, e12], by rw [u0]; exact hp, fun j hj => ?_⟩ (by omega)
      rw [eu, qI_wI]
      by_cases e : j = k.toInt.toNat
      · rw [if_pos ⟨rfl, e⟩]; decide
      · rw [if_neg (fun q => e q.2)]; exact hZ j (by omega)
/-- the bytes are there; where reading stands may be anything -/
def BsI (S : MS) : Prop := ∃ b : Nat, qR S 0 11 = some b ∧ qT S b = 1 ∧ (qT S 0 = 10 ∧ ∀ q ∈ finL, qT S q.2.1 = q.2.2.1) ∧ 0 ≤ (qI S 0 12).toInt ∧ (qI S 0 12).toInt ≤ (qN S b : Int) ∧ qN S b ≤ 131072
theorem BsI.nx {S : MS} (h : BsI S) {v : Int32} (h0 : 0 ≤ v.toInt) (h1 : v.toInt ≤ (qI S 0 12).toInt) : RdI (wI S 0 13 v) := by
  obtain ⟨b, h2, h3, h4, h5, h6, h7⟩ := h
  exact ⟨b, h2, h3, h4, by rw [n_13]; exact h0, by rw [n_13, n_12]; exact h1, by rw [n_12]; exact h6, h7⟩
theorem BsI.oct {S : MS} (h : BsI S) {x : Int32} (h0 : 0 ≤ x.toInt) (h1 : x.toInt < (qI S 0 12).toInt) : d_octet S x := by
  obtain ⟨b, h2, h3, h4, h5, h6, h7⟩ := h
  unfold d_octet
  rw [show qO S 0 11 = b by unfold qO; rw [h2]; rfl]
  exact ⟨h2, ⟨h0, by omega⟩, trivial⟩
theorem BsI.sm {S : MS} (h : BsI S) {v : Int32} {j : Nat} : smB S (wI S 0 j v) := by
  obtain ⟨b, h2, h3, h4, -⟩ := h
  refine ⟨rfl, rdH ?_⟩
  rw [show qO S 0 11 = b by unfold qO; rw [h2]; rfl]
  intro q
  rw [q, h4.1] at h3
  cases h3
theorem sp_layout_L2 {S : MS} {Q : MS → Prop} (hB : BsI S) (hN : qN S 4 = 502) (h16 : (qI S 0 12).toInt ≤ 16000) (hQ : ∀ u, LyP S u → Q u) :
    ∀ (m : Nat) (k : Int32), (0 ≤ k.toInt ∧ k.toInt ≤ 8 ∧ k.toInt ≤ (qI S 0 12).toInt) → (8 - k.toInt).toNat < m → w_layout_L2 Q (fun _ => True) m S k := by
  intro m
  induction m with
  | zero => intro i _ h9; exact absurd h9 (Nat.not_lt_zero _)
  | succ m ih =>
    rintro k ⟨k0, k1, k2⟩ hm
    unfold w_layout_L2
    refine ⟨fun c S2 e2 => ?_, fun c => ?_⟩
    · have l2 : (2 : Int64).toInt = 2 := by decide
      have h2 : RdI S2 := by rw [e2]; exact hB.nx (by decide) (by rw [li_8]; omega)
      have x13 : qI S2 0 13 = 8 := by rw [e2, n_13]
      have x12 : qI S2 0 12 = qI S 0 12 := by rw [e2, n_12]
      refine ⟨_, _, sp_over h2 (by decide), ?_, fun _ _ => trivial⟩
      rintro r4 S5 ⟨e4, v, e5, a1, b1⟩
      rw [x13, l2, li_8] at a1
      rw [x12] at b1
      have h5 : RdI S5 := by rw [e5]; exact h2.nx (by omega) (by rw [x12]; exact b1)
      have y12 : qI S5 0 12 = qI S 0 12 := by rw [e5, n_12, x12]
      have s5 : smB S S5 := by rw [e5, e2, wI_wI]; exact hB.sm
      refine ⟨h5.two (by rw [e4, x13, li_8]; omega) (by rw [e4, x13, li_8, y12]; omega), fun S10 e10 => ?_⟩
      have h10 : RdI S10 := by rw [e10]; exact h5.fld (by decide)
      have z12 : qI S10 0 12 = qI S 0 12 := by rw [e10, qI_wI, if_neg (by decide), y12]
      have s10 : smB S S10 := s5.tr (by rw [e10]; exact h5.ss (a := 0) (t := 10) h5.z (by decide))
      have st : ∀ t : Int32, (t.toInt ≠ 0 → 1 ≤ (qI S10 0 14).toInt ∧ (qI S10 0 14).toInt ≤ 500) → w_layout_J104 Q (fun _ => True) S10 t := fun t ht => by
        unfold w_layout_J104
        refine ⟨_, _, sp_must, ?_, fun _ _ => trivial⟩
        rintro U3 ⟨rfl, hz⟩
        exact ⟨_, sp_layout_L112 h16 hQ _ _ 0 ⟨by decide, by decide, by rw [e10, e5, e2]; exact hN, h10, s10, z12, ht hz, fun j hj => absurd hj (by rw [li_0]; omega)⟩ (Nat.lt_succ_self _)⟩
      refine ⟨fun _ => ?_, fun c1 => ⟨fun _ => ?_, fun c2 => st 1 (fun _ => ⟨by omega, by omega⟩)⟩⟩
      · unfold w_layout_J103; exact st 0 (fun q => absurd rfl q)
      · unfold w_layout_J103; exact st 0 (fun q => absurd rfl q)
    · have e1 : (k + Int32.ofInt 1).toInt = k.toInt + 1 := by rw [t_add (by rw [lo_1]; omega), lo_1]
      have s48 : k.toInt < (qI S 0 12).toInt → ∀ t : Int32, w_layout_J48 Q (fun _ => True) (w_layout_L2 Q (fun _ => True) m) S t k := fun hk t => by
        unfold w_layout_J48
        refine ⟨_, _, sp_must, ?_, fun _ _ => trivial⟩
        rintro U3 ⟨rfl, -⟩ a ea
        subst ea
        exact ih _ ⟨by omega, by omega, by omega⟩ (by omega)
      have s22 : ∀ t : Int32, (t.toInt ≠ 0 → k.toInt < (qI S 0 12).toInt) → w_layout_J22 Q (fun _ => True) (w_layout_L2 Q (fun _ => True) m) S t k := fun t ht => by
        unfold w_layout_J22
        refine ⟨_, _, sp_must, ?_, fun _ _ => trivial⟩
        rintro U3 ⟨rfl, hz⟩
        exact ⟨hB.oct k0 (ht hz), trivial, fun _ => s48 (ht hz) 1, fun _ => s48 (ht hz) 0⟩
      exact ⟨fun _ => s22 0 (fun q => absurd rfl q), fun c2 => s22 1 (fun _ => by omega)⟩
theorem sp_layout {S : MS} (hB : BsI S) (hN : qN S 4 = 502) (h16 : (qI S 0 12).toInt ≤ 16000) : w_layout S (LyP S) (fun _ => True) := by
  unfold w_layout
  have h0 : 0 ≤ (qI S 0 12).toInt := by obtain ⟨b, -, -, -, h5, -⟩ := hB; exact h5
  exact ⟨_, sp_layout_L2 hB hN h16 (fun u hu => hu) _ 0 ⟨by decide, by decide, by rw [li_0]; exact h0⟩ (Nat.lt_succ_self _)⟩
/-! the entries refer to entries -/
def isE (S : MS) (x : Int32) (t : Int) : Prop := 1 ≤ x.toInt ∧ x.toInt < (qI S 0 14).toInt ∧ (qI S 4 x.toInt.toNat).toInt = t
def refOK (S : MS) (k : Nat) : Prop := ((qI S 4 k).toInt = 7 → isE S (qI S 6 k) 1) ∧ ((qI S 4 k).toInt = 12 → isE S (qI S 6 k) 1 ∧ isE S (qI S 7 k) 1) ∧ ((qI S 4 k).toInt = 9 ∨ (qI S 4 k).toInt = 10 → isE S (qI S 6 k) 7 ∧ isE S (qI S 7 k) 12)
theorem d_isE {S : MS} (hp : (qI S 0 14).toInt ≤ 500) (x t : Int32) : d_isEntry S x t := by
  unfold d_isEntry d_isEntry_J27
  by_cases c1 : x.toInt < 1
  · rw [if_pos c1]; trivial
  · rw [if_neg c1]
    by_cases c2 : (qI S 0 14).toInt ≤ x.toInt
    · rw [if_pos c2]; trivial
    · rw [if_neg c2]
      refine ⟨⟨by omega, by omega⟩, ?_⟩
      split <;> trivial
theorem f_isE {S : MS} {x t : Int32} (h : (f_isEntry S x t).toInt ≠ 0) : isE S x t.toInt := by
  unfold f_isEntry f_isEntry_J27 at h
  by_cases c1 : x.toInt < 1
  · rw [if_pos c1] at h; exact absurd rfl h
  · rw [if_neg c1] at h
    by_cases c2 : (qI S 0 14).toInt ≤ x.toInt
    · rw [if_pos c2] at h; exact absurd rfl h
    · rw [if_neg c2] at h
      by_cases c3 : (qI S 4 x.toInt.toNat).toInt = t.toInt
      · exact ⟨by omega, by omega, c3⟩
      · rw [if_neg c3] at h; exact absurd rfl h
theorem sp_entries_L {S : MS} {Q : MS → Prop} (hp : (qI S 0 14).toInt ≤ 500) (hQ : (∀ k : Nat, 1 ≤ k → (k : Int) < (qI S 0 14).toInt → refOK S k) → Q S) :
    ∀ (m : Nat) (k : Int32), (1 ≤ k.toInt ∧ k.toInt ≤ 501 ∧ ∀ j : Nat, 1 ≤ j → (j : Int) < k.toInt → refOK S j) → (502 - k.toInt).toNat < m → w_entries_L2 Q (fun _ => True) m S k := by
  intro m
  induction m with
  | zero => intro i _ h9; exact absurd h9 (Nat.not_lt_zero _)
  | succ m ih =>
    rintro k ⟨k0, k1, hL⟩ hm
    unfold w_entries_L2
    refine ⟨fun c => hQ (fun j hj hj2 => hL j hj (by omega)), fun c => ?_⟩
    have g : (0 : Int) ≤ k.toInt ∧ k.toInt < 502 := ⟨by omega, by omega⟩
    have e1 : (k + Int32.ofInt 1).toInt = k.toInt + 1 := by rw [t_add (by rw [lo_1]; omega), lo_1]
    have s131 : ∀ t : Int32, (t.toInt ≠ 0 → refOK S k.toInt.toNat) → w_entries_J131 Q (fun _ => True) (w_entries_L2 Q (fun _ => True) m) S k t := fun t ht => by
      unfold w_entries_J131
      refine ⟨g, _, _, sp_must, ?_, fun _ _ => trivial⟩
      rintro U ⟨rfl, hz⟩ a ea
      subst ea
      refine ih _ ⟨by omega, by omega, fun j hj hj2 => ?_⟩ (by omega)
      by_cases e : j = k.toInt.toNat
      · rw [e]; exact ht hz
      · exact hL j hj (by omega)
    have s128 : w_entries_J128 Q (fun _ => True) (w_entries_L2 Q (fun _ => True) m) S k := by
      unfold w_entries_J128 w_entries_J129
      exact s131 0 (fun q => absurd rfl q)
    have s104 : (qI S 4 k.toInt.toNat).toInt = 9 ∨ (qI S 4 k.toInt.toNat).toInt = 10 → w_entries_J104 Q (fun _ => True) (w_entries_L2 Q (fun _ => True) m) S k (qI S 6 k.toInt.toNat) (qI S 7 k.toInt.toNat) := fun hc => by
      unfold w_entries_J104
      refine ⟨d_isE hp _ _, fun _ => s128, fun n1 => ⟨d_isE hp _ _, fun _ => s128, fun n2 => ?_⟩⟩
      unfold w_entries_J129
      exact s131 1 (fun _ => ⟨fun q => by omega, fun q => by omega, fun _ => ⟨f_isE n1, f_isE n2⟩⟩)
    have s82 : ∀ t : Int32, (t.toInt ≠ 0 → ((qI S 4 k.toInt.toNat).toInt = 7 → isE S (qI S 6 k.toInt.toNat) 1) ∧ ((qI S 4 k.toInt.toNat).toInt = 12 → isE S (qI S 6 k.toInt.toNat) 1 ∧ isE S (qI S 7 k.toInt.toNat) 1)) → w_entries_J82 Q (fun _ => True) (w_entries_L2 Q (fun _ => True) m) S k (qI S 6 k.toInt.toNat) (qI S 7 k.toInt.toNat) t := fun t ht => by
      unfold w_entries_J82
      exact ⟨g, fun c9 => s104 (Or.inl c9), fun n9 => ⟨g, fun c10 => s104 (Or.inr c10), fun n10 => s131 t (fun hz => ⟨(ht hz).1, (ht hz).2, fun q => by omega⟩)⟩⟩
    have s79 : w_entries_J79 Q (fun _ => True) (w_entries_L2 Q (fun _ => True) m) S k (qI S 6 k.toInt.toNat) (qI S 7 k.toInt.toNat) := by
      unfold w_entries_J79 w_entries_J80
      exact s82 0 (fun q => absurd rfl q)
    have s46 : ∀ t : Int32, (t.toInt ≠ 0 → (qI S 4 k.toInt.toNat).toInt = 7 → isE S (qI S 6 k.toInt.toNat) 1) → w_entries_J46 Q (fun _ => True) (w_entries_L2 Q (fun _ => True) m) S k (qI S 6 k.toInt.toNat) (qI S 7 k.toInt.toNat) t := fun t ht => by
      unfold w_entries_J46
      refine ⟨g, fun c12 => ⟨d_isE hp _ _, fun _ => s79, fun n1 => ⟨d_isE hp _ _, fun _ => s79, fun n2 => ?_⟩⟩, fun n12 => s82 t (fun hz => ⟨ht hz, fun q => by omega⟩)⟩
      unfold w_entries_J80
      exact s82 1 (fun _ => ⟨fun q => by omega, fun _ => ⟨f_isE n1, f_isE n2⟩⟩)
    refine ⟨g, fun a4 e4 => ⟨g, fun a7 e7 => ⟨g, fun c7 => ⟨d_isE hp _ _, fun a45 e45 => ?_⟩, fun n7 => ?_⟩⟩⟩
    · subst e4 e7
      exact s46 a45 (fun hz _ => by rw [e45] at hz; exact f_isE hz)
    · subst e4 e7
      exact s46 1 (fun _ q => absurd q n7)
theorem sp_entries {S : MS} (hp : (qI S 0 14).toInt ≤ 500) : w_entries S (fun u => u = S ∧ ∀ k : Nat, 1 ≤ k → (k : Int) < (qI S 0 14).toInt → refOK S k) (fun _ => True) := by
  unfold w_entries
  exact ⟨_, sp_entries_L hp (fun h => ⟨rfl, h⟩) _ 1 ⟨by decide, by decide, fun j hj hj2 => absurd hj2 (by rw [li_1]; omega)⟩ (Nat.lt_succ_self _)⟩
/-- a name is asked for -/
theorem sp_mustName {S : MS} {x : Int32} (hp : (qI S 0 14).toInt ≤ 500) (hd : d_two S x) : w_mustName S x (fun u => u = S ∧ isE S (f_two S x) 1) (fun _ => True) := by
  unfold w_mustName
  refine ⟨hd, d_isE hp _ _, _, _, sp_must, ?_, fun _ _ => trivial⟩
  rintro U ⟨rfl, hz⟩
  exact ⟨rfl, f_isE hz⟩
/-! flags, classes, names -/
/-- what is read of a file's members: they lie within -/
def MmI (S : MS) : Prop := RdI S ∧ (0 ≤ (qI S 0 20).toInt ∧ (qI S 0 20).toInt + 8 ≤ (qI S 0 12).toInt) ∧ (0 ≤ (qI S 0 22).toInt ∧ (qI S 0 22).toInt ≤ 24 ∧ (qI S 0 22).toInt ≤ (qI S 0 21).toInt ∧ (qI S 0 21).toInt ≤ (qI S 0 22).toInt + 24) ∧ (∀ i : Nat, (i : Int) < (qI S 0 21).toInt → mOK S i) ∧ (0 ≤ (qI S 0 25).toInt ∧ (qI S 0 25).toInt < 3000) ∧ (∀ a : Nat, (a : Int) < (qI S 0 25).toInt → aOK S a) ∧ (1 ≤ (qI S 0 14).toInt ∧ (qI S 0 14).toInt ≤ 500) ∧ ∀ j : Nat, 1 ≤ j → (j : Int) < (qI S 0 14).toInt → eO0 S j
theorem LyP.mm {S u : MS} (h : LyP S u) : MmI u := by
  obtain ⟨⟨p1, p2, p3, p4⟩, -, -, q1, q2, q3, q4, q5, q6⟩ := h
  have hb := p1.bnd
  exact ⟨p1, q1, q2, q3, ⟨p3, by omega⟩, q4, q5, q6⟩
theorem MmI.d2 {S : MS} (h : MmI S) {i : Nat} (hi : (i : Int) < (qI S 0 21).toInt) {d x : Int32} (hd : 0 ≤ d.toInt ∧ d.toInt ≤ 4) (e : x = qI S 9 i + d) : d_two S x := by
  obtain ⟨m1, m2⟩ := h.2.2.2.1 i hi
  have hb := h.1.bnd
  have ex : x.toInt = (qI S 9 i).toInt + d.toInt := by rw [e, t_add (by omega)]
  exact h.1.two (by omega) (by omega)
theorem MmI.d0 {S : MS} (h : MmI S) {i : Nat} (hi : (i : Int) < (qI S 0 21).toInt) : d_two S (qI S 9 i) := by
  obtain ⟨m1, m2⟩ := h.2.2.2.1 i hi
  exact h.1.two (by omega) (by omega)
theorem MmI.da {S : MS} (h : MmI S) {a : Nat} (ha : (a : Int) < (qI S 0 25).toInt) : d_two S (qI S 10 a) := by
  obtain ⟨m1, m2⟩ := h.2.2.2.2.2.1 a ha
  have := c_and64 (a := (f_four S (qI S 10 a + 2)).toInt64)
  exact h.1.two (by omega) (by omega)
theorem sp_flags_L {S : MS} {Q : MS → Prop} (h : MmI S) (hQ : Q S) : ∀ (m : Nat) (k : Int32), (0 ≤ k.toInt ∧ k.toInt ≤ 48) → (48 - k.toInt).toNat < m → w_flags_L30 Q (fun _ => True) m S k := by
  intro m
  induction m with
  | zero => intro i _ h9; exact absurd h9 (Nat.not_lt_zero _)
  | succ m ih =>
    rintro k ⟨k0, k1⟩ hm
    unfold w_flags_L30
    refine ⟨fun _ => hQ, fun c => ?_⟩
    have hc := h.2.2.1
    have g : (0 : Int) ≤ k.toInt ∧ k.toInt < 48 := ⟨by omega, by omega⟩
    have e1 : (k + Int32.ofInt 1).toInt = k.toInt + 1 := by rw [t_add (by rw [lo_1]; omega), lo_1]
    have st : ∀ t : Int32, w_flags_J59 Q (fun _ => True) (w_flags_L30 Q (fun _ => True) m) S t k := fun t => by
      unfold w_flags_J59
      refine ⟨g, _, _, sp_must, ?_, fun _ _ => trivial⟩
      rintro U ⟨rfl, -⟩ a ea
      subst ea
      exact ih _ ⟨by omega, by omega⟩ (by omega)
    exact ⟨g, h.d0 (by omega), fun _ => st 1, fun _ => st 0⟩
theorem sp_flags {S : MS} (h : MmI S) : w_flags S (fun u => u = S) (fun _ => True) := by
  unfold w_flags
  have h20 := h.2.1
  have st : ∀ t : Int32, w_flags_J19 (fun u => u = S) (fun _ => True) S t := fun t => by
    unfold w_flags_J19
    refine ⟨_, _, sp_must, ?_, fun _ _ => trivial⟩
    rintro U ⟨rfl, -⟩
    exact ⟨_, sp_flags_L (Q := fun u => u = U) h rfl _ 0 ⟨by decide, by decide⟩ (Nat.lt_succ_self _)⟩
  exact ⟨h.1.two (by omega) (by omega), fun _ => st 1, fun _ => st 0⟩
theorem sp_classes {S : MS} (h : MmI S) : w_classes S (fun u => u = S ∧ isE S (f_two S (qI S 0 20 + 2)) 7 ∧ isE S (f_two S (qI S 0 20 + 4)) 7) (fun _ => True) := by
  have h20 := h.2.1
  have hb := h.1.bnd
  have hp := h.2.2.2.2.2.2.1
  have e2 : (qI S 0 20 + (2 : Int32)).toInt = (qI S 0 20).toInt + 2 := by rw [t_add (by rw [li_2]; omega), li_2]
  have e4 : (qI S 0 20 + (4 : Int32)).toInt = (qI S 0 20).toInt + 4 := by rw [t_add (by rw [li_4]; omega), li_4]
  have e6 : (qI S 0 20 + (6 : Int32)).toInt = (qI S 0 20).toInt + 6 := by rw [t_add (by rw [li_6]; omega), li_6]
  unfold w_classes
  refine ⟨h.1.two (by omega) (by omega), d_isE hp.2 _ _, _, _, sp_must, ?_, fun _ _ => trivial⟩
  rintro U ⟨rfl, z1⟩
  refine ⟨h.1.two (by omega) (by omega), d_isE hp.2 _ _, _, _, sp_must, ?_, fun _ _ => trivial⟩
  rintro U2 ⟨rfl, z2⟩
  have st : ∀ t : Int32, w_classes_J76 (fun u => u = U2 ∧ isE U2 (f_two U2 (qI U2 0 20 + 2)) 7 ∧ isE U2 (f_two U2 (qI U2 0 20 + 4)) 7) (fun _ => True) U2 t := fun t => by
    unfold w_classes_J76
    refine ⟨_, _, sp_must, ?_, fun _ _ => trivial⟩
    rintro U3 ⟨rfl, -⟩
    exact ⟨rfl, f_isE z1, f_isE z2⟩
  exact ⟨h.1.two (by omega) (by omega), fun _ => st 1, fun _ => st 0⟩
/-- the members' names and types are names; so are the attributes' -/
def NmI (S : MS) : Prop := (∀ i : Nat, (i : Int) < (qI S 0 21).toInt → isE S (f_two S (qI S 9 i + 2)) 1 ∧ isE S (f_two S (qI S 9 i + 4)) 1) ∧ ∀ a : Nat, (a : Int) < (qI S 0 25).toInt → isE S (f_two S (qI S 10 a)) 1
theorem sp_names_L76 {S : MS} {Q : MS → Prop} (h : MmI S) (hm : ∀ i : Nat, (i : Int) < (qI S 0 21).toInt → isE S (f_two S (qI S 9 i + 2)) 1 ∧ isE S (f_two S (qI S 9 i + 4)) 1) (hQ : NmI S → Q S) :
    ∀ (m : Nat) (k : Int32), (0 ≤ k.toInt ∧ k.toInt ≤ 3000 ∧ ∀ a : Nat, (a : Int) < k.toInt → isE S (f_two S (qI S 10 a)) 1) → (3000 - k.toInt).toNat < m → w_names_L76 Q (fun _ => True) m S k := by
  intro m
  induction m with
  | zero => intro i _ h9; exact absurd h9 (Nat.not_lt_zero _)
  | succ m ih =>
    rintro k ⟨k0, k1, hk⟩ hmm
    unfold w_names_L76
    refine ⟨fun c => hQ ⟨hm, fun a ha => hk a (by omega)⟩, fun c => ?_⟩
    have h25 := h.2.2.2.2.1
    have e1 : (k + Int32.ofInt 1).toInt = k.toInt + 1 := by rw [t_add (by rw [lo_1]; omega), lo_1]
    refine ⟨⟨k0, by omega⟩, _, _, sp_mustName h.2.2.2.2.2.2.1.2 (h.da (a := k.toInt.toNat) (by omega)), ?_, fun _ _ => trivial⟩
    rintro U ⟨rfl, z⟩ a ea
    subst ea
    refine ih _ ⟨by omega, by omega, fun j hj => ?_⟩ (by omega)
    by_cases e : j = k.toInt.toNat
    · rw [e]; exact z
    · exact hk j (by omega)
theorem sp_names_L36 {S : MS} {Q : MS → Prop} {k4 : MS → Int32 → Int32 → Prop} {i : Int32} (h : MmI S) (hK : ∀ k : Int32, (0 ≤ k.toInt ∧ k.toInt ≤ 3000 ∧ ∀ a : Nat, (a : Int) < k.toInt → isE S (f_two S (qI S 10 a)) 1) → k4 S k (i + Int32.ofInt 1)) :
    ∀ (m : Nat) (k : Int32), (0 ≤ k.toInt ∧ k.toInt ≤ 3000 ∧ ∀ a : Nat, (a : Int) < k.toInt → isE S (f_two S (qI S 10 a)) 1) → (3000 - k.toInt).toNat < m → w_names_L36 Q (fun _ => True) k4 m S k i := by
  intro m
  induction m with
  | zero => intro i _ h9; exact absurd h9 (Nat.not_lt_zero _)
  | succ m ih =>
    rintro k ⟨k0, k1, hk⟩ hmm
    have st : w_names_J70 Q (fun _ => True) k4 S k i := by
      unfold w_names_J70
      intro a ea
      subst ea
      exact hK k ⟨k0, k1, hk⟩
    unfold w_names_L36
    refine ⟨fun _ => st, fun c => ?_⟩
    have h25 := h.2.2.2.2.1
    have e1 : (k + Int32.ofInt 1).toInt = k.toInt + 1 := by rw [t_add (by rw [lo_1]; omega), lo_1]
    refine ⟨⟨k0, by omega⟩, fun _ => ⟨⟨k0, by omega⟩, _, _, sp_mustName h.2.2.2.2.2.2.1.2 (h.da (a := k.toInt.toNat) (by omega)), ?_, fun _ _ => trivial⟩, fun _ => st⟩
    rintro U ⟨rfl, z⟩ a ea
    subst ea
    refine ih _ ⟨by omega, by omega, fun j hj => ?_⟩ (by omega)
    by_cases e : j = k.toInt.toNat
    · rw [e]; exact z
    · exact hk j (by omega)
theorem sp_names_L4 {S : MS} {Q : MS → Prop} (h : MmI S) (hQ : NmI S → Q S) :
    ∀ (m : Nat) (k i : Int32), ((0 ≤ k.toInt ∧ k.toInt ≤ 3000 ∧ ∀ a : Nat, (a : Int) < k.toInt → isE S (f_two S (qI S 10 a)) 1) ∧ 0 ≤ i.toInt ∧ i.toInt ≤ 48 ∧ ∀ j : Nat, (j : Int) < i.toInt → isE S (f_two S (qI S 9 j + 2)) 1 ∧ isE S (f_two S (qI S 9 j + 4)) 1) → (48 - i.toInt).toNat < m → w_names_L4 Q (fun _ => True) m S k i := by
  intro m
  induction m with
  | zero => intro k i _ h9; exact absurd h9 (Nat.not_lt_zero _)
  | succ m ih =>
    rintro k i ⟨hk, i0, i1, hi⟩ hmm
    unfold w_names_L4
    have hc := h.2.2.1
    have hp := h.2.2.2.2.2.2.1
    refine ⟨fun c => ⟨_, sp_names_L76 h (fun j hj => hi j (by omega)) hQ _ k hk (Nat.lt_succ_self _)⟩, fun c => ?_⟩
    have g : (0 : Int) ≤ i.toInt ∧ i.toInt < 48 := ⟨i0, by omega⟩
    have e1 : (i + Int32.ofInt 1).toInt = i.toInt + 1 := by rw [t_add (by rw [lo_1]; omega), lo_1]
    refine ⟨g, _, _, sp_mustName hp.2 (h.d2 (i := i.toInt.toNat) (by omega) (d := 2) (by decide) rfl), ?_, fun _ _ => trivial⟩
    rintro U ⟨rfl, z1⟩
    refine ⟨g, _, _, sp_mustName hp.2 (h.d2 (i := i.toInt.toNat) (by omega) (d := 4) (by decide) rfl), ?_, fun _ _ => trivial⟩
    rintro U2 ⟨rfl, z2⟩
    refine ⟨_, sp_names_L36 h (fun k2 hk2 => ih k2 _ ⟨hk2, by omega, by omega, fun j hj => ?_⟩ (by omega)) _ k hk (Nat.lt_succ_self _)⟩
    by_cases e : j = i.toInt.toNat
    · rw [e]; exact ⟨z1, z2⟩
    · exact hi j (by omega)
theorem sp_names {S : MS} (h : MmI S) : w_names S (fun u => u = S ∧ NmI S) (fun _ => True) := by
  unfold w_names
  exact ⟨_, sp_names_L4 h (fun hn => ⟨rfl, hn⟩) _ 0 0 ⟨⟨by decide, by decide, fun a ha => absurd ha (by rw [li_0]; omega)⟩, by decide, by decide, fun a ha => absurd ha (by rw [li_0]; omega)⟩ (Nat.lt_succ_self _)⟩
/-! letters and types -/
theorem MmI.nm {S : MS} (h : MmI S) {x : Int32} (hx : isE S x 1) : (0 ≤ x.toInt ∧ x.toInt < 502) ∧ 0 ≤ (qI S 6 x.toInt.toNat).toInt ∧ 1 ≤ (qI S 7 x.toInt.toNat).toInt ∧ (qI S 7 x.toInt.toNat).toInt ≤ 100 ∧ (qI S 6 x.toInt.toNat).toInt + (qI S 7 x.toInt.toNat).toInt ≤ (qI S 0 12).toInt := by
  obtain ⟨x0, x1, x2⟩ := hx
  have hp := h.2.2.2.2.2.2.1
  have he := h.2.2.2.2.2.2.2 x.toInt.toNat (by omega) (by omega)
  refine ⟨⟨by omega, by omega⟩, ?_⟩
  rcases he with he | he
  · exact ⟨(he.2.1 x2).1, (he.2.1 x2).2.1, (he.2.1 x2).2.2.1, (he.2.1 x2).2.2.2.1⟩
  · omega
theorem MmI.ltO {S : MS} (h : MmI S) {x : Int32} (hx : isE S x 1) : ltO (qI S (qO S 0 11)) (qI S 6 x.toInt.toNat) (qI S 7 x.toInt.toNat) := by
  obtain ⟨x0, x1, x2⟩ := hx
  have hp := h.2.2.2.2.2.2.1
  rcases h.2.2.2.2.2.2.2 x.toInt.toNat (by omega) (by omega) with he | he
  · exact (he.2.1 x2).2.2.2.2
  · omega
theorem MmI.lt {S : MS} (h : MmI S) {x i : Int32} (hx : isE S x 1) (hi : 0 ≤ i.toInt) : d_letter S x i := by
  obtain ⟨g, f0, s0, s1, fs⟩ := h.nm hx
  have hb := h.1.bnd
  unfold d_letter
  refine ⟨g, ?_⟩
  by_cases c : (qI S 7 x.toInt.toNat).toInt ≤ i.toInt
  · rw [if_pos c]; trivial
  · rw [if_neg c]
    have e : (qI S 6 x.toInt.toNat + i).toInt = (qI S 6 x.toInt.toNat).toInt + i.toInt := t_add (by omega)
    have r := h.1.rd (x := qI S 6 x.toInt.toNat + i) (by omega) (by omega)
    exact ⟨r.1, g, r.2, trivial⟩
theorem f_let0 {S : MS} {x i : Int32} {k : Int} (h : (f_letter S x i).toInt = k) (hk : k ≠ 0) : i.toInt < (qI S 7 x.toInt.toNat).toInt := by
  unfold f_letter at h
  by_cases c : (qI S 7 x.toInt.toNat).toInt ≤ i.toInt
  · rw [if_pos c, li_0] at h; omega
  · omega
theorem MmI.ta {S : MS} (h : MmI S) {x i : Int32} (hx : isE S x 1) (hi : 0 ≤ i.toInt ∧ i.toInt ≤ 1000) : d_typeAt S x i := by
  have e : (i + (1 : Int32)).toInt = i.toInt + 1 := by rw [t_add (by rw [li_1]; omega), li_1]
  unfold d_typeAt d_typeAt_J52
  refine ⟨h.lt hx hi.1, ?_⟩
  split
  · trivial
  · refine ⟨h.lt hx hi.1, ?_⟩
    split
    · trivial
    · refine ⟨h.lt hx hi.1, ?_⟩
      split
      · refine ⟨h.lt hx (by omega), ?_⟩
        split <;> trivial
      · trivial
theorem f_ta {S : MS} {x i : Int32} (hi : 0 ≤ i.toInt ∧ i.toInt ≤ 1000) : 0 ≤ (f_typeAt S x i).toInt ∧ (f_typeAt S x i).toInt ≤ 2 ∧ (0 < (f_typeAt S x i).toInt → i.toInt + (f_typeAt S x i).toInt ≤ (qI S 7 x.toInt.toNat).toInt) := by
  have e : (i + (1 : Int32)).toInt = i.toInt + 1 := by rw [t_add (by rw [li_1]; omega), li_1]
  unfold f_typeAt f_typeAt_J52
  by_cases c1 : (f_letter S x i).toInt = 73
  · rw [if_pos c1, li_1]; have := f_let0 c1 (by decide); omega
  · rw [if_neg c1]
    by_cases c2 : (f_letter S x i).toInt = 74
    · rw [if_pos c2, li_1]; have := f_let0 c2 (by decide); omega
    · rw [if_neg c2]
      by_cases c3 : (f_letter S x i).toInt = 91
      · rw [if_pos c3]
        by_cases c4 : (f_letter S x (i + (1 : Int32))).toInt = 73
        · rw [if_pos c4, li_2]; have := f_let0 c4 (by decide); omega
        · rw [if_neg c4, li_0]; omega
      · rw [if_neg c3, li_0]; omega
theorem MmI.ty {S : MS} (h : MmI S) {x : Int32} (hx : isE S x 1) : d_isType S x := by
  have g := (h.nm hx).1
  have t := h.ta hx (i := 0) (by decide)
  unfold d_isType d_isType_J28
  refine ⟨t, ?_⟩
  split
  · trivial
  · refine ⟨t, g, ?_⟩
    split <;> trivial
theorem sp_isSame_L {S : MS} {Q : Int32 → MS → Prop} {x y : Int32} (h : MmI S) (hx : isE S x 1) (hy : isE S y 1) (h1 : Q 1 S) (h0 : Q 0 S) :
    ∀ (m : Nat) (i : Int32), (0 ≤ i.toInt ∧ i.toInt ≤ 101) → (101 - i.toInt).toNat < m → w_isSame_L19 Q m S x y i := by
  intro m
  induction m with
  | zero => intro i _ h9; exact absurd h9 (Nat.not_lt_zero _)
  | succ m ih =>
    rintro i ⟨i0, i1⟩ hm
    have nm := h.nm hx
    unfold w_isSame_L19
    refine ⟨nm.1, fun _ => h1, fun c => ⟨h.lt hx i0, h.lt hy i0, fun _ a ea => ?_, fun _ => h0⟩⟩
    have e1 : a.toInt = i.toInt + 1 := by rw [ea, t_add (by rw [lo_1]; omega), lo_1]
    exact ih _ ⟨by omega, by omega⟩ (by omega)
theorem sp_isSame {S : MS} {x y : Int32} (h : MmI S) (hx : isE S x 1) (hy : isE S y 1) : w_isSame S x y (fun _ u => u = S) := by
  unfold w_isSame
  exact ⟨(h.nm hx).1, (h.nm hy).1, fun _ => ⟨_, sp_isSame_L h hx hy rfl rfl _ 0 (by decide) (Nat.lt_succ_self _)⟩, fun _ => rfl⟩
theorem sp_isText_L {S : MS} {Q : Int32 → MS → Prop} {x : Int32} {p : Nat} (h : MmI S) (hx : isE S x 1) (hq : qN S (p + 1) < 1000) (h1 : Q 1 S) (h0 : Q 0 S) :
    ∀ (m : Nat) (i : Int32), (0 ≤ i.toInt ∧ i.toInt ≤ 1000) → (1000 - i.toInt).toNat < m → w_isText_L17 Q m S x p i := by
  have eq : (Int32.ofNat (qN S (p + 1))).toInt = (qN S (p + 1) : Int) := nI_toInt (by omega)
  intro m
  induction m with
  | zero => intro i _ h9; exact absurd h9 (Nat.not_lt_zero _)
  | succ m ih =>
    rintro i ⟨i0, i1⟩ hm
    unfold w_isText_L17
    rw [eq]
    refine ⟨fun _ => h1, fun c => ⟨h.lt hx i0, ⟨i0, by omega⟩, fun _ a ea => ?_, fun _ => h0⟩⟩
    have e1 : a.toInt = i.toInt + 1 := by rw [ea, t_add (by rw [lo_1]; omega), lo_1]
    exact ih _ ⟨by omega, by omega⟩ (by omega)
theorem sp_isText {S : MS} {x : Int32} {p : Nat} (h : MmI S) (hx : isE S x 1) (hq : qN S (p + 1) < 1000) : w_isText S x p (fun _ u => u = S) := by
  unfold w_isText
  exact ⟨(h.nm hx).1, fun _ => ⟨_, sp_isText_L h hx hq rfl rfl _ 0 (by decide) (Nat.lt_succ_self _)⟩, fun _ => rfl⟩
/-! codes: which answer a method gives ('exists r, w .. (= r)': it returns r and leaves the state) -/
/-- an answer of codeOf: below zero, or where an attribute lies -/
def atP (S : MS) (r : Int32) : Prop := r.toInt < 0 ∨ ∃ a : Nat, (a : Int) < (qI S 0 25).toInt ∧ r = qI S 10 a
theorem sp_twice_L29 {S : MS} {Q : MS → Prop} {k2 : MS → Int32 → Prop} {i : Int32} (h : MmI S) (hn : NmI S) (hi : 0 ≤ i.toInt ∧ i.toInt < (qI S 0 21).toInt) (hK : k2 S (i + Int32.ofInt 1)) :
    ∀ (m : Nat) (j : Int32), (0 ≤ j.toInt ∧ j.toInt ≤ 48) → (48 - j.toInt).toNat < m → w_twice_L29 Q (fun _ => True) k2 m S i j := by
  intro m
  induction m with
  | zero => intro j _ h9; exact absurd h9 (Nat.not_lt_zero _)
  | succ m ih =>
    rintro j ⟨j0, j1⟩ hm
    have hc := h.2.2.1
    have gi : (0 : Int) ≤ i.toInt ∧ i.toInt < 48 := ⟨hi.1, by omega⟩
    unfold w_twice_L29
    refine ⟨fun _ a ea => by rw [ea]; exact hK, fun c => ?_⟩
    have e1 : (j + Int32.ofInt 1).toInt = j.toInt + 1 := by rw [t_add (by rw [lo_1]; omega), lo_1]
    refine ⟨⟨j0, by omega⟩, h.d2 (i := j.toInt.toNat) (by omega) (d := 2) (by decide) rfl, gi, h.d2 (i := i.toInt.toNat) (by omega) (d := 2) (by decide) rfl, _, sp_isSame h (hn.1 j.toInt.toNat (by omega)).1 (hn.1 i.toInt.toNat (by omega)).1, ?_⟩
    rintro r U rfl
    have st : ∀ t : Int32, w_twice_J71 Q (fun _ => True) (w_twice_L29 Q (fun _ => True) k2 m) U t i j := fun t => by
      unfold w_twice_J71
      refine ⟨gi, _, _, sp_must, ?_, fun _ _ => trivial⟩
      rintro U2 ⟨rfl, -⟩ a ea
      subst ea
      exact ih _ ⟨by omega, by omega⟩ (by omega)
    exact ⟨fun _ => st 1, fun _ => st 0⟩
theorem sp_twice_L2 {S : MS} {Q : MS → Prop} (h : MmI S) (hn : NmI S) (hQ : Q S) : ∀ (m : Nat) (i : Int32), (0 ≤ i.toInt ∧ i.toInt ≤ 48) → (48 - i.toInt).toNat < m → w_twice_L2 Q (fun _ => True) m S i := by
  intro m
  induction m with
  | zero => intro i _ h9; exact absurd h9 (Nat.not_lt_zero _)
  | succ m ih =>
    rintro i ⟨i0, i1⟩ hm
    have hc := h.2.2.1
    unfold w_twice_L2
    refine ⟨fun _ => hQ, fun c => ?_⟩
    have e1 : (i + Int32.ofInt 1).toInt = i.toInt + 1 := by rw [t_add (by rw [lo_1]; omega), lo_1]
    have st : ∀ t : Int32, 0 ≤ t.toInt ∧ t.toInt ≤ 48 → w_twice_J26 Q (fun _ => True) (w_twice_L2 Q (fun _ => True) m) S t i := fun t ht => by
      unfold w_twice_J26
      exact ⟨_, sp_twice_L29 h hn ⟨i0, by omega⟩ (ih _ ⟨by omega, by omega⟩ (by omega)) _ t ht (Nat.lt_succ_self _)⟩
    exact ⟨fun _ => st _ ⟨by omega, by omega⟩, fun _ => st 0 (by decide)⟩
theorem sp_twice {S : MS} (h : MmI S) (hn : NmI S) : w_twice S (fun u => u = S) (fun _ => True) := by
  unfold w_twice
  exact ⟨_, sp_twice_L2 (Q := fun u => u = S) h hn rfl _ 0 (by decide) (Nat.lt_succ_self _)⟩
/-! within a Code attribute -/
def WnI (S : MS) : Prop := RdI S ∧ (qI S 0 13).toInt ≤ (qI S 0 35).toInt ∧ (qI S 0 35).toInt ≤ (qI S 0 12).toInt
theorem n_35 {S : MS} {v : Int32} : qI (wI S 0 13 v) 0 35 = qI S 0 35 := by rw [qI_wI, if_neg (by decide)]
theorem WnI.nx {S : MS} (h : WnI S) {v : Int32} (h0 : 0 ≤ v.toInt) (h1 : v.toInt ≤ (qI S 0 35).toInt) : WnI (wI S 0 13 v) := ⟨h.1.nx h0 (by have := h.2; omega), by rw [n_13, n_35]; exact h1, by rw [n_35, n_12]; exact h.2.2⟩
theorem WnI.row {S : MS} (h : WnI S) {a j : Nat} {v : Int32} (ha : a ≠ 0) : WnI (wI S a j v) := by
  have e : qI (wI S a j v) 0 = qI S 0 := rdH (Ne.symm ha)
  exact ⟨h.1.row ha, by rw [e]; exact h.2.1, by rw [e]; exact h.2.2⟩
theorem sp_within {S : MS} {y1 : Int64} (h : WnI S) (hy : 0 ≤ y1.toInt ∧ y1.toInt ≤ 4294967296) : w_within S y1 (fun r u => r = qI S 0 13 ∧ ∃ v : Int32, u = wI S 0 13 v ∧ v.toInt = (qI S 0 13).toInt + y1.toInt ∧ v.toInt ≤ (qI S 0 35).toInt) (fun _ => True) := by
  have hb := h.1.bnd
  have hc := h.2
  have e0 : ((qI S 0 13).toInt64 + y1).toInt = (qI S 0 13).toInt + y1.toInt := by rw [tl_add (by rw [tl_of]; omega), tl_of]
  have e1 : (lg_cmp ((qI S 0 13).toInt64 + y1) ((qI S 0 35).toInt64)).toInt ≤ 0 ↔ (qI S 0 13).toInt + y1.toInt ≤ (qI S 0 35).toInt := by rw [c_le, e0, tl_of]
  unfold w_within
  refine ⟨fun c => ?_, fun _ => ?_⟩
  · have c' := e1.mp c
    intro a ea S6 e6
    subst ea
    subst e6
    have e2 : (qI S 0 13 + y1.toInt32).toInt = (qI S 0 13).toInt + y1.toInt := by rw [t_add (by rw [tl_to (by omega)]; omega), tl_to (by omega)]
    exact ⟨rfl, _, rfl, e2, by omega⟩
  · exact ⟨_, sp_broken (Q := fun _ _ => True) trivial, fun _ _ _ => trivial⟩
/-- the attributes within: only the place is new -/
theorem sp_ci_L328 {S : MS} {Q : MS → Prop} {n : Int32} (h : WnI S) (hn : n.toInt ≤ 65535) (hQ : ∀ v : Int32, 0 ≤ v.toInt → v.toInt ≤ (qI S 0 35).toInt → Q (wI S 0 13 v)) :
    ∀ (m : Nat) (U : MS) (i : Int32), (0 ≤ i.toInt ∧ i.toInt ≤ 65535 ∧ ∃ v : Int32, U = wI S 0 13 v ∧ 0 ≤ v.toInt ∧ v.toInt ≤ (qI S 0 35).toInt) → (65536 - i.toInt).toNat < m → w_codeItems_L328 Q (fun _ => True) m U n i := by
  have hb := h.1.bnd
  have hc := h.2
  have l2 : (2 : Int64).toInt = 2 := by decide
  have l4 : (4 : Int64).toInt = 4 := by decide
  intro m
  induction m with
  | zero => intro U i _ h9; exact absurd h9 (Nat.not_lt_zero _)
  | succ m ih =>
    rintro U i ⟨i0, i1, v, rfl, v0, v1⟩ hm
    have st : ∀ t : Int32, w_codeItems_J391 Q (fun _ => True) (wI S 0 13 v) t := fun t => by
      unfold w_codeItems_J391
      refine ⟨_, _, sp_must, ?_, fun _ _ => trivial⟩
      rintro U2 ⟨rfl, -⟩
      exact hQ v v0 v1
    unfold w_codeItems_L328
    refine ⟨fun _ => ⟨fun _ => st 1, fun _ => st 0⟩, fun c => ?_⟩
    have h1 := h.nx v0 v1
    refine ⟨_, _, sp_within h1 (by decide), ?_, fun _ _ => trivial⟩
    rintro r1 U1 ⟨-, w1, e1, a1, b1⟩
    rw [wI_wI] at e1
    subst e1
    rw [n_13, l2] at a1
    rw [n_35] at b1
    have h2 := h.nx (v := w1) (by omega) b1
    refine ⟨_, _, sp_within h2 (by decide), ?_, fun _ _ => trivial⟩
    rintro r2 U2 ⟨er2, w2, e2, a2, b2⟩
    rw [wI_wI] at e2
    subst e2
    rw [n_13, l4] at a2
    rw [n_35] at b2
    rw [n_13] at er2
    have h3 := h.nx (v := w2) (by omega) b2
    refine ⟨h3.1.four (by rw [er2]; omega) (by rw [er2, n_12]; omega), ?_⟩
    have bl := c_and64 (a := (f_four (wI S 0 13 w2) r2).toInt64)
    refine ⟨_, _, sp_within h3 ⟨bl.1, by omega⟩, ?_, fun _ _ => trivial⟩
    rintro r3 U3 ⟨-, w3, e3, a3, b3⟩ a ea
    rw [wI_wI] at e3
    subst e3
    rw [n_13] at a3
    rw [n_35] at b3
    have e9 : a.toInt = i.toInt + 1 := by rw [ea, t_add (by rw [lo_1]; omega), lo_1]
    exact ih _ _ ⟨by omega, by omega, w3, rfl, by omega, b3⟩ (by omega)
/-- the rows of catches are passed over -/
theorem sp_ci_L287 {S : MS} {Q : MS → Prop} {m1 : Int32} (h : WnI S) (hm1 : 0 ≤ m1.toInt ∧ m1.toInt < 24) (hk : 0 ≤ (qI S 17 m1.toInt.toNat).toInt ∧ (qI S 17 m1.toInt.toNat).toInt ≤ 16) (hQ : ∀ v : Int32, (qI S 0 13).toInt + 8 * (qI S 17 m1.toInt.toNat).toInt ≤ (qI S 0 35).toInt → 0 ≤ v.toInt → v.toInt ≤ (qI S 0 35).toInt → Q (wI S 0 13 v)) :
    ∀ (m : Nat) (U : MS) (i : Int32), (0 ≤ i.toInt ∧ i.toInt ≤ (qI S 17 m1.toInt.toNat).toInt ∧ ∃ v : Int32, U = wI S 0 13 v ∧ v.toInt = (qI S 0 13).toInt + 8 * i.toInt ∧ v.toInt ≤ (qI S 0 35).toInt) → (16 - i.toInt).toNat < m → w_codeItems_L287 Q (fun _ => True) m U m1 i := by
  have hb := h.1.bnd
  have hc := h.2
  have l2 : (2 : Int64).toInt = 2 := by decide
  have l8 : (8 : Int64).toInt = 8 := by decide
  intro m
  induction m with
  | zero => intro U i _ h9; exact absurd h9 (Nat.not_lt_zero _)
  | succ m ih =>
    rintro U i ⟨i0, i1, v, rfl, v0, v1⟩ hm
    have q17 : qI (wI S 0 13 v) 17 = qI S 17 := rdH (by decide)
    have h1 := h.nx (v := v) (by omega) v1
    unfold w_codeItems_L287
    rw [q17]
    refine ⟨hm1, fun c => ?_, fun c => ?_⟩
    · refine ⟨_, _, sp_within h1 (by decide), ?_, fun _ _ => trivial⟩
      rintro r1 U1 ⟨er, w1, e1, a1, b1⟩
      rw [wI_wI] at e1
      subst e1
      rw [n_13, l2] at a1
      rw [n_35] at b1
      rw [n_13] at er
      have h2 := h.nx (v := w1) (by omega) b1
      refine ⟨h2.1.two (by rw [er]; omega) (by rw [er, n_12]; omega), fun a ea => ?_⟩
      have ba := b_two (S := wI S 0 13 w1) (x := r1)
      rw [← ea] at ba
      exact ⟨_, sp_ci_L328 h (by omega) (fun w hw0 hw1 => hQ w (by omega) hw0 hw1) _ _ 0 ⟨by decide, by decide, w1, rfl, by omega, b1⟩ (Nat.lt_succ_self _)⟩
    · refine ⟨_, _, sp_within h1 (by decide), ?_, fun _ _ => trivial⟩
      rintro r1 U1 ⟨-, w1, e1, a1, b1⟩ a ea
      rw [wI_wI] at e1
      subst e1
      rw [n_13, l8] at a1
      rw [n_35] at b1
      have e9 : a.toInt = i.toInt + 1 := by rw [ea, t_add (by rw [lo_1]; omega), lo_1]
      exact ih _ _ ⟨by omega, by omega, w1, rfl, by omega, b1⟩ (by omega)
/-! the answers as functions of what is read: they stay the same in a state with the same rows -/
noncomputable def tF (S : MS) (x : Int32) (p : Nat) : Nat → Int32 → Int32
  | 0, _ => 0
  | m + 1, i => if (qN S (p + 1) : Int) ≤ i.toInt then 1 else if (f_letter S x i).toInt = (cAt S p i).toInt then tF S x p m (i + Int32.ofInt 1) else 0
noncomputable def tV (S : MS) (x : Int32) (p : Nat) : Int32 := if (qI S 7 x.toInt.toNat).toInt = (Int32.ofNat (qN S (p + 1))).toInt then tF S x p 1001 0 else 0
theorem fn_isText_L {S : MS} {x : Int32} {p : Nat} (h : MmI S) (hx : isE S x 1) (hq : qN S (p + 1) < 1000) :
    ∀ (m : Nat) (i : Int32), (0 ≤ i.toInt ∧ i.toInt ≤ 1000) → (1000 - i.toInt).toNat < m → w_isText_L17 (fun r' u => r' = tF S x p m i ∧ u = S) m S x p i := by
  have eq : (Int32.ofNat (qN S (p + 1))).toInt = (qN S (p + 1) : Int) := nI_toInt (by omega)
  intro m
  induction m with
  | zero => intro i _ h9; exact absurd h9 (Nat.not_lt_zero _)
  | succ m ih =>
    rintro i ⟨i0, i1⟩ hm
    unfold w_isText_L17 tF
    rw [eq]
    refine ⟨fun c => ⟨by rw [if_pos c], rfl⟩, fun c => ?_⟩
    have e1 : (i + Int32.ofInt 1).toInt = i.toInt + 1 := by rw [t_add (by rw [lo_1]; omega), lo_1]
    refine ⟨h.lt hx i0, ⟨i0, by omega⟩, fun c2 a ea => ?_, fun c2 => ⟨by rw [if_neg c, if_neg c2], rfl⟩⟩
    rw [ea, if_neg c, if_pos c2]
    exact ih _ ⟨by omega, by omega⟩ (by omega)
theorem fn_isText {S : MS} {x : Int32} {p : Nat} (h : MmI S) (hx : isE S x 1) (hq : qN S (p + 1) < 1000) : w_isText S x p (fun r' u => r' = tV S x p ∧ u = S) := by
  unfold w_isText tV
  refine ⟨(h.nm hx).1, fun c => ?_, fun c => ⟨by rw [if_neg c], rfl⟩⟩
  rw [if_pos c]
  exact ⟨1001, fn_isText_L h hx hq 1001 0 (by decide) (by decide)⟩
noncomputable def cF (S : MS) (o : Int32) : Nat → Int32 → Int32 → Int32
  | 0, _, _ => 0
  | m + 1, f, i => if (qI S 0 25).toInt ≤ i.toInt then f else if (qI S 11 i.toInt.toNat).toInt = o.toInt then (if (tV S (f_two S (qI S 10 i.toInt.toNat)) 10000000).toInt = 0 then cF S o m f (i + Int32.ofInt 1) else if f.toInt < 0 then cF S o m (qI S 10 i.toInt.toNat) (i + Int32.ofInt 1) else -2) else cF S o m f (i + Int32.ofInt 1)
noncomputable def cV (S : MS) (o : Int32) : Int32 := cF S o 3001 (-1) 0
theorem fn_codeOf_L {S : MS} {o : Int32} (h : MmI S) (hn : NmI S) (hq : qN S 10000001 < 1000) :
    ∀ (m : Nat) (f i : Int32), (0 ≤ i.toInt ∧ i.toInt ≤ 3000 ∧ atP S f) → (3000 - i.toInt).toNat < m → atP S (cF S o m f i) ∧ w_codeOf_L4 (fun r' u => r' = cF S o m f i ∧ u = S) m S o f i := by
  intro m
  induction m with
  | zero => intro f i _ h9; exact absurd h9 (Nat.not_lt_zero _)
  | succ m ih =>
    rintro f i ⟨i0, i1, hf⟩ hm
    have h25 := h.2.2.2.2.1
    unfold cF
    by_cases c : (qI S 0 25).toInt ≤ i.toInt
    · rw [if_pos c]
      refine ⟨hf, ?_⟩
      unfold w_codeOf_L4
      exact ⟨fun _ => ⟨rfl, rfl⟩, fun n => absurd c n⟩
    · rw [if_neg c]
      have e1 : (i + Int32.ofInt 1).toInt = i.toInt + 1 := by rw [t_add (by rw [lo_1]; omega), lo_1]
      have g : (0 : Int) ≤ i.toInt ∧ i.toInt < 3000 := ⟨i0, by omega⟩
      by_cases c2 : (qI S 11 i.toInt.toNat).toInt = o.toInt
      · rw [if_pos c2]
        have ht := fn_isText (p := 10000000) h (hn.2 i.toInt.toNat (by omega)) hq
        have hd := h.da (a := i.toInt.toNat) (by omega)
        by_cases c3 : (tV S (f_two S (qI S 10 i.toInt.toNat)) 10000000).toInt = 0
        · rw [if_pos c3]
          obtain ⟨hr, hw⟩ := ih f (i + Int32.ofInt 1) ⟨by omega, by omega, hf⟩ (by omega)
          refine ⟨hr, ?_⟩
          unfold w_codeOf_L4
          refine ⟨fun q => absurd q c, fun _ => ⟨g, fun _ => ⟨g, hd, _, ht, ?_⟩, fun n => absurd c2 n⟩⟩
          rintro r13 U ⟨er, rfl⟩
          rw [er]
          refine ⟨fun _ => ?_, fun n => absurd c3 n⟩
          unfold w_codeOf_J59
          intro a ea
          rw [ea]
          exact hw
        · rw [if_neg c3]
          by_cases c4 : f.toInt < 0
          · rw [if_pos c4]
            obtain ⟨hr, hw⟩ := ih (qI S 10 i.toInt.toNat) (i + Int32.ofInt 1) ⟨by omega, by omega, Or.inr ⟨i.toInt.toNat, by omega, rfl⟩⟩ (by omega)
            refine ⟨hr, ?_⟩
            unfold w_codeOf_L4
            refine ⟨fun q => absurd q c, fun _ => ⟨g, fun _ => ⟨g, hd, _, ht, ?_⟩, fun n => absurd c2 n⟩⟩
            rintro r13 U ⟨er, rfl⟩
            rw [er]
            refine ⟨fun q => absurd q c3, fun _ => ⟨fun _ => ⟨g, fun a20 e20 => ?_⟩, fun n => absurd c4 n⟩⟩
            unfold w_codeOf_J59
            intro a ea
            rw [ea, e20]
            exact hw
          · rw [if_neg c4]
            refine ⟨Or.inl (by decide), ?_⟩
            unfold w_codeOf_L4
            refine ⟨fun q => absurd q c, fun _ => ⟨g, fun _ => ⟨g, hd, _, ht, ?_⟩, fun n => absurd c2 n⟩⟩
            rintro r13 U ⟨er, rfl⟩
            rw [er]
            exact ⟨fun q => absurd q c3, fun _ => ⟨fun q => absurd q c4, fun _ => ⟨rfl, rfl⟩⟩⟩
      · rw [if_neg c2]
        obtain ⟨hr, hw⟩ := ih f (i + Int32.ofInt 1) ⟨by omega, by omega, hf⟩ (by omega)
        refine ⟨hr, ?_⟩
        unfold w_codeOf_L4
        refine ⟨fun q => absurd q c, fun _ => ⟨g, fun q => absurd q c2, fun _ => ?_⟩⟩
        unfold w_codeOf_J59
        intro a ea
        rw [ea]
        exact hw
theorem fn_codeOf {S : MS} (o : Int32) (h : MmI S) (hn : NmI S) (hq : qN S 10000001 < 1000) : atP S (cV S o) ∧ w_codeOf S o (fun r' u => r' = cV S o ∧ u = S) := by
  obtain ⟨hr, hw⟩ := fn_codeOf_L (o := o) h hn hq 3001 (-1) 0 ⟨by decide, by decide, Or.inl (by decide)⟩ (by decide)
  exact ⟨hr, by unfold w_codeOf; exact ⟨3001, hw⟩⟩
/-- what codeOf and the types' reading hang on is the same -/
def smR (S u : MS) : Prop := smB S u ∧ qI u 6 = qI S 6 ∧ qI u 7 = qI S 7 ∧ qI u 10 = qI S 10 ∧ qI u 11 = qI S 11 ∧ qI u 0 25 = qI S 0 25 ∧ qN u 10000001 = qN S 10000001 ∧ qI u 10000001 = qI S 10000001
theorem smR.etwo {S u : MS} (h : smR S u) (x : Int32) : f_two u x = f_two S x := by
  have e : qO u 0 11 = qO S 0 11 := by unfold qO; rw [h.1.1]
  unfold f_two f_octet
  rw [e, h.1.2]
theorem smR.elet {S u : MS} (h : smR S u) (x i : Int32) : f_letter u x i = f_letter S x i := by
  have e : qO u 0 11 = qO S 0 11 := by unfold qO; rw [h.1.1]
  unfold f_letter
  rw [e, h.1.2, h.2.1, h.2.2.1]
theorem smR.etF {S u : MS} (h : smR S u) (x : Int32) : ∀ (m : Nat) (i : Int32), tF u x 10000000 m i = tF S x 10000000 m i := by
  have ec : ∀ i, cAt u 10000000 i = cAt S 10000000 i := fun i => by unfold cAt; rw [h.2.2.2.2.2.2.2]
  intro m
  induction m with
  | zero => intro i; rfl
  | succ m ih =>
    intro i
    unfold tF
    rw [h.2.2.2.2.2.2.1, h.elet, ec, ih]
theorem smR.etV {S u : MS} (h : smR S u) (x : Int32) : tV u x 10000000 = tV S x 10000000 := by
  unfold tV
  rw [h.2.2.1, h.2.2.2.2.2.2.1, h.etF]
theorem smR.ecF {S u : MS} (h : smR S u) (o : Int32) : ∀ (m : Nat) (f i : Int32), cF u o m f i = cF S o m f i := by
  intro m
  induction m with
  | zero => intro f i; rfl
  | succ m ih =>
    intro f i
    unfold cF
    rw [h.2.2.2.2.2.1, h.2.2.2.2.1, h.2.2.2.1, h.etwo, h.etV, ih, ih]
theorem smR.ecV {S u : MS} (h : smR S u) (o : Int32) : cV u o = cV S o := h.ecF o _ _ _
/-! parameterPlaces, codes, types by functions -/
noncomputable def pJ (S : MS) (x t a n : Int32) : Int32 := if t.toInt ≤ 0 then -1 else if (a + t).toInt = (qI S 7 x.toInt.toNat).toInt then n else -1
noncomputable def pF (S : MS) (x : Int32) : Nat → Int32 → Int32 → Int32
  | 0, _, _ => 0
  | m + 1, i, n => if (f_typeAt S x i).toInt ≤ 0 then (if (f_letter S x i).toInt = 41 then (if (f_letter S x (i + Int32.ofInt 1)).toInt = 86 then pJ S x 1 (i + Int32.ofInt 1) n else pJ S x (f_typeAt S x (i + Int32.ofInt 1)) (i + Int32.ofInt 1) n) else -1) else (if (f_letter S x i).toInt = 74 then pF S x m (i + f_typeAt S x i) (n + 2) else pF S x m (i + f_typeAt S x i) (n + 1))
noncomputable def pV (S : MS) (x : Int32) : Int32 := if (f_letter S x (0 : Int32)).toInt = 40 then pF S x 102 1 0 else -1
theorem fn_pp_L {S : MS} {x : Int32} (h : MmI S) (hx : isE S x 1) :
    ∀ (m : Nat) (i n : Int32), (1 ≤ i.toInt ∧ i.toInt ≤ 101 ∧ 0 ≤ n.toInt ∧ n.toInt ≤ 2 * i.toInt) → (101 - i.toInt).toNat < m → (-1 ≤ (pF S x m i n).toInt ∧ (pF S x m i n).toInt ≤ 202) ∧ w_parameterPlaces_L17 (fun r' u => r' = pF S x m i n ∧ u = S) m S x i n := by
  intro m
  induction m with
  | zero => intro i n _ h9; exact absurd h9 (Nat.not_lt_zero _)
  | succ m ih =>
    rintro i n ⟨i0, i1, n0, n1⟩ hm
    have nm := h.nm hx
    have ta := f_ta (S := S) (x := x) (i := i) ⟨by omega, by omega⟩
    have dt := h.ta hx (i := i) ⟨by omega, by omega⟩
    have dl := h.lt hx (i := i) (by omega)
    have b1 : -1 ≤ (-1 : Int32).toInt ∧ (-1 : Int32).toInt ≤ 202 := by decide
    unfold pF
    by_cases c : (f_typeAt S x i).toInt ≤ 0
    · rw [if_pos c]
      by_cases c2 : (f_letter S x i).toInt = 41
      · rw [if_pos c2]
        have e1 : (i + Int32.ofInt 1).toInt = i.toInt + 1 := by rw [t_add (by rw [lo_1]; omega), lo_1]
        have st : ∀ t : Int32, (-1 ≤ (pJ S x t (i + Int32.ofInt 1) n).toInt ∧ (pJ S x t (i + Int32.ofInt 1) n).toInt ≤ 202) ∧ w_parameterPlaces_J94 (fun r' u => r' = pJ S x t (i + Int32.ofInt 1) n ∧ u = S) S t x (i + Int32.ofInt 1) n := fun t => by
          unfold pJ w_parameterPlaces_J94 w_parameterPlaces_J118
          by_cases d1 : t.toInt ≤ 0
          · rw [if_pos d1]
            exact ⟨b1, fun _ => ⟨rfl, rfl⟩, fun q => absurd d1 q⟩
          · rw [if_neg d1]
            by_cases d2 : (i + Int32.ofInt 1 + t).toInt = (qI S 7 x.toInt.toNat).toInt
            · rw [if_pos d2]
              exact ⟨⟨by omega, by omega⟩, fun q => absurd q d1, fun _ => ⟨nm.1, fun _ => ⟨rfl, rfl⟩, fun q => absurd d2 q⟩⟩
            · rw [if_neg d2]
              exact ⟨b1, fun q => absurd q d1, fun _ => ⟨nm.1, fun q => absurd q d2, fun _ => ⟨rfl, rfl⟩⟩⟩
        by_cases c3 : (f_letter S x (i + Int32.ofInt 1)).toInt = 86
        · rw [if_pos c3]
          obtain ⟨hr, hw⟩ := st 1
          refine ⟨hr, ?_⟩
          unfold w_parameterPlaces_L17
          exact ⟨dt, fun _ => ⟨dl, fun _ a ea => by rw [ea]; exact ⟨h.lt hx (by omega), fun _ => hw, fun q => absurd c3 q⟩, fun q => absurd c2 q⟩, fun q => absurd c q⟩
        · rw [if_neg c3]
          obtain ⟨hr, hw⟩ := st (f_typeAt S x (i + Int32.ofInt 1))
          refine ⟨hr, ?_⟩
          unfold w_parameterPlaces_L17
          exact ⟨dt, fun _ => ⟨dl, fun _ a ea => by rw [ea]; exact ⟨h.lt hx (by omega), fun q => absurd q c3, fun _ => ⟨h.ta hx ⟨by omega, by omega⟩, hw⟩⟩, fun q => absurd c2 q⟩, fun q => absurd c q⟩
      · rw [if_neg c2]
        refine ⟨b1, ?_⟩
        unfold w_parameterPlaces_L17
        exact ⟨dt, fun _ => ⟨dl, fun q => absurd q c2, fun _ => ⟨rfl, rfl⟩⟩, fun q => absurd c q⟩
    · rw [if_neg c]
      have e2 : (i + f_typeAt S x i).toInt = i.toInt + (f_typeAt S x i).toInt := t_add (by omega)
      have st : ∀ t : Int32, 0 ≤ t.toInt ∧ t.toInt ≤ 2 → (-1 ≤ (pF S x m (i + f_typeAt S x i) (n + t)).toInt ∧ (pF S x m (i + f_typeAt S x i) (n + t)).toInt ≤ 202) ∧ w_parameterPlaces_J43 (fun r' u => r' = pF S x m (i + f_typeAt S x i) (n + t) ∧ u = S) (w_parameterPlaces_L17 (fun r' u => r' = pF S x m (i + f_typeAt S x i) (n + t) ∧ u = S) m) S t n x i := fun t ht => by
        have e1 : (n + t).toInt = n.toInt + t.toInt := t_add (by omega)
        obtain ⟨hr, hw⟩ := ih (i + f_typeAt S x i) (n + t) ⟨by omega, by omega, by omega, by omega⟩ (by omega)
        refine ⟨hr, ?_⟩
        unfold w_parameterPlaces_J43
        exact fun a30 e30 => ⟨dt, fun a35 e35 => by rw [e30, e35]; exact hw⟩
      by_cases c2 : (f_letter S x i).toInt = 74
      · rw [if_pos c2]
        obtain ⟨hr, hw⟩ := st 2 (by decide)
        refine ⟨hr, ?_⟩
        unfold w_parameterPlaces_L17
        exact ⟨dt, fun q => absurd q c, fun _ => ⟨dl, fun _ => hw, fun q => absurd c2 q⟩⟩
      · rw [if_neg c2]
        obtain ⟨hr, hw⟩ := st 1 (by decide)
        refine ⟨hr, ?_⟩
        unfold w_parameterPlaces_L17
        exact ⟨dt, fun q => absurd q c, fun _ => ⟨dl, fun q => absurd q c2, fun _ => hw⟩⟩
theorem fn_pp {S : MS} {x : Int32} (h : MmI S) (hx : isE S x 1) : (-1 ≤ (pV S x).toInt ∧ (pV S x).toInt ≤ 202) ∧ w_parameterPlaces S x (fun r' u => r' = pV S x ∧ u = S) := by
  have dl := h.lt hx (i := 0) (by decide)
  unfold pV
  by_cases c : (f_letter S x (0 : Int32)).toInt = 40
  · rw [if_pos c]
    obtain ⟨hr, hw⟩ := fn_pp_L h hx 102 1 0 (by decide) (by decide)
    refine ⟨hr, ?_⟩
    unfold w_parameterPlaces
    exact ⟨dl, fun _ => ⟨102, hw⟩, fun q => absurd c q⟩
  · rw [if_neg c]
    refine ⟨by decide, ?_⟩
    unfold w_parameterPlaces
    exact ⟨dl, fun q => absurd q c, fun _ => ⟨rfl, rfl⟩⟩
theorem smR.eta {S u : MS} (h : smR S u) (x i : Int32) : f_typeAt u x i = f_typeAt S x i := by
  unfold f_typeAt f_typeAt_J52
  rw [h.elet, h.elet]
theorem smR.epJ {S u : MS} (h : smR S u) (x t a n : Int32) : pJ u x t a n = pJ S x t a n := by
  unfold pJ
  rw [h.2.2.1]
theorem smR.epF {S u : MS} (h : smR S u) (x : Int32) : ∀ (m : Nat) (i n : Int32), pF u x m i n = pF S x m i n := by
  intro m
  induction m with
  | zero => intro i n; rfl
  | succ m ih =>
    intro i n
    unfold pF
    rw [h.eta, h.eta, h.elet, h.elet, h.epJ, h.epJ, ih, ih]
theorem smR.epV {S u : MS} (h : smR S u) (x : Int32) : pV u x = pV S x := by
  unfold pV
  rw [h.elet, h.epF]
/-- each method has its code -/
def CdF (S : MS) : Prop := ∀ o : Int32, (qI S 0 22).toInt ≤ o.toInt → o.toInt < (qI S 0 21).toInt → 0 ≤ (cV S o).toInt
theorem sp_codesF_L {S : MS} {Q : MS → Prop} (h : MmI S) (hn : NmI S) (hq : qN S 10000001 < 1000) (hQ : CdF S → Q S) :
    ∀ (m : Nat) (k : Int32), (0 ≤ k.toInt ∧ k.toInt ≤ 48 ∧ ∀ o : Int32, (qI S 0 22).toInt ≤ o.toInt → o.toInt < k.toInt → 0 ≤ (cV S o).toInt) → (48 - k.toInt).toNat < m → w_codes_L5 Q (fun _ => True) m S k := by
  intro m
  induction m with
  | zero => intro i _ h9; exact absurd h9 (Nat.not_lt_zero _)
  | succ m ih =>
    rintro k ⟨k0, k1, hk⟩ hm
    have hc := h.2.2.1
    unfold w_codes_L5
    refine ⟨fun c => hQ (fun o o1 o2 => hk o o1 (by omega)), fun c => ?_⟩
    obtain ⟨hr, hw⟩ := fn_codeOf k h hn hq
    have e1 : (k + Int32.ofInt 1).toInt = k.toInt + 1 := by rw [t_add (by rw [lo_1]; omega), lo_1]
    have st : ∀ t : Int32, (t.toInt ≠ 0 → 0 ≤ (cV S k).toInt) → w_codes_J27 Q (fun _ => True) (w_codes_L5 Q (fun _ => True) m) S t k := fun t ht => by
      unfold w_codes_J27
      refine ⟨⟨k0, by omega⟩, _, _, sp_must, ?_, fun _ _ => trivial⟩
      rintro U ⟨rfl, hz⟩ a ea
      subst ea
      refine ih _ ⟨by omega, by omega, fun o o1 o2 => ?_⟩ (by omega)
      by_cases e : o = k
      · rw [e]; exact ht hz
      · exact hk o o1 (by have : o.toInt ≠ k.toInt := fun q => e (Int32.toInt_inj.mp q); omega)
    refine ⟨_, hw, ?_⟩
    rintro r4 U ⟨er, rfl⟩
    rw [er]
    exact ⟨fun _ => st 0 (fun q => absurd rfl q), fun n => st 1 (fun _ => by omega)⟩
theorem sp_codesF {S : MS} (h : MmI S) (hn : NmI S) (hq : qN S 10000001 < 1000) : w_codes S (fun u => u = S ∧ CdF S) (fun _ => True) := by
  have hc := h.2.2.1
  unfold w_codes
  intro a ea
  rw [ea]
  exact ⟨_, sp_codesF_L h hn hq (fun hh => ⟨rfl, hh⟩) _ _ ⟨by omega, by omega, fun o o1 o2 => by omega⟩ (Nat.lt_succ_self _)⟩
/-! types by functions -/
def ppG (S : MS) (x : Int32) (b : Int) : Prop := 0 ≤ (pV S x).toInt ∧ (pV S x).toInt ≤ b
/-- the types are types -/
def TyF (S : MS) : Prop := (∀ k : Nat, 1 ≤ k → (k : Int) < (qI S 0 14).toInt → ((qI S 4 k).toInt = 9 → (f_isType S (qI S 7 (qI S 7 k).toInt.toNat)).toInt ≠ 0) ∧ ((qI S 4 k).toInt = 10 → ppG S (qI S 7 (qI S 7 k).toInt.toNat) 202)) ∧ ∀ i : Nat, (i : Int) < (qI S 0 21).toInt → ((i : Int) < (qI S 0 22).toInt → (f_isType S (f_two S (qI S 9 i + 4))).toInt ≠ 0) ∧ ((qI S 0 22).toInt ≤ i → ppG S (f_two S (qI S 9 i + 4)) 8)
theorem sp_typesF_L102 {S : MS} {Q : MS → Prop} (h : MmI S) (hn : NmI S) (hQ : (∀ i : Nat, (i : Int) < (qI S 0 21).toInt → ((i : Int) < (qI S 0 22).toInt → (f_isType S (f_two S (qI S 9 i + 4))).toInt ≠ 0) ∧ ((qI S 0 22).toInt ≤ i → ppG S (f_two S (qI S 9 i + 4)) 8)) → Q S) :
    ∀ (m : Nat) (k : Int32), (0 ≤ k.toInt ∧ k.toInt ≤ 48 ∧ ∀ i : Nat, (i : Int) < k.toInt → ((i : Int) < (qI S 0 22).toInt → (f_isType S (f_two S (qI S 9 i + 4))).toInt ≠ 0) ∧ ((qI S 0 22).toInt ≤ i → ppG S (f_two S (qI S 9 i + 4)) 8)) → (48 - k.toInt).toNat < m → w_types_L102 Q (fun _ => True) m S k := by
  intro m
  induction m with
  | zero => intro k _ h9; exact absurd h9 (Nat.not_lt_zero _)
  | succ m ih =>
    rintro k ⟨k0, k1, hk⟩ hm
    have hc := h.2.2.1
    unfold w_types_L102
    refine ⟨fun c => hQ (fun i hi => hk i (by omega)), fun c => ⟨⟨k0, by omega⟩, fun a6 e6 => ?_⟩⟩
    subst e6
    have e1 : (k + Int32.ofInt 1).toInt = k.toInt + 1 := by rw [t_add (by rw [lo_1]; omega), lo_1]
    have hd := h.d2 (i := k.toInt.toNat) (by omega) (d := 4) (x := qI S 9 k.toInt.toNat + 4) (by decide) rfl
    have hx := (hn.1 k.toInt.toNat (by omega)).2
    obtain ⟨hr, hw⟩ := fn_pp h hx
    have st : ∀ t : Int32, (t.toInt ≠ 0 → ((k.toInt.toNat : Int) < (qI S 0 22).toInt → (f_isType S (f_two S (qI S 9 k.toInt.toNat + 4))).toInt ≠ 0) ∧ ((qI S 0 22).toInt ≤ k.toInt.toNat → ppG S (f_two S (qI S 9 k.toInt.toNat + 4)) 8)) → w_types_J165 Q (fun _ => True) (w_types_L102 Q (fun _ => True) m) S t k (qI S 9 k.toInt.toNat + 4) := fun t ht => by
      unfold w_types_J165
      refine ⟨_, _, sp_must, ?_, fun _ _ => trivial⟩
      rintro U ⟨rfl, hz⟩ a ea
      subst ea
      refine ih _ ⟨by omega, by omega, fun i hi => ?_⟩ (by omega)
      by_cases e : i = k.toInt.toNat
      · rw [e]; exact ht hz
      · exact hk i (by omega)
    have s0 : w_types_J164 Q (fun _ => True) (w_types_L102 Q (fun _ => True) m) S k (qI S 9 k.toInt.toNat + 4) := by
      unfold w_types_J164
      exact st 0 (fun q => absurd rfl q)
    refine ⟨hd, _, hw, ?_⟩
    rintro r11 U ⟨er, rfl⟩
    rw [er]
    refine ⟨fun d => ⟨fun _ => s0, fun d2 => ⟨fun _ => s0, fun d3 => st 1 (fun _ => ⟨fun q => by omega, fun _ => ⟨by omega, by omega⟩⟩)⟩⟩, fun d => ⟨hd, h.ty hx, st _ (fun hz => ⟨fun _ => hz, fun q => by omega⟩)⟩⟩
theorem sp_typesF_L2 {S : MS} {Q : MS → Prop} (h : MmI S) (hn : NmI S) (hf : ∀ k : Nat, 1 ≤ k → (k : Int) < (qI S 0 14).toInt → refOK S k) (hQ : TyF S → Q S) :
    ∀ (m : Nat) (k : Int32), (1 ≤ k.toInt ∧ k.toInt ≤ 501 ∧ ∀ j : Nat, 1 ≤ j → (j : Int) < k.toInt → ((qI S 4 j).toInt = 9 → (f_isType S (qI S 7 (qI S 7 j).toInt.toNat)).toInt ≠ 0) ∧ ((qI S 4 j).toInt = 10 → ppG S (qI S 7 (qI S 7 j).toInt.toNat) 202)) → (501 - k.toInt).toNat < m → w_types_L2 Q (fun _ => True) m S k := by
  intro m
  induction m with
  | zero => intro k _ h9; exact absurd h9 (Nat.not_lt_zero _)
  | succ m ih =>
    rintro k ⟨k0, k1, hk⟩ hm
    have hp := h.2.2.2.2.2.2.1
    unfold w_types_L2
    refine ⟨fun c => ⟨_, sp_typesF_L102 h hn (fun hh => hQ ⟨fun j j1 j2 => hk j j1 (by omega), hh⟩) _ 0 ⟨by decide, by decide, fun i hi => absurd hi (by rw [li_0]; omega)⟩ (Nat.lt_succ_self _)⟩, fun c => ?_⟩
    have g : (0 : Int) ≤ k.toInt ∧ k.toInt < 502 := ⟨by omega, by omega⟩
    have e1 : (k + Int32.ofInt 1).toInt = k.toInt + 1 := by rw [t_add (by rw [lo_1]; omega), lo_1]
    have nx : ((qI S 4 k.toInt.toNat).toInt = 9 → (f_isType S (qI S 7 (qI S 7 k.toInt.toNat).toInt.toNat)).toInt ≠ 0) ∧ ((qI S 4 k.toInt.toNat).toInt = 10 → ppG S (qI S 7 (qI S 7 k.toInt.toNat).toInt.toNat) 202) → w_types_J94 Q (fun _ => True) (w_types_L2 Q (fun _ => True) m) S k := fun hh => by
      unfold w_types_J94
      intro a ea
      subst ea
      refine ih _ ⟨by omega, by omega, fun j j1 j2 => ?_⟩ (by omega)
      by_cases e : j = k.toInt.toNat
      · rw [e]; exact hh
      · exact hk j j1 (by omega)
    have pr : (qI S 4 k.toInt.toNat).toInt = 9 ∨ (qI S 4 k.toInt.toNat).toInt = 10 → ((0 : Int) ≤ (qI S 7 k.toInt.toNat).toInt ∧ (qI S 7 k.toInt.toNat).toInt < 502) ∧ isE S (qI S 7 (qI S 7 k.toInt.toNat).toInt.toNat) 1 := fun hc => by
      obtain ⟨-, b1, b2, b3⟩ := (hf k.toInt.toNat (by omega) (by omega)).2.2 hc
      exact ⟨⟨by omega, by omega⟩, ((hf (qI S 7 k.toInt.toNat).toInt.toNat (by omega) (by omega)).2.1 b3).2⟩
    have s48 : ((qI S 4 k.toInt.toNat).toInt = 9 → (f_isType S (qI S 7 (qI S 7 k.toInt.toNat).toInt.toNat)).toInt ≠ 0) → w_types_J48 Q (fun _ => True) (w_types_L2 Q (fun _ => True) m) S k := fun h9 => by
      unfold w_types_J48
      refine ⟨g, fun c10 => ?_, fun n10 => nx ⟨h9, fun q => absurd q n10⟩⟩
      obtain ⟨p1, p2⟩ := pr (Or.inr c10)
      obtain ⟨hr, hw⟩ := fn_pp h p2
      have s83 : ∀ t : Int32, (t.toInt ≠ 0 → 0 ≤ (pV S (qI S 7 (qI S 7 k.toInt.toNat).toInt.toNat)).toInt) → w_types_J83 Q (fun _ => True) (w_types_L2 Q (fun _ => True) m) S t k := fun t ht => by
        unfold w_types_J83
        refine ⟨g, _, _, sp_must, ?_, fun _ _ => trivial⟩
        rintro U ⟨rfl, hz⟩
        exact nx ⟨h9, fun _ => ⟨ht hz, hr.2⟩⟩
      refine ⟨g, p1, _, hw, ?_⟩
      rintro r38 U ⟨er, rfl⟩
      rw [er]
      exact ⟨fun _ => s83 0 (fun q => absurd rfl q), fun n => s83 1 (fun _ => by omega)⟩
    refine ⟨g, fun c9 => ?_, fun n9 => s48 (fun q => absurd q n9)⟩
    obtain ⟨p1, p2⟩ := pr (Or.inl c9)
    refine ⟨g, p1, h.ty p2, g, _, _, sp_must, ?_, fun _ _ => trivial⟩
    rintro U ⟨rfl, hz⟩
    exact s48 (fun _ => hz)
theorem sp_typesF {S : MS} (h : MmI S) (hn : NmI S) (hf : ∀ k : Nat, 1 ≤ k → (k : Int) < (qI S 0 14).toInt → refOK S k) : w_types S (fun u => u = S ∧ TyF S) (fun _ => True) := by
  unfold w_types
  exact ⟨_, sp_typesF_L2 h hn hf (fun hh => ⟨rfl, hh⟩) _ 1 ⟨by decide, by decide, fun j j1 j2 => absurd j2 (by rw [li_1]; omega)⟩ (Nat.lt_succ_self _)⟩
/-! codeItems: what it leaves -/
theorem MmI.mv {S u : MS} (h : MmI S) (hR : RdI u) (hs : smB S u) (h0 : ∀ j : Nat, j ≠ 13 → j ≠ 35 → qI u 0 j = qI S 0 j) (e4 : qI u 4 = qI S 4) (e6 : qI u 6 = qI S 6) (e7 : qI u 7 = qI S 7) (e9 : qI u 9 = qI S 9) (e10 : qI u 10 = qI S 10) : MmI u := by
  have k12 := h0 12 (by decide) (by decide)
  have k14 := h0 14 (by decide) (by decide)
  have k20 := h0 20 (by decide) (by decide)
  have k21 := h0 21 (by decide) (by decide)
  have k22 := h0 22 (by decide) (by decide)
  have k25 := h0 25 (by decide) (by decide)
  obtain ⟨a, b, c, d, e, f, g, i⟩ := h
  refine ⟨hR, by rw [k20, k12]; exact b, by rw [k22, k21]; exact c, fun j hj => ?_, by rw [k25]; exact e, fun j hj => ?_, by rw [k14]; exact g, fun j hj hj2 => ?_⟩
  · rw [k21] at hj
    exact (d j hj).mv (by rw [e9]) k12
  · rw [k25] at hj
    exact (f j hj).mv hs (by rw [e10]) k12
  · rw [k14] at hj2
    exact (i j hj hj2).mv (by rw [e4]) (by rw [e6]) (by rw [e7]) k12 hs
def CIq (S : MS) (m : Nat) (U : MS) : Prop := WnI U ∧ smB S U ∧ (∀ j : Nat, j ≠ 13 → j ≠ 35 → qI U 0 j = qI S 0 j) ∧ ∀ a j : Nat, a ≠ 0 → (a < 12 ∨ 17 < a ∨ j ≠ m) → qI U a j = qI S a j
theorem CIq.nx {S U : MS} {m : Nat} (h : CIq S m U) {v : Int32} (h0 : 0 ≤ v.toInt) (h1 : v.toInt ≤ (qI U 0 35).toInt) : CIq S m (wI U 0 13 v) := by
  obtain ⟨a, b, c, d⟩ := h
  refine ⟨a.nx h0 h1, b.tr (a.1.ss (a := 0) (t := 10) a.1.z (by decide)), fun j j1 j2 => ?_, fun r j hr hj => ?_⟩
  · rw [qI_wI, if_neg (fun q => j1 q.2)]; exact c j j1 j2
  · rw [rdH hr]; exact d r j hr hj
theorem CIq.row {S U : MS} {m a : Nat} (h : CIq S m U) {v : Int32} (ha : 12 ≤ a ∧ a ≤ 17) (ht : qT U a = 2) : CIq S m (wI U a m v) := by
  obtain ⟨p, b, c, d⟩ := h
  refine ⟨p.row (by omega), b.tr (p.1.ss (a := a) (t := 2) ht (by decide)), fun j j1 j2 => ?_, fun r j hr hj => ?_⟩
  · rw [rdH (by omega)]; exact c j j1 j2
  · rw [qI_wI, if_neg (fun q => by omega)]; exact d r j hr hj
theorem CIq.mm {S U : MS} {m : Nat} (h : CIq S m U) (hM : MmI S) : MmI U := by
  obtain ⟨a, b, c, d⟩ := h
  have e : ∀ r : Nat, r ≠ 0 → r < 12 → qI U r = qI S r := fun r r0 r1 => funext (fun j => d r j r0 (Or.inl r1))
  exact hM.mv a.1 b c (e 4 (by decide) (by decide)) (e 6 (by decide) (by decide)) (e 7 (by decide) (by decide)) (e 9 (by decide) (by decide)) (e 10 (by decide) (by decide))
def CIv (U : MS) (m : Nat) (pl : Int) : Prop := (0 ≤ (qI U 12 m).toInt ∧ (qI U 12 m).toInt ≤ 24) ∧ (pl ≤ (qI U 13 m).toInt ∧ 0 ≤ (qI U 13 m).toInt ∧ (qI U 13 m).toInt ≤ 24) ∧ (1 ≤ (qI U 15 m).toInt ∧ (qI U 15 m).toInt ≤ 1200 ∧ 0 ≤ (qI U 14 m).toInt ∧ (qI U 14 m).toInt + (qI U 15 m).toInt ≤ (qI U 0 12).toInt) ∧ 0 ≤ (qI U 17 m).toInt
def CIp (S : MS) (m : Nat) (pl : Int) (u : MS) : Prop := CIq S m u ∧ CIv u m pl ∧ (qI u 17 m).toInt ≤ 16 ∧ 0 ≤ (qI u 16 m).toInt ∧ (qI u 16 m).toInt + 8 * (qI u 17 m).toInt ≤ (qI u 0 12).toInt
theorem ci_267 {S U : MS} {x1 r t : Int32} {pl : Int} (h : CIq S x1.toInt.toNat U) (hm : 0 ≤ x1.toInt ∧ x1.toInt < 24) (hv : CIv U x1.toInt.toNat pl) (ht : t.toInt ≠ 0 → (qI U 17 x1.toInt.toNat).toInt ≤ 16) : w_codeItems_J267 (CIp S x1.toInt.toNat pl) (fun _ => True) U t x1 r := by
  have hb := h.1.1.bnd
  have hc := h.1.2
  unfold w_codeItems_J267
  refine ⟨_, _, sp_must, ?_, fun _ _ => trivial⟩
  rintro U2 ⟨rfl, hz⟩
  refine ⟨hm, fun V eV => ?_⟩
  have t16 : qT U2 16 = 2 := h.1.1.fin fin_33
  have hV : CIq S x1.toInt.toNat V := by rw [eV]; exact h.row (by decide) t16
  have r0 : qI V 0 = qI U2 0 := by rw [eV, rdH (by decide)]
  have r12 : qI V 12 = qI U2 12 := by rw [eV, rdH (by decide)]
  have r13 : qI V 13 = qI U2 13 := by rw [eV, rdH (by decide)]
  have r14 : qI V 14 = qI U2 14 := by rw [eV, rdH (by decide)]
  have r15 : qI V 15 = qI U2 15 := by rw [eV, rdH (by decide)]
  have r17 : qI V 17 = qI U2 17 := by rw [eV, rdH (by decide)]
  have r16 : qI V 16 x1.toInt.toNat = qI U2 0 13 := by rw [eV, qI_wI, if_pos ⟨rfl, rfl⟩]
  have c16 := ht hz
  have v17 := hv.2.2.2
  refine ⟨_, sp_ci_L287 hV.1 hm (by rw [r17]; omega) (fun v q1 q2 q3 => ?_) _ V 0 ⟨by decide, by rw [r17, li_0]; exact v17, qI V 0 13, wI_id.symm, by rw [li_0]; omega, hV.1.2.1⟩ (Nat.lt_succ_self _)⟩
  have hf := hV.nx (v := v) q2 q3
  have f : ∀ a : Nat, a ≠ 0 → qI (wI V 0 13 v) a = qI V a := fun a ha => rdH ha
  rw [r0, r17] at q1
  refine ⟨hf, ?_, ?_, ?_, ?_⟩
  · unfold CIv
    rw [f 12 (by decide), f 13 (by decide), f 14 (by decide), f 15 (by decide), f 17 (by decide), r12, r13, r14, r15, r17, n_12, r0]
    exact hv
  · rw [f 17 (by decide), r17]; exact c16
  · rw [f 16 (by decide), r16]; omega
  · rw [f 16 (by decide), f 17 (by decide), r16, r17, n_12, r0]; omega
theorem ci_201 {S U : MS} {x1 r n t : Int32} {pl : Int} (h : CIq S x1.toInt.toNat U) (hm : 0 ≤ x1.toInt ∧ x1.toInt < 24) (h12 : 0 ≤ (qI U 12 x1.toInt.toNat).toInt ∧ (qI U 12 x1.toInt.toNat).toInt ≤ 24) (h13 : pl ≤ (qI U 13 x1.toInt.toNat).toInt ∧ 0 ≤ (qI U 13 x1.toInt.toNat).toInt ∧ (qI U 13 x1.toInt.toNat).toInt ≤ 24) (ht : t.toInt ≠ 0 → 1 ≤ n.toInt ∧ n.toInt ≤ 1200) : w_codeItems_J201 (CIp S x1.toInt.toNat pl) (fun _ => True) U t x1 r n := by
  have hb := h.1.1.bnd
  have hc := h.1.2
  have l2 : (2 : Int64).toInt = 2 := by decide
  unfold w_codeItems_J201
  refine ⟨_, _, sp_must, ?_, fun _ _ => trivial⟩
  rintro U2 ⟨rfl, hz⟩
  obtain ⟨n0, n1⟩ := ht hz
  refine ⟨_, _, sp_within h.1 ⟨by rw [tl_of]; omega, by rw [tl_of]; omega⟩, ?_, fun _ _ => trivial⟩
  rintro r66 A1 ⟨e66, v, rfl, a1, b1⟩
  rw [tl_of] at a1
  have k1 := h.nx (v := v) (by omega) b1
  refine ⟨hm, fun A2 e2 => ⟨hm, fun A3 e3 => ?_⟩⟩
  have k2 : CIq S x1.toInt.toNat A2 := by rw [e2]; exact k1.row (by decide) (k1.1.1.fin fin_31)
  have k3 : CIq S x1.toInt.toNat A3 := by rw [e3]; exact k2.row (by decide) (k2.1.1.fin fin_32)
  have z13 : qI A3 0 13 = v := by rw [e3, rdH (by decide), e2, rdH (by decide), n_13]
  have z35 : qI A3 0 35 = qI U2 0 35 := by rw [e3, rdH (by decide), e2, rdH (by decide), n_35]
  have z12 : qI A3 0 12 = qI U2 0 12 := by rw [e3, rdH (by decide), e2, rdH (by decide), n_12]
  refine ⟨_, _, sp_within k3.1 (by decide), ?_, fun _ _ => trivial⟩
  rintro r74 A4 ⟨e74, w, e4, a2, b2⟩
  rw [z13, l2] at a2
  rw [z35] at b2
  have k4 : CIq S x1.toInt.toNat A4 := by rw [e4]; exact k3.nx (by omega) (by rw [z35]; exact b2)
  have y12 : qI A4 0 12 = qI U2 0 12 := by rw [e4, n_12, z12]
  refine ⟨k4.1.1.two (by rw [e74, z13]; omega) (by rw [e74, z13, y12]; omega), hm, fun A5 e5 => ⟨hm, ?_⟩⟩
  have k5 : CIq S x1.toInt.toNat A5 := by rw [e5]; exact k4.row (by decide) (k4.1.1.fin fin_34)
  have q17 : qI A5 17 x1.toInt.toNat = f_two A4 r74 := by rw [e5, qI_wI, if_pos ⟨rfl, rfl⟩]
  have b17 := b_two (S := A4) (x := r74)
  have q12 : qI A5 12 = qI U2 12 := by rw [e5, rdH (by decide), e4, rdH (by decide), e3, rdH (by decide), e2, rdH (by decide), rdH (by decide)]
  have q13 : qI A5 13 = qI U2 13 := by rw [e5, rdH (by decide), e4, rdH (by decide), e3, rdH (by decide), e2, rdH (by decide), rdH (by decide)]
  have q14 : qI A5 14 x1.toInt.toNat = qI U2 0 13 := by rw [e5, rdH (by decide), e4, rdH (by decide), e3, rdH (by decide), e2, qI_wI, if_pos ⟨rfl, rfl⟩, e66]
  have q15 : qI A5 15 x1.toInt.toNat = n := by rw [e5, rdH (by decide), e4, rdH (by decide), e3, qI_wI, if_pos ⟨rfl, rfl⟩]
  have q0 : qI A5 0 12 = qI U2 0 12 := by rw [e5, rdH (by decide), y12]
  have hv : CIv A5 x1.toInt.toNat pl := by
    unfold CIv
    rw [q12, q13, q14, q15, q0, q17]
    exact ⟨h12, h13, ⟨n0, n1, by omega, by omega⟩, b17.1⟩
  exact ⟨fun _ => ci_267 k5 hm hv (fun q => absurd rfl q), fun c => ci_267 k5 hm hv (fun _ => by omega)⟩
theorem ci_157 {S U : MS} {x1 r t : Int32} {pl : Int} (h : CIq S x1.toInt.toNat U) (hm : 0 ≤ x1.toInt ∧ x1.toInt < 24) (h12 : 0 ≤ (qI U 12 x1.toInt.toNat).toInt ∧ (qI U 12 x1.toInt.toNat).toInt ≤ 24) (h13 : t.toInt ≠ 0 → pl ≤ (qI U 13 x1.toInt.toNat).toInt ∧ 0 ≤ (qI U 13 x1.toInt.toNat).toInt ∧ (qI U 13 x1.toInt.toNat).toInt ≤ 24) : w_codeItems_J157 (CIp S x1.toInt.toNat pl) (fun _ => True) U t x1 r := by
  have hb := h.1.1.bnd
  have hc := h.1.2
  have l4 : (4 : Int64).toInt = 4 := by decide
  unfold w_codeItems_J157
  refine ⟨_, _, sp_must, ?_, fun _ _ => trivial⟩
  rintro U2 ⟨rfl, hz⟩
  refine ⟨_, _, sp_within h.1 (by decide), ?_, fun _ _ => trivial⟩
  rintro r55 A1 ⟨e55, v, rfl, a1, b1⟩
  rw [l4] at a1
  have k1 := h.nx (v := v) (by omega) b1
  refine ⟨k1.1.1.four (by rw [e55]; omega) (by rw [e55, n_12]; omega), fun n en => ?_⟩
  have st : ∀ t2 : Int32, (t2.toInt ≠ 0 → 1 ≤ n.toInt ∧ n.toInt ≤ 1200) → w_codeItems_J201 (CIp S x1.toInt.toNat pl) (fun _ => True) (wI U2 0 13 v) t2 x1 r55 n := fun t2 ht2 =>
    ci_201 k1 hm (by rw [rdH (by decide)]; exact h12) (by rw [rdH (by decide)]; exact h13 hz) ht2
  refine ⟨fun _ => ?_, fun c1 => ⟨fun _ => ?_, fun c2 => st 1 (fun _ => ⟨by omega, by omega⟩)⟩⟩
  · unfold w_codeItems_J200; exact st 0 (fun q => absurd rfl q)
  · unfold w_codeItems_J200; exact st 0 (fun q => absurd rfl q)
theorem ci_102 {S U : MS} {x1 p r t : Int32} (h : CIq S x1.toInt.toNat U) (hm : 0 ≤ x1.toInt ∧ x1.toInt < 24) (h12 : 0 ≤ (qI U 12 x1.toInt.toNat).toInt) (ht : t.toInt ≠ 0 → (qI U 12 x1.toInt.toNat).toInt ≤ 24) : w_codeItems_J102 (CIp S x1.toInt.toNat p.toInt) (fun _ => True) U t x1 p r := by
  have hb := h.1.1.bnd
  have hc := h.1.2
  have l2 : (2 : Int64).toInt = 2 := by decide
  unfold w_codeItems_J102
  refine ⟨_, _, sp_must, ?_, fun _ _ => trivial⟩
  rintro U2 ⟨rfl, hz⟩
  have c12 := ht hz
  refine ⟨_, _, sp_within h.1 (by decide), ?_, fun _ _ => trivial⟩
  rintro r41 A1 ⟨e41, v, rfl, a1, b1⟩
  rw [l2] at a1
  have k1 := h.nx (v := v) (by omega) b1
  refine ⟨k1.1.1.two (by rw [e41]; omega) (by rw [e41, n_12]; omega), hm, fun A2 e2 => ⟨hm, ?_⟩⟩
  have k2 : CIq S x1.toInt.toNat A2 := by rw [e2]; exact k1.row (by decide) (k1.1.1.fin fin_30)
  have q13 : qI A2 13 x1.toInt.toNat = f_two (wI U2 0 13 v) r41 := by rw [e2, qI_wI, if_pos ⟨rfl, rfl⟩]
  have b13 := b_two (S := wI U2 0 13 v) (x := r41)
  have q12 : qI A2 12 = qI U2 12 := by rw [e2, rdH (by decide), rdH (by decide)]
  rw [← q13] at b13
  have st : ∀ t2 : Int32, (t2.toInt ≠ 0 → p.toInt ≤ (qI A2 13 x1.toInt.toNat).toInt ∧ 0 ≤ (qI A2 13 x1.toInt.toNat).toInt ∧ (qI A2 13 x1.toInt.toNat).toInt ≤ 24) → w_codeItems_J157 (CIp S x1.toInt.toNat p.toInt) (fun _ => True) A2 t2 x1 r41 := fun t2 ht2 => ci_157 k2 hm (by rw [q12]; exact ⟨h12, c12⟩) ht2
  have s0 : w_codeItems_J156 (CIp S x1.toInt.toNat p.toInt) (fun _ => True) A2 x1 r41 := by
    unfold w_codeItems_J156
    exact st 0 (fun q => absurd rfl q)
  exact ⟨fun _ => s0, fun c1 => ⟨hm, fun _ => s0, fun c2 => st 1 (fun _ => ⟨by omega, by omega, by omega⟩)⟩⟩
theorem sp_codeItems {S : MS} {x1 : Int32} (h : MmI S) (hn : NmI S) (hq : qN S 10000001 < 1000) (hC : CdF S) (hm : 0 ≤ x1.toInt ∧ (qI S 0 22).toInt + x1.toInt < (qI S 0 21).toInt) : w_codeItems S x1 (CIp S x1.toInt.toNat (pV S (f_two S (qI S 9 (qI S 0 22 + x1).toInt.toNat + 4))).toInt) (fun _ => True) := by
  have hb := h.1.bnd
  have hc := h.2.2.1
  have l2 : (2 : Int64).toInt = 2 := by decide
  have m24 : 0 ≤ x1.toInt ∧ x1.toInt < 24 := ⟨hm.1, by omega⟩
  have eo : (qI S 0 22 + x1).toInt = (qI S 0 22).toInt + x1.toInt := t_add (by omega)
  obtain ⟨hA, hw⟩ := fn_codeOf (qI S 0 22 + x1) h hn hq
  have c0 := hC (qI S 0 22 + x1) (by omega) (by omega)
  unfold w_codeItems
  refine ⟨_, hw, ?_⟩
  rintro r3 S4 ⟨er3, rfl⟩ S7 e7
  rw [← er3] at hA c0
  obtain ⟨a, ha, ra⟩ : ∃ a : Nat, (a : Int) < (qI S4 0 25).toInt ∧ r3 = qI S4 10 a := by
    rcases hA with hA | hA
    · omega
    · exact hA
  obtain ⟨o1, o2⟩ := h.2.2.2.2.2.1 a ha
  rw [← ra] at o1 o2
  have bl := c_and64 (a := (f_four S4 (r3 + 2)).toInt64)
  have e6 : (r3 + (6 : Int32)).toInt = r3.toInt + 6 := by rw [t_add (by rw [li_6]; omega), li_6]
  have e2 : (r3 + (2 : Int32)).toInt = r3.toInt + 2 := by rw [t_add (by rw [li_2]; omega), li_2]
  have h7 : RdI S7 := by rw [e7]; exact h.1.nx (by omega) (by omega)
  have x12 : qI S7 0 12 = qI S4 0 12 := by rw [e7, n_12]
  have x13 : qI S7 0 13 = r3 + 6 := by rw [e7, n_13]
  have s7 : smB S4 S7 := by rw [e7]; exact h.1.ss (a := 0) (t := 10) h.1.z (by decide)
  have ef : f_four S7 (r3 + 2) = f_four S4 (r3 + 2) := f_same s7.1 s7.2 _
  refine ⟨h7.four (by omega) (by rw [x12]; omega), fun S14 e14 => ?_⟩
  have v35 : (qI S14 0 35).toInt = r3.toInt + 6 + ((f_four S4 (r3 + 2)).toInt64 &&& 4294967295).toInt := by
    have t1 : ((r3 + (6 : Int32)).toInt64 + ((f_four S4 (r3 + 2)).toInt64 &&& 4294967295)).toInt = r3.toInt + 6 + ((f_four S4 (r3 + 2)).toInt64 &&& 4294967295).toInt := by rw [tl_add (by rw [tl_of]; omega), tl_of, e6]
    rw [e14, qI_wI, if_pos ⟨rfl, rfl⟩, x13, ef, tl_to (by rw [t1]; omega), t1]
  have h14 : RdI S14 := by rw [e14]; exact h7.fld (by decide)
  have z : ∀ j : Nat, j ≠ 13 → j ≠ 35 → qI S14 0 j = qI S4 0 j := fun j j1 j2 => by rw [e14, qI_wI, if_neg (fun q => j2 q.2), e7, qI_wI, if_neg (fun q => j1 q.2)]
  have zr : ∀ r : Nat, r ≠ 0 → qI S14 r = qI S4 r := fun r hr => by rw [e14, rdH hr, e7, rdH hr]
  have z13 : qI S14 0 13 = r3 + 6 := by rw [e14, qI_wI, if_neg (by decide), x13]
  have s14 : smB S4 S14 := s7.tr (by rw [e14]; exact h7.ss (a := 0) (t := 10) h7.z (by decide))
  have k14 : CIq S4 x1.toInt.toNat S14 := ⟨⟨h14, by rw [z13, v35]; omega, by rw [v35, z 12 (by decide) (by decide)]; omega⟩, s14, z, fun r j hr _ => by rw [zr r hr]⟩
  have M14 := k14.mm h
  have sR : smR S4 S14 := ⟨s14, zr 6 (by decide), zr 7 (by decide), zr 10 (by decide), zr 11 (by decide), z 25 (by decide) (by decide), by rw [e14, e7]; rfl, zr 10000001 (by decide)⟩
  rw [z 22 (by decide) (by decide), zr 9 (by decide)]
  have hx : isE S14 (f_two S14 (qI S4 9 (qI S4 0 22 + x1).toInt.toNat + 4)) 1 := by
    rw [sR.etwo]
    obtain ⟨q1, q2, q3⟩ := (hn.1 (qI S4 0 22 + x1).toInt.toNat (by omega)).2
    exact ⟨q1, by rw [z 14 (by decide) (by decide)]; exact q2, by rw [zr 4 (by decide)]; exact q3⟩
  have hd := M14.d2 (i := (qI S4 0 22 + x1).toInt.toNat) (by rw [z 21 (by decide) (by decide)]; omega) (d := 4) (x := qI S4 9 (qI S4 0 22 + x1).toInt.toNat + 4) (by decide) (by rw [zr 9 (by decide)])
  refine ⟨⟨by omega, by omega⟩, hd, _, (fn_pp M14 hx).2, ?_⟩
  rintro r23 S24 ⟨er, rfl⟩
  rw [sR.epV, sR.etwo] at er
  rw [← er]
  have hc2 := k14.1.2
  have hb2 := k14.1.1.bnd
  refine ⟨_, _, sp_within k14.1 (by decide), ?_, fun _ _ => trivial⟩
  rintro r27 A1 ⟨e27, v, rfl, a1, b1⟩
  rw [l2] at a1
  have k1 := k14.nx (v := v) (by omega) b1
  refine ⟨k1.1.1.two (by rw [e27]; omega) (by rw [e27, n_12]; omega), m24, fun A2 eA2 => ⟨m24, ?_⟩⟩
  have k2 : CIq S4 x1.toInt.toNat A2 := by rw [eA2]; exact k1.row (by decide) (k1.1.1.fin fin_29)
  have q12 : qI A2 12 x1.toInt.toNat = f_two (wI S24 0 13 v) r27 := by rw [eA2, qI_wI, if_pos ⟨rfl, rfl⟩]
  have b12 := b_two (S := wI S24 0 13 v) (x := r27)
  rw [← q12] at b12
  exact ⟨fun _ => ci_102 k2 m24 b12.1 (fun q => absurd rfl q), fun c => ci_102 k2 m24 b12.1 (fun _ => by omega)⟩
/-! what is read stays true -/
def TxI (S : MS) : Prop := ∀ i : Nat, i < NTX → qT S (TXB + 2 * i + 1) = 22 ∧ qN S (TXB + 2 * i + 1) = sLr.getD i 0 ∧ ∀ k : Nat, qI S (TXB + 2 * i + 1) k = (sBr.getD i []).getD k 0
def kdS (S u : MS) : Prop := ∀ b : Nat, qT S b ≠ 0 → qT u b = qT S b ∧ qN u b = qN S b
def smC (S u : MS) : Prop := kdS S u ∧ smB S u ∧ (∀ a : Nat, a ≠ 0 → a < 12 → qI u a = qI S a ∧ qJ u a = qJ S a) ∧ (∀ a : Nat, TXB ≤ a → qI u a = qI S a) ∧ ∀ j : Nat, 9 ≤ j → j < 35 → j ≠ 13 → qI u 0 j = qI S 0 j
def smT (S u : MS) : Prop := smC S u ∧ (∀ a : Nat, 12 ≤ a → a < 18 → qI u a = qI S a) ∧ qI u 0 13 = qI S 0 13 ∧ qI u 0 35 = qI S 0 35
theorem kdS.rf {S : MS} : kdS S S := fun _ _ => ⟨rfl, rfl⟩
theorem kdS.tr {S u v : MS} (h : kdS S u) (k : kdS u v) : kdS S v := fun b hb => by
  obtain ⟨e1, e2⟩ := h b hb
  obtain ⟨e3, e4⟩ := k b (by rw [e1]; exact hb)
  exact ⟨e3.trans e1, e4.trans e2⟩
theorem smC.rf {S : MS} : smC S S := ⟨kdS.rf, smB.rf, fun _ _ _ => ⟨rfl, rfl⟩, fun _ _ => rfl, fun _ _ _ _ => rfl⟩
theorem smC.tr {S u v : MS} (h : smC S u) (k : smC u v) : smC S v := ⟨h.1.tr k.1, h.2.1.tr k.2.1, fun a a0 a1 => ⟨(k.2.2.1 a a0 a1).1.trans (h.2.2.1 a a0 a1).1, (k.2.2.1 a a0 a1).2.trans (h.2.2.1 a a0 a1).2⟩, fun a a0 => (k.2.2.2.1 a a0).trans (h.2.2.2.1 a a0), fun j j0 j1 j2 => (k.2.2.2.2 j j0 j1 j2).trans (h.2.2.2.2 j j0 j1 j2)⟩
theorem smT.rf {S : MS} : smT S S := ⟨smC.rf, fun _ _ _ => rfl, rfl, rfl⟩
theorem smT.tr {S u v : MS} (h : smT S u) (k : smT u v) : smT S v := ⟨h.1.tr k.1, fun a a0 a1 => (k.2.1 a a0 a1).trans (h.2.1 a a0 a1), k.2.2.1.trans h.2.2.1, k.2.2.2.trans h.2.2.2⟩
theorem smC.f {S u : MS} (h : smC S u) (j : Nat) (h0 : 9 ≤ j := by decide) (h1 : j < 35 := by decide) (h2 : j ≠ 13 := by decide) : qI u 0 j = qI S 0 j := h.2.2.2.2 j h0 h1 h2
theorem smC.r {S u : MS} (h : smC S u) (a : Nat) (h0 : a ≠ 0 := by decide) (h1 : a < 12 := by decide) : qI u a = qI S a := (h.2.2.1 a h0 h1).1
theorem smC.tx {S u : MS} (h : smC S u) (k : TxI S) : TxI u := fun i hi => by
  obtain ⟨a, b, c⟩ := k i hi
  obtain ⟨e1, e2⟩ := h.1 _ (show qT S (TXB + 2 * i + 1) ≠ 0 by omega)
  exact ⟨e1.trans a, e2.trans b, fun k => by rw [h.2.2.2.1 _ (by omega)]; exact c k⟩
theorem smT.rd {S u : MS} (h : smT S u) (k : RdI S) : RdI u := by
  obtain ⟨b, h2, h3, h4, h5, h6, h7, h8⟩ := k
  have e := h.1.1 b (by omega)
  have f12 := h.1.f 12
  refine ⟨b, by rw [h.1.2.1.1]; exact h2, e.1.trans h3, ⟨(h.1.1 0 (by omega)).1.trans h4.1, fun q hq => ?_⟩, by rw [h.2.2.1]; exact h5, by rw [h.2.2.1, f12]; exact h6, by rw [f12, e.2]; exact h7, by rw [e.2]; exact h8⟩
  have z : qT S q.2.1 ≠ 0 := by
    rw [h4.2 q hq]
    revert q
    decide
  rw [(h.1.1 _ z).1]
  exact h4.2 q hq
theorem smC.mm {S u : MS} (h : smC S u) (hR : RdI u) (k : MmI S) : MmI u := by
  obtain ⟨a, b, c, d, e, f, g, i⟩ := k
  have k12 := h.f 12
  have k14 := h.f 14
  refine ⟨hR, by rw [h.f 20, k12]; exact b, by rw [h.f 22, h.f 21]; exact c, fun j hj => ?_, by rw [h.f 25]; exact e, fun j hj => ?_, by rw [k14]; exact g, fun j hj hj2 => ?_⟩
  · rw [h.f 21] at hj
    exact (d j hj).mv (by rw [h.r 9]) k12
  · rw [h.f 25] at hj
    exact (f j hj).mv h.2.1 (by rw [h.r 10]) k12
  · rw [k14] at hj2
    exact (i j hj hj2).mv (by rw [h.r 4]) (by rw [h.r 6]) (by rw [h.r 7]) k12 h.2.1
theorem smC.two {S u : MS} (h : smC S u) (x : Int32) : f_two u x = f_two S x := by
  have e : qO u 0 11 = qO S 0 11 := by unfold qO; rw [h.2.1.1]
  unfold f_two f_octet
  rw [e, h.2.1.2]
theorem smC.isE {S u : MS} (h : smC S u) {x : Int32} {t : Int} (k : isE S x t) : isE u x t := ⟨k.1, by rw [h.f 14]; exact k.2.1, by rw [h.r 4]; exact k.2.2⟩
theorem smC.nm {S u : MS} (h : smC S u) (k : NmI S) : NmI u := by
  refine ⟨fun i hi => ?_, fun a ha => ?_⟩
  · rw [h.f 21] at hi
    rw [h.r 9, h.two, h.two]
    exact ⟨h.isE (k.1 i hi).1, h.isE (k.1 i hi).2⟩
  · rw [h.f 25] at ha
    rw [h.r 10, h.two]
    exact h.isE (k.2 a ha)
theorem smC.sR {S u : MS} (h : smC S u) (k : TxI S) : smR S u := ⟨h.2.1, h.r 6, h.r 7, h.r 10, h.r 11, h.f 25, (h.1 _ (show qT S 10000001 ≠ 0 by have := (k 0 (by decide)).1; rw [show TXB + 2 * 0 + 1 = 10000001 from rfl] at this; omega)).2, h.2.2.2.1 _ (by decide)⟩
theorem smC.ty {S u : MS} (h : smC S u) (kt : TxI S) (k : TyF S) : TyF u := by
  have sR := h.sR kt
  have et : ∀ x, f_isType u x = f_isType S x := fun x => by unfold f_isType f_isType_J28; rw [sR.eta, h.r 7]
  refine ⟨fun j j0 j1 => ?_, fun i hi => ?_⟩
  · rw [h.f 14] at j1
    rw [h.r 4, h.r 7, et]
    unfold ppG
    rw [sR.epV]
    exact k.1 j j0 j1
  · rw [h.f 21] at hi
    rw [h.f 22, h.r 9, h.two, et]
    unfold ppG
    rw [sR.epV]
    exact k.2 i hi
theorem smC.rf2 {S u : MS} (h : smC S u) {k : Nat} (q : refOK S k) : refOK u k := by
  unfold refOK
  rw [h.r 4, h.r 6, h.r 7]
  exact ⟨fun e => h.isE (q.1 e), fun e => ⟨h.isE (q.2.1 e).1, h.isE (q.2.1 e).2⟩, fun e => ⟨h.isE (q.2.2 e).1, h.isE (q.2.2 e).2⟩⟩
/-- all that the reader has found -/
def RT (S : MS) : Prop := MmI S ∧ NmI S ∧ TyF S ∧ (∀ k : Nat, 1 ≤ k → (k : Int) < (qI S 0 14).toInt → refOK S k) ∧ (isE S (f_two S (qI S 0 20 + 2)) 7 ∧ isE S (f_two S (qI S 0 20 + 4)) 7) ∧ TxI S ∧ CdF S
theorem smC.rt {S u : MS} (h : smC S u) (hR : RdI u) (k : RT S) : RT u := by
  obtain ⟨a, b, c, d, e, f, g⟩ := k
  refine ⟨h.mm hR a, h.nm b, h.ty f c, fun k k0 k1 => h.rf2 (d k k0 (by rw [h.f 14] at k1; exact k1)), ?_, h.tx f, fun o o0 o1 => ?_⟩
  · rw [h.f 20, h.two, h.two]
    exact ⟨h.isE e.1, h.isE e.2⟩
  · rw [(h.sR f).ecV]
    rw [h.f 22] at o0
    rw [h.f 21] at o1
    exact g o o0 o1
theorem smT.rt {S u : MS} (h : smT S u) (k : RT S) : RT u := h.1.rt (h.rd k.1.1) k
/-- what codeItems left for method m -/
def COK (S : MS) (m : Nat) : Prop := CIv S m (pV S (f_two S (qI S 9 ((qI S 0 22).toInt.toNat + m) + 4))).toInt ∧ (qI S 17 m).toInt ≤ 16 ∧ 0 ≤ (qI S 16 m).toInt ∧ (qI S 16 m).toInt + 8 * (qI S 17 m).toInt ≤ (qI S 0 12).toInt
theorem COK.mv {S u : MS} {m : Nat} (h : COK S m) (k : smC S u) (kt : TxI S) (e : ∀ a : Nat, 12 ≤ a → a < 18 → qI u a m = qI S a m) : COK u m := by
  unfold COK CIv
  rw [e 12 (by decide) (by decide), e 13 (by decide) (by decide), e 14 (by decide) (by decide), e 15 (by decide) (by decide), e 16 (by decide) (by decide), e 17 (by decide) (by decide), k.f 12, (k.sR kt).epV, k.two, k.r 9, k.f 22]
  exact h
/-- frames of the stages that follow -/
theorem smT.fr {S u : MS} (h : RdI S) (f : frm [18, 19, 20, 21] [7, 8, 36, 37, 39, 41, 43, 45, 46] S u) : smT S u := by
  obtain ⟨t, n, -, -, r, j⟩ := f
  have nn : ∀ a : Nat, a ≠ 0 → a < 18 ∨ 21 < a → qI u a = qI S a ∧ qJ u a = qJ S a ∧ qR u a = qR S a := fun a a0 a1 => r a a0 (by simp; omega)
  have b : qO S 0 11 ≠ 0 ∧ (qO S 0 11 < 18 ∨ 21 < qO S 0 11) := by
    have t18 : qT S 18 = 2 := h.fin (q := (38, 18, 2, 1201)) (by decide)
    have t19 : qT S 19 = 2 := h.fin (q := (40, 19, 2, 86400)) (by decide)
    have t20 : qT S 20 = 2 := h.fin (q := (42, 20, 2, 40000)) (by decide)
    have t21 : qT S 21 = 2 := h.fin (q := (44, 21, 2, 1536)) (by decide)
    have n0 := h.ne h.z (by decide)
    have n1 := h.ne t18 (by decide)
    have n2 := h.ne t19 (by decide)
    have n3 := h.ne t20 (by decide)
    have n4 := h.ne t21 (by decide)
    omega
  refine ⟨⟨fun b _ => ⟨by rw [t], by rw [n]⟩, ⟨(j 11 (by decide)).2.2, (nn _ b.1 b.2).1⟩, fun a a0 a1 => ⟨(nn a a0 (by omega)).1, (nn a a0 (by omega)).2.1⟩, fun a a0 => (nn a (by rw [show TXB = 10000000 from rfl] at a0; omega) (by rw [show TXB = 10000000 from rfl] at a0; omega)).1, fun j' j0 j1 j2 => (j j' (by simp; omega)).1⟩, fun a a0 a1 => (nn a (by omega) (by omega)).1, (j 13 (by decide)).1, (j 35 (by decide)).1⟩
