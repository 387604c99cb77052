/-! build: its start -/
section BU
variable {B B' : Nat × Nat} {S U u v : MS} {p : Nat}
theorem sp_copyOfBV {kd q : Nat} {x : Int32} {Q : Nat → MS → Prop} (hL : qN S q < 2147483648) (hp : q ≠ qn S) (hx : 0 ≤ x.toInt ∧ x.toInt ≤ (qN S q : Int)) (hr : qn S + 1 ≤ KCC ∧ qu S + x.toInt.toNat ≤ KSC) (hQ : ∀ (f : Nat → Int32) (u : MS), (∀ k : Nat, (k : Int) < x.toInt → f k = qI S q k) → u = wC (wN S kd x.toInt.toNat x.toInt.toNat) (qn S) f → wfC u → Q (qn S) u) : wJ7_copyOf_9075b S kd q x Q := by
  have eL := toI_nat hL
  unfold wJ7_copyOf_9075b
  refine ⟨fun c => ?_, fun c => ?_⟩
  · rw [eL] at c
    have en : qN S q = x.toInt.toNat := by omega
    refine ⟨⟨hr.1, by rw [en]; exact hr.2⟩, fun S13 e w => ?_⟩
    refine hQ (qI S q) S13 (fun _ _ => rfl) ?_ w
    rw [e]
    unfold wKC
    rw [en]
  · rw [eL] at c
    refine ⟨⟨hx.1, hr⟩, fun S5 e5 w5 => ?_⟩
    have e1 : qN S5 q = qN S q := by rw [e5]; exact if_neg hp
    have e2 : qN S5 (qn S) = x.toInt.toNat := by rw [e5]; exact if_pos rfl
    have cc : x < (Int32.ofNat (qN S q)) := n_lt.mpr (by rw [eL]; omega)
    rw [e1, e2, if_pos cc]
    have z := li_0k
    refine ⟨acp_ok ⟨by omega, by omega, by omega, by omega, by omega⟩, fun S9 e9 k9 w9 => ?_⟩
    rw [e5] at e9
    refine hQ _ S9 (fun k hk => ?_) e9 w9
    rw [cpy_0 hk, wN_I hp]
/-- a new Unit and the shape of the world -/
theorem ShC.nu (w : wfC S) (h : ShC B S) (f : cfr [] [] S u) (n1 : ∀ a, qT S a = 0 → qT u a ≠ 47 ∧ qT u a ≠ 44 ∧ (qT u a = 49 → a = p)) (d : dnC u) (hr : qT u p = 49 → UnK u p) (hu : qu u + B.1 ≤ qu S + B'.1) (hn : 64 * qn u + B.2 ≤ 64 * qn S + B'.2) (hB : B'.1 ≤ KSC ∧ B'.2 ≤ 64 * KCC) : ShC B' u := by
  obtain ⟨h1, h2, h3, h4, h5, h6, h7, h8, h9⟩ := h
  have hK : okK ([] : List Nat) = true := rfl
  have hF : okL shF ([] : List (Nat × Nat)) = true := rfl
  have e1_0 : qN u (qO u 1 0) = qN S (qO S 1 0) := fr_len w f hK hF w.k1 (by decide) (by decide) (by decide)
  have e3_0 : qN u (qO u 3 0) = qN S (qO S 3 0) := fr_len w f hK hF w.k3 (by decide) (by decide) (by decide)
  have e5_0 : qN u (qO u 5 0) = qN S (qO S 5 0) := fr_len w f hK hF w.k5 (by decide) (by decide) (by decide)
  have e26_0 : qN u (qO u 26 0) = qN S (qO S 26 0) := fr_len w f hK hF w.k26 (by decide) (by decide) (by decide)
  have e28_0 : qN u (qO u 28 0) = qN S (qO S 28 0) := fr_len w f hK hF w.k28 (by decide) (by decide) (by decide)
  have e30_0 : qN u (qO u 30 0) = qN S (qO S 30 0) := fr_len w f hK hF w.k30 (by decide) (by decide) (by decide)
  have e17_0 : qN u (qO u 17 0) = qN S (qO S 17 0) := fr_len w f hK hF w.k17 (by decide) (by decide) (by decide)
  have e38_0 : qN u (qO u 38 0) = qN S (qO S 38 0) := fr_len w f hK hF w.k38 (by decide) (by decide) (by decide)
  have e16_2 : qN u (qO u 16 2) = qN S (qO S 16 2) := fr_len w f hK hF w.k16 (by decide) (by decide) (by decide)
  have e25_17 : qN u (qO u 25 17) = qN S (qO S 25 17) := fr_len w f hK hF w.k25 (by decide) (by decide) (by decide)
  have e52_3 : qN u (qO u 52 3) = qN S (qO S 52 3) := fr_len w f hK hF w.k52 (by decide) (by decide) (by decide)
  have e52_13 : qN u (qO u 52 13) = qN S (qO S 52 13) := fr_len w f hK hF w.k52 (by decide) (by decide) (by decide)
  have e52_9 : qN u (qO u 52 9) = qN S (qO S 52 9) := fr_len w f hK hF w.k52 (by decide) (by decide) (by decide)
  have e52_5 : qN u (qO u 52 5) = qN S (qO S 52 5) := fr_len w f hK hF w.k52 (by decide) (by decide) (by decide)
  have e52_7 : qN u (qO u 52 7) = qN S (qO S 52 7) := fr_len w f hK hF w.k52 (by decide) (by decide) (by decide)
  have e44_2 : qN u (qO u 44 2) = qN S (qO S 44 2) := fr_len w f hK hF w.k44 (by decide) (by decide) (by decide)
  have e44_4 : qN u (qO u 44 4) = qN S (qO S 44 4) := fr_len w f hK hF w.k44 (by decide) (by decide) (by decide)
  have e44_8 : qN u (qO u 44 8) = qN S (qO S 44 8) := fr_len w f hK hF w.k44 (by decide) (by decide) (by decide)
  have e44_9 : qN u (qO u 44 9) = qN S (qO S 44 9) := fr_len w f hK hF w.k44 (by decide) (by decide) (by decide)
  have e66_2 : qN u (qO u 66 2) = qN S (qO S 66 2) := fr_len w f hK hF w.k66 (by decide) (by decide) (by decide)
  have e9 : hp2 u = hp2 S := by unfold hp2; rw [e44_2]
  unfold CpK at h8
  unfold RmK PSc PNc at h9
  have mo : ∀ {L : List (Nat × Nat)}, L.all (fun x => shF.contains x) = true → okL L ([] : List (Nat × Nat)) = true := fun hm => okL_mo hF hm
  refine ⟨fun q k => ?_, fun q k => ?_, fun q k => ?_, (by unfold ChKk; rw [show qN u (qO u 16 1) = qN S (qO S 16 1) from fr_len w f hK hF w.k16 (by decide) (by decide) (by decide), show qN u (qO u 16 3) = qN S (qO S 16 3) from fr_len w f hK hF w.k16 (by decide) (by decide) (by decide), e16_2]; exact h4), (by unfold WrK; rw [show qN u (qO u 25 16) = qN S (qO S 25 16) from fr_len w f hK hF w.k25 (by decide) (by decide) (by decide), e25_17]; exact h5), fr_smith w (h1 _ w.k67) h6 f hK hF (by decide), d, ?_, ?_⟩
  · by_cases e : qT S q = 0
    · exact absurd k (n1 q e).1
    · have kS := f.1.oldT k e
      refine (h1 q kS).mv w f.1 (fun j hj => (f.sl hK (mo (L := L47) (by decide)) kS (by decide) ?_).1) (fun j hj => (f.sl hK (mo (L := L47) (by decide)) kS (by decide) ?_).2)
      · revert j; decide
      · revert j; decide
  · by_cases e : qT S q = 0
    · have := (n1 q e).2.2 k
      subst this
      exact hr k
    · have kS := f.1.oldT k e
      refine (h2 q kS).mv w f.1 (fun j hj => (f.sl hK (mo (L := L49) (by decide)) kS (by decide) ?_).1) (fun j hj => (f.sl hK (mo (L := L49) (by decide)) kS (by decide) ?_).2)
      · rcases hj with rfl | rfl <;> decide
      · have : j = 0 ∨ j = 5 ∨ j = 6 ∨ j = 7 ∨ j = 9 ∨ j = 10 ∨ j = 11 ∨ j = 12 ∨ j = 13 := by omega
        rcases this with rfl | rfl | rfl | rfl | rfl | rfl | rfl | rfl | rfl <;> decide
  · by_cases e : qT S q = 0
    · exact absurd k (n1 q e).2.1
    · have kS := f.1.oldT k e
      refine (h3 q kS).mv w f.1 (fun j hj => (f.sl hK (mo (L := L44) (by decide)) kS (by decide) ?_).2)
      revert j; decide
  · unfold CpK; rw [e1_0, e3_0, e5_0, e26_0, e28_0, e30_0, e17_0, e38_0, e16_2, e25_17, e52_3, e52_13, e52_9, e52_5, e52_7, e44_2, e44_4, e44_8, e44_9, e66_2]; exact h8
  · unfold RmK PSc PNc; rw [e1_0, e3_0, e5_0, e26_0, e28_0, e30_0, e17_0, e38_0, e16_2, e25_17, e52_3, e52_13, e52_9, e52_5, e52_7, e44_2, e44_4, e44_8, e44_9, e66_2, e9]; omega
/-- what stands when the new Unit's rows are there -/
def BnP (B : Nat × Nat) (S : MS) (u : MS) : Prop := cfr [] [] S u ∧ ShC (B.1 + 210 + (qI S 9 1).toInt.toNat, B.2 + 640) u ∧ qT u (qn S) = 49 ∧ (qI u (qn S) 4 = qI S 9 7 ∧ qI u (qn S) 8 = qI S 9 8) ∧ ((qN u (qO u (qn S) 0) : Int) = (qI S 9 1).toInt ∧ ∀ k : Nat, (k : Int) < (qI S 9 1).toInt → qI u (qO u (qn S) 0) k = qI S (qO S 9 0) k)
theorem sp_buildS {Q : MS → Prop} (w : wfC S) (g : ShC B S) (h9 : 0 ≤ (qI S 9 1).toInt) (hd : (qI S 9 1).toInt ≤ (qN S (qO S 9 0) : Int)) (h7 : 0 ≤ (qI S 9 7).toInt ∧ (qI S 9 7).toInt ≤ 24) (h8 : 0 ≤ (qI S 9 8).toInt ∧ (qI S 9 8).toInt ≤ 24) (hB : B.1 + 210 + (qI S 9 1).toInt.toNat ≤ KSC ∧ B.2 + 640 ≤ 64 * KCC) (hQ : ∀ S14 : MS, wfC S14 → BnP B S S14 → Q S14) : (qn S + 1 ≤ KCC ∧ qu S + 18 ≤ KSC) ∧ ∀ S4, S4 = wN S 49 0 18 → wfC S4 → (qT S4 (qO S4 9 0) = 101 → (∃ Q7, wJ7_copyOf_9075b S4 105 (qO S4 9 0) (qI S4 9 1) Q7 ∧ ∀ b12 S9, Q7 b12 S9 → wfC S9 → shx S4 S9 → qT S9 b12 = 105 → (qT S9 (qn S) = 49 → qT S9 b12 = 105 → (∃ Q13, wX10_init S9 (qn S) b12 (qI S9 9 7) (qI S9 9 8) Q13 ∧ ∀ S14, Q13 S14 → wfC S14 → shx S9 S14 → Q S14)))) := by
  have gl := g.le
  refine ⟨⟨by omega, by omega⟩, fun S4 e4 w4 k4 => ?_⟩
  have hT := KC_TX (n := qn S) (by omega)
  have f4 : cfr [] [] S S4 := by rw [e4]; exact cfr.new w (e4 ▸ w4)
  have q4 : qn S4 = qn S + 1 := by rw [e4]; rfl
  have u4 : qu S4 = qu S + 18 := by rw [e4]; rfl
  have p4 : qT S4 (qn S) = 49 := by rw [e4]; exact wN_t
  have r9 := w.ptr (o := 9) (j := 0) (by decide)
  have o4 : qO S4 9 0 = qO S 9 0 := qO_eq (f4.kO w.k9 rfl rfl)
  have i4 : ∀ j, qI S4 9 j = qI S 9 j := fun j => f4.kI w.k9 rfl rfl
  have k101 : qT S (qO S 9 0) = 101 := w.ref r9 w.k9
  have old4 : ∀ x, qT S x ≠ 0 → qT S4 x = qT S x ∧ qN S4 x = qN S x := fun x hx => f4.1.1 x hx
  have d4 : dnC S4 := fun x hx => by
    by_cases z : x < qn S
    · rw [(old4 x (g.dn x z)).1]; exact g.dn x z
    · rw [show x = qn S by omega, p4]; decide
  have l9 := w.len9 k101 (by decide)
  have n4 : qN S4 (qO S4 9 0) = qN S (qO S 9 0) := by rw [o4, (old4 _ (by rw [k101]; decide)).2]
  have hT4 := KC_TX (n := qn S4) (by omega)
  refine ⟨_, sp_copyOfBV (Q := fun b v => b = qn S4 ∧ ∃ fc : Nat → Int32, (∀ k : Nat, (k : Int) < (qI S4 9 1).toInt → fc k = qI S4 (qO S4 9 0) k) ∧ v = wC (wN S4 105 (qI S4 9 1).toInt.toNat (qI S4 9 1).toInt.toNat) (qn S4) fc) (by omega) (w4.ne hT4 k4 (by decide)) (by rw [i4, n4]; exact ⟨h9, hd⟩) (by rw [i4]; omega) (fun fc v hf hv _ => ⟨rfl, fc, hf, hv⟩), ?_⟩
  rintro b12 S9 ⟨rfl, fc, hf, e9⟩ w9 s9 k9 p9 _
  have q9 : qn S9 = qn S4 + 1 := by rw [e9]; rfl
  have u9 : qu S9 = qu S4 + (qI S4 9 1).toInt.toNat := by rw [e9]; rfl
  have f9 : cfr [] [] S4 S9 := by rw [e9]; exact cfr.newC w4 hT4
  have t9 : qT S9 (qn S4) = 105 := k9
  have d9 : dnC S9 := fun x hx => by
    by_cases z : x < qn S4
    · rw [(f9.1.1 x (d4 x z)).1]; exact d4 x z
    · rw [show x = qn S4 by omega, t9]; decide
  have f49 := f4.tr f9
  have i9 : ∀ j, qI S9 9 j = qI S 9 j := fun j => f49.kI w.k9 rfl rfl
  have nb : qN S9 (qn S4) = (qI S4 9 1).toInt.toNat := by rw [e9]; exact wCN_n (f := fc)
  obtain ⟨a, ea⟩ : ∃ a : Nat, a = (qI S9 9 7).toInt.toNat := ⟨_, rfl⟩
  obtain ⟨b, eb⟩ : ∃ b : Nat, b = (qI S9 9 8).toInt.toNat := ⟨_, rfl⟩
  obtain ⟨l, el⟩ : ∃ l : Nat, l = qN S9 (qn S4) := ⟨_, rfl⟩
  have ea' : (a : Int) = (qI S 9 7).toInt ∧ (b : Int) = (qI S 9 8).toInt := by
    rw [i9] at ea eb; omega
  refine ⟨_, sp_initU (Q := fun v => wfC v ∧ AlQ S9 (qn S) 8 (3 * a + 5 * b) [(13, b), (12, b), (11, b), (10, b), (9, b), (7, a), (6, a), (5, a), (0, l)] [(8, qI S9 9 8), (4, qI S9 9 7), (17, -1), (16, -1)] v) w9 d9 q4 (by omega) (by rw [i9]; exact h7.1) (by rw [i9]; exact h8.1) ea eb (by rw [i4] at u9; omega) (fun v wv h => ⟨wv, by rw [el]; exact h⟩), ?_⟩
  rintro S14 ⟨_, A⟩ w14 s14
  refine hQ S14 w14 ?_
  obtain ⟨A1, A2, A3, ⟨A4, A5, _⟩, A6, A7⟩ := A
  have a13 := A6 (13, b) (by simp)
  have a12 := A6 (12, b) (by simp)
  have a11 := A6 (11, b) (by simp)
  have a10 := A6 (10, b) (by simp)
  have a9 := A6 (9, b) (by simp)
  have a7 := A6 (7, a) (by simp)
  have a6 := A6 (6, a) (by simp)
  have a5 := A6 (5, a) (by simp)
  have a0 := A6 (0, l) (by simp)
  have g8 : qI S14 (qn S) 8 = qI S 9 8 := by rw [← i9]; exact A7 (8, qI S9 9 8) (by simp)
  have g4 : qI S14 (qn S) 4 = qI S 9 7 := by rw [← i9]; exact A7 (4, qI S9 9 7) (by simp)
  simp only at a13 a12 a11 a10 a9 a7 a6 a5 a0
  rw [← el] at nb
  have z := w.nx hT
  have F : cfr [] [] S S14 := by
    have base : ∀ x, qT S x ≠ 0 → qT S9 x ≠ 0 ∧ x ≠ qn S := fun x hx => ⟨by rw [(f49.1.1 x hx).1]; exact hx, fun q => hx (by rw [q]; exact z)⟩
    refine ⟨f49.1.tr A1.1, Nat.le_trans f49.2.1 A1.2.1, fun x j hx h1 h2 => ?_⟩
    obtain ⟨b1, b2⟩ := base x hx
    obtain ⟨c1, c2, c3⟩ := f49.2.2 x j hx h1 h2
    obtain ⟨e1, e2, e3⟩ := A1.2.2 x j b1 b2
    exact ⟨e1.trans c1, e2.trans c2, e3.trans c3⟩
  have kp : qT S14 (qn S) = 49 := A1.1.T p9 (by decide)
  have dat : qO S14 (qn S) 0 = qn S + 1 := w14.off a0.2 kp rfl (by decide)
  have UK : UnK S14 (qn S) := by
    refine ⟨⟨a0.2, a5.2, a6.2, a7.2, a9.2, a10.2, a11.2, a12.2, a13.2⟩, ?_⟩
    rw [g4, g8, a5.1, a6.1, a7.1, a9.1, a10.1, a11.1, a12.1, a13.1]
    omega
  refine ⟨F, ShC.nu (p := qn S) w g F (fun x hx => ?_) A3 (fun _ => UK) (by show qu S14 + B.1 ≤ qu S + (B.1 + 210 + (qI S 9 1).toInt.toNat); rw [i4] at u9; omega) (by show 64 * qn S14 + B.2 ≤ 64 * qn S + (B.2 + 640); omega) hB, kp, ⟨g4, g8⟩, ?_, fun k hk => ?_⟩
  · by_cases y : qT S9 x = 0
    · have := A2.1 x y
      exact ⟨this.1, this.2.2, fun q => absurd q this.2.1⟩
    · have e := (A1.1.1 x y).1
      rw [e]
      have hx9 : x = qn S ∨ x = qn S4 := by
        have hl : x < qn S9 ∨ qT S9 x = 12 ∨ qT S9 x = 22 := by
          by_cases e12 : qT S9 x = 12
          · exact Or.inr (Or.inl e12)
          · by_cases e22 : qT S9 x = 22
            · exact Or.inr (Or.inr e22)
            · exact Or.inl (w9.lt4 _ y e12 e22)
        by_cases c1 : x < qn S
        · exact absurd hx (g.dn x c1)
        · rcases hl with q | q | q
          · omega
          · exfalso
            have t4 : qT S9 x = qT S4 x := by
              rw [e9]
              by_cases c2 : x = qn S4
              · rw [c2, t9] at q; cases q
              · exact wCN_T c2
            have t0 : qT S4 x = qT S x := by
              by_cases c3 : x = qn S
              · rw [c3, p9] at q; cases q
              · rw [e4]; exact wN_Tk c3
            rw [t4, t0, hx] at q; cases q
          · exfalso
            have t4 : qT S9 x = qT S4 x := by
              rw [e9]
              by_cases c2 : x = qn S4
              · rw [c2, t9] at q; cases q
              · exact wCN_T c2
            have t0 : qT S4 x = qT S x := by
              by_cases c3 : x = qn S
              · rw [c3, p9] at q; cases q
              · rw [e4]; exact wN_Tk c3
            rw [t4, t0, hx] at q; cases q
      rcases hx9 with rfl | rfl
      · rw [p9]; exact ⟨by decide, by decide, fun _ => rfl⟩
      · rw [t9]; exact ⟨by decide, by decide, fun q => absurd q (by decide)⟩
  · rw [a0.1, nb, i4]; omega
  · have e1 := (A1.2.2 (qn S4) k (by rw [t9]; decide) (by omega)).1
    rw [dat, ← q4, e1, e9, wC_s, hf k (by rw [i4]; exact hk), o4]
    exact f4.kI k101 rfl rfl
end BU
/-! build whole -/
section BV
variable {B : Nat × Nat} {S U u v : MS} {p : Nat}
def nl2 (f : Nat → Int32) (a : Int32) : Int32 := ((f (a.toInt + 1).toNat &&& (255 : Int32)) <<< ((8 : Int32) &&& 31)) ||| (f (a.toInt + 2).toNat &&& (255 : Int32))
/-- a name of a Unit -/
def uNm (S : MS) (p : Nat) (a : Int32) : Prop := 0 ≤ a.toInt ∧ a.toInt + 3 ≤ (qN S (qO S p 0) : Int) ∧ (nl2 (qI S (qO S p 0)) a).toInt ≤ 100
def NmU (S : MS) (p : Nat) : Prop := (uNm S p (qI S p 2) ∧ uNm S p (qI S p 3)) ∧ (∀ k : Nat, (k : Int) < (qI S p 4).toInt → uNm S p (qI S (qO S p 5) k) ∧ uNm S p (qI S (qO S p 6) k)) ∧ ∀ k : Nat, (k : Int) < (qI S p 8).toInt → uNm S p (qI S (qO S p 9) k) ∧ uNm S p (qI S (qO S p 10) k)
theorem NmP.u2 {a : Int32} (h : NmP S a) (hd : (qI S 9 1).toInt ≤ (qN S (qO S 9 0) : Int)) : (nl2 (qI S (qO S 9 0)) a).toInt ≤ 100 := by
  obtain ⟨h1, h2, h3⟩ := h
  have re := rgI (qI S 9 1)
  have e1 : (a + (1 : Int32)).toInt = a.toInt + 1 := by rw [t_addk (by rw [li_1k]; omega), li_1k]
  have e2 : (a + (1 : Int32) + (1 : Int32)).toInt = a.toInt + 2 := by rw [t_addk (by rw [e1, li_1k]; omega), e1, li_1k]; omega
  have e3 : ((qI S 9 1) - (2 : Int32)).toInt = (qI S 9 1).toInt - 2 := by rw [t_subk (by rw [li_2k]; omega), li_2k]
  unfold fX7_u2 at h3
  rw [if_neg (by omega), if_neg (by omega), if_pos hd, e2, e1] at h3
  exact h3
theorem cfr.wnI {K : List Nat} {F : List (Nat × Nat)} {h i : Nat} {x : Int32} (f : cfr K F S U) (hS : qT S h = 0) (e : v = wI U h i x) : cfr K F S v := by
  refine ⟨⟨fun a ha => by rw [e]; exact f.1.1 a ha, by rw [e]; exact f.1.2⟩, by rw [e]; exact f.2.1, fun a j ha h1 h2 => ?_⟩
  obtain ⟨a1, a2, a3⟩ := f.2.2 a j ha h1 h2
  have ne : a ≠ h := fun z => ha (by rw [z]; exact hS)
  rw [e, qI_wI, if_neg (fun z => ne z.1)]
  exact ⟨a1, a2, a3⟩
theorem cfr.to46 {F : List (Nat × Nat)} (f : cfr [] F S U) (hF : F.all (fun x => x.1 == 46) = true) : cfr [46] [] S U := ⟨f.1, f.2.1, fun a j ha h1 _ => f.2.2 a j ha rfl (by
  cases e : F.contains (qT S a, j) with
  | false => rfl
  | true =>
    have := List.all_eq_true.mp hF _ (List.contains_iff_mem.mp e)
    simp at this
    rw [this] at h1
    cases h1)⟩
/-- the Unit that is being built -/
def BdIk (B : Nat × Nat) (S : MS) (p : Nat) (U : MS) : Prop := (ShC B U ∧ qT U p = 49 ∧ smE S U ∧ cfr [46] [] S U) ∧ (qO U p 0 = p + 1 ∧ (qN U (p + 1) : Int) = (qI S 9 1).toInt ∧ ∀ k : Nat, (k : Int) < (qI S 9 1).toInt → qI U (p + 1) k = qI S (qO S 9 0) k) ∧ qI U p 4 = qI S 9 7 ∧ qI U p 8 = qI S 9 8
theorem BdIk.nm {a : Int32} (h : BdIk B S p U) (hd : (qI S 9 1).toInt ≤ (qN S (qO S 9 0) : Int)) (n : NmP S a) : uNm U p a := by
  obtain ⟨_, ⟨o, l, c⟩, _⟩ := h
  refine ⟨n.1, by rw [o, l]; exact n.2.1, ?_⟩
  have := n.u2 hd
  unfold nl2 at this ⊢
  rw [o, c _ (by have := n.1; have := n.2.1; omega), c _ (by have := n.1; have := n.2.1; omega)]
  exact this
theorem UnK.at (w : wfC S) (k : qT S p = 49) (R : UnK S p) : qO S p 0 = p + 1 ∧ qO S p 5 = p + 2 ∧ qO S p 6 = p + 3 ∧ qO S p 7 = p + 4 ∧ qO S p 9 = p + 5 ∧ qO S p 10 = p + 6 ∧ qO S p 11 = p + 7 ∧ qO S p 12 = p + 8 ∧ qO S p 13 = p + 9 := by
  obtain ⟨⟨a0, a5, a6, a7, a9, a10, a11, a12, a13⟩, _⟩ := R
  exact ⟨w.off a0 k rfl (by decide), w.off a5 k rfl (by decide), w.off a6 k rfl (by decide), w.off a7 k rfl (by decide), w.off a9 k rfl (by decide), w.off a10 k rfl (by decide), w.off a11 k rfl (by decide), w.off a12 k rfl (by decide), w.off a13 k rfl (by decide)⟩
/-- a number is put into the Unit, or into one of its rows -/
theorem BdIk.w {h i t : Nat} {x : Int32} (b : BdIk B S p U) (w : wfC U) (e : v = wI U h i x) (hS : qT S h = 0) (k : qT U h = t) (hd : h ≠ p + 1) (hp : h = p → i = 1 ∨ i = 2 ∨ i = 3) (hK : t = 49 ∧ h = p ∨ okK [t] = true ∧ [t].contains 101 = false ∧ [t].contains 46 = false ∧ [t].contains 218 = false ∧ [t].contains 219 = false) : BdIk B S p v := by
  obtain ⟨⟨b1, b2, b3, b4⟩, ⟨c1, c2, c3⟩, d1, d2⟩ := b
  have i' : ∀ a j, ¬ (a = h ∧ j = i) → qI v a j = qI U a j := fun a j z => by rw [e, qI_wI, if_neg z]
  refine ⟨⟨?_, by rw [e]; exact b2, ?_, b4.wnI hS e⟩, ⟨by rw [e]; exact c1, by rw [e]; exact c2, fun j hj => by rw [i' _ _ (fun z => hd z.1.symm)]; exact c3 j hj⟩, ?_, ?_⟩
  · rcases hK with ⟨rfl, rfl⟩ | ⟨q1, q2, q3, q4, q5⟩
    · have hi := hp rfl
      have f : cfr [] [(49, i)] U v := by rw [e]; exact cfr.oI k (by simp)
      exact ShC.ws w b1 f (by rw [e]; rfl) (by rw [e]; rfl) (by rw [e]; rfl) rfl (by rcases hi with rfl | rfl | rfl <;> rfl)
    · have f : cfr [t] [] U v := by rw [e]; exact cfr.aI k (by simp)
      exact ShC.ws w b1 f (by rw [e]; rfl) (by rw [e]; rfl) (by rw [e]; rfl) q1 rfl
  · rcases hK with ⟨rfl, rfl⟩ | ⟨q1, q2, q3, q4, q5⟩
    · have hi := hp rfl
      have f : cfr [] [(49, i)] U v := by rw [e]; exact cfr.oI k (by simp)
      exact b3.tr (smE.fr w f rfl rfl rfl rfl (by rcases hi with rfl | rfl | rfl <;> rfl) (by rcases hi with rfl | rfl | rfl <;> rfl))
    · have f : cfr [t] [] U v := by rw [e]; exact cfr.aI k (by simp)
      exact b3.tr (smE.fr w f q2 q3 q4 q5 rfl rfl)
  · rw [i' _ _ (fun z => by have := hp z.1.symm; omega)]; exact d1
  · rw [i' _ _ (fun z => by have := hp z.1.symm; omega)]; exact d2
theorem BdIk.c {F : List (Nat × Nat)} (b : BdIk B S p U) (w : wfC U) (f : cfr [] F U v) (s : shy U v) (wv : wfC v) (hF : F.all (fun x => x.1 == 46) = true) (h1 : okL shF F = true) (h2 : okL [(46, 0), (46, 1), (46, 5), (46, 6), (46, 7), (46, 8)] F = true) (h3 : okO F = true) (h49 : ∀ j, F.contains (49, j) = false) (h105 : qT U (p + 1) = 105) : BdIk B S p v := by
  obtain ⟨⟨b1, b2, b3, b4⟩, ⟨c1, c2, c3⟩, d1, d2⟩ := b
  refine ⟨⟨ShC.ca w b1 f s wv rfl h1, f.1.T b2 (by decide), b3.tr (smE.fr w f rfl rfl rfl rfl h2 h3), b4.tr (f.to46 hF)⟩, ⟨by rw [qO_eq (f.kO b2 rfl (h49 0))]; exact c1, by rw [(f.1.1 _ (by rw [h105]; decide)).2]; exact c2, fun j hj => by rw [f.kI h105 rfl (okO_n h3 (by decide))]; exact c3 j hj⟩, by rw [f.kI b2 rfl (h49 4)]; exact d1, by rw [f.kI b2 rfl (h49 8)]; exact d2⟩
end BV
/-! build: its loops -/
section BW
variable {B : Nat × Nat} {S U u v : MS} {p : Nat}
theorem wfC.fresh {n : Nat} (w : wfC S) (hn : qn S + n ≤ KCC) : ∀ i, i < n → qT S (qn S + i) = 0 := fun i hi => by
  by_cases e : qT S (qn S + i) = 0
  · exact e
  · have := w.out hn _ e; omega
def NsI (S : MS) (p : Nat) (U : MS) (k m : Int) : Prop := (NmP S (qI U p 2) ∧ NmP S (qI U p 3)) ∧ (∀ j : Nat, (j : Int) < k → NmP S (qI U (p + 2) j) ∧ NmP S (qI U (p + 3) j)) ∧ ∀ j : Nat, (j : Int) < m → NmP S (qI U (p + 5) j) ∧ NmP S (qI U (p + 6) j)
theorem NsI.eq {k m : Int} (h : NsI S p U k m) (e : ∀ (a j : Nat), a = p ∧ (j = 2 ∨ j = 3) ∨ (a = p + 2 ∨ a = p + 3) ∧ (j : Int) < k ∨ (a = p + 5 ∨ a = p + 6) ∧ (j : Int) < m → qI v a j = qI U a j) : NsI S p v k m := by
  obtain ⟨⟨a1, a2⟩, b, c⟩ := h
  refine ⟨⟨by rw [e _ _ (by omega)]; exact a1, by rw [e _ _ (by omega)]; exact a2⟩, fun j hj => ?_, fun j hj => ?_⟩
  · rw [e (p + 2) j (by omega), e (p + 3) j (by omega)]; exact b j hj
  · rw [e (p + 5) j (by omega), e (p + 6) j (by omega)]; exact c j hj
/-- the rows of the Unit that is being built have their kinds -/
theorem BdIk.kd (b : BdIk B S p U) (w : wfC U) : qT U (p + 1) = 105 ∧ qT U (p + 2) = 231 ∧ qT U (p + 3) = 232 ∧ qT U (p + 4) = 233 ∧ qT U (p + 5) = 234 ∧ qT U (p + 6) = 235 ∧ qT U (p + 7) = 236 ∧ qT U (p + 8) = 237 := by
  have k := b.1.2.1
  have R := b.1.1.unit k
  obtain ⟨e0, e5, e6, e7, e9, e10, e11, e12, _⟩ := R.at w k
  obtain ⟨⟨a0, a5, a6, a7, a9, a10, a11, a12, a13⟩, _⟩ := R
  exact ⟨by rw [← e0]; exact w.ref a0 k, by rw [← e5]; exact w.ref a5 k, by rw [← e6]; exact w.ref a6 k, by rw [← e7]; exact w.ref a7 k, by rw [← e9]; exact w.ref a9 k, by rw [← e10]; exact w.ref a10 k, by rw [← e11]; exact w.ref a11 k, by rw [← e12]; exact w.ref a12 k⟩
theorem SndP.nm {k : Int32} (s : SndP S) (h0 : 0 ≤ k.toInt) (h1 : k.toInt < (qI S 9 7).toInt + (qI S 9 8).toInt) : NmP S (fX7_entryAt S (fX7_nameOf S k)) ∧ NmP S (fX7_entryAt S (fX7_typeOf S k)) := ⟨s.1.tag (s.2.2.2.2 k h0 h1).1, s.1.tag (s.2.2.2.2 k h0 h1).2⟩
set_option maxHeartbeats 8000000 in
theorem bd_L200 {Q : Nat → MS → Prop} (s : SndP S) (h9 : 0 ≤ (qI S 9 1).toInt) (fr : ∀ i, i < 10 → qT S (p + i) = 0) (hQ : ∀ V : MS, wfC V → BdIk B S p V → NsI S p V (qI S 9 7).toInt (qI S 9 8).toInt → Q p V) : ∀ (n : Nat) {U : MS} {v2 : Int32}, BdIk B S p U → NsI S p U (qI S 9 7).toInt v2.toInt → 0 ≤ v2.toInt → v2.toInt ≤ (qI S 9 8).toInt → 30 - v2.toInt < n → w_X2_build_L200 Q n U p v2 := by
  have m7 := s.2.1.1
  have m8 := s.2.1.2
  intro n
  induction n with
  | zero => intro U v2 _ _ h0 h1 hm; omega
  | succ n ih =>
    intro U v2 b ns h0 h1 hm
    have k := b.1.2.1
    have R := b.1.1.unit k
    have g8 := b.2.2.2
    have R9 : (qN U (qO U p 9) : Int) = (qI S 9 8).toInt := by rw [R.2.2.2.2.2.2.2.2.1, g8]
    have R13 : (qN U (qO U p 13) : Int) = (qI S 9 8).toInt := by rw [R.2.2.2.2.2.2.2.2.2.2.2.2, g8]
    unfold w_X2_build_L200
    intro w kp
    obtain ⟨o0, o5, o6, o7, o9, o10, o11, o12, o13⟩ := R.at w k
    have kd := b.kd w
    have h9U := b.1.2.2.1.1.h9 h9
    refine ⟨R.1.2.2.2.2.2.2.2.2, fun c => hQ U w b (by rw [show (qI S 9 8).toInt = v2.toInt by omega]; exact ns), fun c a55 e55 => ⟨R.1.2.2.2.2.1, dd_X7_nameOf h9U, fun a61 e61 => ⟨dd_X7_entryAt, fun a65 e65 => ⟨by omega, fun S67 e67 k67 w67 => ?_⟩⟩⟩⟩
    have y := b.1.2.2.1
    have e55' : a55.toInt = (qI S 9 7).toInt + v2.toInt := by rw [e55, y.2.2.2.2.2.1, t_addk (by omega)]
    have nm := s.nm (k := a55) (by omega) (by omega)
    have n65 : NmP S a65 := by rw [e65, e61, y.nam, y.ent]; exact nm.1
    rw [o9] at e67
    have b67 := b.w w e67 (fr 5 (by decide)) kd.2.2.2.2.1 (by omega) (fun z => by omega) (Or.inr ⟨rfl, rfl, rfl, rfl, rfl⟩)
    have k67' := b67.1.2.1
    have R67 := b67.1.1.unit k67'
    have Q67 : (qN S67 (qO S67 p 10) : Int) = (qI S 9 8).toInt := by rw [R67.2.2.2.2.2.2.2.2.2.1, b67.2.2.2]
    obtain ⟨_, _, _, _, _, p10, p11, p12, p13⟩ := R67.at w67 k67'
    have kd67 := b67.kd w67
    have h967 := b67.1.2.2.1.1.h9 h9
    have y67 := b67.1.2.2.1
    refine ⟨R67.1.2.2.2.2.2.1, dd_X7_typeOf h967, fun a73 e73 => ⟨dd_X7_entryAt, fun a77 e77 => ⟨by omega, fun S79 e79 k79 w79 => ?_⟩⟩⟩
    have n77 : NmP S a77 := by rw [e77, e73, y67.typ, y67.ent]; exact nm.2
    rw [p10] at e79
    have b79 := b67.w w67 e79 (fr 6 (by decide)) kd67.2.2.2.2.2.1 (by omega) (fun z => by omega) (Or.inr ⟨rfl, rfl, rfl, rfl, rfl⟩)
    have h979 := b79.1.2.2.1.1.h9 h9
    have kd79 := b79.kd w79
    refine ⟨dd_X7_typeOf h979, fun a83 _ => ⟨_, frX7_isMethodType w79 (sfX7_isMethodType w79 h979 w79.k9), fun r85 S86 q86 w86 s86 => ?_⟩⟩
    have b86 := b79.c w79 q86.2 s86 w86 rfl rfl rfl rfl (fun _ => rfl) kd79.1
    have R86 := b86.1.1.unit b86.1.2.1
    have Q86 : (qN S86 (qO S86 p 11) : Int) = (qI S 9 8).toInt := by rw [R86.2.2.2.2.2.2.2.2.2.2.1, b86.2.2.2]
    obtain ⟨_, _, _, _, _, _, q11, q12, q13⟩ := R86.at w86 b86.1.2.1
    have kd86 := b86.kd w86
    refine ⟨R86.1.2.2.2.2.2.2.1, by omega, fun S91 e91 k91 w91 => ?_⟩
    rw [q11] at e91
    have b91 := b86.w w86 e91 (fr 7 (by decide)) kd86.2.2.2.2.2.2.1 (by omega) (fun z => by omega) (Or.inr ⟨rfl, rfl, rfl, rfl, rfl⟩)
    have R91 := b91.1.1.unit b91.1.2.1
    have Q91 : (qN S91 (qO S91 p 12) : Int) = (qI S 9 8).toInt := by rw [R91.2.2.2.2.2.2.2.2.2.2.2.1, b91.2.2.2]
    obtain ⟨_, _, _, _, _, _, _, t12, t13⟩ := R91.at w91 b91.1.2.1
    have kd91 := b91.kd w91
    refine ⟨R91.1.2.2.2.2.2.2.2.1, by omega, fun S95 e95 k95 w95 a96 ea => ?_⟩
    rw [t12] at e95
    have b95 := b91.w w91 e95 (fr 8 (by decide)) kd91.2.2.2.2.2.2.2 (by omega) (fun z => by omega) (Or.inr ⟨rfl, rfl, rfl, rfl, rfl⟩)
    have e := t_inc ea (by omega)
    -- what was put
    have i95 : ∀ a j, a ≠ p + 7 → a ≠ p + 8 → (qT S79 a = 49 ∨ (101 ≤ qT S79 a)) → qI S95 a j = qI S79 a j := fun a j n7 n8 hk => by
      rw [e95, qI_wI, if_neg (fun z => n8 z.1), e91, qI_wI, if_neg (fun z => n7 z.1)]
      refine (q86.2.2.2 a j (fun z => ?_) rfl ?_).1
      · rw [z] at hk; omega
      · rcases hk with z | z
        · rw [z]; rfl
        · exact okO_n (F := [(46, 12), (46, 13), (46, 14)]) rfl (Or.inr (by omega))
    have i79 : ∀ a j, qI S79 a j = if a = p + 6 ∧ j = v2.toInt.toNat then a77 else if a = p + 5 ∧ j = v2.toInt.toNat then a65 else qI U a j := fun a j => by
      rw [e79, qI_wI, e67, qI_wI]
    have kk : qT S79 p = 49 ∧ qT S79 (p + 2) = 231 ∧ qT S79 (p + 3) = 232 ∧ qT S79 (p + 5) = 234 ∧ qT S79 (p + 6) = 235 := ⟨b79.1.2.1, kd79.2.1, kd79.2.2.1, kd79.2.2.2.2.1, kd79.2.2.2.2.2.1⟩
    refine ih b95 ⟨⟨?_, ?_⟩, fun j hj => ⟨?_, ?_⟩, fun j hj => ⟨?_, ?_⟩⟩ (by omega) (by omega) (by omega)
    · rw [i95 _ _ (by omega) (by omega) (by omega), i79, if_neg (fun z => by omega), if_neg (fun z => by omega)]; exact ns.1.1
    · rw [i95 _ _ (by omega) (by omega) (by omega), i79, if_neg (fun z => by omega), if_neg (fun z => by omega)]; exact ns.1.2
    · rw [i95 _ _ (by omega) (by omega) (by omega), i79, if_neg (fun z => by omega), if_neg (fun z => by omega)]; exact (ns.2.1 j hj).1
    · rw [i95 _ _ (by omega) (by omega) (by omega), i79, if_neg (fun z => by omega), if_neg (fun z => by omega)]; exact (ns.2.1 j hj).2
    · rw [i95 _ _ (by omega) (by omega) (by omega), i79, if_neg (fun z => by omega)]
      split
      · exact n65
      · rename_i z
        exact (ns.2.2 j (by have : j ≠ v2.toInt.toNat := fun q => z ⟨rfl, q⟩; omega)).1
    · rw [i95 _ _ (by omega) (by omega) (by omega), i79]
      split
      · exact n77
      · rename_i z
        rw [if_neg (fun z => by omega)]
        exact (ns.2.2 j (by have : j ≠ v2.toInt.toNat := fun q => z ⟨rfl, q⟩; omega)).2
set_option maxHeartbeats 8000000 in
theorem bd_L120 {Q : Nat → MS → Prop} (s : SndP S) (h9 : 0 ≤ (qI S 9 1).toInt) (fr : ∀ i, i < 10 → qT S (p + i) = 0) (hQ : ∀ V : MS, wfC V → BdIk B S p V → NsI S p V (qI S 9 7).toInt (qI S 9 8).toInt → Q p V) : ∀ (n : Nat) {U : MS} {v2 : Int32}, BdIk B S p U → NsI S p U v2.toInt 0 → 0 ≤ v2.toInt → v2.toInt ≤ (qI S 9 7).toInt → 30 - v2.toInt < n → w_X2_build_L120 Q n U p v2 := by
  have m7 := s.2.1.1
  have m8 := s.2.1.2
  intro n
  induction n with
  | zero => intro U v2 _ _ h0 h1 hm; omega
  | succ n ih =>
    intro U v2 b ns h0 h1 hm
    have k := b.1.2.1
    have R := b.1.1.unit k
    have R5 : (qN U (qO U p 5) : Int) = (qI S 9 7).toInt := by rw [R.2.2.2.1, b.2.2.1]
    unfold w_X2_build_L120
    intro w kp
    obtain ⟨o0, o5, o6, o7, _⟩ := R.at w k
    have kd := b.kd w
    have h9U := b.1.2.2.1.1.h9 h9
    have y := b.1.2.2.1
    refine ⟨R.1.2.1, fun c => ⟨31, bd_L200 s h9 fr hQ _ b (by rw [show (qI S 9 7).toInt = v2.toInt by omega, li_0k]; exact ns) (by decide) (by rw [li_0k]; omega) (by rw [li_0k]; decide)⟩, fun c => ⟨R.1.2.1, dd_X7_nameOf h9U, fun a102 e102 => ⟨dd_X7_entryAt, fun a106 e106 => ⟨by omega, fun S108 e108 k108 w108 => ?_⟩⟩⟩⟩
    have nm := s.nm (k := v2) h0 (by omega)
    have n106 : NmP S a106 := by rw [e106, e102, y.nam, y.ent]; exact nm.1
    rw [o5] at e108
    have b108 := b.w w e108 (fr 2 (by decide)) kd.2.1 (by omega) (fun z => by omega) (Or.inr ⟨rfl, rfl, rfl, rfl, rfl⟩)
    have R108 := b108.1.1.unit b108.1.2.1
    have Q108 : (qN S108 (qO S108 p 6) : Int) = (qI S 9 7).toInt := by rw [R108.2.2.2.2.1, b108.2.2.1]
    obtain ⟨_, _, p6, p7, _⟩ := R108.at w108 b108.1.2.1
    have kd108 := b108.kd w108
    have h9108 := b108.1.2.2.1.1.h9 h9
    have y108 := b108.1.2.2.1
    refine ⟨R108.1.2.2.1, dd_X7_typeOf h9108, fun a114 e114 => ⟨dd_X7_entryAt, fun a118 e118 => ⟨by omega, fun S120 e120 k120 w120 => ?_⟩⟩⟩
    have n118 : NmP S a118 := by rw [e118, e114, y108.typ, y108.ent]; exact nm.2
    rw [p6] at e120
    have b120 := b108.w w108 e120 (fr 3 (by decide)) kd108.2.2.1 (by omega) (fun z => by omega) (Or.inr ⟨rfl, rfl, rfl, rfl, rfl⟩)
    have R120 := b120.1.1.unit b120.1.2.1
    have Q120 : (qN S120 (qO S120 p 7) : Int) = (qI S 9 7).toInt := by rw [R120.2.2.2.2.2.1, b120.2.2.1]
    obtain ⟨_, _, _, q7, _⟩ := R120.at w120 b120.1.2.1
    have kd120 := b120.kd w120
    have h9120 := b120.1.2.2.1.1.h9 h9
    refine ⟨R120.1.2.2.2.1, dd_X7_typeOf h9120, fun a126 _ => ⟨dd_X7_kindOfType h9120, fun a130 _ => ⟨by omega, fun S132 e132 k132 w132 a133 ea => ?_⟩⟩⟩
    rw [q7] at e132
    have b132 := b120.w w120 e132 (fr 4 (by decide)) kd120.2.2.2.1 (by omega) (fun z => by omega) (Or.inr ⟨rfl, rfl, rfl, rfl, rfl⟩)
    have e := t_inc ea (by omega)
    have i132 : ∀ a j, a ≠ p + 4 → qI S132 a j = if a = p + 3 ∧ j = v2.toInt.toNat then a118 else if a = p + 2 ∧ j = v2.toInt.toNat then a106 else qI U a j := fun a j n4 => by
      rw [e132, qI_wI, if_neg (fun z => n4 z.1), e120, qI_wI, e108, qI_wI]
    refine ih b132 ⟨⟨?_, ?_⟩, fun j hj => ⟨?_, ?_⟩, fun j hj => by omega⟩ (by omega) (by omega) (by omega)
    · rw [i132 _ _ (by omega), if_neg (fun z => by omega), if_neg (fun z => by omega)]; exact ns.1.1
    · rw [i132 _ _ (by omega), if_neg (fun z => by omega), if_neg (fun z => by omega)]; exact ns.1.2
    · rw [i132 _ _ (by omega), if_neg (fun z => by omega)]
      split
      · exact n106
      · rename_i z
        exact (ns.2.1 j (by have : j ≠ v2.toInt.toNat := fun q => z ⟨rfl, q⟩; omega)).1
    · rw [i132 _ _ (by omega)]
      split
      · exact n118
      · rename_i z
        rw [if_neg (fun z => by omega)]
        exact (ns.2.1 j (by have : j ≠ v2.toInt.toNat := fun q => z ⟨rfl, q⟩; omega)).2
/-- what build leaves -/
def BuP (B : Nat × Nat) (S : MS) (r : Nat) (u : MS) : Prop := r = qn S ∧ BdIk (B.1 + 210 + (qI S 9 1).toInt.toNat, B.2 + 640) S r u ∧ NmU u r
theorem sp_build (w : wfC S) (g : ShC B S) (s : SndP S) (h9 : 0 ≤ (qI S 9 1).toInt) (hd : (qI S 9 1).toInt ≤ (qN S (qO S 9 0) : Int)) (hB : B.1 + 210 + (qI S 9 1).toInt.toNat ≤ KSC ∧ B.2 + 640 ≤ 64 * KCC) : wX2_build S (fun r u => BuP B S r u) := by
  have gl := g.le
  have fr := w.fresh (n := 10) (by omega)
  have m7 := s.2.1.1
  have m8 := s.2.1.2
  unfold wX2_build
  refine sp_buildS (B := B) w g h9 hd m7 m8 hB (fun S14 w14 b14 => ?_)
  obtain ⟨F, G, kp, ⟨g4, g8⟩, l0, c0⟩ := b14
  intro S17 e17 k17 w17
  have UK := G.unit kp
  obtain ⟨o0, _⟩ := UK.at w14 kp
  rw [o0] at l0 c0
  have f46 : cfr [46] [] S S14 := ⟨F.1, F.2.1, fun a j ha _ _ => F.2.2 a j ha rfl rfl⟩
  have B14 : BdIk (B.1 + 210 + (qI S 9 1).toInt.toNat, B.2 + 640) S (qn S) S14 := ⟨⟨G, kp, smE.fr w F rfl rfl rfl rfl rfl rfl, f46⟩, ⟨o0, l0, c0⟩, g4, g8⟩
  have z0 : qT S (qn S) = 0 := fr 0 (by decide)
  have B17 := B14.w w14 e17 z0 kp (by omega) (fun _ => Or.inl rfl) (Or.inl ⟨rfl, rfl⟩)
  have y17 := B17.1.2.2.1
  have h917 := y17.1.h9 h9
  refine ⟨dd_X7_u2 h917, fun a22 e22 => ⟨dd_X7_firstOf h917, fun a26 e26 => ⟨dd_X7_entryAt, fun a30 e30 S31 e31 k31 w31 => ?_⟩⟩⟩
  have n30 : NmP S a30 := by
    rw [e30, e26, e22, y17.2.2.2.2.1, y17.1.u2, y17.fst, y17.ent]
    exact s.1.tag (s.2.2.1 _ s.2.2.2.1.1)
  have B31 := B17.w w17 e31 z0 B17.1.2.1 (by omega) (fun _ => Or.inr (Or.inl rfl)) (Or.inl ⟨rfl, rfl⟩)
  have y31 := B31.1.2.2.1
  have h931 := y31.1.h9 h9
  refine ⟨dd_X7_u2 h931, fun a36 e36 => ⟨dd_X7_firstOf h931, fun a40 e40 => ⟨dd_X7_entryAt, fun a44 e44 S45 e45 k45 w45 => ?_⟩⟩⟩
  have n44 : NmP S a44 := by
    rw [e44, e40, e36, y31.2.2.2.2.1, y31.1.u2, y31.fst, y31.ent]
    exact s.1.tag (s.2.2.1 _ s.2.2.2.1.2)
  have B45 := B31.w w31 e45 z0 B31.1.2.1 (by omega) (fun _ => Or.inr (Or.inr rfl)) (Or.inl ⟨rfl, rfl⟩)
  have q2 : qI S45 (qn S) 2 = a30 := by rw [e45, qI_wI, if_neg (fun z => absurd z.2 (by decide)), e31, qI_wI, if_pos ⟨rfl, rfl⟩]
  have q3 : qI S45 (qn S) 3 = a44 := by rw [e45, qI_wI, if_pos ⟨rfl, rfl⟩]
  refine ⟨31, bd_L120 s h9 (fun i hi => fr i hi) (fun V wV bV nV => ⟨rfl, bV, ?_⟩) _ B45 ⟨⟨by rw [q2]; exact n30, by rw [q3]; exact n44⟩, fun j hj => by rw [li_0k] at hj; omega, fun j hj => by omega⟩ (by decide) (by rw [li_0k]; omega) (by rw [li_0k]; decide)⟩
  have RV := bV.1.1.unit bV.1.2.1
  obtain ⟨_, v5, v6, _, v9, v10, _⟩ := RV.at wV bV.1.2.1
  refine ⟨⟨bV.nm hd nV.1.1, bV.nm hd nV.1.2⟩, fun k hk => ?_, fun k hk => ?_⟩
  · rw [bV.2.2.1] at hk
    rw [v5, v6]
    exact ⟨bV.nm hd (nV.2.1 k hk).1, bV.nm hd (nV.2.1 k hk).2⟩
  · rw [bV.2.2.2] at hk
    rw [v9, v10]
    exact ⟨bV.nm hd (nV.2.2 k hk).1, bV.nm hd (nV.2.2 k hk).2⟩
end BW
/-! build: the kinds of the fields -/
section KBX
variable {S u v U V E : MS} {Q : Nat → MS → Prop} {G : MS → Prop} {p : Nat} {x : Int32}
theorem kp_rg {a b : Int32} : 0 ≤ (fX7_kindOfPart S a b).toInt ∧ (fX7_kindOfPart S a b).toInt ≤ 3 := by
  have z : f_X7_kindOfPart_J84 S = 0 := rfl
  unfold fX7_kindOfPart
  rw [z]
  repeat' split
  all_goals decide
theorem kt_rg {a : Int32} : 0 ≤ (fX7_kindOfType S a).toInt ∧ (fX7_kindOfType S a).toInt ≤ 3 := by
  have k := kp_rg (S := S) (a := a) (b := 0)
  have z0 : 0 ≤ (0 : Int32).toInt ∧ (0 : Int32).toInt ≤ 3 := by decide
  have J : ∀ x y : Int32, 0 ≤ (f_X7_kindOfType_J22 S x y (fX7_kindOfPart S a 0)).toInt ∧ (f_X7_kindOfType_J22 S x y (fX7_kindOfPart S a 0)).toInt ≤ 3 := fun x y => by
    unfold f_X7_kindOfType_J22
    by_cases c : y.toInt = x.toInt
    · rw [if_pos c]; exact k
    · rw [if_neg c]; exact z0
  unfold fX7_kindOfType
  by_cases c : (fX7_kindOfPart S a (0 : Int32)).toInt = 3
  · rw [if_pos c]; exact J _ _
  · rw [if_neg c]; exact J _ _
def KdB (n : Int) (u : MS) (p : Nat) : Prop := ∀ j : Nat, (j : Int) < n → 0 ≤ (qI u (qO u p 7) j).toInt ∧ (qI u (qO u p 7) j).toInt ≤ 3
def KdU (A : MS) (q : Nat) : Prop := ∀ k : Int32, 0 ≤ (fX10_kindOfField A q k).toInt ∧ (fX10_kindOfField A q k).toInt ≤ 15
theorem cu_b200 (hG : ∀ u, cfr [234, 235, 236, 237] [(46, 12), (46, 13), (46, 14)] E u → G u) : ∀ (n : Nat) {U : MS} {i : Int32}, cfr [234, 235, 236, 237] [(46, 12), (46, 13), (46, 14)] E U → w_X2_build_L200 Q n U p i → w_X2_build_L200 (fun r u => Q r u ∧ G u) n U p i := by
  intro n
  induction n with
  | zero => intro U i _ h; exact h
  | succ n ih =>
    intro U i f h
    unfold w_X2_build_L200 at h ⊢
    intro w kp
    obtain ⟨e0, h1, h2⟩ := h w kp
    refine ⟨e0, fun c => ⟨h1 c, hG U f⟩, fun c a55 e55 => ?_⟩
    obtain ⟨e1, d1, h3⟩ := h2 c a55 e55
    refine ⟨e1, d1, fun a61 e61 => ?_⟩
    obtain ⟨d2, h3⟩ := h3 a61 e61
    refine ⟨d2, fun a65 e65 => ?_⟩
    obtain ⟨b1, h3⟩ := h3 a65 e65
    refine ⟨b1, fun S67 e67 k67 w67 => ?_⟩
    have f67 : cfr [234, 235, 236, 237] [(46, 12), (46, 13), (46, 14)] U S67 := by rw [e67]; exact cfr.aI k67 rfl
    obtain ⟨e2, d3, h3⟩ := h3 S67 e67 k67 w67
    refine ⟨e2, d3, fun a73 e73 => ?_⟩
    obtain ⟨d4, h3⟩ := h3 a73 e73
    refine ⟨d4, fun a77 e77 => ?_⟩
    obtain ⟨b2, h3⟩ := h3 a77 e77
    refine ⟨b2, fun S79 e79 k79 w79 => ?_⟩
    have f79 : cfr [234, 235, 236, 237] [(46, 12), (46, 13), (46, 14)] S67 S79 := by rw [e79]; exact cfr.aI k79 rfl
    obtain ⟨d5, h3⟩ := h3 S79 e79 k79 w79
    refine ⟨d5, fun a83 e83 => ?_⟩
    obtain ⟨Q84, p84, h84⟩ := h3 a83 e83
    refine ⟨_, frX7_isMethodType w79 p84, ?_⟩
    rintro r85 S86 ⟨g86, f86⟩ w86 s86
    obtain ⟨e3, b3, h3⟩ := h84 r85 S86 g86 w86 s86
    refine ⟨e3, b3, fun S91 e91 k91 w91 => ?_⟩
    have f91 : cfr [234, 235, 236, 237] [(46, 12), (46, 13), (46, 14)] S86 S91 := by rw [e91]; exact cfr.aI k91 rfl
    obtain ⟨e4, b4, h3⟩ := h3 S91 e91 k91 w91
    refine ⟨e4, b4, fun S95 e95 k95 w95 a96 ea => ?_⟩
    have f95 : cfr [234, 235, 236, 237] [(46, 12), (46, 13), (46, 14)] S91 S95 := by rw [e95]; exact cfr.aI k95 rfl
    exact ih (((((f.tr f67).tr f79).tr (f86.mo rfl rfl)).tr f91).tr f95) (h3 S95 e95 k95 w95 a96 ea)
theorem cu_b120 : ∀ (n : Nat) {U : MS} {i : Int32}, 0 ≤ i.toInt → (0 < i.toInt → qT U (qO U p 7) = 233) → KdB i.toInt U p → w_X2_build_L120 Q n U p i → w_X2_build_L120 (fun r u => Q r u ∧ KdB (qN u (qO u p 5) : Int) u p) n U p i := by
  intro n
  induction n with
  | zero => intro U i _ _ _ h; exact h
  | succ n ih =>
    intro U i i0 k233 kd h
    unfold w_X2_build_L120 at h ⊢
    intro w kp
    obtain ⟨e0, h1, h2⟩ := h w kp
    have k5 : qT U (qO U p 5) = 231 := w.ref e0 kp
    refine ⟨e0, fun c => ?_, fun c => ?_⟩
    · obtain ⟨m, h3⟩ := h1 c
      refine ⟨m, cu_b200 (E := U) (fun u f => ?_) m cfr.rf h3⟩
      have o5 : qO u p 5 = qO U p 5 := qO_eq (f.kO kp (by decide) (by decide))
      have o7 : qO u p 7 = qO U p 7 := qO_eq (f.kO kp (by decide) (by decide))
      have l5 : qN u (qO U p 5) = qN U (qO U p 5) := (f.1.1 _ (by rw [k5]; decide)).2
      intro j hj
      rw [o5, l5] at hj
      rw [o7, f.kI (k233 (by omega)) (by decide) (okO_n (F := [(46, 12), (46, 13), (46, 14)]) (by decide) (by decide))]
      exact kd j (by omega)
    · obtain ⟨e1, d1, h3⟩ := h2 c
      refine ⟨e1, d1, fun a102 e102 => ?_⟩
      obtain ⟨d2, h3⟩ := h3 a102 e102
      refine ⟨d2, fun a106 e106 => ?_⟩
      obtain ⟨b1, h3⟩ := h3 a106 e106
      refine ⟨b1, fun S108 e108 k108 w108 => ?_⟩
      have f108 : cfr [231, 232] [] U S108 := by rw [e108]; exact cfr.aI k108 rfl
      obtain ⟨e2, d3, h3⟩ := h3 S108 e108 k108 w108
      refine ⟨e2, d3, fun a114 e114 => ?_⟩
      obtain ⟨d4, h3⟩ := h3 a114 e114
      refine ⟨d4, fun a118 e118 => ?_⟩
      obtain ⟨b2, h3⟩ := h3 a118 e118
      refine ⟨b2, fun S120 e120 k120 w120 => ?_⟩
      have f120 : cfr [231, 232] [] S108 S120 := by rw [e120]; exact cfr.aI k120 rfl
      obtain ⟨e3, d5, h3⟩ := h3 S120 e120 k120 w120
      refine ⟨e3, d5, fun a126 e126 => ?_⟩
      obtain ⟨d6, h3⟩ := h3 a126 e126
      refine ⟨d6, fun a130 e130 => ?_⟩
      obtain ⟨b3, h3⟩ := h3 a130 e130
      refine ⟨b3, fun S132 e132 k132 w132 a133 e133 => ?_⟩
      have ff := f108.tr f120
      have o7 : qO S120 p 7 = qO U p 7 := qO_eq (ff.kO kp (by decide) (by decide))
      have o7' : qO S132 p 7 = qO U p 7 := by rw [← o7, e132]; rfl
      rw [o7] at k132 e132
      have rl := rgI i
      have len : (qN U (qO U p 5) : Int) ≤ 2147483647 ∨ True := Or.inr trivial
      have e1' : a133.toInt = i.toInt + 1 := by
        rw [e133, t_addk, lo_1k]
        rw [lo_1k]
        have := w.len9 k5 (by decide)
        omega
      have k233' : qT U (qO U p 7) = 233 := by
        have := k132
        rw [show qT S120 (qO U p 7) = qT U (qO U p 7) by rw [e120, e108]; rfl] at this
        exact this
      refine ih (by omega) (fun _ => by rw [o7', e132]; exact k132) (fun j hj => ?_) (h3 S132 (by rw [o7]; exact e132) (by rw [o7]; exact k132) w132 a133 e133)
      rw [o7', e132, qI_wI]
      by_cases t : j = i.toInt.toNat
      · rw [if_pos ⟨rfl, t⟩, e130]; exact kt_rg
      · rw [if_neg (fun s => t s.2), ff.kI k233' (by decide) rfl]
        exact kd j (by omega)
theorem cu_build (h : wX2_build S Q) : wX2_build S (fun b u => Q b u ∧ KdB (qN u (qO u (qn S) 5) : Int) u (qn S)) := by
  unfold wX2_build at h ⊢
  obtain ⟨e0, h⟩ := h
  refine ⟨e0, fun S4 e4 w4 => ?_⟩
  have h := h S4 e4 w4
  refine fun k4 => ?_
  obtain ⟨Q7, p7, h⟩ := h k4
  refine ⟨Q7, p7, fun b12 S9 g9 w9 s9 k9 k1 k2 => ?_⟩
  obtain ⟨Q13, p13, h⟩ := h b12 S9 g9 w9 s9 k9 k1 k2
  refine ⟨Q13, p13, fun S14 g14 w14 s14 S17 e17 k17 w17 => ?_⟩
  obtain ⟨d1, h⟩ := h S14 g14 w14 s14 S17 e17 k17 w17
  refine ⟨d1, fun a22 e22 => ?_⟩
  obtain ⟨d2, h⟩ := h a22 e22
  refine ⟨d2, fun a26 e26 => ?_⟩
  obtain ⟨d3, h⟩ := h a26 e26
  refine ⟨d3, fun a30 e30 S31 e31 k31 w31 => ?_⟩
  obtain ⟨d4, h⟩ := h a30 e30 S31 e31 k31 w31
  refine ⟨d4, fun a36 e36 => ?_⟩
  obtain ⟨d5, h⟩ := h a36 e36
  refine ⟨d5, fun a40 e40 => ?_⟩
  obtain ⟨d6, h⟩ := h a40 e40
  refine ⟨d6, fun a44 e44 S45 e45 k45 w45 => ?_⟩
  obtain ⟨n, h⟩ := h a44 e44 S45 e45 k45 w45
  exact ⟨n, cu_b120 n (by decide) (fun z => by rw [li_0k] at z; omega) (fun j hj => by rw [li_0k] at hj; omega) h⟩
theorem KdB.kd {n : Int} (h : KdB n S p) (hn : (qN S (qO S p 7) : Int) ≤ n) : KdU S p := fun k => by
  have z : f_X10_kindOfField_J13 S = 2 := rfl
  unfold fX10_kindOfField
  rw [z]
  by_cases c : k.toInt < 0
  · rw [if_pos c]; decide
  · rw [if_neg c]
    by_cases c1 : k.toInt < (qN S (qO S p 7) : Int)
    · rw [if_pos c1]
      have := h k.toInt.toNat (by omega)
      omega
    · rw [if_neg c1]; decide
/-- a Unit whose Rows point well -/
def GdU (S : MS) (p : Nat) : Prop := KdU S p ∧ ∀ (m r : Nat), (m : Int) < (qI S p 8).toInt → qR S (qO S p 13) m = some r → GdR (qI S p 8).toInt S r ∧ (qI S r 11).toInt = (m : Int)
theorem PwM.mv {m : Int32} (h : PwM S m) (y : smF S u) : PwM u m := by
  obtain ⟨V, ⟨⟨⟨a1, a2, a3, a4, a5⟩, a6, a7⟩, s, n⟩, pv⟩ := h
  have es : szV u (stV S m) = szV S (stV S m) := by unfold szV; rw [y.1.1.s4]
  refine ⟨V, ⟨?_, y.eu s, n⟩, pv⟩
  rw [y.st]
  exact ⟨⟨y.1.1.eu a1, a2, by rw [a3, es], by rw [a4, es, y.1.1.u2], by rw [a5, y.1.1.u2]⟩, by rw [a6, y.1.1.u2], by rw [a7, es]⟩
theorem PwS.mv (h : PwS S) (y : smF S u) : PwS u := fun m a b => (h m a (by rw [← y.1.2.2.2.2.2.2]; exact b)).mv y
end KBX
/-! unitOf -/
section UO
variable {B : Nat × Nat} {S U u v : MS} {p r : Nat}
/-- a Row of a Unit -/
def RrK (S : MS) (r : Nat) : Prop := RdK S r ∧ rWs S r (qI S r 2).toInt.toNat + 8 * (qI S r 4).toInt ≤ 3600
theorem RrK.mv (h : RrK S r) (s : rSm S u r) : RrK u r := ⟨⟨h.1.1.mv s, by rw [s.1.1]; exact h.1.2⟩, by rw [s.1.1, s.1.2, s.xW]; exact h.2⟩
/-- a Unit that is kept -/
def UtK (S : MS) (p : Nat) : Prop := NmU S p ∧ ∀ j : Nat, (j : Int) < (qI S p 8).toInt → ∃ r, qR S (qO S p 13) j = some r ∧ RrK S r
def unitA (t : Nat) : Bool := t == 49 || t == 105 || t == 231 || t == 232 || t == 234 || t == 235 || t == 6 || t == 233 || t == 236 || t == 237
/-- the Units as they were -/
def uOld (S u : MS) : Prop := ∀ a j : Nat, unitA (qT S a) = true → qI u a j = qI S a j ∧ qR u a j = qR S a j
theorem uOld.fr {K : List Nat} {F : List (Nat × Nat)} (f : cfr K F S u) (hK : K.all (fun x => !unitA x) = true) (hF : F.all (fun x => !unitA x.1) = true) : uOld S u := fun a j ha => by
  have := f.2.2 a j (fun z => by rw [z] at ha; cases ha) (by
    cases e : K.contains (qT S a) with
    | false => rfl
    | true =>
      have := List.all_eq_true.mp hK _ (List.contains_iff_mem.mp e)
      rw [ha] at this; cases this) (by
    cases e : F.contains (qT S a, j) with
    | false => rfl
    | true =>
      have := List.all_eq_true.mp hF _ (List.contains_iff_mem.mp e)
      simp only [ha] at this; cases this)
  exact ⟨this.1, this.2.2⟩
theorem uOld.tr (h : uOld S u) (s : shx S u) (k : uOld u v) : uOld S v := fun a j ha => by
  have e := (s.1 a (fun z => by rw [z] at ha; cases ha)).1
  obtain ⟨h1, h2⟩ := h a j ha
  obtain ⟨k1, k2⟩ := k a j (by rw [e]; exact ha)
  exact ⟨k1.trans h1, k2.trans h2⟩
theorem NmU.mv (w : wfC S) (k : qT S p = 49) (R : UnK S p) (h : NmU S p) (o : uOld S u) (s : shx S u) : NmU u p := by
  have f0 : ∀ j, qI u p j = qI S p j ∧ qR u p j = qR S p j := fun j => o p j (by rw [k]; rfl)
  have q : ∀ j, qO u p j = qO S p j := fun j => qO_eq (f0 j).2
  obtain ⟨⟨a0, a5, a6, a7, a9, a10, a11, a12, a13⟩, _⟩ := R
  have k0 : qT S (qO S p 0) = 105 := w.ref a0 k
  have c : ∀ (j t : Nat), qT S (qO S p j) = t → unitA t = true → qI u (qO u p j) = qI S (qO S p j) := fun j t e ht => by
    rw [q]; funext i; exact (o _ i (by rw [e]; exact ht)).1
  have c0 := c 0 105 k0 rfl
  have c5 := c 5 231 (w.ref a5 k) rfl
  have c6 := c 6 232 (w.ref a6 k) rfl
  have c9 := c 9 234 (w.ref a9 k) rfl
  have c10 := c 10 235 (w.ref a10 k) rfl
  have n0 : qN u (qO u p 0) = qN S (qO S p 0) := by rw [q, (s.1 _ (by rw [k0]; decide)).2]
  have m : ∀ a, uNm u p a ↔ uNm S p a := fun a => by unfold uNm; rw [c0, n0]
  obtain ⟨⟨h1, h2⟩, h3, h4⟩ := h
  refine ⟨⟨?_, ?_⟩, fun j hj => ?_, fun j hj => ?_⟩
  · rw [m, (f0 2).1]; exact h1
  · rw [m, (f0 3).1]; exact h2
  · rw [m, m, c5, c6]; rw [(f0 4).1] at hj; exact h3 j hj
  · rw [m, m, c9, c10]; rw [(f0 8).1] at hj; exact h4 j hj
theorem UtK.mv (w : wfC S) (g : ShC B S) (k : qT S p = 49) (h : UtK S p) (o : uOld S u) (s : shx S u) (rows : ∀ q, qT S q = 47 → rSm S u q) : UtK u p := by
  have R := g.unit k
  refine ⟨h.1.mv w k R o s, fun j hj => ?_⟩
  have f0 : ∀ j, qI u p j = qI S p j ∧ qR u p j = qR S p j := fun j => o p j (by rw [k]; rfl)
  rw [(f0 8).1] at hj
  obtain ⟨r, e, hr⟩ := h.2 j hj
  have k13 : qT S (qO S p 13) = 6 := w.ref R.1.2.2.2.2.2.2.2.2 k
  refine ⟨r, ?_, hr.mv (rows r (w.ref e k13))⟩
  rw [qO_eq (f0 13).2, (o _ j (by rw [k13]; rfl)).2]; exact e
/-- all methods of the file can be read -/
def RdY (S : MS) : Prop := ∀ m : Int32, 0 ≤ m.toInt → m.toInt < (qI S 9 8).toInt → HdO S (stV S m) ∧ ChM S m
theorem RdY.mv (h : RdY S) (y : smF S u) : RdY u := fun m a b => by
  rw [y.1.2.2.2.2.2.2] at b
  obtain ⟨h1, h2⟩ := h m a b
  refine ⟨by rw [y.st, HdO.sm y.1.1]; exact h1, fun x hx => ?_⟩
  rw [y.st] at hx
  obtain ⟨a1, a2, a3, a4, a5⟩ := hx
  have es : szV u (stV S m) = szV S (stV S m) := by unfold szV; rw [y.1.1.s4]
  exact h2 x ⟨y.1.1.tr a1, a2, by rw [a3, es], by rw [a4, es, y.1.1.u2], by rw [a5, y.1.1.u2]⟩
/-- the Rows as they were, with their rows -/
def rOld (S u : MS) : Prop := ∀ a j : Nat, rowA (qT S a) = true → qI u a j = qI S a j ∧ qJ u a j = qJ S a j ∧ qR u a j = qR S a j
theorem rOld.rf : rOld S S := fun _ _ _ => ⟨rfl, rfl, rfl⟩
theorem rOld.tr (a : rOld S u) (s : shx S u) (b : rOld u v) : rOld S v := fun x j hx => by
  have e : qT u x = qT S x := (s.1 x (fun z => by rw [z] at hx; cases hx)).1
  obtain ⟨a1, a2, a3⟩ := a x j hx
  obtain ⟨b1, b2, b3⟩ := b x j (by rw [e]; exact hx)
  exact ⟨b1.trans a1, b2.trans a2, b3.trans a3⟩
theorem rOld.of {K : List Nat} {F : List (Nat × Nat)} (f : cfr K F S u) (hK : K.all (fun x => !rowA x) = true) (hF : F.all (fun x => !rowA x.1) = true) : rOld S u := fun a j ha => (rfr.of (P := a + 1) f hK hF) a j ha (Or.inl (Nat.lt_succ_self _))
theorem rOld.nw (w : wfC S) (f : rfr (qn S) S u) : rOld S u := fun a j ha => f a j ha (Or.inl (by
  have h0 : qT S a ≠ 0 := fun z => by rw [z] at ha; cases ha
  have h12 : qT S a ≠ 12 := fun z => by rw [z] at ha; cases ha
  have h22 : qT S a ≠ 22 := fun z => by rw [z] at ha; cases ha
  exact w.lt4 _ h0 h12 h22))
/-- the Unit that is being filled with Rows -/
def UoI (B : Nat × Nat) (S0 : MS) (p : Nat) (m : Int) (U : MS) : Prop := (ShC (B.1 + 2479 * m.toNat, B.2 + 512 * m.toNat) U ∧ qT U p = 49 ∧ NmU U p) ∧ (smF S0 U ∧ shx S0 U ∧ qI U p 8 = qI S0 9 8 ∧ qI U p 4 = qI S0 9 7 ∧ KdB (qI S0 9 7).toInt U p) ∧ (∀ j : Nat, (j : Int) < m → ∃ r, qR U (qO U p 13) j = some r ∧ RrK U r ∧ qT S0 r = 0 ∧ GdR (qI S0 9 8).toInt U r ∧ (qI U r 11).toInt = (j : Int)) ∧ (∀ q, qT S0 q = 47 → rSm S0 U q) ∧ uOld S0 U ∧ rOld S0 U
theorem uo_L41 {Q : Option Nat → MS → Prop} {S0 : MS} (pwS : PwS S0) (h7 : (qI S0 9 7).toInt ≤ 24) (h9 : 0 ≤ (qI S0 9 1).toInt) (h8 : 0 ≤ (qI S0 9 8).toInt ∧ (qI S0 9 8).toInt ≤ 24) (rd : RdY S0) (fr : ∀ i, i < 10 → qT S0 (p + i) = 0) (hB : B.1 + 59496 ≤ KSC ∧ B.2 + 12288 ≤ 64 * KCC) (hQ : ∀ V : MS, wfC V → UoI B S0 p (qI S0 9 8).toInt V → Q (some p) V) : ∀ (n : Nat) {U : MS} {v3 : Int32}, UoI B S0 p v3.toInt U → 0 ≤ v3.toInt → v3.toInt ≤ (qI S0 9 8).toInt → 30 - v3.toInt < n → w_X2_unitOf_L41 Q n U p v3 := by
  intro n
  induction n with
  | zero => intro U v3 _ h0 h1 hm; omega
  | succ n ih =>
    intro U v3 h h0 h1 hm
    obtain ⟨⟨g, k, nm⟩, ⟨y, sx, e8, e4, kdb⟩, rw', old, uo, ro⟩ := h
    have R := g.unit k
    have R13 : (qN U (qO U p 13) : Int) = (qI S0 9 8).toInt := by rw [R.2.2.2.2.2.2.2.2.2.2.2.2, e8]
    unfold w_X2_unitOf_L41
    intro w kp
    obtain ⟨_, _, _, _, _, _, _, _, o13⟩ := R.at w k
    have p13 := R.1.2.2.2.2.2.2.2.2
    have k13 : qT U (qO U p 13) = 6 := w.ref p13 k
    refine ⟨p13, fun c => hQ U w (by rw [show (qI S0 9 8).toInt = v3.toInt by omega]; exact ⟨⟨g, k, nm⟩, ⟨y, sx, e8, e4, kdb⟩, rw', old, uo, ro⟩), fun c => ⟨p13, ?_⟩⟩
    have rdU := rd.mv y
    have gl9 := g.le
    have hTX : qn U < TXB := KC_TX (n := qn U) (by
      have e1 : (B.1 + 2479 * v3.toInt.toNat, B.2 + 512 * v3.toInt.toNat).2 = B.2 + 512 * v3.toInt.toNat := rfl
      omega)
    obtain ⟨hH, hC⟩ := rdU v3 h0 (by rw [y.1.2.2.2.2.2.2]; omega)
    refine ⟨_, frX2_rowOf w (sp_rowOf w g ((pwS.mv y) v3 h0 (by rw [y.1.2.2.2.2.2.2]; omega)) (by rw [y.1.2.2.2.2.2.1]; exact h7) (by rw [y.1.2.2.2.2.2.2]; exact h8.2) (y.1.1.h9 h9) hH hC (by show B.1 + 2479 * v3.toInt.toNat + 2479 ≤ KSC ∧ B.2 + 512 * v3.toInt.toNat + 512 ≤ 64 * KCC; omega)), fun b38 S35 q35 w35 s35 k35 => ?_⟩
    obtain ⟨⟨g35, ⟨eb, kb⟩, rd35, wt35, n35, y35, rf35, rows35, gd35⟩, f35⟩ := q35
    have o35 : uOld U S35 := uOld.fr f35 rfl rfl
    have kp35 : qT S35 p = 49 := f35.1.T k (by decide)
    have n13 : (qN S35 (qO U p 13) : Int) = (qI S0 9 8).toInt := by rw [(f35.1.1 _ (by rw [k13]; decide)).2, R13]
    refine ⟨by omega, fun S40 e40 k40 w40 => ?_⟩
    have f40 : cfr [6] [] S35 S40 := by rw [e40]; exact cfr.aR k40 rfl
    have g40 : ShC (B.1 + 2479 * v3.toInt.toNat + 2479, B.2 + 512 * v3.toInt.toNat + 512) S40 := ShC.ws w35 g35 f40 (by rw [e40]; rfl) (by rw [e40]; rfl) (by rw [e40]; rfl) rfl rfl
    have q35' : qO S35 p 13 = qO U p 13 := qO_eq (o35 p 13 (by rw [k]; rfl)).2
    have kp40 : qT S40 p = 49 := f40.1.T kp35 (by decide)
    have q40 : qO S40 p 13 = qO U p 13 := by
      have ne : p ≠ qO U p 13 := fun z => by rw [← z, k] at k13; cases k13
      rw [← q35']
      refine qO_eq ?_
      rw [e40, qR_wR, if_neg (fun z => ne z.1)]
    have R40 := g40.unit kp40
    have l40 : (qN S40 (qO S40 p 13) : Int) = (qI S0 9 8).toInt := by rw [q40, e40]; exact n13
    have r40 : qR S40 (qO S40 p 13) v3.toInt.toNat = some b38 := by rw [q40, e40, qR_wR, if_pos ⟨rfl, rfl⟩]
    refine ⟨R40.1.2.2.2.2.2.2.2.2, by omega, by rw [qO_of r40]; exact r40, fun S47 e47 k47 w47 a48 ea => ?_⟩
    have e := t_inc ea (by omega)
    have f47 : cfr [] [(49, 14)] S40 S47 := by rw [e47]; exact cfr.oI k47 rfl
    have g47 : ShC (B.1 + 2479 * v3.toInt.toNat + 2479, B.2 + 512 * v3.toInt.toNat + 512) S47 := ShC.ws w40 g40 f47 (by rw [e47]; rfl) (by rw [e47]; rfl) (by rw [e47]; rfl) rfl rfl
    have sx47 : shx U S47 := (f35.1.tr f40.1).tr f47.1
    have rows47 : ∀ q, qT S35 q = 47 → rSm S35 S47 q := fun q kq => by
      have e1 : ∀ a j, a ≠ p → qI S47 a j = qI S35 a j := fun a j ne => by
        rw [e47, qI_wI, if_neg (fun z => ne z.1), e40]; rfl
      have e2 : ∀ a j, qJ S47 a j = qJ S35 a j := fun a j => by rw [e47, e40]; rfl
      have e3 : ∀ a j, qT S35 a ≠ 6 → qR S47 a j = qR S35 a j := fun a j ne => by
        have : qR S47 a j = qR S40 a j := by rw [e47]; rfl
        rw [this, e40, qR_wR, if_neg (fun z => ne (by rw [z.1]; exact k40))]
      have nq : q ≠ p := fun z => by rw [z, kp35] at kq; cases kq
      have Rq := g35.row kq
      have oo : ∀ j, qO S47 q j = qO S35 q j := fun j => qO_eq (e3 q j (by rw [kq]; decide))
      have na : ∀ {b t : Nat}, qT S35 b = t → t ≠ 49 → b ≠ p := fun eb ht z => ht (by rw [← eb, z]; exact kp35)
      exact ⟨⟨e1 q 2 nq, e1 q 4 nq⟩, ⟨oo 0, oo 1, oo 3⟩, funext (fun j => e1 _ j (na (w35.ref Rq.1.1 kq : qT S35 (qO S35 q 0) = 222) (by decide))), funext (fun j => e2 _ j), funext (fun j => e1 _ j (na (w35.ref Rq.1.2.2.1 kq : qT S35 (qO S35 q 3) = 223) (by decide)))⟩
    have nm35 := nm.mv w k R o35 f35.1
    have i47 : ∀ a j, ¬ (a = p ∧ j = 14) → qI S47 a j = qI S35 a j := fun a j z => by rw [e47, qI_wI, if_neg z, e40]; rfl
    have q47 : ∀ j, qO S47 p j = qO S35 p j := fun j => by
      have ne : p ≠ qO U p 13 := fun z => by rw [← z, k] at k13; cases k13
      refine qO_eq ?_
      have : qR S47 p j = qR S40 p j := by rw [e47]; rfl
      rw [this, e40, qR_wR, if_neg (fun z => ne z.1)]
    have nm47 : NmU S47 p := by
      have R35 := g35.unit kp35
      have na : ∀ {b t : Nat}, qT S35 b = t → t ≠ 49 → b ≠ p := fun eb ht z => ht (by rw [← eb, z]; exact kp35)
      have cc : ∀ (j t : Nat), qT S35 (qO S35 p j) = t → t ≠ 49 → qI S47 (qO S47 p j) = qI S35 (qO S35 p j) := fun j t et ht => by
        rw [q47]; funext i; exact i47 _ i (fun z => na et ht z.1)
      obtain ⟨⟨a0, a5, a6, a7, a9, a10, a11, a12, a13⟩, _⟩ := R35
      have c0 := cc 0 105 (w35.ref a0 kp35) (by decide)
      have c5 := cc 5 231 (w35.ref a5 kp35) (by decide)
      have c6 := cc 6 232 (w35.ref a6 kp35) (by decide)
      have c9 := cc 9 234 (w35.ref a9 kp35) (by decide)
      have c10 := cc 10 235 (w35.ref a10 kp35) (by decide)
      have n0 : qN S47 (qO S47 p 0) = qN S35 (qO S35 p 0) := by rw [q47, e47, e40]; rfl
      have m : ∀ a, uNm S47 p a ↔ uNm S35 p a := fun a => by unfold uNm; rw [c0, n0]
      obtain ⟨⟨h1', h2'⟩, h3', h4'⟩ := nm35
      refine ⟨⟨?_, ?_⟩, fun j hj => ?_, fun j hj => ?_⟩
      · rw [m, i47 _ _ (fun z => absurd z.2 (by decide))]; exact h1'
      · rw [m, i47 _ _ (fun z => absurd z.2 (by decide))]; exact h2'
      · rw [m, m, c5, c6]; rw [i47 _ _ (fun z => absurd z.2 (by decide))] at hj; exact h3' j hj
      · rw [m, m, c9, c10]; rw [i47 _ _ (fun z => absurd z.2 (by decide))] at hj; exact h4' j hj
    have eB : (B.1 + 2479 * v3.toInt.toNat + 2479, B.2 + 512 * v3.toInt.toNat + 512) = (B.1 + 2479 * a48.toInt.toNat, B.2 + 512 * a48.toInt.toNat) := by
      rw [show a48.toInt.toNat = v3.toInt.toNat + 1 by omega]
      exact Prod.ext (by show B.1 + 2479 * v3.toInt.toNat + 2479 = B.1 + 2479 * (v3.toInt.toNat + 1); omega) (by show B.2 + 512 * v3.toInt.toNat + 512 = B.2 + 512 * (v3.toInt.toNat + 1); omega)
    rw [eB] at g47
    have y47 : smF S0 S47 := (y.tr (smF.fr w f35 rfl rfl rfl rfl rfl rfl rfl)).tr ((smF.fr w35 f40 rfl rfl rfl rfl rfl rfl rfl).tr (smF.fr w40 f47 rfl rfl rfl rfl rfl rfl rfl))
    have e8' : qI S47 p 8 = qI S0 9 8 := by rw [i47 _ _ (fun z => absurd z.2 (by decide)), (o35 p 8 (by rw [k]; rfl)).1]; exact e8
    have e4' : qI S47 p 4 = qI S0 9 7 := by rw [i47 _ _ (fun z => absurd z.2 (by decide)), (o35 p 4 (by rw [k]; rfl)).1]; exact e4
    have k7 : qT U (qO U p 7) = 233 := w.ref R.1.2.2.2.1 k
    have q7 : qO S35 p 7 = qO U p 7 := qO_eq (o35 p 7 (by rw [k]; rfl)).2
    have kdb47 : KdB (qI S0 9 7).toInt S47 p := fun j hj => by
      have n7 : qO U p 7 ≠ p := fun z => by rw [z, k] at k7; cases k7
      rw [q47, q7, i47 _ _ (fun z => n7 z.1), (o35 _ j (by rw [k7]; rfl)).1]
      exact kdb j hj
    have gd47 : ∀ (M : Int) (q : Nat), qT S35 q = 47 → GdR M S35 q → GdR M S47 q := fun M q kq h => by
      have Rq := g35.row kq
      have k226 : qT S35 (qO S35 q 7) = 226 := w35.ref Rq.1.2.2.2.2.2.1 kq
      have nq : q ≠ p := fun z => by rw [z, kp35] at kq; cases kq
      have n7 : qO S35 q 7 ≠ p := fun z => by rw [z, kp35] at k226; cases k226
      have k13' : qT S35 (qO U p 13) = 6 := f35.1.T k13 (by decide)
      have o7 : qO S47 q 7 = qO S35 q 7 := by
        refine qO_eq ?_
        have : qR S47 q 7 = qR S40 q 7 := by rw [e47]; rfl
        rw [this, e40, qR_wR, if_neg (fun z => by rw [z.1, k13'] at kq; cases kq)]
      exact h.mv (rows47 q kq) (i47 _ _ (fun z => nq z.1)) (i47 _ _ (fun z => nq z.1)) (by rw [o7]; funext j; exact i47 _ _ (fun z => n7 z.1))
    have ro35 : rOld U S35 := rOld.nw w (eb ▸ rf35)
    have M98 : (qI U 9 8).toInt = (qI S0 9 8).toInt := by rw [y.1.2.2.2.2.2.2]
    rw [M98] at gd35
    refine ih ⟨⟨g47, f47.1.T kp40 (by decide), nm47⟩, ⟨y47, sx.tr sx47, e8', e4', kdb47⟩, fun j hj => ?_, fun q kq => ?_, fun a j ha => ?_, (ro.tr sx (rOld.nw w (eb ▸ rf35))).tr (sx.tr f35.1) ((rOld.of f40 rfl rfl).tr f40.1 (rOld.of f47 rfl rfl))⟩ (by omega) (by omega) (by omega)
    · have rr : ∀ i, qR S47 (qO S47 p 13) i = qR S40 (qO S40 p 13) i := fun i => by
        rw [q47, q35', q40, e47]; rfl
      by_cases z : j = v3.toInt.toNat
      · refine ⟨b38, by rw [rr, z, r40], RrK.mv ⟨rd35, wt35⟩ (rows47 b38 kb), ?_, gd47 _ b38 kb gd35, by rw [i47 _ _ (fun y => absurd y.2 (by decide)), n35]; omega⟩
        by_cases y0 : qT S0 b38 = 0
        · exact y0
        · exact absurd (((sx.1 b38 y0).1).symm.trans (by rw [eb]; exact w.nx hTX)) y0
      · obtain ⟨r, er, hr, zr, gr, nr⟩ := rw' j (by omega)
        have kr : qT U r = 47 := w.ref er k13
        have Rr := g.row kr
        have k226 : qT U (qO U r 7) = 226 := w.ref Rr.1.2.2.2.2.2.1 kr
        have o7 : qO S35 r 7 = qO U r 7 := qO_eq (ro35 r 7 (by rw [kr]; rfl)).2.2
        have gr35 : GdR (qI S0 9 8).toInt S35 r := gr.mv (rows35 r kr) (ro35 r 9 (by rw [kr]; rfl)).1 (ro35 r 10 (by rw [kr]; rfl)).1 (by rw [o7]; funext i; exact (ro35 _ i (by rw [k226]; rfl)).1)
        refine ⟨r, ?_, (hr.mv (rows35 r kr)).mv (rows47 r (f35.1.T kr (by decide))), zr, gd47 _ r (f35.1.T kr (by decide)) gr35, by rw [i47 _ _ (fun y => absurd y.2 (by decide)), (ro35 r 11 (by rw [kr]; rfl)).1]; exact nr⟩
        rw [rr, q40, e40, qR_wR, if_neg (fun y => z y.2), (o35 _ j (by rw [k13]; rfl)).2]
        exact er
    · have kU : qT U q = 47 := sx.T kq (by decide)
      exact ((old q kq).tr (rows35 q kU)).tr (rows47 q (f35.1.T kU (by decide)))
    · have h0' : qT S0 a ≠ 0 := fun z => by rw [z] at ha; cases ha
      have nea : a ≠ p := fun z => h0' (by rw [z]; exact fr 0 (by decide))
      have ne9 : a ≠ qO U p 13 := fun z => h0' (by rw [z, o13]; exact fr 9 (by decide))
      obtain ⟨u1, u2⟩ := uo a j ha
      obtain ⟨v1, v2⟩ := o35 a j (by rw [(sx.1 a h0').1]; exact ha)
      refine ⟨by rw [i47 _ _ (fun z => nea z.1), v1]; exact u1, ?_⟩
      have : qR S47 a j = qR S40 a j := by rw [e47]; rfl
      rw [this, e40, qR_wR, if_neg (fun z => ne9 z.1), v2]; exact u2
end UO
/-! unitOf whole -/
section UQ
variable {B : Nat × Nat} {S U u v : MS} {p p1 r : Nat}
def UoP (B : Nat × Nat) (S : MS) (c : Nat) (o : Option Nat) (u : MS) : Prop := ((o = none ∧ ShC B u) ∨ ∃ p, o = some p ∧ ShC (B.1 + 59706 + c, B.2 + 12928) u ∧ qT u p = 49 ∧ UtK u p ∧ (∀ (j r : Nat), (j : Int) < (qI u p 8).toInt → qR u (qO u p 13) j = some r → qT S r = 0) ∧ GdU u p ∧ qT S p = 0) ∧ (∀ q, qT S q = 47 → rSm S u q) ∧ uOld S u ∧ shx S u ∧ rOld S u
theorem sp_unitOf (w : wfC S) (g : ShC B S) (kp : qT S p1 = 40) (hp : qR S p1 0 = some (qO S p1 0)) (h0 : 0 ≤ (qI S p1 1).toInt ∧ (qI S p1 1).toInt ≤ (qN S (qO S p1 0) : Int)) (hB : B.1 + 59706 + (qI S p1 1).toInt.toNat ≤ KSC ∧ B.2 + 12928 ≤ 64 * KCC) : wX2_unitOf S p1 (fun o u => UoP B S (qI S p1 1).toInt.toNat o u) := by
  unfold wX2_unitOf
  intro _
  refine ⟨_, frX7_isSound w (ct_isSound w kp hp h0.1), fun r2 S3 q3 w3 s3 => ?_⟩
  obtain ⟨⟨q3, b3⟩, f3⟩ := q3
  have g3 : ShC B S3 := ShC.ca w g f3 s3 w3 rfl rfl
  have rows3 : ∀ q, qT S q = 47 → rSm S S3 q := fun q kq => rSm.fr w kq (g.row kq) f3 rfl rfl rfl
  have u3 : uOld S S3 := uOld.fr f3 rfl rfl
  have h93 : 0 ≤ (qI S3 9 1).toInt := by rw [b3.2.1]; exact h0.1
  have ro3 : rOld S S3 := rOld.of f3 rfl rfl
  refine ⟨fun _ => ⟨Or.inl ⟨rfl, g3⟩, rows3, u3, s3.1, ro3⟩, fun c3 => ?_⟩
  have snd3 := q3.resolve_left c3
  refine ⟨_, frX2_limitsHold w3 (sp_limitsHold h93), fun r7 S8 q8 w8 s8 => ?_⟩
  obtain ⟨q8, f8⟩ := q8
  have g8 : ShC B S8 := ShC.ca w3 g3 f8 s8 w8 rfl rfl
  have y8 : smF S3 S8 := smF.fr w3 f8 rfl rfl rfl rfl rfl rfl rfl
  have sx8 := s3.1.tr s8.1
  have rows8 : ∀ q, qT S q = 47 → rSm S S8 q := fun q kq => by
    have k3 : qT S3 q = 47 := s3.1.T kq (by decide)
    exact (rows3 q kq).tr (rSm.fr w3 k3 (g3.row k3) f8 rfl rfl rfl)
  have u8 : uOld S S8 := u3.tr s3.1 (uOld.fr f8 rfl rfl)
  have ro8 : rOld S S8 := ro3.tr s3.1 (rOld.of f8 rfl rfl)
  refine ⟨fun _ => ⟨Or.inl ⟨rfl, g8⟩, rows8, u8, sx8, ro8⟩, fun c8 => ?_⟩
  have lm := q8.resolve_left (fun z => c8 (by rw [z]; rfl))
  have h98 := y8.1.1.h9 h93
  have snd8 := snd3.mv y8.1
  refine ⟨_, frX2_instructionsHold w8 (ct_instructionsHold h98 (by have := snd8.2.1.2; omega)), fun r12 S13 q13 w13 s13 => ?_⟩
  obtain ⟨q13, f13⟩ := q13
  have g13 : ShC B S13 := ShC.ca w8 g8 f13 s13 w13 rfl rfl
  have y13 : smF S8 S13 := smF.fr w8 f13 rfl rfl rfl rfl rfl rfl rfl
  have sx13 := sx8.tr s13.1
  have rows13 : ∀ q, qT S q = 47 → rSm S S13 q := fun q kq => by
    have k8 : qT S8 q = 47 := sx8.T kq (by decide)
    exact (rows8 q kq).tr (rSm.fr w8 k8 (g8.row k8) f13 rfl rfl rfl)
  have u13 : uOld S S13 := u8.tr sx8 (uOld.fr f13 rfl rfl)
  have ro13 : rOld S S13 := ro8.tr sx8 (rOld.of f13 rfl rfl)
  refine ⟨fun _ => ⟨Or.inl ⟨rfl, g13⟩, rows13, u13, sx13, ro13⟩, fun c13 => ?_⟩
  have am := q13.1.resolve_left (fun z => c13 (by rw [z]; rfl))
  have rd8 : RdY S8 := fun m m0 m1 => by
    refine ⟨?_, am m m0 m1⟩
    have m8 := snd8.2.1.2
    have e : stV S8 m = qI S3 13 m.toInt.toNat := by
      unfold stV
      rw [if_pos ⟨m0, by omega⟩, y8.2]
    rw [e, HdO.sm y8.1.1]
    have e8 : (qI S8 9 8).toInt = (qI S3 9 8).toInt := by rw [y8.1.2.2.2.2.2.2]
    exact lm m.toInt.toNat (by omega) (by omega)
  have h913 := y13.1.1.h9 h98
  have snd13 := snd8.mv y13.1
  refine ⟨_, frX2_pointersHold w13 (cu_pointersHold h913 snd13.2.1.1.2 snd13.2.1.2.2 (sfX2_pointersHold h913 (by have := snd13.2.1.2; omega))), fun r17 S18 q18 w18 s18 => ?_⟩
  obtain ⟨⟨_, pw13⟩, f18⟩ := q18
  have g18 : ShC B S18 := ShC.ca w13 g13 f18 s18 w18 rfl rfl
  have y18 : smF S13 S18 := smF.fr w13 f18 rfl rfl rfl rfl rfl rfl rfl
  have sx18 := sx13.tr s18.1
  have rows18 : ∀ q, qT S q = 47 → rSm S S18 q := fun q kq => by
    have k13 : qT S13 q = 47 := sx13.T kq (by decide)
    exact (rows13 q kq).tr (rSm.fr w13 k13 (g13.row k13) f18 rfl rfl rfl)
  have u18 : uOld S S18 := u13.tr sx13 (uOld.fr f18 rfl rfl)
  have ro18 : rOld S S18 := ro13.tr sx13 (rOld.of f18 rfl rfl)
  refine ⟨fun _ => ⟨Or.inl ⟨rfl, g18⟩, rows18, u18, sx18, ro18⟩, fun c18 => ?_⟩
  have h918 := y18.1.1.h9 h913
  have snd18 := snd13.mv y18.1
  have rd18 := (rd8.mv y13).mv y18
  have b18 := b3.mv ((y8.1.1.tr y13.1.1).tr y18.1.1)
  have e18 : (qI S18 9 1).toInt = (qI S p1 1).toInt := by rw [b18.2.1]
  have hd18 : (qI S18 9 1).toInt ≤ (qN S18 (qO S18 9 0) : Int) := by rw [e18, b18.1, b18.2.2.2]; exact h0.2
  refine ⟨_, cu_build (sp_build w18 g18 snd18 h918 hd18 (by rw [e18]; omega)), fun b26 S23 q23 w23 s23 k23 => ⟨31, ?_⟩⟩
  obtain ⟨⟨rfl, bd, nm⟩, kdb⟩ := q23
  have pw18 : PwS S18 := (pw13 c18).mv y18
  obtain ⟨⟨g23, kp23, y23, f23⟩, _, e4, e8⟩ := bd
  have gl := g18.le
  have m18 := snd18.2.1.2
  have yF : smF S18 S23 := ⟨y23, fun j => cfr.k13 w18 f23 rfl rfl⟩
  have I0 : UoI (B.1 + 210 + (qI S18 9 1).toInt.toNat, B.2 + 640) S18 (qn S18) (0 : Int32).toInt S23 := by
    have U23 := g23.unit kp23
    refine ⟨⟨by rw [li_0k]; exact g23, kp23, nm⟩, ⟨yF, s23, e8, e4, fun j hj => kdb j (by rw [U23.2.2.2.1, e4]; exact hj)⟩, fun j hj => by rw [li_0k] at hj; omega, fun q kq => rSm.fr w18 kq (g18.row kq) f23 rfl rfl rfl, uOld.fr f23 rfl rfl, rOld.of f23 rfl rfl⟩
  refine uo_L41 (B := (B.1 + 210 + (qI S18 9 1).toInt.toNat, B.2 + 640)) pw18 snd18.2.1.1.2 h918 m18 rd18 (w18.fresh (n := 10) (by omega)) (by show B.1 + 210 + (qI S18 9 1).toInt.toNat + 59496 ≤ KSC ∧ B.2 + 640 + 12288 ≤ 64 * KCC; rw [e18]; omega) (fun V wV hV => ?_) _ I0 (by decide) (by rw [li_0k]; exact m18.1) (by rw [li_0k]; decide)
  obtain ⟨⟨gV, kV, nV⟩, ⟨_, sV, e8V, e4V, kdV⟩, rV, oV, uV, roV⟩ := hV
  have UV := gV.unit kV
  refine ⟨Or.inr ⟨qn S18, rfl, gV.up ⟨?_, ?_, ?_, ?_⟩, kV, ⟨nV, fun j hj => ?_⟩, fun j r hj hr => ?_, ⟨kdV.kd (by rw [UV.2.2.2.2.2.1, e4V]; exact Int.le_refl _), fun j r hj hr => ?_⟩, ?_⟩, fun q kq => ?_, u18.tr sx18 uV, sx18.tr sV, ro18.tr sx18 roV⟩
  · show B.1 + 210 + (qI S18 9 1).toInt.toNat + 2479 * (qI S18 9 8).toInt.toNat ≤ B.1 + 59706 + (qI S p1 1).toInt.toNat
    rw [e18]; omega
  · exact hB.1
  · show B.2 + 640 + 512 * (qI S18 9 8).toInt.toNat ≤ B.2 + 12928
    omega
  · exact hB.2
  · rw [e8V] at hj
    obtain ⟨r, h1, h2, _⟩ := rV j hj
    exact ⟨r, h1, h2⟩
  · rw [e8V] at hj
    obtain ⟨r', h1, _, h3, _, _⟩ := rV j hj
    rw [h1] at hr
    cases hr
    by_cases y0 : qT S r = 0
    · exact y0
    · exact absurd (((sx18.1 r y0).1).symm.trans h3) y0
  · rw [e8V] at hj ⊢
    obtain ⟨r', h1, _, _, h4, h5⟩ := rV j hj
    rw [h1] at hr
    cases hr
    exact ⟨h4, h5⟩
  · by_cases y0 : qT S (qn S18) = 0
    · exact y0
    · exact absurd (((sx18.1 _ y0).1).symm.trans (w18.fresh (n := 10) (by omega) 0 (by decide))) y0
  · exact (rows18 q kq).tr (oV q (sx18.T kq (by decide)))
end UQ
/-! a way of a Row is changed -/
section ST
variable {B : Nat × Nat} {S u v U : MS} {p : Nat} {x : Int32}
/-- the same instructions, of the same weight, with other aims -/
def RkE (B : Nat × Nat) (S u : MS) (p : Nat) : Prop := (ShC B u ∧ shx S u ∧ rfr p S u) ∧ (qI u p 2 = qI S p 2 ∧ qI u p 4 = qI S p 4) ∧ (∀ i, rOp u p i = rOp S p i) ∧ RvK u p ∧ (∀ n : Nat, rWs u p n = rWs S p n) ∧ ∀ i : Nat, (i : Int) < (qI S p 2).toInt → swO (rOp S p i) → aTk u p i = aTk S p i ∧ mT u p i = mT S p i
theorem RkE.rf (g : ShC B S) (h : RvK S p) : RkE B S S p := ⟨⟨g, shx.rf, rfr.rf⟩, ⟨rfl, rfl⟩, fun _ => rfl, h, fun _ => rfl, fun _ _ _ => ⟨rfl, rfl⟩⟩
theorem RkE.tr (h : RkE B S u p) (k : RkE B u v p) : RkE B S v p := by
  obtain ⟨⟨h1, h2, h3⟩, ⟨h4, h5⟩, h6, h7, h8, h9⟩ := h
  obtain ⟨⟨k1, k2, k3⟩, ⟨k4, k5⟩, k6, k7, k8, k9⟩ := k
  refine ⟨⟨k1, h2.tr k2, h3.tr h2 k3⟩, ⟨k4.trans h4, k5.trans h5⟩, fun i => (k6 i).trans (h6 i), k7, fun n => (k8 n).trans (h8 n), fun i hi sw => ?_⟩
  obtain ⟨a1, a2⟩ := h9 i hi sw
  obtain ⟨b1, b2⟩ := k9 i (by rw [h4]; exact hi) (by rw [h6]; exact sw)
  exact ⟨b1.trans a1, b2.trans a2⟩
/-- RvK out of the same switches -/
theorem RvK.same (h : RvK S p) (e2 : qI u p 2 = qI S p 2) (e4 : qI u p 4 = qI S p 4) (eo : ∀ i, rOp u p i = rOp S p i) (em : ∀ i : Nat, (i : Int) < (qI S p 2).toInt → swO (rOp S p i) → aTk u p i = aTk S p i ∧ mT u p i = mT S p i) : RvK u p := by
  have ee : ∀ i : Nat, (i : Int) < (qI S p 2).toInt → swO (rOp S p i) → eT u p i = eT S p i := fun i hi sw => by
    obtain ⟨a, b⟩ := em i hi sw
    unfold eT; rw [a, b, eo]
  unfold RvK
  rw [e2, e4]
  refine ⟨fun i hi sw => ?_, fun i i' hl hi s1 s2 => ?_⟩
  · rw [eo] at sw
    rw [(em i hi sw).1, (em i hi sw).2, ee i hi sw]; exact h.1 i hi sw
  · rw [eo] at s1 s2
    rw [ee i (by omega) s1, (em i' hi s2).1]; exact h.2 i i' hl hi s1 s2
theorem RvK.tcs (h : RvK S p) (hj : (fX6_isJump S (fX8_opAt S p x)).toInt = 0) (h0 : 0 < (fX8_targetCount S p x).toInt) : (0 ≤ x.toInt ∧ x.toInt < (qI S p 2).toInt) ∧ swO (rOp S p x.toInt.toNat) ∧ (fX8_targetCount S p x).toInt = mT S p x.toInt.toNat := by
  unfold fX8_targetCount at h0 ⊢
  rw [if_pos hj] at h0 ⊢
  by_cases d : (fX6_isSwitch S (fX8_opAt S p x)).toInt = 0
  · rw [if_pos d] at h0; have z := li_0k; omega
  · rw [if_neg d]
    have sw := is_sw d
    by_cases q : 0 ≤ x.toInt ∧ x.toInt < (qI S p 2).toInt
    · rw [rv_op q.1 q.2] at sw
      obtain ⟨a1, a2, a3, a4⟩ := h.1 x.toInt.toNat (by omega) sw
      refine ⟨q, sw, ?_⟩
      have := szT_ge (o := rOp S p x.toInt.toNat) a2
      have e : eT S p x.toInt.toNat = aTk S p x.toInt.toNat + szT (rOp S p x.toInt.toNat) (mT S p x.toInt.toNat) := rfl
      have hl : aTk S p x.toInt.toNat < (qI S p 4).toInt := by omega
      unfold mT
      rw [rv_arg q.1 q.2, rv_tab a1 hl]
      rfl
    · rw [rv_op0 q] at sw
      exact absurd sw (by unfold swO; decide)
theorem rWs_w : ∀ (n : Nat), (∀ i, i < n → rW (rOp u p i).toInt (rAr u p i) = rW (rOp S p i).toInt (rAr S p i)) → rWs u p n = rWs S p n := by
  intro n
  induction n with
  | zero => intro _; rfl
  | succ n ih => intro h; rw [rWs_s, rWs_s, ih (fun i hi => h i (by omega)), h n (by omega)]
/-- op and arg of one place -/
theorem set_eq {i : Nat} {y : Int64} (w : wfC S) (g : ShC B S) (k : qT S p = 47) (e : u = wJ (wI S (qO S p 0) i x) (qO S p 1) i y) : ShC B u ∧ rfr p S u ∧ (∀ j, qI u p j = qI S p j) ∧ (∀ j, qO u p j = qO S p j) ∧ (∀ j, rOp u p j = if j = i then x else rOp S p j) ∧ (∀ j, rAr u p j = if j = i then y else rAr S p j) ∧ (∀ j, qI u (qO S p 3) j = qI S (qO S p 3) j) ∧ shx S u := by
  have R := g.row k
  obtain ⟨e0, e1, e3, _⟩ := R.at w k
  have kd := R.kd w k
  rw [e0, e1] at e
  have iu : ∀ a j, qI u a j = if a = p + 1 ∧ j = i then x else qI S a j := fun a j => by
    rw [e]
    show qI (wI S (p + 1) i x) a j = _
    rw [qI_wI]
  have ju : ∀ a j, qJ u a j = if a = p + 2 ∧ j = i then y else qJ S a j := fun a j => by
    rw [e, qJ_wJ]
    rfl
  have ru : ∀ a j, qR u a j = qR S a j := fun a j => by rw [e]; rfl
  have f : cfr [222, 406] [] S u := by
    rw [e]
    exact (cfr.aI kd.1 rfl).tr (cfr.aJ (show qT (wI S (p + 1) i x) (p + 2) = 406 from kd.2.1) rfl)
  refine ⟨ShC.ws w g f (by rw [e]; rfl) (by rw [e]; rfl) (by rw [e]; rfl) rfl rfl, fun a j _ hr => ⟨by rw [iu, if_neg (fun z => by omega)], by rw [ju, if_neg (fun z => by omega)], ru a j⟩, fun j => by rw [iu, if_neg (fun z => by omega)], fun j => qO_eq (ru p j), fun j => ?_, fun j => ?_, fun j => by rw [iu, if_neg (fun z => by omega)], f.1⟩
  · unfold rOp
    rw [qO_eq (ru p 0), iu, e0]
    by_cases z : j = i
    · rw [if_pos ⟨rfl, z⟩, if_pos z]
    · rw [if_neg (fun q => z q.2), if_neg z]
  · unfold rAr
    rw [qO_eq (ru p 1), ju, e1]
    by_cases z : j = i
    · rw [if_pos ⟨rfl, z⟩, if_pos z]
    · rw [if_neg (fun q => z q.2), if_neg z]
theorem sp_setTarget {i j t : Int32} (w : wfC S) (g : ShC B S) (k : qT S p = 47) (rv : RvK S p) (hj : 0 ≤ j.toInt ∧ j.toInt < (fX8_targetCount S p i).toInt) : wX8_setTarget S p i j t (fun u => RkE B S u p) := by
  have R := g.row k
  have R2 := R.2
  obtain ⟨e0, e1, e3, _⟩ := R.at w k
  have kd := R.kd w k
  unfold wX8_setTarget
  refine ⟨dd_X8_opAt w g k, fun a4 e4 => ⟨dd_X6_isJump, fun a8 e8 => ⟨fun c => ⟨dd_X8_argAt w g k, fun a13 e13 a16 e16 => ?_⟩, fun c => ⟨dd_X8_opAt w g k, fun a26 e26 _ => ?_⟩⟩⟩⟩
  · rw [e8, e4] at c
    obtain ⟨q1, sw, q3⟩ := rv.tcs c (by omega)
    obtain ⟨a1, a2, a3, a4'⟩ := rv.1 i.toInt.toNat (by omega) sw
    have sz := szT_ge (o := rOp S p i.toInt.toNat) a2
    have ee : eT S p i.toInt.toNat = aTk S p i.toInt.toNat + szT (rOp S p i.toInt.toNat) (mT S p i.toInt.toNat) := rfl
    have ea : a13.toInt32.toInt = aTk S p i.toInt.toNat := by rw [e13, rv_arg q1.1 q1.2]; rfl
    have et : a16.toInt = aTk S p i.toInt.toNat + 2 + j.toInt := by
      have e2 : (a13.toInt32 + (2 : Int32)).toInt = aTk S p i.toInt.toNat + 2 := by rw [t_addk (by rw [li_2k, ea]; omega), li_2k, ea]
      rw [e16, t_addk (by rw [e2]; omega), e2]
    refine ⟨fun d => by omega, fun d => ⟨fun d2 => by omega, fun d2 => ⟨R.1.2.2.1, by omega, fun S22 e22 k22 w22 => ?_⟩⟩⟩
    rw [e3] at e22
    have iu : ∀ a m, qI S22 a m = if a = p + 3 ∧ m = a16.toInt.toNat then t else qI S a m := fun a m => by rw [e22, qI_wI]
    have f : cfr [223] [] S S22 := by rw [e22]; exact cfr.aI kd.2.2.1 rfl
    have oo : ∀ m, qO S22 p m = qO S p m := fun m => by rw [e22]; rfl
    have eo : ∀ m, rOp S22 p m = rOp S p m := fun m => by
      unfold rOp; rw [oo, iu, if_neg (fun z => by omega)]
    have er : ∀ m, rAr S22 p m = rAr S p m := fun m => by
      unfold rAr; rw [oo, e22]; rfl
    have em : ∀ m : Nat, (m : Int) < (qI S p 2).toInt → swO (rOp S p m) → aTk S22 p m = aTk S p m ∧ mT S22 p m = mT S p m := fun m hm swm => by
      have ea' : aTk S22 p m = aTk S p m := by
        have := er m
        unfold rAr at this
        unfold aTk; rw [this]
      refine ⟨ea', ?_⟩
      unfold mT
      rw [ea', oo, iu, if_neg (fun z => ?_)]
      obtain ⟨b1, b2, b3, b4⟩ := rv.1 m hm swm
      have szm := szT_ge (o := rOp S p m) b2
      have eem : eT S p m = aTk S p m + szT (rOp S p m) (mT S p m) := rfl
      have zz := z.2
      by_cases l1 : m < i.toInt.toNat
      · have := rv.2 m i.toInt.toNat l1 (by omega) swm sw; omega
      · by_cases l2 : i.toInt.toNat < m
        · have := rv.2 i.toInt.toNat m l2 hm sw swm; omega
        · rw [show m = i.toInt.toNat by omega] at zz; omega
    have c2 : qI S22 p 2 = qI S p 2 := by rw [iu, if_neg (fun z => by omega)]
    have c4 : qI S22 p 4 = qI S p 4 := by rw [iu, if_neg (fun z => by omega)]
    exact ⟨⟨ShC.ws w g f (by rw [e22]; rfl) (by rw [e22]; rfl) (by rw [e22]; rfl) rfl rfl, f.1, by rw [e22]; exact rfr.inI (by omega) (by omega)⟩, ⟨c2, c4⟩, eo, rv.same c2 c4 eo em, fun n => rWs_eq n (fun m _ => ⟨eo m, er m⟩), em⟩
  · rw [e8] at c
    have jp := jump1 c
    have q : 0 ≤ i.toInt ∧ i.toInt < (qI S p 2).toInt := by
      by_cases z : 0 ≤ i.toInt ∧ i.toInt < (qI S p 2).toInt
      · exact z
      · rw [e4, rv_op0 z] at jp
        exact absurd jp (by decide)
    have op : a26 = rOp S p i.toInt.toNat := by rw [e26, rv_op q.1 q.2]
    have jp' : (153 ≤ (rOp S p i.toInt.toNat).toInt ∧ (rOp S p i.toInt.toNat).toInt ≤ 167) ∨ (rOp S p i.toInt.toNat).toInt = 198 ∨ (rOp S p i.toInt.toNat).toInt = 199 := by
      rw [← op, e26, ← e4]; exact jp
    refine ⟨_, sp_set8 (Q := fun u => u = wJ (wI S (qO S p 0) i.toInt.toNat a26) (qO S p 1) i.toInt.toNat t.toInt64) w k R (by omega) (fun u _ e => e), fun S28 q28 w28 _ => ?_⟩
    obtain ⟨g28, f28, i28, o28, op28, ar28, tb28, s28⟩ := set_eq w g k q28
    have eo : ∀ m, rOp S28 p m = rOp S p m := fun m => by
      rw [op28]
      split
      · rename_i z; rw [op, z]
      · rfl
    have em : ∀ m : Nat, (m : Int) < (qI S p 2).toInt → swO (rOp S p m) → aTk S28 p m = aTk S p m ∧ mT S28 p m = mT S p m := fun m hm swm => by
      have ne : m ≠ i.toInt.toNat := fun z => by rw [z] at swm; unfold swO at swm; omega
      have ea' : aTk S28 p m = aTk S p m := by
        have := ar28 m
        rw [if_neg ne] at this
        unfold rAr at this
        unfold aTk; rw [this]
      refine ⟨ea', ?_⟩
      unfold mT
      rw [ea', o28, tb28]
    refine ⟨⟨g28, s28, f28⟩, ⟨i28 2, i28 4⟩, eo, rv.same (i28 2) (i28 4) eo em, fun n => rWs_w n (fun m _ => ?_), em⟩
    rw [eo, ar28]
    split
    · rename_i z
      rw [z, rW_n (by omega), rW_n (by omega), aW_j jp', aW_j jp']
    · rfl
end ST
/-! instructions are taken away -/
section RM
variable {B : Nat × Nat} {S u v U : MS} {p : Nat} {x : Int32}
theorem RvK.sw (h : RvK S p) (q : 0 ≤ x.toInt ∧ x.toInt < (qI S p 2).toInt) (sw : swO (rOp S p x.toInt.toNat)) : (fX8_targetCount S p x).toInt = mT S p x.toInt.toNat := by
  have sw' := sw
  rw [← rv_op q.1 q.2] at sw'
  obtain ⟨s1, s2⟩ := sw_isk (S := S) sw'
  obtain ⟨a1, a2, a3, a4⟩ := h.1 x.toInt.toNat (by omega) sw
  have := szT_ge (o := rOp S p x.toInt.toNat) a2
  have e : eT S p x.toInt.toNat = aTk S p x.toInt.toNat + szT (rOp S p x.toInt.toNat) (mT S p x.toInt.toNat) := rfl
  have hl : aTk S p x.toInt.toNat < (qI S p 4).toInt := by omega
  unfold fX8_targetCount
  rw [if_pos s2, if_neg s1]
  unfold mT
  rw [rv_arg q.1 q.2, rv_tab a1 hl]
  rfl
theorem RkE.tc (h : RkE B S u p) (rv : RvK S p) : (fX8_targetCount u p x).toInt = (fX8_targetCount S p x).toInt := by
  obtain ⟨_, ⟨e2, e4⟩, eo, rvu, _, em⟩ := h
  have op : fX8_opAt u p x = fX8_opAt S p x := by
    by_cases q : 0 ≤ x.toInt ∧ x.toInt < (qI S p 2).toInt
    · rw [rv_op q.1 q.2, rv_op q.1 (by rw [e2]; exact q.2), eo]
    · rw [rv_op0 q, rv_op0 (by rw [e2]; exact q)]
  by_cases c : swO (fX8_opAt S p x)
  · have q : 0 ≤ x.toInt ∧ x.toInt < (qI S p 2).toInt := by
      by_cases z : 0 ≤ x.toInt ∧ x.toInt < (qI S p 2).toInt
      · exact z
      · rw [rv_op0 z] at c; exact absurd c (by unfold swO; decide)
    have swS : swO (rOp S p x.toInt.toNat) := by rw [← rv_op q.1 q.2]; exact c
    rw [rv.sw q swS, rvu.sw (by rw [e2]; exact q) (by rw [eo]; exact swS), (em x.toInt.toNat (by omega) swS).2]
  · unfold fX8_targetCount
    rw [op]
    have j : fX6_isJump u (fX8_opAt S p x) = fX6_isJump S (fX8_opAt S p x) := rfl
    have s : (fX6_isSwitch S (fX8_opAt S p x)).toInt = 0 := by
      by_cases z : (fX6_isSwitch S (fX8_opAt S p x)).toInt = 0
      · exact z
      · exact absurd (is_sw z) c
    have s' : (fX6_isSwitch u (fX8_opAt S p x)).toInt = 0 := s
    rw [j, if_pos s', if_pos s]
/-- instructions have moved up -/
def ShfI (B : Nat × Nat) (S : MS) (p i n k : Nat) (U : MS) : Prop := (ShC B U ∧ shx S U ∧ rfr p S U) ∧ (∀ j, qI U p j = qI S p j) ∧ (∀ j, qO U p j = qO S p j) ∧ (∀ j, qI U (qO S p 3) j = qI S (qO S p 3) j) ∧ ∀ m : Nat, rOp U p m = rOp S p (if i ≤ m ∧ m < k then m + n else m) ∧ rAr U p m = rAr S p (if i ≤ m ∧ m < k then m + n else m)
theorem ShfI.nx {i n k : Nat} {y : Int64} (h : ShfI B S p i n k U) (w : wfC U) (kU : qT U p = 47) (hik : i ≤ k) (hn : 0 < n) (e : u = wJ (wI U (qO U p 0) k (rOp U p (k + n))) (qO U p 1) k (rAr U p (k + n))) : ShfI B S p i n (k + 1) u := by
  obtain ⟨⟨h1, h2, h3⟩, h4, h5, h6, h7⟩ := h
  obtain ⟨g, f, i1, o1, op, ar, tb, s⟩ := set_eq w h1 kU e
  rw [h5] at tb
  refine ⟨⟨g, h2.tr s, h3.tr h2 f⟩, fun j => (i1 j).trans (h4 j), fun j => (o1 j).trans (h5 j), fun j => (tb j).trans (h6 j), fun m => ?_⟩
  rw [op, ar]
  by_cases z : m = k
  · rw [if_pos z, if_pos z, (h7 (k + n)).1, (h7 (k + n)).2, if_neg (by omega), if_pos (by omega), z]
    exact ⟨rfl, rfl⟩
  · rw [if_neg z, if_neg z, (h7 m).1, (h7 m).2]
    by_cases y : i ≤ m ∧ m < k
    · rw [if_pos y, if_pos (by omega)]; exact ⟨rfl, rfl⟩
    · rw [if_neg y, if_neg (by omega)]; exact ⟨rfl, rfl⟩
/-- the place where an instruction stood -/
def sig (i n m : Nat) : Nat := if m < i then m else m + n
theorem sig_mo {i n a b : Nat} (h : a < b) : sig i n a < sig i n b := by
  unfold sig; split <;> split <;> omega
/-- what remove leaves -/
def RmQ (B : Nat × Nat) (S : MS) (p i n : Nat) (u : MS) : Prop := (ShC B u ∧ shx S u ∧ rfr p S u) ∧ ((qI u p 2).toInt = (qI S p 2).toInt - n ∧ qI u p 4 = qI S p 4) ∧ RvK u p ∧ rWs u p (qI u p 2).toInt.toNat + (rWs S p (i + n) - rWs S p i) = rWs S p (qI S p 2).toInt.toNat ∧ ∀ m : Nat, (m : Int) < (qI u p 2).toInt → rOp u p m = rOp S p (sig i n m)
theorem sig_k {i n k : Nat} (h : ∀ m : Nat, m < k → rOp u p m = rOp S p (sig i n m) ∧ rAr u p m = rAr S p (sig i n m)) : ∀ m : Nat, m ≤ k → i ≤ m → rWs u p m + (rWs S p (i + n) - rWs S p i) = rWs S p (m + n) := by
  have lo : ∀ m : Nat, m ≤ k → m ≤ i → rWs u p m = rWs S p m := fun m hk hi => rWs_eq m (fun j hj => by
    obtain ⟨a, b⟩ := h j (by omega)
    rw [a, b]
    unfold sig
    rw [if_pos (by omega)]
    exact ⟨rfl, rfl⟩)
  intro m
  induction m with
  | zero =>
    intro _ hz
    rw [show i = 0 by omega]
    show (0 : Int) + (rWs S p (0 + n) - 0) = rWs S p (0 + n)
    omega
  | succ m ih =>
    intro hk hz
    by_cases c : m < i
    · rw [lo (m + 1) hk (by omega), show i = m + 1 by omega]
      omega
    · have a := ih (by omega) (by omega)
      obtain ⟨e1, e2⟩ := h m (by omega)
      rw [rWs_s, e1, e2, show m + 1 + n = m + n + 1 by omega, rWs_s]
      unfold sig
      rw [if_neg c]
      omega
theorem ShfI.cut {i n k : Nat} {S8 : MS} (h : ShfI B S p i n k U) (w : wfC U) (kU : qT U p = 47) (rv : RvK S p) (hk : ((k + n : Nat) : Int) = (qI S p 2).toInt) (hi : i ≤ k) (e : S8 = wI U p 2 ((qI U p 2) - x)) (hx : x.toInt = n) (R2 : (qI S p 2).toInt ≤ 1296) : RmQ B S p i n S8 := by
  obtain ⟨⟨h1, h2, h3⟩, h4, h5, h6, h7⟩ := h
  have R := h1.row kU
  have R' := R.2
  have c2 : (qI S8 p 2).toInt = (qI S p 2).toInt - n := by rw [e, qI_wI, if_pos ⟨rfl, rfl⟩, h4, t_subk (by omega), hx]
  have ng : ((qI U p 2) - x).toInt = (qI S p 2).toInt - n := by rw [h4, t_subk (by omega), hx]
  have i8 : ∀ a j, ¬ (a = p ∧ j = 2) → qI S8 a j = qI U a j := fun a j z => by rw [e, qI_wI, if_neg z]
  have o8 : ∀ j, qO S8 p j = qO S p j := fun j => by
    have : qO S8 p j = qO U p j := by rw [e]; rfl
    rw [this, h5]
  have at' := R.at w kU
  have g8 : ShC B S8 := by
    rw [e]
    refine ShC.cnt w h1 kU (Or.inl ⟨rfl, by omega, ?_⟩)
    rw [h4] at R'
    omega
  have ops : ∀ m : Nat, m < k → rOp S8 p m = rOp S p (sig i n m) ∧ rAr S8 p m = rAr S p (sig i n m) := fun m hm => by
    have e1 : rOp S8 p m = rOp U p m := by
      unfold rOp
      have : qO S8 p 0 = qO U p 0 := by rw [e]; rfl
      rw [this, i8 _ _ (fun z => by rw [at'.1] at z; omega)]
    have e2 : rAr S8 p m = rAr U p m := by unfold rAr; rw [e]; rfl
    rw [e1, e2, (h7 m).1, (h7 m).2]
    unfold sig
    by_cases c : m < i
    · rw [if_pos c, if_neg (by omega)]; exact ⟨rfl, rfl⟩
    · rw [if_neg c, if_pos (by omega)]; exact ⟨rfl, rfl⟩
  have c4 : qI S8 p 4 = qI S p 4 := by rw [i8 _ _ (fun z => absurd z.2 (by decide))]; exact h4 4
  have hsig : ∀ m, m < k → ((sig i n m : Nat) : Int) < (qI S p 2).toInt := fun m hm => by unfold sig; split <;> omega
  have sw8 : ∀ m : Nat, m < k → swO (rOp S8 p m) → swO (rOp S p (sig i n m)) ∧ aTk S8 p m = aTk S p (sig i n m) ∧ mT S8 p m = mT S p (sig i n m) ∧ eT S8 p m = eT S p (sig i n m) := fun m hm sw => by
    obtain ⟨o1, o2⟩ := ops m hm
    have ea : aTk S8 p m = aTk S p (sig i n m) := by unfold rAr at o2; unfold aTk; rw [o2]
    have em : mT S8 p m = mT S p (sig i n m) := by
      unfold mT
      rw [ea, o8, i8 _ _ (fun z => by rw [← h5, at'.2.2.1] at z; omega), h6]
    exact ⟨by rw [← o1]; exact sw, ea, em, by unfold eT; rw [ea, em, o1]⟩
  refine ⟨⟨g8, by rw [e]; exact h2, h3.tr h2 (by rw [e]; exact rfr.inI (Nat.le_refl _) (by omega))⟩, ⟨c2, c4⟩, ⟨fun m hm sw => ?_, fun m m' hl hm s1 s2 => ?_⟩, ?_, fun m hm => (ops m (by omega)).1⟩
  · obtain ⟨s1, s2, s3, s4⟩ := sw8 m (by omega) sw
    rw [s2, s3, s4, c4]
    exact rv.1 _ (hsig m (by omega)) s1
  · obtain ⟨a1, a2, a3, a4⟩ := sw8 m (by omega) s1
    obtain ⟨b1, b2, b3, b4⟩ := sw8 m' (by omega) s2
    rw [a4, b2]
    exact rv.2 _ _ (sig_mo hl) (hsig m' (by omega)) a1 b1
  · have ek : (qI S8 p 2).toInt.toNat = k := by omega
    have sg := sig_k (u := S8) (S := S) (p := p) (i := i) (n := n) ops k (Nat.le_refl _)
    rw [ek, show (qI S p 2).toInt.toNat = k + n by omega]
    exact sg hi
end RM
/-! remove whole -/
section RN
variable {B : Nat × Nat} {S u v U : MS} {p : Nat} {x : Int32}
theorem rm_J232 {Q : MS → Prop} {k138 : MS → Nat → Int32 → Int32 → Int32 → Int32 → Prop} {v1 v2 v3 v4 : Int32} (hk : ∀ a : Int32, a = v4 + Int32.ofInt 1 → k138 U p v1 v2 v3 a) : w_X8_remove_J232 Q k138 U p v1 v2 v3 v4 := by
  unfold w_X8_remove_J232
  exact fun _ _ a ea => hk a ea
theorem rm_L138 {Q : MS → Prop} {v1 v2 : Int32} (hQ : ∀ u : MS, (ShC B u ∧ shx S u ∧ rfr p S u) ∧ rSm S u p → Q u) : ∀ (n : Nat) {U : MS} {v3 v4 : Int32}, CaI B S U p → 0 ≤ v3.toInt → v3.toInt ≤ v4.toInt → v3.toInt ≤ (qI S p 9).toInt → 2147483648 - v4.toInt < n → w_X8_remove_L138 Q n U p v1 v2 v3 v4 := by
  intro n
  induction n with
  | zero => intro U v3 v4 _ _ _ _ hm; have := rgI v4; omega
  | succ n ih =>
    intro U v3 v4 c h0 h1 h2 hm
    have k := c.1.2.1
    have R := c.1.1.row k
    have R2 := R.2
    rw [c.2.2] at R2
    have hc9 : (qI S p 9).toInt ≤ 16 := by omega
    unfold w_X8_remove_L138
    intro w _
    obtain ⟨e0, e1, e3, e5, e6, e7, e8⟩ := R.at w k
    have kd := R.kd w k
    rw [c.2.2]
    refine ⟨fun d S11 e11 k11 w11 => ?_, fun d => ⟨R.1.2.2.2.1, by omega, dd_X8_behindRemoved, fun a19 _ => ⟨R.1.2.2.2.2.1, by omega, dd_X8_behindRemoved, fun a27 _ => ⟨fun _ => rm_J232 (fun a ea => ?_), fun _ => ⟨R.1.2.2.2.1, by omega, fun S33 e33 k33 w33 => ?_⟩⟩⟩⟩⟩
    · have f : cfr [] [(47, 9)] U S11 := by rw [e11]; exact cfr.oI k11 rfl
      refine hQ S11 ⟨⟨?_, c.1.2.2.1.tr f.1, c.1.2.2.2.tr c.1.2.2.1 (by rw [e11]; exact rfr.inI (Nat.le_refl _) (by omega))⟩, c.2.1.tr (rSm.fr w k R f rfl rfl rfl)⟩
      rw [e11]
      exact ShC.cnt w c.1.1 k (Or.inr (Or.inr ⟨rfl, h0, by omega⟩))
    · have e := t_inc ea (by omega)
      exact ih c h0 (by omega) h2 (by omega)
    · rw [e5] at e33
      have c33 := c.w w e33 kd.2.2.2.1 (by omega) (by omega)
      have k' := c33.1.2.1
      have R33 := c33.1.1.row k'
      have Q33 := R33.2
      rw [c33.2.2] at Q33
      obtain ⟨_, _, _, p5, p6, p7, p8⟩ := R33.at w33 k'
      have kd33 := R33.kd w33 k'
      refine ⟨R33.1.2.2.2.2.1, by omega, fun S37 e37 k37 w37 => ?_⟩
      rw [p6] at e37
      have c37 := c33.w w33 e37 kd33.2.2.2.2.1 (by omega) (by omega)
      have k'' := c37.1.2.1
      have R37 := c37.1.1.row k''
      have Q37 := R37.2
      rw [c37.2.2] at Q37
      obtain ⟨_, _, _, _, _, q7, q8⟩ := R37.at w37 k''
      have kd37 := R37.kd w37 k''
      clear R2 Q33
      refine ⟨R37.1.2.2.2.2.2.1, R37.1.2.2.2.2.2.1, by omega, dd_X8_behindRemoved, fun a47 _ => ⟨by omega, fun S49 e49 k49 w49 => ?_⟩⟩
      rw [q7] at e49
      have c49 := c37.w w37 e49 kd37.2.2.2.2.2.1 (by omega) (by omega)
      have k3 := c49.1.2.1
      have R49 := c49.1.1.row k3
      have Q49 := R49.2
      rw [c49.2.2] at Q49
      obtain ⟨_, _, _, _, _, _, s8⟩ := R49.at w49 k3
      have kd49 := R49.kd w49 k3
      clear Q37
      refine ⟨R49.1.2.2.2.2.2.2, R49.1.2.2.2.2.2.2, by omega, by omega, fun S57 e57 k57 w57 a58 e58 => ?_⟩
      rw [s8] at e57
      have c57 := c49.w w49 e57 kd49.2.2.2.2.2.2 (by omega) (by omega)
      clear Q49
      refine rm_J232 (fun a ea => ?_)
      have e := t_inc ea (by omega)
      have e' := t_inc e58 (by omega)
      exact ih c57 (by omega) (by omega) (by omega) (by omega)
theorem rm_L95 {Q : MS → Prop} {k77 : MS → Nat → Int32 → Int32 → Int32 → Prop} {v1 v2 v3 v4 : Int32} (rv : RvK S p) (h4 : v4.toInt = (fX8_targetCount S p v3).toInt) (hk : ∀ (V : MS) (a : Int32), RkE B S V p → a = v3 + Int32.ofInt 1 → k77 V p v1 v2 a) : ∀ (n : Nat) {U : MS} {v5 : Int32}, RkE B S U p → 0 ≤ v5.toInt → 2147483648 - v5.toInt < n → w_X8_remove_L95 Q k77 n U p v1 v2 v3 v4 v5 := by
  intro n
  induction n with
  | zero => intro U v5 _ _ hm; have := rgI v5; omega
  | succ n ih =>
    intro U v5 h h0 hm
    unfold w_X8_remove_L95
    intro w k
    refine ⟨fun _ a ea => hk U a h ea, fun c => ⟨dd_X8_targetAt w h.1.1 k, fun a68 _ => ⟨dd_X8_behindRemoved, fun a72 _ _ => ⟨_, sp_setTarget w h.1.1 k h.2.2.2.1 ⟨h0, by rw [h.tc rv]; omega⟩, fun S74 q w74 s74 a76 ea => ?_⟩⟩⟩⟩
    have r4 := rgI v4
    have e := t_inc ea (by omega)
    exact ih (h.tr q) (by omega) (by omega)
theorem rm_L77 {Q : MS → Prop} {v1 v2 : Int32} (rv : RvK S p) (hQ : ∀ V : MS, wfC V → RkE B S V p → ∃ n, w_X8_remove_L138 Q n V p v1 v2 0 0) : ∀ (n : Nat) {U : MS} {v3 : Int32}, RkE B S U p → 2147483648 - v3.toInt < n → w_X8_remove_L77 Q n U p v1 v2 v3 := by
  intro n
  induction n with
  | zero => intro U v3 _ hm; have := rgI v3; omega
  | succ n ih =>
    intro U v3 h hm
    unfold w_X8_remove_L77
    intro w k
    refine ⟨fun _ => hQ U w h, fun c => ⟨dd_X8_targetCount w h.1.1 k, fun a62 e62 => ⟨2147483649, rm_L95 rv (by rw [e62, h.tc rv]) (fun V a hV ea => ?_) _ h (by decide) (by rw [li_0k]; decide)⟩⟩⟩
    have rc := rgI (qI U p 2)
    have e := t_inc ea (by omega)
    exact ih hV (by omega)
theorem rm_L21 {Q : MS → Prop} {v1 v2 : Int32} {i n : Nat} (rv : RvK S p) (hc : (qI S p 2).toInt ≤ 1296) (h1 : v1.toInt = i) (h2 : v2.toInt = n ∧ 0 < n ∧ n ≤ 3) (hin : ((i + n : Nat) : Int) ≤ (qI S p 2).toInt) (hQ : ∀ S8 : MS, wfC S8 → qT S8 p = 47 → RmQ B S p i n S8 → ∃ m, w_X8_remove_L77 Q m S8 p v1 v2 0) : ∀ (N k : Nat) {U : MS} {v3 : Int32}, ShfI B S p i n k U → v3.toInt = k → i ≤ k → ((k + n : Nat) : Int) ≤ (qI S p 2).toInt → 2000 - (k : Int) < N → w_X8_remove_L21 Q N U p v1 v2 v3 := by
  intro N
  induction N with
  | zero => intro k U v3 _ _ _ hk hm; omega
  | succ N ih =>
    intro k U v3 h e3 hik hk hm
    unfold w_X8_remove_L21
    intro w kp
    have R := h.1.1.row kp
    have R2 := R.2
    have e2 : qI U p 2 = qI S p 2 := h.2.1 2
    have es : (v3 + v2).toInt = k + n := by rw [t_addk (by omega)]; omega
    rw [es]
    refine ⟨fun c S8 e8 k8 w8 => ?_, fun c => ?_⟩
    · have z : ((k + n : Nat) : Int) = (qI S p 2).toInt := by rw [e2] at c; omega
      exact hQ S8 w8 (by rw [e8]; exact kp) (h.cut w kp rv z hik e8 (by omega) hc)
    · rw [e2] at R2 c
      have nk : (((k : Int) + n)).toNat = k + n := by omega
      have n3 : v3.toInt.toNat = k := by omega
      rw [nk, n3]
      refine ⟨R.1.1, R.1.1, by omega, by omega, fun S85 e85 k85 w85 => ?_⟩
      have r85 : qR S85 p 1 = some (qO S85 p 1) := by rw [e85]; exact R.1.2.1
      have l85 : (qN S85 (qO S85 p 1) : Int) = (qN U (qO U p 1) : Int) := by rw [e85]; rfl
      refine ⟨r85, r85, by omega, by omega, fun S94 e94 k94 w94 a95 ea => ?_⟩
      have e := t_inc ea (by omega)
      have nx := h.nx (y := 0) w kp hik h2.2.1 (u := S94) (by
        rw [e94, e85]
        rfl)
      exact ih (k + 1) nx (by omega) (by omega) (by omega) (by omega)
/-- remove, with what becomes of the Row -/
theorem sp_remove {i n : Int32} (w : wfC S) (g : ShC B S) (k : qT S p = 47) (rv : RvK S p) (hn : 1 ≤ n.toInt ∧ n.toInt ≤ 3) (hi : 0 ≤ i.toInt ∧ i.toInt + n.toInt ≤ (qI S p 2).toInt) : wX8_remove S p i n (fun u => RmQ B S p i.toInt.toNat n.toInt.toNat u) := by
  have R2 := (g.row k).2
  have es : (i + n).toInt = i.toInt + n.toInt := t_addk (by omega)
  unfold wX8_remove
  refine ⟨fun c => by omega, fun _ => ⟨fun c => by omega, fun _ => ⟨fun _ => ⟨2001, ?_⟩, fun c => by omega⟩⟩⟩
  refine rm_L21 (i := i.toInt.toNat) (n := n.toInt.toNat) rv (by omega) (by omega) ⟨by omega, by omega, by omega⟩ (by omega) (fun S8 w8 k8 q8 => ⟨2147483649, ?_⟩) _ i.toInt.toNat ⟨⟨g, shx.rf, rfr.rf⟩, fun _ => rfl, fun _ => rfl, fun _ => rfl, fun m => by rw [if_neg (by omega)]; exact ⟨rfl, rfl⟩⟩ (by omega) (Nat.le_refl _) (by omega) (by omega)
  refine rm_L77 q8.2.2.1 (fun V wV hV => ⟨2147483649, ?_⟩) _ (RkE.rf q8.1.1 q8.2.2.1) (by rw [li_0k]; decide)
  have kV : qT V p = 47 := hV.1.2.1.T k8 (by decide)
  have RV := (hV.1.1.row kV).2
  refine rm_L138 (B := B) (S := V) (p := p) (v1 := i) (v2 := n) (fun u hu => ?_) 2147483649 (U := V) (v3 := 0) (v4 := 0) ⟨⟨hV.1.1, kV, shx.rf, rfr.rf⟩, rSm.rf, rfl⟩ (by decide) (by decide) (by rw [li_0k]; omega) (by rw [li_0k]; decide)
  obtain ⟨⟨u1, u2, u3⟩, m⟩ := hu
  obtain ⟨⟨a1, a2, a3⟩, ⟨b1, b2⟩, c, d, e⟩ := q8
  obtain ⟨⟨v1, v2, v3⟩, ⟨x1, x2⟩, xo, xr, xw, _⟩ := hV
  refine ⟨⟨u1, (a2.tr v2).tr u2, (a3.tr a2 v3).tr (a2.tr v2) u3⟩, ⟨by rw [m.1.1, x1]; exact b1, by rw [m.1.2, x2]; exact b2⟩, xr.mv m, by rw [m.1.1, m.xW, x1, xw]; exact d, fun j hj => ?_⟩
  rw [m.xOp, xo]
  exact e j (by rw [m.1.1, x1] at hj; exact hj)
end RN
/-! Smith's Row grows no heavier -/
section SL
variable {B : Nat × Nat} {S u v U : MS} {p : Nat} {x : Int32}
/-- no longer, no heavier, its switches in order; other Rows as they were -/
def SmL (B : Nat × Nat) (S u : MS) (p : Nat) : Prop := (ShC B u ∧ shx S u ∧ rfr p S u) ∧ ((qI u p 2).toInt ≤ (qI S p 2).toInt ∧ qI u p 4 = qI S p 4) ∧ RvK u p ∧ rWs u p (qI u p 2).toInt.toNat ≤ rWs S p (qI S p 2).toInt.toNat
theorem SmL.rf (g : ShC B S) (rv : RvK S p) : SmL B S S p := ⟨⟨g, shx.rf, rfr.rf⟩, ⟨Int.le_refl _, rfl⟩, rv, Int.le_refl _⟩
theorem SmL.tr (h : SmL B S u p) (k : SmL B u v p) : SmL B S v p := by
  obtain ⟨⟨h1, h2, h3⟩, ⟨h4, h5⟩, h6, h7⟩ := h
  obtain ⟨⟨k1, k2, k3⟩, ⟨k4, k5⟩, k6, k7⟩ := k
  exact ⟨⟨k1, h2.tr k2, h3.tr h2 k3⟩, ⟨Int.le_trans k4 h4, k5.trans h5⟩, k6, Int.le_trans k7 h7⟩
/-- other things are written -/
theorem SmL.sm (g : ShC B u) (s : shx S u) (f : rfr p S u) (m : rSm S u p) (rv : RvK S p) : SmL B S u p := ⟨⟨g, s, f⟩, ⟨by rw [m.1.1]; exact Int.le_refl _, m.1.2⟩, rv.mv m, by rw [m.1.1, m.xW]; exact Int.le_refl _⟩
theorem RkE.sl (h : RkE B S u p) : SmL B S u p := by
  obtain ⟨h1, ⟨h2, h3⟩, _, h5, h6, _⟩ := h
  exact ⟨h1, ⟨by rw [h2]; exact Int.le_refl _, h3⟩, h5, by rw [h2, h6]; exact Int.le_refl _⟩
theorem rWs_mo {i : Nat} : ∀ n : Nat, rWs S p i ≤ rWs S p (i + n) := by
  intro n
  induction n with
  | zero => exact Int.le_refl _
  | succ n ih =>
    have := (rW_rg (o := (rOp S p (i + n)).toInt) (a := rAr S p (i + n))).1
    have e : rWs S p (i + (n + 1)) = rWs S p (i + n) + rW (rOp S p (i + n)).toInt (rAr S p (i + n)) := rfl
    omega
theorem RmQ.sl {i n : Nat} (h : RmQ B S p i n u) : SmL B S u p := by
  obtain ⟨h1, ⟨h2, h3⟩, h4, h5, _⟩ := h
  have := rWs_mo (S := S) (p := p) (i := i) n
  exact ⟨h1, ⟨by omega, h3⟩, h4, by omega⟩
/-- one instruction is another -/
def StP (B : Nat × Nat) (S u : MS) (p i : Nat) (x : Int32) (y : Int64) : Prop := (ShC B u ∧ shx S u ∧ rfr p S u) ∧ (∀ j, qI u p j = qI S p j) ∧ RvK u p ∧ (∀ k : Nat, i < k → rWs u p k + rW (rOp S p i).toInt (rAr S p i) = rWs S p k + rW x.toInt y) ∧ qO u 66 0 = qO S 66 0
theorem st_one {i : Nat} {y : Int64} (w : wfC S) (g : ShC B S) (k : qT S p = 47) (rv : RvK S p) (no : ¬ swO (rOp S p i)) (nn : ¬ swO x) (e : u = wJ (wI S (qO S p 0) i x) (qO S p 1) i y) : StP B S u p i x y := by
  obtain ⟨g1, f1, i1, o1, op1, ar1, tb1, s1⟩ := set_eq w g k e
  have ne : ∀ m, swO (rOp u p m) → m ≠ i := fun m sw z => by rw [op1, if_pos z] at sw; exact nn sw
  have sm : ∀ m, swO (rOp u p m) → swO (rOp S p m) ∧ aTk u p m = aTk S p m ∧ mT u p m = mT S p m ∧ eT u p m = eT S p m := fun m sw => by
    have n := ne m sw
    have eo : rOp u p m = rOp S p m := by rw [op1, if_neg n]
    have ea : aTk u p m = aTk S p m := by
      have := ar1 m
      rw [if_neg n] at this
      unfold rAr at this
      unfold aTk; rw [this]
    have em : mT u p m = mT S p m := by unfold mT; rw [ea, o1, tb1]
    exact ⟨by rw [← eo]; exact sw, ea, em, by unfold eT; rw [ea, em, eo]⟩
  refine ⟨⟨g1, s1, f1⟩, i1, ⟨fun m hm sw => ?_, fun m m' hl hm a b => ?_⟩, ?_, by rw [e]; rfl⟩
  · obtain ⟨a1, a2, a3, a4⟩ := sm m sw
    rw [a2, a3, a4, i1]
    exact rv.1 m (by rw [i1] at hm; exact hm) a1
  · obtain ⟨a1, a2, a3, a4⟩ := sm m a
    obtain ⟨b1, b2, b3, b4⟩ := sm m' b
    rw [a4, b2]
    exact rv.2 m m' hl (by rw [i1] at hm; exact hm) a1 b1
  · have lo : ∀ k : Nat, k ≤ i → rWs u p k = rWs S p k := fun k hk => rWs_eq k (fun j hj => ⟨by rw [op1, if_neg (by omega)], by rw [ar1, if_neg (by omega)]⟩)
    intro k
    induction k with
    | zero => intro h; omega
    | succ k ih =>
      intro h
      rw [rWs_s, rWs_s]
      by_cases z : k = i
      · rw [op1, ar1, if_pos z, if_pos z, lo k (by omega), z]; omega
      · have := ih (by omega)
        rw [op1, ar1, if_neg z, if_neg z]; omega
/-- .. and those behind it are gone -/
theorem StP.rm {i n : Nat} {y : Int64} (h : StP B S u p i x y) (r : RmQ B u p (i + 1) n v) (hc : ((i + 1 + n : Nat) : Int) ≤ (qI S p 2).toInt) (hw : rW x.toInt y ≤ rW (rOp S p i).toInt (rAr S p i) + (rWs S p (i + 1 + n) - rWs S p (i + 1))) : SmL B S v p := by
  obtain ⟨⟨h1, h2, h3⟩, h4, h5, h6, _⟩ := h
  obtain ⟨⟨r1, r2, r3⟩, ⟨r4, r5⟩, r6, r7, _⟩ := r
  rw [h4] at r4 r5 r7
  have a := h6 (i + 1) (by omega)
  have b := h6 (i + 1 + n) (by omega)
  have c := h6 (qI S p 2).toInt.toNat (by omega)
  exact ⟨⟨r1, h2.tr r2, h3.tr h2 r3⟩, ⟨by omega, r5⟩, r6, by omega⟩
theorem rW_p {o : Int} {a : Int64} (h : o = 17 ∨ o = 20) : 3 ≤ rW o a ∧ rW o a ≤ 6 := by
  unfold rW
  have := aW_6 (o := o) (a := a) (by omega)
  by_cases c : o = 20
  · rw [if_pos c]; split <;> omega
  · rw [if_neg c]
    refine ⟨?_, this⟩
    rw [show o = 17 by omega]
    unfold aW
    repeat' split
    all_goals omega
theorem pk_op (h : ¬ (fX9_pushKind S x).toInt = 0) : (fX8_opAt S (qO S 66 0) x).toInt = 17 ∨ (fX8_opAt S (qO S 66 0) x).toInt = 20 := by
  unfold fX9_pushKind at h
  by_cases a : (fX8_opAt S (qO S 66 0) x).toInt = 17
  · exact Or.inl a
  · rw [if_neg a] at h
    by_cases b : (fX8_opAt S (qO S 66 0) x).toInt = 20
    · exact Or.inr b
    · rw [if_neg b, li_0k] at h; exact absurd rfl h
theorem wn_of {n : Int32} (h : ¬ (fX9_isWindow S x n).toInt = 0) : 0 ≤ x.toInt ∧ (x + n).toInt < (qI S (qO S 66 0) 2).toInt := by
  unfold fX9_isWindow at h
  by_cases a : x.toInt < 0
  · rw [if_pos a, li_0k] at h; exact absurd rfl h
  · rw [if_neg a] at h
    by_cases b : (x + n).toInt < (qI S (qO S 66 0) 2).toInt
    · exact ⟨by omega, b⟩
    · rw [if_neg b, li_0k] at h; exact absurd rfl h
/-- an instruction is set, in Smith's Row -/
theorem sp_set9 {i : Int32} {y : Int64} (w : wfC S) (g : ShC B S) (k : qT S p = 47) (rv : RvK S p) (hi : 0 ≤ i.toInt ∧ i.toInt < (qI S p 2).toInt) (no : ¬ swO (rOp S p i.toInt.toNat)) (nn : ¬ swO x) : wX8_set S p i x y (fun u => StP B S u p i.toInt.toNat x y) := by
  have R := g.row k
  have R2 := R.2
  exact sp_set8 w k R (by omega) (fun u _ e => st_one w g k rv no nn e)
theorem sp_isDropped {i n : Int32} (w : wfC S) (g : ShC B S) (rv : RvK S (qO S 66 0)) (hn : 1 ≤ n.toInt ∧ n.toInt ≤ 3) (hi : 0 ≤ i.toInt ∧ i.toInt + n.toInt ≤ (qI S (qO S 66 0) 2).toInt) : wX9_isDropped S i n (fun _ u => SmL B S u (qO S 66 0)) := by
  unfold wX9_isDropped
  exact fun k => ⟨_, sp_remove w g k rv hn hi, fun S3 q _ _ => q.sl⟩
theorem sp_putPush {i k : Int32} {y : Int64} (w : wfC S) (g : ShC B S) (rv : RvK S (qO S 66 0)) (hi : 0 ≤ i.toInt ∧ i.toInt < (qI S (qO S 66 0) 2).toInt) (no : ¬ swO (rOp S (qO S 66 0) i.toInt.toNat)) : wX9_putPush S i k y (fun u => ∃ x : Int32, (x.toInt = 17 ∨ x.toInt = 20) ∧ StP B S u (qO S 66 0) i.toInt.toNat x y) := by
  unfold wX9_putPush
  refine ⟨fun _ kp => ⟨_, sp_set9 w g kp rv hi no (by unfold swO; decide), fun S7 q _ _ => ⟨_, Or.inr (by decide), q⟩⟩, fun _ kp => ⟨_, sp_set9 w g kp rv hi no (by unfold swO; decide), fun S4 q _ _ => ⟨_, Or.inl (by decide), q⟩⟩⟩
end SL
/-! Smith's rules -/
section SR
variable {B : Nat × Nat} {S u v U : MS} {x : Int32}
theorem k66 (w : wfC S) : qT S (qO S 66 0) = 47 := w.ref (w.ptr ptrC_39) (w.2.1 _ finC_31).2.1
theorem StP.sl {p i : Nat} {y : Int64} (h : StP B S u p i x y) (hc : (i : Int) < (qI S p 2).toInt) (hw : rW x.toInt y ≤ rW (rOp S p i).toInt (rAr S p i)) : SmL B S u p := by
  obtain ⟨h1, h4, h5, h6, _⟩ := h
  have c := h6 (qI S p 2).toInt.toNat (by omega)
  exact ⟨h1, ⟨by rw [h4]; exact Int.le_refl _, h4 4⟩, h5, by rw [h4]; omega⟩
theorem ird_J117 {Q : Int32 → MS → Prop} {k11 : MS → Int32 → Int32 → Int32 → Prop} {v1 v2 v3 : Int32} (hk : ∀ a : Int32, a = v3 + Int32.ofInt 1 → k11 S v1 v2 a) : w_X9_isRedirected_J117 Q k11 S v1 v2 v3 := by
  unfold w_X9_isRedirected_J117
  exact fun _ a ea => hk a ea
theorem ird_J75 {k11 : MS → Int32 → Int32 → Int32 → Prop} {v1 v2 v3 v4 : Int32} (g : ShC B S) (rv : RvK S (qO S 66 0)) (hj : 0 ≤ v3.toInt ∧ v3.toInt < (fX8_targetCount S (qO S 66 0) v1).toInt) (hk : ∀ a : Int32, a = v3 + Int32.ofInt 1 → k11 S v1 v2 a) : w_X9_isRedirected_J75 (fun _ u => SmL B S u (qO S 66 0)) k11 S v1 v2 v3 v4 := by
  unfold w_X9_isRedirected_J75
  intro w
  have k := k66 w
  exact ⟨dd_X8_targetAt w g k, fun _ => ird_J117 hk, fun _ => ⟨dd_X8_opAt w g k, fun _ => ird_J117 hk, fun _ k' => ⟨_, sp_setTarget w g k' rv hj, fun S29 q _ _ => q.sl⟩⟩⟩
theorem ird_L30 {k11 : MS → Int32 → Int32 → Int32 → Prop} {v1 v2 v3 : Int32} (g : ShC B S) (rv : RvK S (qO S 66 0)) (hj : 0 ≤ v3.toInt ∧ v3.toInt < (fX8_targetCount S (qO S 66 0) v1).toInt) (hk : ∀ a : Int32, a = v3 + Int32.ofInt 1 → k11 S v1 v2 a) : ∀ (n : Nat) {v4 v5 : Int32}, 2147483648 - v5.toInt < n → w_X9_isRedirected_L30 (fun _ u => SmL B S u (qO S 66 0)) k11 n S v1 v2 v3 v4 v5 := by
  intro n
  induction n with
  | zero => intro v4 v5 hm; have := rgI v5; omega
  | succ n ih =>
    intro v4 v5 hm
    unfold w_X9_isRedirected_L30
    intro w
    have k := k66 w
    have R2 := (g.row k).2
    refine ⟨dd_X8_opAt w g k, fun _ => ⟨fun _ => ird_J75 g rv hj hk, fun c => ⟨dd_X8_targetAt w g k, fun a38 _ a39 ea => ?_⟩⟩, fun _ => ird_J75 g rv hj hk⟩
    have e := t_inc ea (by omega)
    exact ih (by omega)
theorem ird_L11 {v1 v2 : Int32} (g : ShC B S) (rv : RvK S (qO S 66 0)) (h2 : v2 = fX8_targetCount S (qO S 66 0) v1) : ∀ (n : Nat) {v3 : Int32}, 0 ≤ v3.toInt → 2147483648 - v3.toInt < n → w_X9_isRedirected_L11 (fun _ u => SmL B S u (qO S 66 0)) n S v1 v2 v3 := by
  intro n
  induction n with
  | zero => intro v3 _ hm; have := rgI v3; omega
  | succ n ih =>
    intro v3 h0 hm
    unfold w_X9_isRedirected_L11
    intro w
    have k := k66 w
    refine ⟨fun _ => SmL.rf g rv, fun c => ⟨dd_X8_targetAt w g k, fun a11 _ => ⟨2147483649, ird_L30 g rv ⟨h0, by rw [← h2]; omega⟩ (fun a ea => ?_) _ (by rw [li_0k]; decide)⟩⟩⟩
    have r := rgI v2
    have e := t_inc ea (by omega)
    exact ih (by omega) (by omega)
theorem sp_isRedirected {i : Int32} (w : wfC S) (g : ShC B S) (rv : RvK S (qO S 66 0)) : wX9_isRedirected S i (fun _ u => SmL B S u (qO S 66 0)) := by
  unfold wX9_isRedirected
  exact ⟨dd_X8_targetCount w g (k66 w), fun a5 e5 => ⟨2147483649, ird_L11 g rv e5 _ (by decide) (by rw [li_0k]; decide)⟩⟩
theorem no_sw {o : Int32} (h : ¬ (o.toInt = 170 ∨ o.toInt = 171)) : ¬ swO o := h
/-- a push, and what stands behind it, become one push -/
theorem sp_fold {Q : Int32 → MS → Prop} {i n kd : Int32} {y : Int64} (w : wfC S) (g : ShC B S) (rv : RvK S (qO S 66 0)) (hn : 1 ≤ n.toInt ∧ n.toInt ≤ 2) (hi : 0 ≤ i.toInt ∧ i.toInt + n.toInt + 1 < (qI S (qO S 66 0) 2).toInt) (hp : (fX8_opAt S (qO S 66 0) i).toInt = 17 ∨ (fX8_opAt S (qO S 66 0) i).toInt = 20) (h3 : 3 ≤ rW (rOp S (qO S 66 0) (i.toInt.toNat + 1)).toInt (rAr S (qO S 66 0) (i.toInt.toNat + 1))) (hQ : ∀ v : MS, SmL B S v (qO S 66 0) → Q 1 v) : ∃ Q67, wX9_putPush S i kd y Q67 ∧ ∀ S68, Q67 S68 → wfC S68 → shy S S68 → (qT S68 (qO S68 66 0) = 47 → (∃ Q72, wX8_remove S68 (qO S68 66 0) (i + (1 : Int32)) n Q72 ∧ ∀ S73, Q72 S73 → wfC S73 → shy S68 S73 → Q (1 : Int32) S73)) := by
  have R2 := (g.row (k66 w)).2
  rw [rv_op hi.1 (by omega)] at hp
  refine ⟨_, sp_putPush w g rv (by omega) (no_sw (by omega)), fun S68 q68 w68 _ k68 => ?_⟩
  obtain ⟨x, hx, st⟩ := q68
  have e : qO S68 66 0 = qO S 66 0 := st.2.2.2.2
  have c2 : qI S68 (qO S 66 0) 2 = qI S (qO S 66 0) 2 := st.2.1 2
  have e1 : (i + (1 : Int32)).toInt = i.toInt + 1 := by rw [t_addk (by rw [li_1k]; omega), li_1k]
  rw [e] at k68 ⊢
  refine ⟨_, sp_remove w68 st.1.1 k68 st.2.2.1 (by omega) (by rw [c2, e1]; omega), fun S73 q73 _ _ => hQ S73 ?_⟩
  rw [show (i + (1 : Int32)).toInt.toNat = i.toInt.toNat + 1 by omega] at q73
  refine st.rm q73 (by omega) ?_
  have a := (rW_p (a := y) hx).2
  have b := (rW_p (a := rAr S (qO S 66 0) i.toInt.toNat) hp).1
  have c := rWs_mo (S := S) (p := qO S 66 0) (i := i.toInt.toNat + 1 + 1) (n.toInt.toNat - 1)
  rw [show i.toInt.toNat + 1 + 1 + (n.toInt.toNat - 1) = i.toInt.toNat + 1 + n.toInt.toNat by omega] at c
  have d : rWs S (qO S 66 0) (i.toInt.toNat + 1 + 1) = rWs S (qO S 66 0) (i.toInt.toNat + 1) + rW (rOp S (qO S 66 0) (i.toInt.toNat + 1)).toInt (rAr S (qO S 66 0) (i.toInt.toNat + 1)) := rfl
  omega
theorem fo_J91 {i o : Int32} (g : ShC B S) (rv : RvK S (qO S 66 0)) (hi : 0 ≤ i.toInt ∧ i.toInt + 3 < (qI S (qO S 66 0) 2).toInt) (hp : (fX8_opAt S (qO S 66 0) i).toInt = 17 ∨ (fX8_opAt S (qO S 66 0) i).toInt = 20) (hp' : (fX8_opAt S (qO S 66 0) (i + 1)).toInt = 17 ∨ (fX8_opAt S (qO S 66 0) (i + 1)).toInt = 20) : w_X9_isFolded_J91 (fun _ u => SmL B S u (qO S 66 0)) S i o := by
  unfold w_X9_isFolded_J91
  intro w
  have k := k66 w
  have R2 := (g.row k).2
  have e1 : (i + (1 : Int32)).toInt = i.toInt + 1 := by rw [t_addk (by rw [li_1k]; omega), li_1k]
  rw [rv_op (by omega) (by omega), show (i + (1 : Int32)).toInt.toNat = i.toInt.toNat + 1 by omega] at hp'
  exact ⟨dd_X6_gives, fun a51 _ => ⟨dd_X8_argAt w g k, fun a56 _ => ⟨dd_X8_argAt w g k, fun a62 _ => ⟨dd_X6_binary w g, fun a66 _ => sp_fold (Q := fun _ u => SmL B S u (qO S 66 0)) (n := 2) w g rv (by decide) (by rw [li_2k]; omega) hp (rW_p hp').1 (fun v h => h)⟩⟩⟩⟩
theorem sp_isFolded {i : Int32} (w : wfC S) (g : ShC B S) (rv : RvK S (qO S 66 0)) (hi : i.toInt ≤ 50000) : wX9_isFolded S i (fun _ u => SmL B S u (qO S 66 0)) := by
  have k := k66 w
  have rf : SmL B S S (qO S 66 0) := SmL.rf g rv
  have e3 : 0 ≤ i.toInt → (i + (3 : Int32)).toInt = i.toInt + 3 := fun h => by rw [t_addk (by rw [li_3k]; omega), li_3k]
  unfold wX9_isFolded
  refine ⟨dd_X8_opAt w g k, fun a6 _ => ⟨dd_X6_isBinary, fun a10 _ => ⟨fun _ => rf, fun _ => ⟨dd_X9_pushKind w g, fun a15 e15 => ⟨fun _ => rf, fun c15 => ⟨dd_X9_pushKind w g, fun a21 e21 => ⟨fun _ => rf, fun c21 => ⟨dd_X9_isWindow w g (by decide) (by decide) (by omega), fun a26 e26 => ⟨fun _ => rf, fun c26 => ?_⟩⟩⟩⟩⟩⟩⟩⟩⟩
  rw [e15] at c15
  rw [e21] at c21
  rw [e26] at c26
  obtain ⟨w1, w2⟩ := wn_of c26
  have J : w_X9_isFolded_J91 (fun _ u => SmL B S u (qO S 66 0)) S i a6 := fo_J91 g rv ⟨w1, by rw [e3 w1] at w2; exact w2⟩ (pk_op c15) (pk_op c21)
  exact ⟨dd_X6_takes, fun a31 _ => ⟨dd_X9_pushKind w g, fun a35 _ => ⟨dd_X9_pushKind w g, fun a41 _ => ⟨fun _ => ⟨dd_X6_isDivision, fun a47 _ => ⟨fun _ => J, fun _ => ⟨dd_X8_argAt w g k, fun a81 _ => ⟨fun _ => rf, fun _ => J⟩⟩⟩⟩, fun _ => rf⟩⟩⟩⟩
theorem stTK_u : ∀ k : Nat, k < 202 → (k = 116 ∨ k = 117 ∨ k = 133 ∨ k = 136 ∨ (145 ≤ k ∧ k ≤ 147)) → ¬ (stTK.getD k 0).toInt = 0 := by decide +kernel
theorem un_of (h : ¬ (fX6_isUnary S x).toInt = 0) : x.toInt = 116 ∨ x.toInt = 117 ∨ x.toInt = 133 ∨ x.toInt = 136 ∨ (145 ≤ x.toInt ∧ x.toInt ≤ 147) := by
  by_cases a : x.toInt = 116 ∨ x.toInt = 117 ∨ x.toInt = 133 ∨ x.toInt = 136 ∨ (145 ≤ x.toInt ∧ x.toInt ≤ 147)
  · exact a
  · unfold fX6_isUnary at h
    rw [if_neg (by omega), if_neg (by omega), if_neg (by omega), if_neg (by omega)] at h
    by_cases b : x.toInt < 145
    · rw [if_pos b] at h; exact absurd rfl h
    · rw [if_neg b, if_pos (by omega)] at h; exact absurd rfl h
theorem tk_u (h : x.toInt = 116 ∨ x.toInt = 117 ∨ x.toInt = 133 ∨ x.toInt = 136 ∨ (145 ≤ x.toInt ∧ x.toInt ≤ 147)) : ¬ (fX6_takes S x).toInt = 0 := by
  unfold fX6_takes
  rw [if_neg (by omega), if_pos (by omega)]
  exact stTK_u _ (by omega) (by omega)
theorem sp_isUnaryFolded {i : Int32} (w : wfC S) (g : ShC B S) (rv : RvK S (qO S 66 0)) (hi : i.toInt ≤ 50000) : wX9_isUnaryFolded S i (fun _ u => SmL B S u (qO S 66 0)) := by
  have k := k66 w
  have R2 := (g.row k).2
  have rf : SmL B S S (qO S 66 0) := SmL.rf g rv
  have e2 : 0 ≤ i.toInt → (i + (2 : Int32)).toInt = i.toInt + 2 := fun h => by rw [t_addk (by rw [li_2k]; omega), li_2k]
  have e1 : 0 ≤ i.toInt → (i + (1 : Int32)).toInt = i.toInt + 1 := fun h => by rw [t_addk (by rw [li_1k]; omega), li_1k]
  unfold wX9_isUnaryFolded
  refine ⟨dd_X8_opAt w g k, fun a6 e6 => ⟨dd_X6_isUnary, fun a10 e10 => ⟨fun _ => rf, fun c10 => ⟨dd_X9_pushKind w g, fun a15 e15 => ⟨dd_X6_takes, fun a19 e19 => ⟨fun c19 => ⟨dd_X9_isWindow w g (by decide) (by decide) (by omega), fun a24 e24 => ⟨fun _ => rf, fun c24 => ⟨dd_X6_gives, fun a29 _ => ⟨dd_X8_argAt w g k, fun a34 _ => ⟨dd_X6_unary, fun a38 _ => ?_⟩⟩⟩⟩⟩, fun _ => rf⟩⟩⟩⟩⟩⟩
  rw [e10] at c10
  have un := un_of c10
  have tk := tk_u (S := S) un
  rw [← e19, ← c19, e15] at tk
  rw [e24] at c24
  obtain ⟨w1, w2⟩ := wn_of c24
  rw [e2 w1] at w2
  have ei := e1 w1
  rw [e6, rv_op (by omega) (by omega), show (i + (1 : Int32)).toInt.toNat = i.toInt.toNat + 1 by omega] at un
  refine sp_fold (Q := fun _ u => SmL B S u (qO S 66 0)) (n := 1) w g rv (by decide) (by rw [li_1k]; omega) (pk_op tk) ?_ (fun v h => h)
  rw [rW_n (by omega), aW_o (by omega) (by omega)]
  exact Int.le_refl _
end SR
