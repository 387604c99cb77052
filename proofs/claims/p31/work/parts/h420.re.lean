/-! numberInstructions counts the chain; a new Row and the world's shape -/
section RE
variable {B B' : Nat × Nat} {S u v U : MS} {r : Nat} {o : Int32}
def cN (S : MS) : Nat → Int32 → Int
  | 0, _ => 0
  | k + 1, o => if (qI S 8 2).toInt ≤ o.toInt then 0 else 1 + cN S k (o + stp (laF S o))
theorem cN_s {k : Nat} : cN S (k + 1) o = if (qI S 8 2).toInt ≤ o.toInt then 0 else 1 + cN S k (o + stp (laF S o)) := rfl
theorem smY.cn (h : smY S u) : ∀ (k : Nat) (o : Int32), cN u k o = cN S k o := by
  intro k
  induction k with
  | zero => intro o; rfl
  | succ k ih => intro o; rw [cN_s, cN_s, h.2.2, h.xla, ih]
theorem smY.cs (h : smY S u) : ∀ (k : Nat) (o : Int32), cS u k o = cS S k o := by
  intro k
  induction k with
  | zero => intro o; rfl
  | succ k ih => intro o; rw [cS_s, cS_s, h.2.2, h.xla, h.nd, ih]
/-- instructions and tables together take no more than the bytes -/
theorem cN_le (hs : (qI S 8 2).toInt ≤ 1200) : ∀ (k : Nat) (o : Int32), ChV S k o → 0 ≤ o.toInt → (0 ≤ cN S k o ∧ 0 ≤ cS S k o) ∧ (o.toInt < (qI S 8 2).toInt → 2 * cN S k o + cS S k o ≤ 2 * ((qI S 8 2).toInt - o.toInt)) ∧ ((qI S 8 2).toInt ≤ o.toInt → cN S k o = 0 ∧ cS S k o = 0) := by
  intro k
  induction k with
  | zero => intro o _ _; exact ⟨⟨Int.le_refl 0, Int.le_refl 0⟩, fun _ => by show 2 * (0 : Int) + 0 ≤ _; omega, fun _ => ⟨rfl, rfl⟩⟩
  | succ k ih =>
    intro o hc h0
    rw [ChV_s] at hc
    rw [cN_s, cS_s]
    by_cases c : (qI S 8 2).toInt ≤ o.toInt
    · rw [if_pos c, if_pos c]; exact ⟨⟨by decide, by decide⟩, fun _ => by omega, fun _ => ⟨rfl, rfl⟩⟩
    · rw [if_neg c, if_neg c]
      obtain ⟨hl, hc⟩ := hc.resolve_left c
      have ho : 0 ≤ o.toInt ∧ o.toInt ≤ 1200 := ⟨h0, by omega⟩
      have nd := nd_rg (S := S) ho hl
      have la := (rg_la (S := S) ho).1
      have e : (o + stp (laF S o)).toInt = o.toInt + (laF S o).toInt := by rw [stp_of hl, t_addk (by omega)]
      have I := ih _ hc (by omega)
      rw [e] at I
      have n9 : ndV S o ≠ 0 → 8 ≤ (laF S o).toInt := fun z => by
        have n1 := nd.1
        by_cases c1 : (fX2_u1 S o).toInt = 170
        · obtain ⟨d, d1, d2, d3, d4⟩ := nd.2.1 c1; omega
        · by_cases c2 : (fX2_u1 S o).toInt = 171
          · have := nd.2.2 c2; omega
          · exact absurd (by unfold ndV; rw [if_neg c1, if_neg c2]) z
      have n1 := nd.1
      refine ⟨⟨by omega, by omega⟩, fun _ => ?_, fun z => absurd z c⟩
      by_cases q : o.toInt + (laF S o).toInt < (qI S 8 2).toInt
      · have := I.2.1 q
        by_cases z : ndV S o = 0
        · omega
        · have := n9 z; omega
      · have := I.2.2 (by omega)
        by_cases z : ndV S o = 0
        · omega
        · have := n9 z; omega
def NiX (S u : MS) : Prop := NiQ S u ∧ (qI u 8 8).toInt = cN S 1300 0
theorem cn_67 {Q : MS → Prop} (hQ : ∀ u : MS, NiX S u → Q u) (h : NiX S U) : w_X2_numberInstructions_J67 Q U := by
  unfold w_X2_numberInstructions_J67
  intro w
  refine ⟨fun _ => hQ U h, fun c => ⟨fun _ => hQ U h, fun c2 => ⟨by omega, fun S8 e8 k8 w8 => hQ S8 ?_⟩⟩⟩
  have i8 : ∀ j, qI S8 8 j = qI U 8 j := fun j => by rw [e8, qI_wI, if_neg (fun q => absurd q.1 (by decide))]
  exact ⟨⟨h.1.1.tr (by rw [e8]; exact smX.w15 w), by rw [i8]; exact h.1.2.1, fun j hj => by rw [i8]; exact h.1.2.2 j hj⟩, by rw [i8]; exact h.2⟩
theorem cn_L {Q : MS → Prop} (h9 : 0 ≤ (qI S 9 1).toInt) (hs : (qI S 8 2).toInt ≤ 1200) (hQ : ∀ u : MS, NiX S u → Q u) : ∀ (n k : Nat) {U : MS} {v : Int32}, NiQ S U → ChV S k v → 0 ≤ v.toInt → (v.toInt = 0 ∨ v.toInt ≤ (qI S 8 2).toInt) → (qI U 8 8).toInt ≤ v.toInt → (qI U 8 8).toInt + cN S k v = cN S 1300 0 → 1201 - v.toInt ≤ k → 2147483648 - v.toInt < n → w_X2_numberInstructions_L15 Q n U v := by
  intro n
  induction n with
  | zero => intro k U v _ _ h0 _ _ _ _ hm; have := rgI v; omega
  | succ n ih =>
    intro k U v h hc h0 hv h1 hcn hk hm
    obtain ⟨k, rfl⟩ : ∃ k', k = k' + 1 := ⟨k - 1, by omega⟩
    rw [cN_s] at hcn
    rw [ChV_s] at hc
    unfold w_X2_numberInstructions_L15
    intro w
    have e2 := h.2.2 2 (by decide)
    rw [e2]
    refine ⟨fun c => cn_67 hQ ⟨h, by rw [if_pos c] at hcn; omega⟩, fun c => ⟨fun c2 => by omega, fun c2 => ⟨by omega, fun S12 e12 k12 w12 S14 e14 k14 w14 => ?_⟩⟩⟩
    rw [if_neg c] at hcn
    obtain ⟨hl, hc⟩ := hc.resolve_left c
    have m12 : smX S S12 := h.1.tr (by rw [e12]; exact smX.w15 w)
    have m14 : smX S S14 := m12.tr (by rw [e14]; exact smX.w8 w12)
    have i12 : ∀ j, qI S12 8 j = qI U 8 j := fun j => by rw [e12, qI_wI, if_neg (fun q => absurd q.1 (by decide))]
    have i14 : ∀ j, j ≠ 8 → qI S14 8 j = qI U 8 j := fun j hj => by rw [e14, qI_wI, if_neg (fun q => hj q.2), i12]
    have h88 := h.2.1
    have i8 : (qI S14 8 8).toInt = (qI U 8 8).toInt + 1 := by rw [e14, qI_wI, if_pos ⟨rfl, rfl⟩, i12, t_addk (by rw [li_1k]; omega), li_1k]
    have y14 : smY S S14 := ⟨m14, by rw [i14 1 (by decide)]; exact h.2.2 1 (by decide), by rw [i14 2 (by decide)]; exact e2⟩
    have ho : 0 ≤ v.toInt ∧ v.toInt ≤ 1200 := ⟨h0, by omega⟩
    have nd := (nd_rg (S := S) ho hl).1
    refine ⟨_, fn_lengthAt (m14.h9 h9) (Q := fun r u => r = laF S14 v ∧ u = S14) ⟨rfl, rfl⟩, ?_⟩
    rintro r' u ⟨rfl, rfl⟩ wu _ a ea
    rw [y14.xla] at ea
    obtain ⟨e1, e3⟩ := nx_of ho hl rfl ea
    exact ih k (U := u) ⟨m14, by omega, fun j hj => by rw [i14 j hj]; exact h.2.2 j hj⟩ (by rw [e1]; exact hc) (by omega) (by omega) (by omega) (by rw [i8, e1]; omega) (by omega) (by omega)
theorem ct_numberInstructions {Q : MS → Prop} (hw : wfC S) (h9 : 0 ≤ (qI S 9 1).toInt) (hs : (qI S 8 2).toInt ≤ 1200) (hc : ChV S 1300 0) (hQ : ∀ u : MS, NiX S u → Q u) : wX2_numberInstructions S Q := by
  unfold wX2_numberInstructions
  intro k15
  refine ⟨_, frJ7_fill_53178 k15 (by decide) (sfJ7_fill_53178 hw k15 (by decide)), ?_⟩
  intro S2 q2 w2 _ S4 e4 k4 w4
  have m2 : smX S S2 := cfr.sm hw q2.2 (by decide) (by decide) (by decide) (by decide) (fun _ => rfl)
  have i2 : ∀ j, qI S2 8 j = qI S 8 j := fun j => q2.2.kI hw.k8 (by decide) rfl
  have m4 : smX S S4 := m2.tr (by rw [e4]; exact smX.w8 w2)
  have z : (qI S4 8 8).toInt = 0 := by rw [e4, qI_wI, if_pos ⟨rfl, rfl⟩]; exact li_0k
  have z0 := li_0k
  exact ⟨2147483649, cn_L h9 hs hQ _ 1300 ⟨m4, by omega, fun j hj => by rw [e4, qI_wI, if_neg (fun q => hj q.2), i2]⟩ hc (by decide) (Or.inl rfl) (by omega) (by omega) (by omega) (by omega)⟩
/-- a new Row -/
theorem ShC.nr {F : List (Nat × Nat)} (w : wfC S) (h : ShC B S) (f : cfr [] F S u) (hF : okL shF F = true) (n1 : ∀ a, qT S a = 0 → qT u a ≠ 49 ∧ qT u a ≠ 44 ∧ (qT u a = 47 → a = r)) (d : dnC u) (hr : qT u r = 47 → RwK u r) (hu : qu u + B.1 ≤ qu S + B'.1) (hn : 64 * qn u + B.2 ≤ 64 * qn S + B'.2) (hB : B'.1 ≤ KSC ∧ B'.2 ≤ 64 * KCC) : ShC B' u := by
  obtain ⟨h1, h2, h3, h4, h5, h6, h7, h8, h9⟩ := h
  have hK : okK ([] : List Nat) = true := rfl
  have e1_0 : qN u (qO u 1 0) = qN S (qO S 1 0) := fr_len w f hK hF w.k1 (by decide) (by decide) (by decide)
  have e3_0 : qN u (qO u 3 0) = qN S (qO S 3 0) := fr_len w f hK hF w.k3 (by decide) (by decide) (by decide)
  have e5_0 : qN u (qO u 5 0) = qN S (qO S 5 0) := fr_len w f hK hF w.k5 (by decide) (by decide) (by decide)
  have e26_0 : qN u (qO u 26 0) = qN S (qO S 26 0) := fr_len w f hK hF w.k26 (by decide) (by decide) (by decide)
  have e28_0 : qN u (qO u 28 0) = qN S (qO S 28 0) := fr_len w f hK hF w.k28 (by decide) (by decide) (by decide)
  have e30_0 : qN u (qO u 30 0) = qN S (qO S 30 0) := fr_len w f hK hF w.k30 (by decide) (by decide) (by decide)
  have e17_0 : qN u (qO u 17 0) = qN S (qO S 17 0) := fr_len w f hK hF w.k17 (by decide) (by decide) (by decide)
  have e38_0 : qN u (qO u 38 0) = qN S (qO S 38 0) := fr_len w f hK hF w.k38 (by decide) (by decide) (by decide)
  have e16_2 : qN u (qO u 16 2) = qN S (qO S 16 2) := fr_len w f hK hF w.k16 (by decide) (by decide) (by decide)
  have e25_17 : qN u (qO u 25 17) = qN S (qO S 25 17) := fr_len w f hK hF w.k25 (by decide) (by decide) (by decide)
  have e52_3 : qN u (qO u 52 3) = qN S (qO S 52 3) := fr_len w f hK hF w.k52 (by decide) (by decide) (by decide)
  have e52_13 : qN u (qO u 52 13) = qN S (qO S 52 13) := fr_len w f hK hF w.k52 (by decide) (by decide) (by decide)
  have e52_9 : qN u (qO u 52 9) = qN S (qO S 52 9) := fr_len w f hK hF w.k52 (by decide) (by decide) (by decide)
  have e52_5 : qN u (qO u 52 5) = qN S (qO S 52 5) := fr_len w f hK hF w.k52 (by decide) (by decide) (by decide)
  have e52_7 : qN u (qO u 52 7) = qN S (qO S 52 7) := fr_len w f hK hF w.k52 (by decide) (by decide) (by decide)
  have e44_2 : qN u (qO u 44 2) = qN S (qO S 44 2) := fr_len w f hK hF w.k44 (by decide) (by decide) (by decide)
  have e44_4 : qN u (qO u 44 4) = qN S (qO S 44 4) := fr_len w f hK hF w.k44 (by decide) (by decide) (by decide)
  have e44_8 : qN u (qO u 44 8) = qN S (qO S 44 8) := fr_len w f hK hF w.k44 (by decide) (by decide) (by decide)
  have e44_9 : qN u (qO u 44 9) = qN S (qO S 44 9) := fr_len w f hK hF w.k44 (by decide) (by decide) (by decide)
  have e66_2 : qN u (qO u 66 2) = qN S (qO S 66 2) := fr_len w f hK hF w.k66 (by decide) (by decide) (by decide)
  have e9 : hp2 u = hp2 S := by unfold hp2; rw [e44_2]
  unfold CpK at h8
  unfold RmK PSc PNc at h9
  have mo : ∀ {L : List (Nat × Nat)}, L.all (fun x => shF.contains x) = true → okL L F = true := fun hm => okL_mo hF hm
  refine ⟨fun p k => ?_, fun p k => ?_, fun p k => ?_, (by unfold ChKk; rw [show qN u (qO u 16 1) = qN S (qO S 16 1) from fr_len w f hK hF w.k16 (by decide) (by decide) (by decide), show qN u (qO u 16 3) = qN S (qO S 16 3) from fr_len w f hK hF w.k16 (by decide) (by decide) (by decide), e16_2]; exact h4), (by unfold WrK; rw [show qN u (qO u 25 16) = qN S (qO S 25 16) from fr_len w f hK hF w.k25 (by decide) (by decide) (by decide), e25_17]; exact h5), fr_smith w (h1 _ w.k67) h6 f hK hF (by decide), d, ?_, ?_⟩
  · by_cases e : qT S p = 0
    · have := (n1 p e).2.2 k
      subst this
      exact hr k
    · have kS := f.1.oldT k e
      refine (h1 p kS).mv w f.1 (fun j hj => (f.sl hK (mo (L := L47) (by decide)) kS (by decide) ?_).1) (fun j hj => (f.sl hK (mo (L := L47) (by decide)) kS (by decide) ?_).2)
      · revert j; decide
      · revert j; decide
  · by_cases e : qT S p = 0
    · exact absurd k (n1 p e).1
    · have kS := f.1.oldT k e
      refine (h2 p kS).mv w f.1 (fun j hj => (f.sl hK (mo (L := L49) (by decide)) kS (by decide) ?_).1) (fun j hj => (f.sl hK (mo (L := L49) (by decide)) kS (by decide) ?_).2)
      · rcases hj with rfl | rfl <;> decide
      · have : j = 0 ∨ j = 5 ∨ j = 6 ∨ j = 7 ∨ j = 9 ∨ j = 10 ∨ j = 11 ∨ j = 12 ∨ j = 13 := by omega
        rcases this with rfl | rfl | rfl | rfl | rfl | rfl | rfl | rfl | rfl <;> decide
  · by_cases e : qT S p = 0
    · exact absurd k (n1 p e).2.1
    · have kS := f.1.oldT k e
      refine (h3 p kS).mv w f.1 (fun j hj => (f.sl hK (mo (L := L44) (by decide)) kS (by decide) ?_).2)
      revert j; decide
  · unfold CpK; rw [e1_0, e3_0, e5_0, e26_0, e28_0, e30_0, e17_0, e38_0, e16_2, e25_17, e52_3, e52_13, e52_9, e52_5, e52_7, e44_2, e44_4, e44_8, e44_9, e66_2]; exact h8
  · unfold RmK PSc PNc; rw [e1_0, e3_0, e5_0, e26_0, e28_0, e30_0, e17_0, e38_0, e16_2, e25_17, e52_3, e52_13, e52_9, e52_5, e52_7, e44_2, e44_4, e44_8, e44_9, e66_2, e9]; omega
end RE
/-! the Reader's pool, and the method that is looked at -/
section SE
variable {S u v U : MS} {x y : Int32} {K : List Nat} {F : List (Nat × Nat)}
theorem wfC.k11 (w : wfC S) : qT S 11 = 218 := by
  have := w.2.1
  exact (w.2.1 (9, 4, 11, 218, 500) (by decide)).2.1
/-- pool and members as they were -/
def smE (S u : MS) : Prop := smX S u ∧ (∀ k, qI u 11 k = qI S 11 k) ∧ (∀ k, qI u 12 k = qI S 12 k) ∧ qI u 9 5 = qI S 9 5 ∧ qI u 9 6 = qI S 9 6 ∧ qI u 9 7 = qI S 9 7 ∧ qI u 9 8 = qI S 9 8
theorem smE.rf : smE S S := ⟨smX.rf, fun _ => rfl, fun _ => rfl, rfl, rfl, rfl, rfl⟩
theorem smE.tr (h : smE S u) (k : smE u v) : smE S v := ⟨h.1.tr k.1, fun j => (k.2.1 j).trans (h.2.1 j), fun j => (k.2.2.1 j).trans (h.2.2.1 j), k.2.2.2.1.trans h.2.2.2.1, k.2.2.2.2.1.trans h.2.2.2.2.1, k.2.2.2.2.2.1.trans h.2.2.2.2.2.1, k.2.2.2.2.2.2.trans h.2.2.2.2.2.2⟩
theorem wfC.k12 (w : wfC S) : qT S 12 = 219 := (w.2.1 (9, 9, 12, 219, 48) (by decide)).2.1
theorem smE.fr {K : List Nat} {F : List (Nat × Nat)} (w : wfC S) (f : cfr K F S u) (h1 : K.contains 101 = false) (h2 : K.contains 46 = false) (h3 : K.contains 218 = false) (h4 : K.contains 219 = false) (hF : okL [(46, 0), (46, 1), (46, 5), (46, 6), (46, 7), (46, 8)] F = true) (hA : okO F = true) : smE S u := ⟨f.sm w h1 h2 (okL_n hF (by decide)) (okL_n hF (by decide)) (fun _ => okO_n hA (by decide)), fun _ => f.kI w.k11 h3 (okO_n hA (by decide)), fun _ => f.kI w.k12 h4 (okO_n hA (by decide)), f.kI w.k9 h2 (okL_n hF (by decide)), f.kI w.k9 h2 (okL_n hF (by decide)), f.kI w.k9 h2 (okL_n hF (by decide)), f.kI w.k9 h2 (okL_n hF (by decide))⟩
theorem smE.ent (h : smE S u) : fX7_entryAt u x = fX7_entryAt S x := by unfold fX7_entryAt; rw [h.2.2.2.1, h.2.1]; rfl
theorem smE.tag (h : smE S u) : fX7_tagOf u x = fX7_tagOf S x := by unfold fX7_tagOf; rw [h.ent, h.1.u1]
theorem smE.fst (h : smE S u) : fX7_firstOf u x = fX7_firstOf S x := by unfold fX7_firstOf; rw [h.ent, h.1.u2]
theorem smE.mem (h : smE S u) : fX7_memberPlace u x = fX7_memberPlace S x := by unfold fX7_memberPlace; rw [h.2.2.1]; rfl
theorem smE.nam (h : smE S u) : fX7_nameOf u x = fX7_nameOf S x := by unfold fX7_nameOf; rw [h.mem, h.1.u2]
theorem smE.typ (h : smE S u) : fX7_typeOf u x = fX7_typeOf S x := by unfold fX7_typeOf; rw [h.mem, h.1.u2]
theorem smE.sec (h : smE S u) : fX7_secondOf u x = fX7_secondOf S x := by unfold fX7_secondOf; rw [h.ent, h.1.u2]
theorem smE.eu (h : smE S u) (k : smE S v) : smE u v := by
  obtain ⟨a1, a2, a3, a4, a5, a6, a7⟩ := h
  obtain ⟨b1, b2, b3, b4, b5, b6, b7⟩ := k
  exact ⟨a1.eu b1, fun j => (b2 j).trans (a2 j).symm, fun j => (b3 j).trans (a3 j).symm, b4.trans a4.symm, b5.trans a5.symm, b6.trans a6.symm, b7.trans a7.symm⟩
/-- the Reader at rest over the same bytes -/
def smF (S u : MS) : Prop := smE S u ∧ ∀ j, qI u 13 j = qI S 13 j
theorem smF.tr (h : smF S u) (k : smF u v) : smF S v := ⟨h.1.tr k.1, fun j => (k.2 j).trans (h.2 j)⟩
theorem smF.rf : smF S S := ⟨smE.rf, fun _ => rfl⟩
theorem smF.fr {K : List Nat} {F : List (Nat × Nat)} (w : wfC S) (f : cfr K F S u) (h1 : K.contains 101 = false) (h2 : K.contains 46 = false) (h3 : K.contains 218 = false) (h4 : K.contains 219 = false) (h5 : K.contains 220 = false) (hF : okL [(46, 0), (46, 1), (46, 5), (46, 6), (46, 7), (46, 8)] F = true) (hA : okO F = true) : smF S u := ⟨smE.fr w f h1 h2 h3 h4 hF hA, fun j => cfr.k13 w f h5 (okO_n hA (by decide))⟩
theorem smF.st (h : smF S u) {m : Int32} : stV u m = stV S m := by unfold stV; rw [h.2]
theorem smF.eu (h : smF S u) (k : smF S v) : smF u v := ⟨h.1.eu k.1, fun j => (k.2 j).trans (h.2 j).symm⟩
/-- pool, members, the method that is looked at and its numbers as they were -/
def smP (S u : MS) : Prop := smF S u ∧ (qI u 8 1 = qI S 8 1 ∧ qI u 8 2 = qI S 8 2 ∧ qI u 8 3 = qI S 8 3 ∧ qI u 8 4 = qI S 8 4 ∧ qI u 8 5 = qI S 8 5 ∧ qI u 8 6 = qI S 8 6) ∧ ∀ j : Nat, (j : Int) < (qI S 8 2).toInt → qI u 15 j = qI S 15 j
theorem smP.rf : smP S S := ⟨smF.rf, ⟨rfl, rfl, rfl, rfl, rfl, rfl⟩, fun _ _ => rfl⟩
theorem smP.tr (h : smP S u) (k : smP u v) : smP S v := by
  obtain ⟨a, ⟨a1, a2, a3, a4, a5, a6⟩, c⟩ := h
  obtain ⟨b, ⟨b1, b2, b3, b4, b5, b6⟩, d⟩ := k
  exact ⟨a.tr b, ⟨b1.trans a1, b2.trans a2, b3.trans a3, b4.trans a4, b5.trans a5, b6.trans a6⟩, fun j hj => (d j (by rw [a2]; exact hj)).trans (c j hj)⟩
theorem smP.toY (h : smP S u) : smY S u := ⟨h.1.1.1, h.2.1.1, h.2.1.2.1⟩
theorem wfC.k15 (w : wfC S) : qT S 15 = 201 := (w.2.1 _ finC_3).2.1
theorem smP.fr (w : wfC S) (f : cfr K F S u) (h1 : K.contains 101 = false) (h2 : K.contains 46 = false) (h3 : K.contains 218 = false) (h4 : K.contains 219 = false) (h7 : K.contains 220 = false) (h5 : K.contains 201 = false) (h6 : K.contains 42 = false) (hF : okL [(46, 0), (46, 1), (46, 5), (46, 6), (46, 7), (46, 8), (42, 1), (42, 2), (42, 3), (42, 4), (42, 5), (42, 6)] F = true) (hA : okO F = true) : smP S u := by
  have hF' : okL [(46, 0), (46, 1), (46, 5), (46, 6), (46, 7), (46, 8)] F = true := okL_mo hF (by decide)
  exact ⟨smF.fr w f h1 h2 h3 h4 h7 hF' hA, ⟨f.kI w.k8 h6 (okL_n hF (by decide)), f.kI w.k8 h6 (okL_n hF (by decide)), f.kI w.k8 h6 (okL_n hF (by decide)), f.kI w.k8 h6 (okL_n hF (by decide)), f.kI w.k8 h6 (okL_n hF (by decide)), f.kI w.k8 h6 (okL_n hF (by decide))⟩, fun j _ => f.kI w.k15 h5 (okO_n hA (by decide))⟩
theorem smP.num (h : smP S u) {y : Int64} (hy : (lg_cmp y ((qI S 8 2).toInt64)).toInt < 0) : fX2_numberOf u y = fX2_numberOf S y := by
  unfold fX2_numberOf
  rw [h.2.1.2.1]
  by_cases c : (lg_cmp y 0).toInt < 0
  · rw [if_pos c, if_pos c]; rfl
  · have n : ¬ 0 < (lg_cmp y ((qI S 8 2).toInt64)).toInt := by omega
    rw [if_neg c, if_neg c, if_neg n, if_neg n]
    by_cases c1 : (lg_cmp y ((1201 : Int32).toInt64)).toInt < 0
    · rw [if_pos c1, if_pos c1]
      have k0 : (0 : Int64).toInt = 0 := by decide
      have k1 : ((1201 : Int32).toInt64).toInt = 1201 := by decide
      have y0 : 0 ≤ y.toInt := by rcases c_cmpk (x := y) (y := 0) with q | q | q <;> omega
      have y1 : y.toInt < (qI S 8 2).toInt := by
        rcases c_cmpk (x := y) (y := (qI S 8 2).toInt64) with q | q | q
        · omega
        · omega
        · have := q.2; rw [i64_toInt] at this; exact this
      have y2 : y.toInt < 1201 := by rcases c_cmpk (x := y) (y := (1201 : Int32).toInt64) with q | q | q <;> omega
      have e : (y.toInt32).toInt = y.toInt := l32_small ⟨by omega, by omega⟩
      exact h.2.2 _ (by rw [e]; omega)
    · rw [if_neg c1, if_neg c1]; rfl
theorem smP.ins (h : smP S u) {y : Int64} : fX2_isInstruction u y = fX2_isInstruction S y := by
  unfold fX2_isInstruction
  rw [h.2.1.2.1]
  by_cases c : 0 ≤ (lg_cmp y ((qI S 8 2).toInt64)).toInt
  · rw [if_pos c, if_pos c]; rfl
  · rw [if_neg c, if_neg c, h.num (by omega)]; rfl
/-- an instruction's number -/
theorem ins_num {y : Int64} (h : ¬ (fX2_isInstruction S y).toInt = 0) : (lg_cmp y ((qI S 8 2).toInt64)).toInt < 0 ∧ 0 ≤ (fX2_numberOf S y).toInt := by
  unfold fX2_isInstruction at h
  by_cases c : 0 ≤ (lg_cmp y ((qI S 8 2).toInt64)).toInt
  · rw [if_pos c] at h; exact absurd rfl h
  · rw [if_neg c] at h
    by_cases c1 : (fX2_numberOf S y).toInt < 0
    · rw [if_pos c1] at h; exact absurd rfl h
    · exact ⟨by omega, by omega⟩
end SE
/-! decode, exactly -/
def S00k : MS := (fun _ _ => 0, fun _ _ => 0, fun _ _ => none, fun _ => 0, fun _ => 0, 0, 0)
def okTab : List Nat := [0, 1, 17, 20, 21, 22, 25, 46, 54, 55, 58, 79, 87, 88, 89, 90, 92, 95, 96, 97, 100, 101, 104, 105, 108, 109, 112, 113, 116, 117, 120, 121, 122, 123, 124, 125, 126, 127, 128, 129, 130, 131, 132, 133, 136, 145, 146, 147, 148, 153, 154, 155, 156, 157, 158, 159, 160, 161, 162, 163, 164, 165, 166, 167, 170, 171, 172, 173, 176, 177, 178, 179, 184, 188, 190, 191, 198, 199]
def okOp (o : Int) : Prop := 0 ≤ o ∧ o < 202 ∧ okTab.contains o.toNat = true
section DX
variable {S u v U V : MS} {o r b x : Int32} {y : Int64} {Q : MS → Prop}
def dlF (S : MS) (o r : Int32) : Int32 × Int64 := if r.toInt = 196 then (fX2_u1 S (o + (1 : Int32)), if (fX2_u2 S (o + (2 : Int32))).toInt ≤ 255 then (if (fX2_u1 S (o + (1 : Int32))).toInt = 132 then ((((fX2_u2 S (o + (4 : Int32))).toInt16.toInt32).toInt64) <<< ((8 : Int32).toInt64 &&& 63)) ||| ((fX2_u2 S (o + (2 : Int32))).toInt64) else (fX2_u2 S (o + (2 : Int32))).toInt64) else (255 : Int64)) else if r.toInt = 132 then ((132 : Int32), ((((fX2_u1 S (o + (2 : Int32))).toInt8.toInt32).toInt64) <<< ((8 : Int32).toInt64 &&& 63)) ||| ((fX2_u1 S (o + (1 : Int32))).toInt64)) else if (fX6_usesLocal S r).toInt = 0 then (if 26 ≤ r.toInt ∧ r.toInt ≤ 33 then ((if 30 ≤ r.toInt then (22 : Int32) else (21 : Int32)), ((r - (26 : Int32)) &&& (3 : Int32)).toInt64) else if 42 ≤ r.toInt ∧ r.toInt ≤ 45 then ((25 : Int32), (r - (42 : Int32)).toInt64) else if 59 ≤ r.toInt ∧ r.toInt ≤ 66 then ((if 63 ≤ r.toInt then (55 : Int32) else (54 : Int32)), ((r - (59 : Int32)) &&& (3 : Int32)).toInt64) else if 75 ≤ r.toInt ∧ r.toInt ≤ 78 then ((58 : Int32), (r - (75 : Int32)).toInt64) else (r, 0)) else (r, (fX2_u1 S (o + (1 : Int32))).toInt64)
def dcF (S : MS) (o r : Int32) : Int32 × Int64 := if 2 ≤ r.toInt ∧ r.toInt ≤ 8 then ((17 : Int32), (r - (3 : Int32)).toInt64) else if r.toInt = 9 ∨ r.toInt = 10 then ((9 : Int32), (r - (9 : Int32)).toInt64) else if r.toInt = 16 then ((17 : Int32), ((fX2_u1 S (o + (1 : Int32))).toInt8.toInt32).toInt64) else if r.toInt = 17 then ((17 : Int32), ((fX2_u2 S (o + (1 : Int32))).toInt16.toInt32).toInt64) else if r.toInt = 18 then ((19 : Int32), (fX2_u1 S (o + (1 : Int32))).toInt64) else if r.toInt = 200 then ((167 : Int32), (o.toInt64) + ((fX2_s4 S (o + (1 : Int32))).toInt64)) else if (fX6_isJump S r).toInt = 0 then (if (fX6_isSwitch S r).toInt = 0 then (if (fX6_lengthOf S r).toInt = 3 ∧ ¬ r.toInt = 132 then (r, (fX2_u2 S (o + (1 : Int32))).toInt64) else dlF S o r) else (r, (fX2_numbersOf S o).toInt64)) else (r, (o + ((fX2_u2 S (o + (1 : Int32))).toInt16.toInt32)).toInt64)
def dcV (S : MS) (o : Int32) : Int32 × Int64 := dcF S o (fX2_u1 S o)
theorem smY.dl (h : smY S u) : dlF u o r = dlF S o r := by
  unfold dlF
  rw [h.u1, h.u1, h.u2, h.u2]
  rfl
theorem smY.dc (h : smY S u) : dcV u o = dcV S o := by
  unfold dcV dcF
  rw [h.u1, h.u1, h.u2, h.s4, h.dl]
  rfl
def DxP (S u : MS) (z : Int32 × Int64) : Prop := qI u 8 9 = z.1 ∧ qJ u 8 10 = z.2 ∧ qI u 8 11 = qI S 8 11
theorem ct_set (h : wX2_set S x y Q) : wX2_set S x y (fun u => Q u ∧ DxP S u (x, y)) := by
  unfold wX2_set at h ⊢
  refine fun S1 e1 k1 w1 S2 e2 k2 w2 => ⟨h S1 e1 k1 w1 S2 e2 k2 w2, ?_, ?_, ?_⟩
  · rw [e2]
    show qI S1 8 9 = x
    rw [e1, qI_wI, if_pos ⟨rfl, rfl⟩]
  · rw [e2, qJ_wJ, if_pos ⟨rfl, rfl⟩]
  · rw [e2]
    show qI S1 8 11 = _
    rw [e1, qI_wI, if_neg (fun z => by cases z.2)]
theorem st_dx {z : Int32 × Int64} (h : ∃ Q1, wX2_set U x y Q1 ∧ ∀ S1, Q1 S1 → wfC S1 → shy U S1 → Q S1) (e : (x, y) = z) : ∃ Q1, wX2_set U x y Q1 ∧ ∀ S1, Q1 S1 → wfC S1 → shy U S1 → (Q S1 ∧ DxP U S1 z) := by
  obtain ⟨Q1, p, q⟩ := h
  exact ⟨_, ct_set p, fun S1 g w s => ⟨q S1 g.1 w s, by rw [← e]; exact g.2⟩⟩
theorem ct_dl (hU : qI U 8 9 = fX2_u1 U o ∧ qJ U 8 10 = 0) (h : wX2_decodeLocal U o Q) : wX2_decodeLocal U o (fun u => Q u ∧ DxP U u (dlF U o (fX2_u1 U o))) := by
  unfold wX2_decodeLocal at h ⊢
  obtain ⟨d1, h⟩ := h
  refine ⟨d1, fun a4 e4 => ?_⟩
  obtain ⟨h1, h2⟩ := h a4 e4
  rw [← e4] at hU ⊢
  refine ⟨fun c => ?_, fun c => ?_⟩
  · obtain ⟨d2, h3⟩ := h1 c
    refine ⟨d2, fun a62 e62 => ?_⟩
    obtain ⟨d3, h4, h5⟩ := h3 a62 e62
    have J : ∀ t : Int64, (fX2_u1 U (o + (1 : Int32)), t) = dlF U o a4 → w_X2_decodeLocal_J75 Q U t (fX2_u1 U (o + (1 : Int32))) → w_X2_decodeLocal_J75 (fun u => Q u ∧ DxP U u (dlF U o a4)) U t (fX2_u1 U (o + (1 : Int32))) := fun t et hj => by
      unfold w_X2_decodeLocal_J75 at hj ⊢
      exact fun w => st_dx (hj w) et
    refine ⟨d3, fun c2 => ?_, fun c2 => J _ (by unfold dlF; rw [if_pos c, ← e62, if_neg c2]) (h5 c2)⟩
    obtain ⟨d4, h6, h7⟩ := h4 c2
    refine ⟨d4, fun c3 => ?_, fun c3 => J _ (by unfold dlF; rw [if_pos c, ← e62, if_pos c2, if_neg c3]) (h7 c3)⟩
    obtain ⟨d5, h8⟩ := h6 c3
    exact ⟨d5, J _ (by unfold dlF; rw [if_pos c, ← e62, if_pos c2, if_pos c3]) h8⟩
  obtain ⟨h3, h4⟩ := h2 c
  refine ⟨fun c2 => ?_, fun c2 => ?_⟩
  · obtain ⟨d2, d3, h5⟩ := h3 c2
    exact ⟨d2, d3, st_dx h5 (by unfold dlF; rw [if_neg c, if_pos c2])⟩
  obtain ⟨d2, h5, h6⟩ := h4 c2
  refine ⟨d2, fun c3 => ?_, fun c3 => ?_⟩
  · have J246 : ¬ (26 ≤ a4.toInt ∧ a4.toInt ≤ 33) → ¬ (42 ≤ a4.toInt ∧ a4.toInt ≤ 45) → ¬ (59 ≤ a4.toInt ∧ a4.toInt ≤ 66) → w_X2_decodeLocal_J246 Q U a4 → w_X2_decodeLocal_J246 (fun u => Q u ∧ DxP U u (dlF U o a4)) U a4 := fun n1 n2 n3 hj => by
      have no : ¬ (75 ≤ a4.toInt ∧ a4.toInt ≤ 78) → DxP U U (dlF U o a4) := fun n4 => by
        have e : dlF U o a4 = (a4, 0) := by unfold dlF; rw [if_neg c, if_neg c2, if_pos c3, if_neg n1, if_neg n2, if_neg n3, if_neg n4]
        rw [e]
        exact ⟨hU.1, hU.2, rfl⟩
      unfold w_X2_decodeLocal_J246 at hj ⊢
      intro w
      obtain ⟨g1, g2⟩ := hj w
      refine ⟨fun c4 => ⟨g1 c4, no (by omega)⟩, fun c4 => ?_⟩
      obtain ⟨g3, g4⟩ := g2 c4
      exact ⟨fun c5 => ⟨g3 c5, no (by omega)⟩, fun c5 => st_dx (g4 c5) (by unfold dlF; rw [if_neg c, if_neg c2, if_pos c3, if_neg n1, if_neg n2, if_neg n3, if_pos ⟨by omega, by omega⟩])⟩
    have J207 : ¬ (26 ≤ a4.toInt ∧ a4.toInt ≤ 33) → ¬ (42 ≤ a4.toInt ∧ a4.toInt ≤ 45) → w_X2_decodeLocal_J207 Q U a4 → w_X2_decodeLocal_J207 (fun u => Q u ∧ DxP U u (dlF U o a4)) U a4 := fun n1 n2 hj => by
      have J233 : ∀ t : Int32, t = (if 63 ≤ a4.toInt then (55 : Int32) else (54 : Int32)) → (59 ≤ a4.toInt ∧ a4.toInt ≤ 66) → w_X2_decodeLocal_J233 Q U t a4 → w_X2_decodeLocal_J233 (fun u => Q u ∧ DxP U u (dlF U o a4)) U t a4 := fun t et n3 hj => by
        unfold w_X2_decodeLocal_J233 at hj ⊢
        exact fun w => st_dx (hj w) (by unfold dlF; rw [if_neg c, if_neg c2, if_pos c3, if_neg n1, if_neg n2, if_pos n3, et])
      unfold w_X2_decodeLocal_J207 at hj ⊢
      intro w
      obtain ⟨g1, g2⟩ := hj w
      refine ⟨fun c4 => J246 n1 n2 (by omega) (g1 c4), fun c4 => ?_⟩
      obtain ⟨g3, g4⟩ := g2 c4
      refine ⟨fun c5 => J246 n1 n2 (by omega) (g3 c5), fun c5 => ?_⟩
      obtain ⟨g5, g6⟩ := g4 c5
      exact ⟨fun c6 => J233 _ (by rw [if_pos c6]) ⟨by omega, by omega⟩ (g5 c6), fun c6 => J233 _ (by rw [if_neg c6]) ⟨by omega, by omega⟩ (g6 c6)⟩
    have J181 : ¬ (26 ≤ a4.toInt ∧ a4.toInt ≤ 33) → w_X2_decodeLocal_J181 Q U a4 → w_X2_decodeLocal_J181 (fun u => Q u ∧ DxP U u (dlF U o a4)) U a4 := fun n1 hj => by
      unfold w_X2_decodeLocal_J181 at hj ⊢
      intro w
      obtain ⟨g1, g2⟩ := hj w
      refine ⟨fun c4 => J207 n1 (by omega) (g1 c4), fun c4 => ?_⟩
      obtain ⟨g3, g4⟩ := g2 c4
      exact ⟨fun c5 => J207 n1 (by omega) (g3 c5), fun c5 => st_dx (g4 c5) (by unfold dlF; rw [if_neg c, if_neg c2, if_pos c3, if_neg n1, if_pos ⟨by omega, by omega⟩])⟩
    have J168 : ∀ t : Int32, t = (if 30 ≤ a4.toInt then (22 : Int32) else (21 : Int32)) → (26 ≤ a4.toInt ∧ a4.toInt ≤ 33) → w_X2_decodeLocal_J168 Q U t a4 → w_X2_decodeLocal_J168 (fun u => Q u ∧ DxP U u (dlF U o a4)) U t a4 := fun t et n1 hj => by
      unfold w_X2_decodeLocal_J168 at hj ⊢
      exact fun w => st_dx (hj w) (by unfold dlF; rw [if_neg c, if_neg c2, if_pos c3, if_pos n1, et])
    obtain ⟨g1, g2⟩ := h5 c3
    refine ⟨fun c4 => J181 (by omega) (g1 c4), fun c4 => ?_⟩
    obtain ⟨g3, g4⟩ := g2 c4
    refine ⟨fun c5 => J181 (by omega) (g3 c5), fun c5 => ?_⟩
    obtain ⟨g5, g6⟩ := g4 c5
    exact ⟨fun c6 => J168 _ (by rw [if_pos c6]) ⟨by omega, by omega⟩ (g5 c6), fun c6 => J168 _ (by rw [if_neg c6]) ⟨by omega, by omega⟩ (g6 c6)⟩
  · obtain ⟨d3, h7⟩ := h6 c3
    exact ⟨d3, st_dx h7 (by unfold dlF; rw [if_neg c, if_neg c2, if_neg c3])⟩
theorem ct_dc45 (hU : qI U 8 9 = r ∧ qJ U 8 10 = 0) (er : r = fX2_u1 U o) (hr : ¬ (2 ≤ r.toInt ∧ r.toInt ≤ 8)) (h : w_X2_decode_J45 Q U o r) : w_X2_decode_J45 (fun u => Q u ∧ DxP U u (dcF U o r)) U o r := by
  have J57 : r.toInt = 9 ∨ r.toInt = 10 → w_X2_decode_J57 Q U r → w_X2_decode_J57 (fun u => Q u ∧ DxP U u (dcF U o r)) U r := fun n1 hj => by
    unfold w_X2_decode_J57 at hj ⊢
    exact fun w => st_dx (hj w) (by unfold dcF; rw [if_neg hr, if_pos n1])
  unfold w_X2_decode_J45 at h ⊢
  intro w
  obtain ⟨h1, h2⟩ := h w
  refine ⟨fun c => J57 (Or.inl c) (h1 c), fun c => ?_⟩
  obtain ⟨h1, h2⟩ := h2 c
  refine ⟨fun c1 => J57 (Or.inr c1) (h1 c1), fun c1 => ?_⟩
  obtain ⟨h1, h2⟩ := h2 c1
  have n1 : ¬ (r.toInt = 9 ∨ r.toInt = 10) := fun z => z.elim c c1
  refine ⟨fun c2 => ?_, fun c2 => ?_⟩
  · obtain ⟨d, h3⟩ := h1 c2
    exact ⟨d, st_dx h3 (by unfold dcF; rw [if_neg hr, if_neg n1, if_pos c2])⟩
  obtain ⟨h1, h2⟩ := h2 c2
  refine ⟨fun c3 => ?_, fun c3 => ?_⟩
  · obtain ⟨d, h3⟩ := h1 c3
    exact ⟨d, st_dx h3 (by unfold dcF; rw [if_neg hr, if_neg n1, if_neg c2, if_pos c3])⟩
  obtain ⟨h1, h2⟩ := h2 c3
  refine ⟨fun c4 => ?_, fun c4 => ?_⟩
  · obtain ⟨d, h3⟩ := h1 c4
    exact ⟨d, st_dx h3 (by unfold dcF; rw [if_neg hr, if_neg n1, if_neg c2, if_neg c3, if_pos c4])⟩
  obtain ⟨h1, h2⟩ := h2 c4
  refine ⟨fun c5 => ?_, fun c5 => ?_⟩
  · obtain ⟨d, h3⟩ := h1 c5
    exact ⟨d, st_dx h3 (by unfold dcF; rw [if_neg hr, if_neg n1, if_neg c2, if_neg c3, if_neg c4, if_pos c5])⟩
  obtain ⟨d, h1, h2⟩ := h2 c5
  refine ⟨d, fun c6 => ?_, fun c6 => ?_⟩
  · obtain ⟨d2, h3, h4⟩ := h1 c6
    refine ⟨d2, fun c7 => ?_, fun c7 => ?_⟩
    · obtain ⟨d3, h5, h6⟩ := h3 c7
      have J247 : ¬ ((fX6_lengthOf U r).toInt = 3 ∧ ¬ r.toInt = 132) → w_X2_decode_J247 Q U o → w_X2_decode_J247 (fun u => Q u ∧ DxP U u (dcF U o r)) U o := fun n2 hj => by
        have e : dcF U o r = dlF U o (fX2_u1 U o) := by
          unfold dcF
          rw [if_neg hr, if_neg n1, if_neg c2, if_neg c3, if_neg c4, if_neg c5, if_pos c6, if_pos c7, if_neg n2, ← er]
        rw [e]
        unfold w_X2_decode_J247 at hj ⊢
        intro w
        obtain ⟨Q29, p, h⟩ := hj w
        exact ⟨_, ct_dl ⟨by rw [hU.1, er], hU.2⟩ p, fun S30 g w s => ⟨h S30 g.1 w s, g.2⟩⟩
      refine ⟨d3, fun c8 => ?_, fun c8 => J247 (fun z => c8 z.1) (h6 c8)⟩
      obtain ⟨h7, h8⟩ := h5 c8
      refine ⟨fun c9 => J247 (fun z => z.2 c9) (h7 c9), fun c9 => ?_⟩
      obtain ⟨d4, h9⟩ := h8 c9
      exact ⟨d4, st_dx h9 (by unfold dcF; rw [if_neg hr, if_neg n1, if_neg c2, if_neg c3, if_neg c4, if_neg c5, if_pos c6, if_pos c7, if_pos ⟨c8, c9⟩])⟩
    · obtain ⟨d3, h5⟩ := h4 c7
      exact ⟨d3, st_dx h5 (by unfold dcF; rw [if_neg hr, if_neg n1, if_neg c2, if_neg c3, if_neg c4, if_neg c5, if_pos c6, if_neg c7])⟩
  · obtain ⟨d3, h5⟩ := h2 c6
    exact ⟨d3, st_dx h5 (by unfold dcF; rw [if_neg hr, if_neg n1, if_neg c2, if_neg c3, if_neg c4, if_neg c5, if_neg c6])⟩
/-- what decode finds -/
theorem ct_decode (w : wfC S) (h : wX2_decode S o Q) : wX2_decode S o (fun u => Q u ∧ (qI u 8 9 = (dcV S o).1 ∧ qJ u 8 10 = (dcV S o).2) ∧ qI u 8 11 = o) := by
  unfold wX2_decode at h ⊢
  obtain ⟨d, h⟩ := h
  refine ⟨d, fun a4 e4 S5 e5 k5 w5 S6 e6 k6 w6 S7 e7 k7 w7 => ?_⟩
  obtain ⟨h1, h2⟩ := h a4 e4 S5 e5 k5 w5 S6 e6 k6 w6 S7 e7 k7 w7
  have f5 : cfr [] [(42, 9), (42, 10), (42, 11)] S S5 := by rw [e5]; exact cfr.oI k5 rfl
  have f6 : cfr [] [(42, 9), (42, 10), (42, 11)] S5 S6 := by rw [e6]; exact cfr.oI k6 rfl
  have f7 : cfr [] [(42, 9), (42, 10), (42, 11)] S6 S7 := by rw [e7]; exact cfr.oJ k7 rfl
  have f := (f5.tr f6).tr f7
  have y : smY S S7 := ⟨f.sm w rfl rfl rfl rfl (fun _ => okO_n (F := [(42, 9), (42, 10), (42, 11)]) rfl (by decide)), f.kI k5 rfl rfl, f.kI k5 rfl rfl⟩
  have U9 : qI S7 8 9 = a4 := by
    rw [e7]
    show qI S6 8 9 = a4
    rw [e6, qI_wI, if_pos ⟨rfl, rfl⟩]
  have U10 : qJ S7 8 10 = 0 := by rw [e7, qJ_wJ, if_pos ⟨rfl, rfl⟩]
  have U11 : qI S7 8 11 = o := by
    rw [e7]
    show qI S6 8 11 = o
    rw [e6, qI_wI, if_neg (fun z => by cases z.2), e5, qI_wI, if_pos ⟨rfl, rfl⟩]
  have ea : a4 = fX2_u1 S7 o := by rw [e4, y.u1]
  have D : ∀ u, DxP S7 u (dcF S7 o a4) → (qI u 8 9 = (dcV S o).1 ∧ qJ u 8 10 = (dcV S o).2) ∧ qI u 8 11 = o := fun u z => by
    have e : dcF S7 o a4 = dcV S o := by rw [← y.dc, ea]; rfl
    rw [e] at z
    exact ⟨⟨z.1, z.2.1⟩, z.2.2.trans U11⟩
  have mo : ∀ {n1 : ¬ (2 ≤ a4.toInt ∧ a4.toInt ≤ 8)}, w_X2_decode_J45 Q S7 o a4 → w_X2_decode_J45 (fun u => Q u ∧ (qI u 8 9 = (dcV S o).1 ∧ qJ u 8 10 = (dcV S o).2) ∧ qI u 8 11 = o) S7 o a4 := fun {n1} hj => by
    have z := ct_dc45 ⟨U9, U10⟩ ea n1 hj
    have e : (fun u => Q u ∧ DxP S7 u (dcF S7 o a4)) = (fun u => Q u ∧ (qI u 8 9 = (dcV S o).1 ∧ qJ u 8 10 = (dcV S o).2) ∧ qI u 8 11 = o) := by
      funext u
      have e2 : dcF S7 o a4 = dcV S o := by rw [← y.dc, ea]; rfl
      unfold DxP
      rw [e2, U11]
      exact propext ⟨fun z => ⟨z.1, ⟨z.2.1, z.2.2.1⟩, z.2.2.2⟩, fun z => ⟨z.1, z.2.1.1, z.2.1.2, z.2.2⟩⟩
    rw [e] at z
    exact z
  refine ⟨fun c => mo (n1 := by omega) (h1 c), fun c => ?_⟩
  obtain ⟨h3, h4⟩ := h2 c
  refine ⟨fun c1 => mo (n1 := by omega) (h3 c1), fun c1 => ?_⟩
  obtain ⟨Q87, p, h5⟩ := h4 c1
  refine ⟨_, ct_set p, fun S88 g w s => ⟨h5 S88 g.1 w s, D S88 ?_⟩⟩
  have e : dcF S7 o a4 = ((17 : Int32), (a4 - (3 : Int32)).toInt64) := by unfold dcF; rw [if_pos ⟨by omega, by omega⟩]
  rw [e]
  exact g.2
/-- the op that is found, as a function of the byte and the one behind -/
def dcO (r b : Int32) : Int32 := if 2 ≤ r.toInt ∧ r.toInt ≤ 8 then (17 : Int32) else if r.toInt = 9 ∨ r.toInt = 10 then (9 : Int32) else if r.toInt = 16 then (17 : Int32) else if r.toInt = 17 then (17 : Int32) else if r.toInt = 18 then (19 : Int32) else if r.toInt = 200 then (167 : Int32) else if (fX6_isJump S00k r).toInt = 0 then (if (fX6_isSwitch S00k r).toInt = 0 then (if (fX6_lengthOf S00k r).toInt = 3 ∧ ¬ r.toInt = 132 then r else (if r.toInt = 196 then b else if r.toInt = 132 then (132 : Int32) else if (fX6_usesLocal S00k r).toInt = 0 then (if 26 ≤ r.toInt ∧ r.toInt ≤ 33 then (if 30 ≤ r.toInt then (22 : Int32) else (21 : Int32)) else if 42 ≤ r.toInt ∧ r.toInt ≤ 45 then (25 : Int32) else if 59 ≤ r.toInt ∧ r.toInt ≤ 66 then (if 63 ≤ r.toInt then (55 : Int32) else (54 : Int32)) else if 75 ≤ r.toInt ∧ r.toInt ≤ 78 then (58 : Int32) else r) else r)) else r) else r
theorem dcO_of : (dcV S o).1 = dcO (fX2_u1 S o) (fX2_u1 S (o + (1 : Int32))) := by
  unfold dcV dcF dlF dcO
  simp only [apply_ite Prod.fst]
  rfl
def roX (x : Int32) : Int32 := if x.toInt = 9 then 20 else if x.toInt = 19 then 17 else x
theorem tb_dc : ∀ n : Fin 202, ¬ n.val = 196 → (0 < (stLN.getD n.val 0).toInt ∨ n.val = 170 ∨ n.val = 171 ∨ n.val = 188) → (0 ≤ (roX (dcO (Int32.ofNat n.val) 0)).toInt ∧ (roX (dcO (Int32.ofNat n.val) 0)).toInt < 202) ∧ okTab.contains (roX (dcO (Int32.ofNat n.val) 0)).toInt.toNat = true := by decide +kernel
theorem tb_wd : ∀ n : Fin 202, (n.val = 132 ∨ n.val = 21 ∨ n.val = 22 ∨ n.val = 25 ∨ n.val = 54 ∨ n.val = 55 ∨ n.val = 58) → (0 ≤ (roX (Int32.ofNat n.val)).toInt ∧ (roX (Int32.ofNat n.val)).toInt < 202) ∧ okTab.contains (roX (Int32.ofNat n.val)).toInt.toNat = true := by decide +kernel
theorem i32n' {x : Int32} (h0 : 0 ≤ x.toInt) : x = Int32.ofNat x.toInt.toNat := by
  apply Int32.toInt_inj.mp
  have h1 : x.toInt < 2147483648 := by have := Int32.toInt_lt x; omega
  rw [Int32.toInt_ofNat_of_lt (by omega)]
  omega
theorem dc_ok (ho : 0 ≤ o.toInt ∧ o.toInt ≤ 1200) (hl : 0 < (laF S o).toInt) : okOp (roX (dcV S o).1).toInt := by
  have rg := u1_rg (S := S) (o := o)
  rw [dcO_of]
  by_cases c : (fX2_u1 S o).toInt = 196
  · have lw : (laF S o).toInt = (fX2_wideLength S (fX2_u1 S (o + (1 : Int32)))).toInt := by
      rcases (rg_la (S := S) ho).2 with q | q
      · omega
      · rw [q.1]
        unfold lrF
        rw [if_neg (by omega), if_neg (by omega), if_neg (by omega), if_pos (by omega)]
    rw [lw] at hl
    have w := wide_of hl
    have e : dcO (fX2_u1 S o) (fX2_u1 S (o + (1 : Int32))) = fX2_u1 S (o + (1 : Int32)) := by
      have e196 : fX2_u1 S o = 196 := Int32.toInt_inj.mp (by rw [c]; rfl)
      rw [e196]
      rfl
    rw [e]
    have b0 := u1_rg (S := S) (o := o + (1 : Int32))
    have z := tb_wd ⟨(fX2_u1 S (o + (1 : Int32))).toInt.toNat, by rcases w with w | w <;> omega⟩ (by simp only; rcases w with w | w <;> omega)
    rw [← i32n' b0.1] at z
    exact ⟨z.1.1, z.1.2, z.2⟩
  · have lt : (fX2_u1 S o).toInt < 202 ∧ (0 < (stLN.getD (fX2_u1 S o).toInt.toNat 0).toInt ∨ (fX2_u1 S o).toInt.toNat = 170 ∨ (fX2_u1 S o).toInt.toNat = 171 ∨ (fX2_u1 S o).toInt.toNat = 188) := by
      by_cases c1 : (fX2_u1 S o).toInt = 170
      · exact ⟨by omega, by omega⟩
      by_cases c2 : (fX2_u1 S o).toInt = 171
      · exact ⟨by omega, by omega⟩
      by_cases c3 : (fX2_u1 S o).toInt = 188
      · exact ⟨by omega, by omega⟩
      have t := la_tab ho hl c1 c2 c3 c
      exact ⟨t.1, Or.inl (by rw [← t.2]; exact hl)⟩
    have e : dcO (fX2_u1 S o) (fX2_u1 S (o + (1 : Int32))) = dcO (fX2_u1 S o) 0 := by
      unfold dcO
      rw [if_neg c, if_neg c]
    rw [e]
    have z := tb_dc ⟨(fX2_u1 S o).toInt.toNat, by omega⟩ (by simp only; omega) (by simp only; exact lt.2)
    rw [← i32n' rg.1] at z
    exact ⟨z.1.1, z.1.2, z.2⟩
end DX
/-! the length and the numbers of instructions, out of the texts -/
section NU
variable {S u v U V A : MS} {p q r N : Nat} {Q : MS → Prop} {Q1 : Int32 → MS → Prop} {x o c : Int32}
theorem ct_fillL : ∀ (n : Nat) {U : MS} {v2 v3 : Int32}, (∀ i : Nat, (i : Int) < v2.toInt → qI U p i = x) → 0 ≤ v2.toInt → w_J7_fill_53178_L5 Q n U p x v2 v3 → w_J7_fill_53178_L5 (fun u => Q u ∧ ∀ i : Nat, (i : Int) < v3.toInt → qI u p i = x) n U p x v2 v3 := by
  intro n
  induction n with
  | zero => intro U v2 v3 _ _ h; exact h
  | succ n ih =>
    intro U v2 v3 hp v0 h
    unfold w_J7_fill_53178_L5 at h ⊢
    intro w
    obtain ⟨h1, h2⟩ := h w
    refine ⟨fun c => ⟨h1 c, fun i hi => hp i (by omega)⟩, fun c => ?_⟩
    obtain ⟨b, h3⟩ := h2 c
    refine ⟨b, fun S4 e4 w4 a5 e5 => ?_⟩
    have rv := rgI v3
    have e1 : a5.toInt = v2.toInt + 1 := by rw [e5, t_addk (by rw [lo_1k]; omega), lo_1k]
    refine ih (fun i hi => ?_) (by omega) (h3 S4 e4 w4 a5 e5)
    rw [e4, qI_wI]
    by_cases t : i = v2.toInt.toNat
    · rw [if_pos ⟨rfl, t⟩]
    · rw [if_neg (fun s => t s.2)]
      exact hp i (by omega)
theorem ct_fil0 {kd : Nat} (hw : wfC S) (hk : qT S p = kd) (h0 : kd ≠ 0) (h : wJ7_fill_53178 S p x Q) : wJ7_fill_53178 S p x (fun u => Q u ∧ ∀ i : Nat, i < qN S p → qI u p i = x) := by
  unfold wJ7_fill_53178 at h ⊢
  intro a1 e1
  obtain ⟨n, h⟩ := h a1 e1
  have g := congrArg Int32.toInt e1
  rw [toI_len (hw.len9 hk h0)] at g
  have z := ct_fillL n (fun i hi => by rw [li_0k] at hi; omega) (by rw [li_0k]; omega) h
  refine ⟨n, ?_⟩
  have e : (fun u => Q u ∧ ∀ i : Nat, (i : Int) < a1.toInt → qI u p i = x) = (fun u => Q u ∧ ∀ i : Nat, i < qN S p → qI u p i = x) := by
    funext u
    apply propext
    refine and_congr_right (fun _ => ⟨fun h i hi => h i (by omega), fun h i hi => h i (by omega)⟩)
  rw [e] at z
  exact z
theorem ev_ll56 (w : wfC S) {v1 v2 v3 : Int32} : ∀ (n m : Nat) {k : Int32}, 0 ≤ k.toInt → k.toInt ≤ 100000 → v3.toInt ≤ 100000 → v3.toInt - k.toInt ≤ m → w_X2_lookupLength_L56 Q1 n S v1 v2 v3 k → Q1 (if lkB S v2 v3 m k = true then (((v2 + (8 : Int32)) + ((8 : Int32) * v3)) - v1) else 0) S := by
  intro n
  induction n with
  | zero => intro m k _ _ _ _ h; unfold w_X2_lookupLength_L56 at h; exact h.elim
  | succ n ih =>
    intro m k k0 k1 k2 hm h
    unfold w_X2_lookupLength_L56 at h
    obtain ⟨h1, h2⟩ := h w
    by_cases c0 : v3.toInt ≤ k.toInt
    · have e : lkB S v2 v3 m k = true := by
        cases m with
        | zero => rfl
        | succ m => rw [lkB_s, if_pos c0]
      rw [if_pos e]
      exact h1 c0
    · obtain ⟨m, rfl⟩ : ∃ m', m = m' + 1 := ⟨m - 1, by omega⟩
      obtain ⟨_, _, h3, h4⟩ := h2 c0
      rw [lkB_s, if_neg c0]
      by_cases c1 : (fX2_s4 S (v2 + ((8 : Int32) * k))).toInt < (fX2_s4 S ((v2 + (8 : Int32)) + ((8 : Int32) * k))).toInt
      · rw [if_pos c1]
        have e5 : (k + Int32.ofInt 1).toInt = k.toInt + 1 := by rw [t_addk (by rw [lo_1k]; omega), lo_1k]
        exact ih m (by omega) (by omega) k2 (by omega) (h3 c1 _ rfl)
      · rw [if_neg c1, if_neg (by decide)]
        exact h4 c1
theorem ev_lookupLength (w : wfC S) (h : wX2_lookupLength S o Q1) : Q1 (llF S o) S := by
  unfold wX2_lookupLength at h
  obtain ⟨_, h⟩ := h
  obtain ⟨_, h⟩ := h _ rfl
  obtain ⟨h1, h2⟩ := h _ rfl
  unfold llF
  by_cases c : (qI S 8 2).toInt < ((fX2_numbersOf S o) + (8 : Int32)).toInt
  · rw [if_pos c]; exact h1 c
  rw [if_neg c]
  obtain ⟨h1, h2⟩ := h2 c
  by_cases c1 : (fX2_s4 S ((fX2_numbersOf S o) + (4 : Int32))).toInt < 0
  · rw [if_pos c1]; exact h1 c1
  rw [if_neg c1]
  obtain ⟨h1, h2⟩ := h2 c1
  by_cases c2 : 200 < (fX2_s4 S ((fX2_numbersOf S o) + (4 : Int32))).toInt
  · rw [if_pos c2]; exact h1 c2
  rw [if_neg c2]
  obtain ⟨h1, h2⟩ := h2 c2
  by_cases c3 : (((fX2_numbersOf S o) + (8 : Int32)) + ((8 : Int32) * (fX2_s4 S ((fX2_numbersOf S o) + (4 : Int32))))).toInt ≤ (qI S 8 2).toInt
  · rw [if_pos c3]
    obtain ⟨n, h3⟩ := h1 c3
    exact ev_ll56 w n 1000 (by decide) (by decide) (by omega) (by rw [li_1k]; omega) h3
  · rw [if_neg c3]; exact h2 c3
theorem ev_lengthAt (w : wfC S) (h : wX2_lengthAt S o Q1) : Q1 (laF S o) S := by
  have J : ∀ l : Int32, l = lrF S o → w_X2_lengthAt_J110 Q1 S o l → Q1 (laF S o) S := fun l el hj => by
    unfold w_X2_lengthAt_J110 at hj
    obtain ⟨h1, h2⟩ := hj w
    unfold laF
    rw [← el]
    by_cases c : (o + l).toInt ≤ (qI S 8 2).toInt
    · rw [if_pos c]; exact h1 c
    · rw [if_neg c]; exact h2 c
  have J2 : ∀ l : Int32, l = lrF S o → w_X2_lengthAt_J97 Q1 S l o → Q1 (laF S o) S := fun l el hj => by
    unfold w_X2_lengthAt_J97 at hj
    exact J l el (hj w)
  unfold wX2_lengthAt at h
  obtain ⟨_, h⟩ := h
  obtain ⟨h1, h2⟩ := h _ rfl
  by_cases c : (fX2_u1 S o).toInt = 170
  · exact J _ (by unfold lrF; rw [if_pos c]) ((h1 c).2 _ rfl)
  obtain ⟨h1, h2⟩ := h2 c
  by_cases c1 : (fX2_u1 S o).toInt = 171
  · obtain ⟨Q11, p, h3⟩ := h1 c1
    exact J _ (by unfold lrF; rw [if_neg c, if_pos c1]) (h3 _ S (ev_lookupLength w p) w ⟨shx.rf, rfl, rfl⟩)
  obtain ⟨h1, h2⟩ := h2 c1
  by_cases c2 : (fX2_u1 S o).toInt = 188
  · obtain ⟨h3, h4⟩ := (h1 c2).2 _ rfl
    by_cases c3 : (fX2_u1 S (o + (1 : Int32))).toInt = 10
    · exact J2 2 (by unfold lrF; rw [if_neg c, if_neg c1, if_pos c2, if_pos c3]) (h3 c3)
    · exact J2 0 (by unfold lrF; rw [if_neg c, if_neg c1, if_pos c2, if_neg c3]) (h4 c3)
  obtain ⟨h1, h2⟩ := h2 c2
  by_cases c3 : (fX2_u1 S o).toInt = 196
  · exact J _ (by unfold lrF; rw [if_neg c, if_neg c1, if_neg c2, if_pos c3]) (((h1 c3).2 _ rfl).2 _ rfl)
  · exact J _ (by unfold lrF; rw [if_neg c, if_neg c1, if_neg c2, if_neg c3]) (((h2 c3).2 _ rfl).2 _ rfl)
/-- a length as it must be -/
theorem cu_lengthAt (w : wfC S) (h : wX2_lengthAt S o Q1) (h9 : 0 ≤ (qI S 9 1).toInt) : wX2_lengthAt S o (fun z u => Q1 z u ∧ z = laF S o ∧ u = S) := fn_lengthAt h9 ⟨ev_lengthAt w h, rfl, rfl⟩
/-- the number of each instruction -/
def nuA (V : MS) : Nat → Int32 → Int32 → Nat → Int32
  | 0, _, _, _ => -1
  | k + 1, o, c, j => if (qI V 8 2).toInt ≤ o.toInt then -1 else if j = o.toInt.toNat then c else nuA V k (o + stp (laF V o)) (c + (1 : Int32)) j
theorem nuA_s {k j : Nat} : nuA V (k + 1) o c j = if (qI V 8 2).toInt ≤ o.toInt then -1 else if j = o.toInt.toNat then c else nuA V k (o + stp (laF V o)) (c + (1 : Int32)) j := rfl
theorem smY.nu (h : smY S u) : ∀ (k : Nat) (o c : Int32) (j : Nat), nuA u k o c j = nuA S k o c j := by
  intro k
  induction k with
  | zero => intro o c j; rfl
  | succ k ih => intro o c j; rw [nuA_s, nuA_s, h.2.2, h.xla, ih]
def NuV (u : MS) : Prop := ∀ j : Nat, (j : Int) < (qI u 8 2).toInt → qI u 15 j = nuA u 1300 0 0 j
theorem stp_rg (ho : 0 ≤ o.toInt ∧ o.toInt ≤ 1200) : 1 ≤ (stp (laF S o)).toInt ∧ (stp (laF S o)).toInt ≤ 3000 ∧ (o + stp (laF S o)).toInt = o.toInt + (stp (laF S o)).toInt := by
  have z := mx1 (rg_la (S := S) ho).1
  have e : stp (laF S o) = (if (1 : Int32) < laF S o then laF S o else (1 : Int32)) := rfl
  rw [← e] at z
  exact ⟨z.1, z.2.1, by rw [t_addk (by omega)]⟩
theorem nuA_lt (hs : (qI S 8 2).toInt ≤ 1200) : ∀ (k : Nat) (o c : Int32) (j : Nat), 0 ≤ o.toInt → (j : Int) < o.toInt → nuA S k o c j = -1 := by
  intro k
  induction k with
  | zero => intro o c j _ _; rfl
  | succ k ih =>
    intro o c j h0 hj
    rw [nuA_s]
    by_cases z : (qI S 8 2).toInt ≤ o.toInt
    · rw [if_pos z]
    · rw [if_neg z, if_neg (by omega)]
      have s := stp_rg (S := S) (o := o) ⟨h0, by omega⟩
      exact ih _ _ j (by omega) (by omega)
theorem nuA_rg (hs : (qI S 8 2).toInt ≤ 1200) : ∀ (k : Nat) (o c : Int32) (j : Nat), 0 ≤ o.toInt → 0 ≤ c.toInt → c.toInt + cN S k o ≤ 100000 → 0 ≤ cN S k o ∧ ((nuA S k o c j).toInt = -1 ∨ c.toInt ≤ (nuA S k o c j).toInt ∧ (nuA S k o c j).toInt < c.toInt + cN S k o) := by
  intro k
  have m1 : (-1 : Int32).toInt = -1 := by decide
  induction k with
  | zero => intro o c j _ _ _; exact ⟨Int.le_refl 0, Or.inl m1⟩
  | succ k ih =>
    intro o c j h0 c0 hc
    rw [nuA_s]
    rw [cN_s] at hc ⊢
    by_cases z : (qI S 8 2).toInt ≤ o.toInt
    · rw [if_pos z, if_pos z]; exact ⟨by decide, Or.inl m1⟩
    · rw [if_neg z] at hc
      rw [if_neg z, if_neg z]
      have s := stp_rg (S := S) (o := o) ⟨h0, by omega⟩
      have nn : ∀ (k : Nat) (o : Int32), 0 ≤ cN S k o := fun k => by
        induction k with
        | zero => intro o; exact Int.le_refl 0
        | succ k ih => intro o; rw [cN_s]; split; exact Int.le_refl 0; have := ih (o + stp (laF S o)); omega
      have n0 := nn k (o + stp (laF S o))
      have e1 : (c + (1 : Int32)).toInt = c.toInt + 1 := by rw [t_addk (by rw [li_1k]; omega), li_1k]
      have I := ih (o + stp (laF S o)) (c + (1 : Int32)) j (by omega) (by omega) (by omega)
      refine ⟨by omega, ?_⟩
      by_cases y : j = o.toInt.toNat
      · rw [if_pos y]; right; omega
      · rw [if_neg y]
        rcases I.2 with q | q
        · exact Or.inl q
        · right; omega
theorem cu_ni67 (h : w_X2_numberInstructions_J67 Q U) (hp : ∀ j : Nat, (j : Int) < (qI U 8 2).toInt → qI U 15 j = nuA U 1300 0 0 j) : w_X2_numberInstructions_J67 (fun u => Q u ∧ NuV u) U := by
  unfold w_X2_numberInstructions_J67 at h ⊢
  intro w
  obtain ⟨h1, h2⟩ := h w
  refine ⟨fun c => ⟨h1 c, hp⟩, fun c => ?_⟩
  obtain ⟨h3, h4⟩ := h2 c
  refine ⟨fun c1 => ⟨h3 c1, hp⟩, fun c1 => ?_⟩
  obtain ⟨b, h5⟩ := h4 c1
  refine ⟨b, fun S8 e8 k8 w8 => ⟨h5 S8 e8 k8 w8, fun j hj => ?_⟩⟩
  have i8 : ∀ j, qI S8 8 j = qI U 8 j := fun j => by rw [e8, qI_wI, if_neg (fun z => by cases z.1)]
  have y : smY U S8 := ⟨by rw [e8]; exact smX.w15 w, i8 1, i8 2⟩
  rw [i8] at hj
  rw [y.nu, ← hp j hj, e8, qI_wI, if_neg (fun z => by have := z.2; omega)]
theorem cu_niL (h9 : 0 ≤ (qI S 9 1).toInt) (hs : (qI S 8 2).toInt ≤ 1200) : ∀ (n k : Nat) {U : MS} {v : Int32}, smY S U → 0 ≤ v.toInt → v.toInt ≤ 4300 → 1201 - v.toInt ≤ k → (∀ j : Nat, (j : Int) < v.toInt → (j : Int) < (qI S 8 2).toInt → qI U 15 j = nuA S 1300 0 0 j) → (∀ j : Nat, v.toInt ≤ (j : Int) → (j : Int) < (qI S 8 2).toInt → qI U 15 j = -1) → (∀ j : Nat, v.toInt ≤ (j : Int) → nuA S 1300 0 0 j = nuA S k v (qI U 8 8) j) → w_X2_numberInstructions_L15 Q n U v → w_X2_numberInstructions_L15 (fun u => Q u ∧ NuV u) n U v := by
  intro n
  induction n with
  | zero => intro k U v _ _ _ _ _ _ _ h; exact h
  | succ n ih =>
    intro k U v y v0 v1 hk ha hb hc h
    unfold w_X2_numberInstructions_L15 at h ⊢
    intro w
    obtain ⟨h1, h2⟩ := h w
    have fin : (qI U 8 2).toInt ≤ v.toInt → ∀ j : Nat, (j : Int) < (qI U 8 2).toInt → qI U 15 j = nuA U 1300 0 0 j := fun c j hj => by
      rw [y.nu]
      rw [y.2.2] at hj c
      exact ha j (by omega) hj
    refine ⟨fun c => cu_ni67 (h1 c) (fin c), fun c => ?_⟩
    obtain ⟨h3, h4⟩ := h2 c
    rw [y.2.2] at c
    refine ⟨fun c1 => absurd c1 (by omega), fun c1 => ?_⟩
    obtain ⟨b, h5⟩ := h4 c1
    refine ⟨b, fun S12 e12 k12 w12 S14 e14 k14 w14 => ?_⟩
    obtain ⟨Q15, p15, h15⟩ := h5 S12 e12 k12 w12 S14 e14 k14 w14
    have i12 : ∀ j, qI S12 8 j = qI U 8 j := fun j => by rw [e12, qI_wI, if_neg (fun q => absurd q.1 (by decide))]
    have i14 : ∀ j, j ≠ 8 → qI S14 8 j = qI U 8 j := fun j hj => by rw [e14, qI_wI, if_neg (fun q => hj q.2), i12]
    have m14 : smX U S14 := (by rw [e12]; exact smX.w15 w : smX U S12).tr (by rw [e14]; exact smX.w8 w12)
    have y14 : smY S S14 := y.tr ⟨m14, i14 1 (by decide), i14 2 (by decide)⟩
    refine ⟨_, cu_lengthAt w14 p15 (y14.h9 h9), ?_⟩
    rintro z S17 ⟨g, rfl, rfl⟩ w17 s17 a ea
    have ho : 0 ≤ v.toInt ∧ v.toInt ≤ 1200 := ⟨v0, by omega⟩
    have st := stp_rg (S := S) ho
    have ea' : a = v + stp (laF S v) := by rw [ea, y14.xla]; rfl
    have ea2 : a.toInt = v.toInt + (stp (laF S v)).toInt := by rw [ea', st.2.2]
    have r15 : ∀ j, qI S17 15 j = if j = v.toInt.toNat then qI U 8 8 else qI U 15 j := fun j => by
      rw [e14, qI_wI, if_neg (fun q => by cases q.1), e12, qI_wI]
      by_cases t : j = v.toInt.toNat
      · rw [if_pos ⟨rfl, t⟩, if_pos t]
      · rw [if_neg (fun s => t s.2), if_neg t]
    have c8 : qI S17 8 8 = qI U 8 8 + (1 : Int32) := by rw [e14, qI_wI, if_pos ⟨rfl, rfl⟩, i12]
    obtain ⟨k, rfl⟩ : ∃ k', k = k' + 1 := ⟨k - 1, by omega⟩
    have cv := hc v.toInt.toNat (by omega)
    rw [nuA_s (k := k), if_neg c, if_pos rfl] at cv
    have cj : ∀ j : Nat, v.toInt < (j : Int) → nuA S 1300 0 0 j = nuA S k a (qI S17 8 8) j := fun j hj => by
      have := hc j (by omega)
      rw [nuA_s (k := k), if_neg c, if_neg (by omega)] at this
      rw [this, c8, ea']
    refine ih k y14 (by omega) (by omega) (by omega) (fun j hj hj2 => ?_) (fun j hj hj2 => ?_) (fun j hj => cj j (by omega)) (h15 _ _ g w17 s17 a ea)
    · rw [r15]
      by_cases t : j = v.toInt.toNat
      · rw [if_pos t, t]; exact cv.symm
      · rw [if_neg t]
        by_cases t2 : (j : Int) < v.toInt
        · exact ha j t2 hj2
        · rw [hb j (by omega) hj2, cj j (by omega), nuA_lt hs k a _ j (by omega) hj]
    · rw [r15, if_neg (by omega)]
      exact hb j (by omega) hj2
theorem cu_numberInstructions (w : wfC S) (h9 : 0 ≤ (qI S 9 1).toInt) (hs : (qI S 8 2).toInt ≤ 1200) (h : wX2_numberInstructions S Q) : wX2_numberInstructions S (fun u => Q u ∧ NuV u) := by
  unfold wX2_numberInstructions at h ⊢
  intro k15
  obtain ⟨Q1, p1, h1⟩ := h k15
  refine ⟨_, frJ7_fill_53178 k15 (by decide) (ct_fil0 w k15 (by decide) p1), ?_⟩
  rintro S2 ⟨⟨g2, z2⟩, f2⟩ w2 s2 S4 e4 k4 w4
  obtain ⟨n, h4⟩ := h1 S2 g2 w2 s2 S4 e4 k4 w4
  have l15 : qN S 15 = 1201 := (w.2.1 _ finC_3).2.2
  have i4 : ∀ j, j ≠ 8 → qI S4 8 j = qI S 8 j := fun j hj => by rw [e4, qI_wI, if_neg (fun q => hj q.2), f2.kI w.k8 (by decide) rfl]
  have y4 : smY S S4 := ⟨(f2.sm w (by decide) (by decide) rfl rfl (fun _ => rfl)).tr (by rw [e4]; exact smX.w8 w2), i4 1 (by decide), i4 2 (by decide)⟩
  have r4 : ∀ j, qI S4 15 j = qI S2 15 j := fun j => by rw [e4, qI_wI, if_neg (fun q => by cases q.1)]
  have c4 : qI S4 8 8 = 0 := by rw [e4, qI_wI, if_pos ⟨rfl, rfl⟩]
  refine ⟨n, cu_niL h9 hs n 1300 y4 (by decide) (by decide) (by rw [li_0k]; decide) (fun j hj _ => by rw [li_0k] at hj; omega) (fun j _ hj => ?_) (fun j _ => by rw [c4]) h4⟩
  rw [r4]
  exact z2 j (by omega)
/-- lookAt, with all that it finds -/
def LoR (S : MS) (a : Int32) (u : MS) : Prop := LoQ S a u ∧ qI u 8 4 = fX7_u2 S (a + (2 : Int32)) ∧ qI u 8 5 = ((a + (8 : Int32)) + szV S a) + (2 : Int32)
theorem cu_lo23 {a : Int32} (h : w_X2_lookAt_J23 Q S a) : w_X2_lookAt_J23 (fun u => Q u ∧ LoR S a u) S a := by
  unfold w_X2_lookAt_J23 at h ⊢
  intro w0
  obtain ⟨d1, h⟩ := h w0
  refine ⟨d1, fun S4 e4 k4 w4 => ?_⟩
  have m4 : smX S S4 := by rw [e4]; exact smX.w8 w0
  obtain ⟨d2, h⟩ := h S4 e4 k4 w4
  refine ⟨d2, fun S9 e9 k9 w9 => ?_⟩
  have m9 : smX S S9 := m4.tr (by rw [e9]; exact smX.w8 w4)
  obtain ⟨d3, h⟩ := h S9 e9 k9 w9
  refine ⟨d3, fun S15 e15 k15 w15 S17 e17 k17 w17 S20 e20 k20 w20 => ?_⟩
  have m15 : smX S S15 := m9.tr (by rw [e15]; exact smX.w8 w9)
  have m17 : smX S S17 := m15.tr (by rw [e17]; exact smX.w8 w15)
  have m20 : smX S S20 := m17.tr (by rw [e20]; exact smX.w8 w17)
  obtain ⟨d4, h⟩ := h S15 e15 k15 w15 S17 e17 k17 w17 S20 e20 k20 w20
  refine ⟨d4, fun S25 e25 k25 w25 => ⟨h S25 e25 k25 w25, ?_⟩⟩
  have m25 : smX S S25 := m20.tr (by rw [e25]; exact smX.w8 w20)
  have z15 : qI S15 8 2 = szV S a := by rw [e15, qI_wI, if_pos ⟨rfl, rfl⟩, m9.s4]; rfl
  have z17 : qI S17 8 2 = szV S a := by rw [e17, qI_wI, if_neg (by decide), z15]
  have o17 : qI S17 8 1 = a + (8 : Int32) := by rw [e17, qI_wI, if_pos ⟨rfl, rfl⟩]
  have z20 : qI S20 8 2 = szV S a := by rw [e20, qI_wI, if_neg (by decide), z17]
  have o20 : qI S20 8 1 = a + (8 : Int32) := by rw [e20, qI_wI, if_neg (by decide), o17]
  refine ⟨⟨m25, by rw [e25, qI_wI, if_neg (by decide), o20], by rw [e25, qI_wI, if_neg (by decide), z20], ?_, ?_⟩, ?_, ?_⟩
  · rw [e25, qI_wI, if_pos ⟨rfl, rfl⟩, m20.u2, o20, z20]
  · rw [e25, qI_wI, if_neg (by decide), e20, qI_wI, if_neg (by decide), e17, qI_wI, if_neg (by decide), e15, qI_wI, if_neg (by decide), e9, qI_wI, if_neg (by decide), e4, qI_wI, if_pos ⟨rfl, rfl⟩]
  · rw [e25, qI_wI, if_neg (by decide), e20, qI_wI, if_neg (by decide), e17, qI_wI, if_neg (by decide), e15, qI_wI, if_neg (by decide), e9, qI_wI, if_pos ⟨rfl, rfl⟩, m4.u2]
  · rw [e25, qI_wI, if_neg (by decide), e20, qI_wI, if_pos ⟨rfl, rfl⟩, o17, z17]
theorem cu_lookAt (h : wX2_lookAt S x Q) : wX2_lookAt S x (fun u => Q u ∧ LoR S (stV S x) u) := by
  unfold wX2_lookAt at h ⊢
  refine ⟨fun c => ?_, fun c => ⟨fun c2 => ?_, fun c2 => ?_⟩⟩
  · have h := h.1 c
    unfold w_X2_lookAt_J10 at h ⊢
    have e : stV S x = 0 := if_neg (by omega)
    rw [e]
    exact fun w => cu_lo23 (h w)
  · have h := (h.2 c).1 c2
    have e : stV S x = qI S 13 x.toInt.toNat := if_pos (by omega)
    rw [e]
    exact ⟨h.1, cu_lo23 h.2⟩
  · have h := (h.2 c).2 c2
    unfold w_X2_lookAt_J10 at h ⊢
    have e : stV S x = 0 := if_neg (by omega)
    rw [e]
    exact fun w => cu_lo23 (h w)
end NU
/-! names that are the same, members of the file, as functions -/
section MB
variable {S u v U V : MS} {Q1 : Int32 → MS → Prop} {x o c e t a b : Int32}
def snL (S : MS) (p q l : Int32) : Nat → Int32 → Int32
  | 0, _ => 1
  | k + 1, i => if ((3 : Int32) + l).toInt ≤ i.toInt then 1 else if (fX7_u1 S (p + i)).toInt = (fX7_u1 S (q + i)).toInt then snL S p q l k (i + Int32.ofInt 1) else 0
theorem snL_s {p q l : Int32} {k : Nat} {i : Int32} : snL S p q l (k + 1) i = if ((3 : Int32) + l).toInt ≤ i.toInt then 1 else if (fX7_u1 S (p + i)).toInt = (fX7_u1 S (q + i)).toInt then snL S p q l k (i + Int32.ofInt 1) else 0 := rfl
def snF (S : MS) (a b : Int32) : Int32 := snL S (fX7_entryAt S a) (fX7_entryAt S b) (fX7_u2 S (fX7_entryAt S a + (1 : Int32))) 70000 1
theorem smE.snl (h : smE S u) {p q l : Int32} : ∀ (k : Nat) (i : Int32), snL u p q l k i = snL S p q l k i := by
  intro k
  induction k with
  | zero => intro i; rfl
  | succ k ih => intro i; rw [snL_s, snL_s, h.1.u1, h.1.u1, ih]
theorem smE.sn (h : smE S u) : snF u a b = snF S a b := by unfold snF; rw [h.ent, h.ent, h.1.u2, h.snl]
theorem cu_snL {p q l : Int32} (hl : 0 ≤ l.toInt ∧ l.toInt < 65536) : ∀ (n k : Nat) {i : Int32}, 0 ≤ i.toInt → i.toInt ≤ 65539 → l.toInt + 3 - i.toInt ≤ k → w_X7_isSameName_L25 Q1 n S p q l i → w_X7_isSameName_L25 (fun z u => Q1 z u ∧ u = S ∧ z = snL S p q l k i) n S p q l i := by
  have e3 : ((3 : Int32) + l).toInt = l.toInt + 3 := by rw [t_addk (by rw [li_3k]; omega), li_3k]; omega
  intro n
  induction n with
  | zero => intro k i _ _ _ h; exact h
  | succ n ih =>
    intro k i i0 i1 hk h
    unfold w_X7_isSameName_L25 at h ⊢
    intro w
    obtain ⟨h1, h2⟩ := h w
    refine ⟨fun c => ⟨h1 c, rfl, ?_⟩, fun c => ?_⟩
    · cases k with
      | zero => rfl
      | succ k => rw [snL_s, if_pos c]
    · obtain ⟨k, rfl⟩ : ∃ k', k = k' + 1 := ⟨k - 1, by omega⟩
      obtain ⟨d1, d2, h3, h4⟩ := h2 c
      refine ⟨d1, d2, fun c1 a ea => ?_, fun c1 => ⟨h4 c1, rfl, by rw [snL_s, if_neg c, if_neg c1]⟩⟩
      rw [snL_s, if_neg c, if_pos c1, ← ea]
      have e1 : a.toInt = i.toInt + 1 := by rw [ea, t_addk (by rw [lo_1k]; omega), lo_1k]
      exact ih k (by omega) (by omega) (by omega) (h3 c1 a ea)
theorem cu_isSameName (h : wX7_isSameName S a b Q1) : wX7_isSameName S a b (fun z u => Q1 z u ∧ u = S ∧ z = snF S a b) := by
  unfold wX7_isSameName at h ⊢
  obtain ⟨d1, h⟩ := h
  refine ⟨d1, fun a4 e4 => ?_⟩
  obtain ⟨d2, h⟩ := h a4 e4
  refine ⟨d2, fun a8 e8 => ?_⟩
  obtain ⟨d3, h⟩ := h a8 e8
  refine ⟨d3, fun a13 e13 => ?_⟩
  obtain ⟨n, h⟩ := h a13 e13
  have r := rg_u2 (S := S) (x := a4 + (1 : Int32))
  rw [← e13] at r
  have z := cu_snL (Q1 := Q1) (S := S) (p := a4) (q := a8) (l := a13) (by omega) n 70000 (i := 1) (by decide) (by decide) (by rw [li_1k]; omega) h
  have e : snL S a4 a8 a13 70000 1 = snF S a b := by unfold snF; rw [← e4, ← e8, ← e13]
  rw [e] at z
  exact ⟨n, z⟩
def mbL (S : MS) (pr f c : Int32) : Nat → Int32 → Int32
  | 0, _ => -1
  | k + 1, i => if c.toInt ≤ i.toInt then -1 else if (snF S (fX7_nameOf S (f + i)) (fX7_firstOf S pr)).toInt = 0 then mbL S pr f c k (i + Int32.ofInt 1) else if (snF S (fX7_typeOf S (f + i)) (fX7_secondOf S pr)).toInt = 0 then mbL S pr f c k (i + Int32.ofInt 1) else i
theorem mbL_s {pr f c : Int32} {k : Nat} {i : Int32} : mbL S pr f c (k + 1) i = if c.toInt ≤ i.toInt then -1 else if (snF S (fX7_nameOf S (f + i)) (fX7_firstOf S pr)).toInt = 0 then mbL S pr f c k (i + Int32.ofInt 1) else if (snF S (fX7_typeOf S (f + i)) (fX7_secondOf S pr)).toInt = 0 then mbL S pr f c k (i + Int32.ofInt 1) else i := rfl
def memF (S : MS) (e t : Int32) : Int32 := if (fX7_tagOf S e).toInt = t.toInt then (if (snF S (fX7_firstOf S (fX7_firstOf S e)) (fX7_firstOf S (fX7_u2 S ((qI S 9 6) + (2 : Int32))))).toInt = 0 then -1 else if t.toInt = 9 then mbL S (fX7_secondOf S e) 0 (qI S 9 7) 100 0 else mbL S (fX7_secondOf S e) (qI S 9 7) (qI S 9 8) 100 0) else -1
theorem smE.mbl (h : smE S u) {pr f c : Int32} : ∀ (k : Nat) (i : Int32), mbL u pr f c k i = mbL S pr f c k i := by
  intro k
  induction k with
  | zero => intro i; rfl
  | succ k ih => intro i; rw [mbL_s, mbL_s, h.nam, h.typ, h.fst, h.sec, h.sn, h.sn, ih]
theorem smE.mf (h : smE S u) : memF u e t = memF S e t := by
  unfold memF
  rw [h.tag, h.2.2.2.2.1, h.1.u2, h.fst, h.fst, h.fst, h.sn, h.sec, h.2.2.2.2.2.1, h.2.2.2.2.2.2, h.mbl, h.mbl]
theorem mbL_rg {pr f c : Int32} (hc : c.toInt ≤ 100) : ∀ (k : Nat) (i : Int32), 0 ≤ i.toInt → i.toInt ≤ 200 → (mbL S pr f c k i).toInt = -1 ∨ 0 ≤ (mbL S pr f c k i).toInt ∧ (mbL S pr f c k i).toInt < c.toInt := by
  intro k
  have m1 : (-1 : Int32).toInt = -1 := by decide
  induction k with
  | zero => intro i _ _; exact Or.inl m1
  | succ k ih =>
    intro i i0 i1
    rw [mbL_s]
    by_cases c0 : c.toInt ≤ i.toInt
    · rw [if_pos c0]; exact Or.inl m1
    · rw [if_neg c0]
      have e1 : (i + Int32.ofInt 1).toInt = i.toInt + 1 := by rw [t_addk (by rw [lo_1k]; omega), lo_1k]
      have I := ih (i + Int32.ofInt 1) (by omega) (by omega)
      split
      · exact I
      · split
        · exact I
        · right; omega
theorem memF_rg (h7 : (qI S 9 7).toInt ≤ 24) (h8 : (qI S 9 8).toInt ≤ 24) (h : 0 ≤ (memF S e t).toInt) : (t.toInt = 9 → (memF S e t).toInt < (qI S 9 7).toInt) ∧ (¬ t.toInt = 9 → (memF S e t).toInt < (qI S 9 8).toInt) := by
  have m1 : (-1 : Int32).toInt = -1 := by decide
  unfold memF at h ⊢
  by_cases c0 : (fX7_tagOf S e).toInt = t.toInt
  · rw [if_pos c0] at h ⊢
    by_cases c1 : (snF S (fX7_firstOf S (fX7_firstOf S e)) (fX7_firstOf S (fX7_u2 S ((qI S 9 6) + (2 : Int32))))).toInt = 0
    · rw [if_pos c1] at h; omega
    · rw [if_neg c1] at h ⊢
      by_cases c2 : t.toInt = 9
      · rw [if_pos c2] at h ⊢
        have := mbL_rg (S := S) (pr := fX7_secondOf S e) (f := 0) (c := qI S 9 7) (by omega) 100 0 (by decide) (by decide)
        exact ⟨fun _ => by omega, fun z => absurd c2 z⟩
      · rw [if_neg c2] at h ⊢
        have := mbL_rg (S := S) (pr := fX7_secondOf S e) (f := qI S 9 7) (c := qI S 9 8) (by omega) 100 0 (by decide) (by decide)
        exact ⟨fun z => absurd z c2, fun _ => by omega⟩
  · rw [if_neg c0] at h; omega
theorem cu_mbL {pr f c : Int32} (hc : c.toInt ≤ 90) : ∀ (n k : Nat) {i : Int32}, 0 ≤ i.toInt → i.toInt ≤ 200 → c.toInt - i.toInt ≤ k → w_X2_memberOf_L123 Q1 n S pr f c i → w_X2_memberOf_L123 (fun z u => Q1 z u ∧ u = S ∧ z = mbL S pr f c k i) n S pr f c i := by
  intro n
  induction n with
  | zero => intro k i _ _ _ h; exact h
  | succ n ih =>
    intro k i i0 i1 hk h
    unfold w_X2_memberOf_L123 at h ⊢
    intro w
    obtain ⟨h1, h2⟩ := h w
    refine ⟨fun c0 => ⟨h1 c0, rfl, ?_⟩, fun c0 => ?_⟩
    · cases k with
      | zero => rfl
      | succ k => rw [mbL_s, if_pos c0]
    · obtain ⟨k, rfl⟩ : ∃ k', k = k' + 1 := ⟨k - 1, by omega⟩
      rw [mbL_s, if_neg c0]
      have J : (if (snF S (fX7_nameOf S (f + i)) (fX7_firstOf S pr)).toInt = 0 then mbL S pr f c k (i + Int32.ofInt 1) else if (snF S (fX7_typeOf S (f + i)) (fX7_secondOf S pr)).toInt = 0 then mbL S pr f c k (i + Int32.ofInt 1) else i) = mbL S pr f c k (i + Int32.ofInt 1) → w_X2_memberOf_J195 Q1 (w_X2_memberOf_L123 Q1 n) S pr f c i → w_X2_memberOf_J195 (fun z u => Q1 z u ∧ u = S ∧ z = (if (snF S (fX7_nameOf S (f + i)) (fX7_firstOf S pr)).toInt = 0 then mbL S pr f c k (i + Int32.ofInt 1) else if (snF S (fX7_typeOf S (f + i)) (fX7_secondOf S pr)).toInt = 0 then mbL S pr f c k (i + Int32.ofInt 1) else i)) (w_X2_memberOf_L123 (fun z u => Q1 z u ∧ u = S ∧ z = (if (snF S (fX7_nameOf S (f + i)) (fX7_firstOf S pr)).toInt = 0 then mbL S pr f c k (i + Int32.ofInt 1) else if (snF S (fX7_typeOf S (f + i)) (fX7_secondOf S pr)).toInt = 0 then mbL S pr f c k (i + Int32.ofInt 1) else i)) n) S pr f c i := fun e hj => by
        rw [e]
        unfold w_X2_memberOf_J195 at hj ⊢
        intro w a ea
        have e1 : a.toInt = i.toInt + 1 := by rw [ea, t_addk (by rw [lo_1k]; omega), lo_1k]
        rw [← ea]
        exact ih k (by omega) (by omega) (by omega) (hj w a ea)
      obtain ⟨d1, h3⟩ := h2 c0
      refine ⟨d1, fun a37 e37 => ?_⟩
      obtain ⟨d2, h3⟩ := h3 a37 e37
      refine ⟨d2, fun a41 e41 => ?_⟩
      obtain ⟨Q42, p42, h42⟩ := h3 a41 e41
      refine ⟨_, cu_isSameName p42, ?_⟩
      rintro z S44 ⟨g, eu, ez⟩ w44 s44
      obtain ⟨h4, h5⟩ := h42 z S44 g w44 s44
      rw [eu] at h4 h5 ⊢
      rw [e37, e41] at ez
      refine ⟨fun c1 => J (by rw [if_pos (by rw [← ez]; exact c1)]) (h4 c1), fun c1 => ?_⟩
      obtain ⟨d3, h6⟩ := h5 c1
      refine ⟨d3, fun a52 e52 => ?_⟩
      obtain ⟨d4, h6⟩ := h6 a52 e52
      refine ⟨d4, fun a56 e56 => ?_⟩
      obtain ⟨Q57, p57, h57⟩ := h6 a56 e56
      refine ⟨_, cu_isSameName p57, ?_⟩
      rintro z2 S59 ⟨g2, eu2, ez2⟩ w59 s59
      obtain ⟨h7, h8⟩ := h57 z2 S59 g2 w59 s59
      rw [eu2] at h7 h8 ⊢
      rw [e52, e56] at ez2
      refine ⟨fun c2 => J (by rw [if_neg (by rw [← ez]; exact c1), if_pos (by rw [← ez2]; exact c2)]) (h7 c2), fun c2 => ⟨h8 c2, rfl, ?_⟩⟩
      rw [if_neg (by rw [← ez]; exact c1), if_neg (by rw [← ez2]; exact c2)]
theorem cu_memberOf (h7 : (qI S 9 7).toInt ≤ 24) (h8 : (qI S 9 8).toInt ≤ 24) (h : wX2_memberOf S e t Q1) : wX2_memberOf S e t (fun z u => Q1 z u ∧ u = S ∧ z = memF S e t) := by
  unfold wX2_memberOf at h ⊢
  obtain ⟨d1, h⟩ := h
  refine ⟨d1, fun a4 e4 => ?_⟩
  obtain ⟨h1, h2⟩ := h a4 e4
  refine ⟨fun c0 => ?_, fun c0 => ⟨h2 c0, rfl, by unfold memF; rw [if_neg (by rw [← e4]; exact c0)]⟩⟩
  have m0 : memF S e t = (if (snF S (fX7_firstOf S (fX7_firstOf S e)) (fX7_firstOf S (fX7_u2 S ((qI S 9 6) + (2 : Int32))))).toInt = 0 then -1 else if t.toInt = 9 then mbL S (fX7_secondOf S e) 0 (qI S 9 7) 100 0 else mbL S (fX7_secondOf S e) (qI S 9 7) (qI S 9 8) 100 0) := by
    unfold memF; rw [if_pos (by rw [← e4]; exact c0)]
  rw [m0]
  obtain ⟨d2, h3⟩ := h1 c0
  refine ⟨d2, fun a10 e10 => ?_⟩
  obtain ⟨d3, h3⟩ := h3 a10 e10
  refine ⟨d3, fun a14 e14 => ?_⟩
  obtain ⟨d4, h3⟩ := h3 a14 e14
  refine ⟨d4, fun a18 e18 => ?_⟩
  obtain ⟨d5, h3⟩ := h3 a18 e18
  refine ⟨d5, fun a22 e22 => ?_⟩
  obtain ⟨Q23, p23, h23⟩ := h3 a22 e22
  refine ⟨_, cu_isSameName p23, ?_⟩
  rintro z S25 ⟨g, eu, ez⟩ w25 s25
  obtain ⟨h4, h5⟩ := h23 z S25 g w25 s25
  rw [eu] at h4 h5 ⊢
  rw [e18, e22, e14, e10] at ez
  refine ⟨fun c1 => ⟨h4 c1, rfl, by rw [if_pos (by rw [← ez]; exact c1)]⟩, fun c1 => ?_⟩
  rw [if_neg (by rw [← ez]; exact c1)]
  obtain ⟨d6, h6⟩ := h5 c1
  refine ⟨d6, fun a31 e31 => ?_⟩
  obtain ⟨h7', h8'⟩ := h6 a31 e31
  have F : ∀ {f c : Int32}, c.toInt ≤ 24 → (∃ n, w_X2_memberOf_L123 Q1 n S a31 f c 0) → ∃ n, w_X2_memberOf_L123 (fun z u => Q1 z u ∧ u = S ∧ z = mbL S a31 f c 100 0) n S a31 f c 0 := fun {f c} hc hn => by
    obtain ⟨n, hn⟩ := hn
    exact ⟨n, cu_mbL (by omega) n 100 (by decide) (by decide) (by rw [li_0k]; omega) hn⟩
  have J118 : ∀ {f c : Int32}, c.toInt ≤ 24 → (if t.toInt = 9 then mbL S (fX7_secondOf S e) 0 (qI S 9 7) 100 0 else mbL S (fX7_secondOf S e) (qI S 9 7) (qI S 9 8) 100 0) = mbL S a31 f c 100 0 → w_X2_memberOf_J118 Q1 S c a31 f → w_X2_memberOf_J118 (fun z u => Q1 z u ∧ u = S ∧ z = (if t.toInt = 9 then mbL S (fX7_secondOf S e) 0 (qI S 9 7) 100 0 else mbL S (fX7_secondOf S e) (qI S 9 7) (qI S 9 8) 100 0)) S c a31 f := fun {f c} hc ee hj => by
    rw [ee]
    unfold w_X2_memberOf_J118 at hj ⊢
    exact fun w => F hc (hj w)
  refine ⟨fun c2 => ?_, fun c2 => ?_⟩
  · have hj := h7' c2
    unfold w_X2_memberOf_J93 at hj ⊢
    intro w
    obtain ⟨h9, h10⟩ := hj w
    exact ⟨fun _ => J118 h7 (by rw [if_pos c2, ← e31]) (h9 c2), fun c3 => absurd c2 c3⟩
  · have hj := h8' c2
    unfold w_X2_memberOf_J93 at hj ⊢
    intro w
    obtain ⟨h9, h10⟩ := hj w
    exact ⟨fun c3 => absurd c3 c2, fun _ => J118 h8 (by rw [if_neg c2, ← e31]) (h10 c2)⟩
end MB
/-! what points well, and stays so -/
theorem us_no {W : MS} {x : Int32} (h : x.toInt ≠ 21 ∧ x.toInt ≠ 22 ∧ x.toInt ≠ 25 ∧ x.toInt ≠ 54 ∧ x.toInt ≠ 55 ∧ x.toInt ≠ 58 ∧ x.toInt ≠ 132) : (fX6_usesLocal W x).toInt = 0 := by
  obtain ⟨h1, h2, h3, h4, h5, h6, h7⟩ := h
  have e1 : fX6_isLoad W x = 0 := by unfold fX6_isLoad; rw [if_neg h1, if_neg h2, if_neg h3]
  have e2 : fX6_isStore W x = 0 := by unfold fX6_isStore; rw [if_neg h4, if_neg h5, if_neg h6]
  unfold fX6_usesLocal
  rw [e1, e2, if_pos li_0k, if_pos li_0k, if_neg h7]
  rfl
section PWX
variable {S u v U V W : MS} {Q1 : Int32 → MS → Prop} {x o c e t a b : Int32}
/-- the instruction that was decoded points well -/
def PwW (W : MS) : Prop := (¬ (fX6_isJump W (qI W 8 9)).toInt = 0 → ¬ (fX2_isInstruction W (qJ W 8 10)).toInt = 0) ∧ ((qI W 8 9).toInt = 170 ∨ (qI W 8 9).toInt = 171 → ∀ j : Int32, -1 ≤ j.toInt → j.toInt < (fX2_switchCount W ((qJ W 8 10).toInt32)).toInt → ¬ (fX2_isInstruction W (fX2_switchTarget W ((qJ W 8 10).toInt32) j)).toInt = 0) ∧ (¬ (fX6_usesLocal W (qI W 8 9)).toInt = 0 → ((((qJ W 8 10).toInt32) &&& (255 : Int32)) + (fX6_localWidth W (qI W 8 9))).toInt ≤ (qI W 8 4).toInt) ∧ ((qI W 8 9).toInt = 178 ∨ (qI W 8 9).toInt = 179 → 0 ≤ (memF W ((qJ W 8 10).toInt32) 9).toInt) ∧ ((qI W 8 9).toInt = 184 → 0 ≤ (memF W ((qJ W 8 10).toInt32) 10).toInt)
theorem smP.swT (h : smP S u) (h9 : qI u 8 9 = qI S 8 9) (h11 : qI u 8 11 = qI S 8 11) {y : Int32} : fX2_switchTarget u x y = fX2_switchTarget S x y := by
  unfold fX2_switchTarget f_X2_switchTarget_J53
  rw [h9, h11, h.toY.s4, h.toY.s4, h.toY.s4]
theorem smP.swC (h : smP S u) (h9 : qI u 8 9 = qI S 8 9) : fX2_switchCount u x = fX2_switchCount S x := by
  unfold fX2_switchCount
  rw [h9, h.toY.s4, h.toY.s4]
theorem PwW.mv (h : PwW S) (s : smP S u) (h9 : qI u 8 9 = qI S 8 9) (h10 : qJ u 8 10 = qJ S 8 10) (h11 : qI u 8 11 = qI S 8 11) : PwW u := by
  obtain ⟨a, b, c, d, e⟩ := h
  refine ⟨fun z => ?_, fun z j j0 j1 => ?_, fun z => ?_, fun z => ?_, fun z => ?_⟩
  · rw [h9] at z
    rw [h10, s.ins]
    exact a z
  · rw [h9] at z
    rw [h10, s.swC h9] at j1
    rw [h10, s.swT h9 h11, s.ins]
    exact b z j j0 j1
  · rw [h9] at z
    rw [h9, h10, s.2.1.2.2.2.1]
    exact c z
  · rw [h9] at z
    rw [h10, s.1.1.mf]
    exact d z
  · rw [h9] at z
    rw [h10, s.1.1.mf]
    exact e z
/-- the instruction at o, as it is decoded, points well -/
def PwO (V : MS) (o : Int32) : Prop := ∀ W : MS, smP V W → qI W 8 9 = (dcV V o).1 → qJ W 8 10 = (dcV V o).2 → qI W 8 11 = o → PwW W
theorem PwO.mv (h : PwO S o) (s : smP u S) (y : smY u S) : PwO u o := fun W sW e9 e10 e11 => by
  have hs : smP S W := by
    obtain ⟨a, ⟨a1, a2, a3, a4, a5, a6⟩, c⟩ := s
    obtain ⟨b, ⟨b1, b2, b3, b4, b5, b6⟩, d⟩ := sW
    exact ⟨a.eu b, ⟨b1.trans a1.symm, b2.trans a2.symm, b3.trans a3.symm, b4.trans a4.symm, b5.trans a5.symm, b6.trans a6.symm⟩, fun j hj => by rw [a2] at hj; exact (d j hj).trans (c j hj).symm⟩
  rw [← y.dc] at e9 e10
  exact h W hs e9 e10 e11
/-- all along the chain -/
def ChP (V : MS) : Nat → Int32 → Prop
  | 0, _ => True
  | k + 1, o => (qI V 8 2).toInt ≤ o.toInt ∨ (PwO V o ∧ ChP V k (o + stp (laF V o)))
theorem ChP_s {k : Nat} : ChP S (k + 1) o = ((qI S 8 2).toInt ≤ o.toInt ∨ (PwO S o ∧ ChP S k (o + stp (laF S o)))) := rfl
theorem ChP.mv (s : smP u S) (y : smY u S) : ∀ (k : Nat) (o : Int32), ChP S k o → ChP u k o := by
  intro k
  induction k with
  | zero => intro o _; exact trivial
  | succ k ih =>
    intro o h
    rw [ChP_s] at h ⊢
    rw [y.2.2, y.xla] at h
    rcases h with h | h
    · exact Or.inl h
    · exact Or.inr ⟨h.1.mv s y, ih _ h.2⟩
theorem cu_thL {v1 v2 : Int32} : ∀ (n : Nat) {i : Int32}, -1 ≤ i.toInt → (∀ j : Int32, -1 ≤ j.toInt → j.toInt < i.toInt → ¬ (fX2_isInstruction S (fX2_switchTarget S v1 j)).toInt = 0) → w_X2_targetsHold_L14 Q1 n S v1 v2 i → w_X2_targetsHold_L14 (fun z u => Q1 z u ∧ u = S ∧ (¬ z.toInt = 0 → ∀ j : Int32, -1 ≤ j.toInt → j.toInt < v2.toInt → ¬ (fX2_isInstruction S (fX2_switchTarget S v1 j)).toInt = 0)) n S v1 v2 i := by
  intro n
  induction n with
  | zero => intro i _ _ h; exact h
  | succ n ih =>
    intro i i0 hi h
    unfold w_X2_targetsHold_L14 at h ⊢
    intro w
    obtain ⟨h1, h2⟩ := h w
    refine ⟨fun c => ⟨h1 c, rfl, fun _ j j0 j1 => hi j j0 (by omega)⟩, fun c => ?_⟩
    obtain ⟨d1, h3⟩ := h2 c
    refine ⟨d1, fun a10 e10 => ?_⟩
    obtain ⟨d2, h3⟩ := h3 a10 e10
    refine ⟨d2, fun a14 e14 => ?_⟩
    obtain ⟨h4, h5⟩ := h3 a14 e14
    refine ⟨fun c1 => ⟨h4 c1, rfl, fun z => absurd (by decide) z⟩, fun c1 a ea => ?_⟩
    have r2 := rgI v2
    have e1 : a.toInt = i.toInt + 1 := by rw [ea, t_addk (by rw [lo_1k]; omega), lo_1k]
    refine ih (by omega) (fun j j0 j1 => ?_) (h5 c1 a ea)
    by_cases y : j.toInt < i.toInt
    · exact hi j j0 y
    · have : j = i := Int32.toInt_inj.mp (by omega)
      rw [this, ← e10, ← e14]
      exact c1
theorem cu_pointsWell (h7 : (qI S 9 7).toInt ≤ 24) (h8 : (qI S 9 8).toInt ≤ 24) (h : wX2_pointsWell S Q1) : wX2_pointsWell S (fun z u => Q1 z u ∧ u = S ∧ (¬ z.toInt = 0 → PwW S)) := by
  have i9 : ∀ n : Int, (qI S 8 9).toInt = n → (n = 19 ∨ n = 20 ∨ n = 178 ∨ n = 179 ∨ n = 184) → (fX6_isJump S (qI S 8 9)).toInt = 0 ∧ (fX6_usesLocal S (qI S 8 9)).toInt = 0 := fun n e hn => by
    constructor
    · unfold fX6_isJump f_X6_isJump_J14
      by_cases d : (qI S 8 9).toInt < 153
      · rw [if_pos d, if_neg (by omega), if_neg (by omega)]; rfl
      · rw [if_neg d, if_neg (by omega), if_neg (by omega), if_neg (by omega)]; rfl
    · exact us_no (by refine ⟨?_, ?_, ?_, ?_, ?_, ?_, ?_⟩ <;> omega)
  unfold wX2_pointsWell at h ⊢
  obtain ⟨d1, h1, h2⟩ := h
  refine ⟨d1, fun cj => ?_, fun cj => ?_⟩
  · obtain ⟨d2, h3, h4⟩ := h1 cj
    refine ⟨d2, fun cs => ?_, fun cs => ?_⟩
    · have ns : ¬ ((qI S 8 9).toInt = 170 ∨ (qI S 8 9).toInt = 171) := sw_no cs
      obtain ⟨d3, h5, h6⟩ := h3 cs
      refine ⟨d3, fun cl => ?_, fun cl => ?_⟩
      · have mk : ((qI S 8 9).toInt = 178 ∨ (qI S 8 9).toInt = 179 → 0 ≤ (memF S ((qJ S 8 10).toInt32) 9).toInt) → ((qI S 8 9).toInt = 184 → 0 ≤ (memF S ((qJ S 8 10).toInt32) 10).toInt) → PwW S := fun a b => ⟨fun z => absurd cj z, fun z => absurd z ns, fun z => absurd cl z, a, b⟩
        have J : (qI S 8 9).toInt = 178 ∨ (qI S 8 9).toInt = 179 → w_X2_pointsWell_J172 Q1 S → w_X2_pointsWell_J172 (fun z u => Q1 z u ∧ u = S ∧ (¬ z.toInt = 0 → PwW S)) S := fun hx hj => by
          unfold w_X2_pointsWell_J172 at hj ⊢
          intro w
          obtain ⟨Q13, p13, h13⟩ := hj w
          refine ⟨_, cu_memberOf h7 h8 p13, ?_⟩
          rintro z S15 ⟨g, eu, ez⟩ w15 s15
          obtain ⟨h14, h15⟩ := h13 z S15 g w15 s15
          rw [eu] at h14 h15 ⊢
          exact ⟨fun c => ⟨h14 c, rfl, fun z => absurd (by decide) z⟩, fun c => ⟨h15 c, rfl, fun _ => mk (fun _ => by rw [← ez]; omega) (fun z => by omega)⟩⟩
        obtain ⟨h7', h8'⟩ := h5 cl
        refine ⟨fun c0 => ?_, fun c0 => ?_⟩
        · obtain ⟨d4, h9, h10⟩ := h7' c0
          exact ⟨d4, fun c => ⟨h9 c, rfl, fun _ => mk (fun z => by omega) (fun z => by omega)⟩, fun c => ⟨h10 c, rfl, fun z => absurd (by decide) z⟩⟩
        obtain ⟨h7', h8'⟩ := h8' c0
        refine ⟨fun c1 => ?_, fun c1 => ?_⟩
        · obtain ⟨d4, h9, h10⟩ := h7' c1
          exact ⟨d4, fun c => ⟨h9 c, rfl, fun _ => mk (fun z => by omega) (fun z => by omega)⟩, fun c => ⟨h10 c, rfl, fun z => absurd (by decide) z⟩⟩
        obtain ⟨h7', h8'⟩ := h8' c1
        refine ⟨fun c2 => J (Or.inl c2) (h7' c2), fun c2 => ?_⟩
        obtain ⟨h7', h8'⟩ := h8' c2
        refine ⟨fun c3 => J (Or.inr c3) (h7' c3), fun c3 => ?_⟩
        obtain ⟨h7', h8'⟩ := h8' c3
        refine ⟨fun c4 => ?_, fun c4 => ⟨h8' c4, rfl, fun _ => mk (fun z => by omega) (fun z => absurd z c4)⟩⟩
        obtain ⟨Q26, p26, h26⟩ := h7' c4
        refine ⟨_, cu_memberOf h7 h8 p26, ?_⟩
        rintro z S28 ⟨g, eu, ez⟩ w28 s28
        obtain ⟨h14, h15⟩ := h26 z S28 g w28 s28
        rw [eu] at h14 h15 ⊢
        exact ⟨fun c => ⟨h14 c, rfl, fun z => absurd (by decide) z⟩, fun c => ⟨h15 c, rfl, fun _ => mk (fun z => by omega) (fun _ => by rw [← ez]; omega)⟩⟩
      · obtain ⟨d4, h9, h10⟩ := h6 cl
        have n1 : ¬ ((qI S 8 9).toInt = 178 ∨ (qI S 8 9).toInt = 179) := fun z => cl (i9 _ rfl (by omega)).2
        have n2 : ¬ ((qI S 8 9).toInt = 184) := fun z => cl (i9 _ rfl (by omega)).2
        exact ⟨d4, fun c => ⟨h9 c, rfl, fun z => absurd (by decide) z⟩, fun c => ⟨h10 c, rfl, fun _ => ⟨fun z => absurd cj z, fun z => absurd z ns, fun _ => by omega, fun z => absurd z n1, fun z => absurd z n2⟩⟩⟩
    · have sw : (qI S 8 9).toInt = 170 ∨ (qI S 8 9).toInt = 171 := is_sw cs
      have us : (fX6_usesLocal S (qI S 8 9)).toInt = 0 := by
        exact us_no (by refine ⟨?_, ?_, ?_, ?_, ?_, ?_, ?_⟩ <;> omega)
      obtain ⟨Q37, p37, h37⟩ := h4 cs
      have p37' : wX2_targetsHold S (fun z u => Q37 z u ∧ u = S ∧ (¬ z.toInt = 0 → ∀ j : Int32, -1 ≤ j.toInt → j.toInt < (fX2_switchCount S ((qJ S 8 10).toInt32)).toInt → ¬ (fX2_isInstruction S (fX2_switchTarget S ((qJ S 8 10).toInt32) j)).toInt = 0)) := by
        unfold wX2_targetsHold at p37 ⊢
        intro a1 e1
        obtain ⟨d5, p37⟩ := p37 a1 e1
        refine ⟨d5, fun a5 e5 => ?_⟩
        obtain ⟨n, p37⟩ := p37 a5 e5
        subst e1 e5
        have lm := li_m1k
        exact ⟨n, cu_thL n (by omega) (fun j j0 j1 => by omega) p37⟩
      refine ⟨_, p37', ?_⟩
      rintro z S39 ⟨g, eu, ez⟩ w39 s39
      have h39 := h37 z S39 g w39 s39
      exact ⟨h39, eu, fun hz => ⟨fun y => absurd cj y, fun _ => ez hz, fun y => absurd us y, fun y => by omega, fun y => by omega⟩⟩
  · obtain ⟨d2, h3⟩ := h2 cj
    have j1 := jump1 cj
    have us : (fX6_usesLocal S (qI S 8 9)).toInt = 0 := by
      exact us_no (by refine ⟨?_, ?_, ?_, ?_, ?_, ?_, ?_⟩ <;> omega)
    exact ⟨d2, h3, rfl, fun z => ⟨fun _ => z, fun y => by omega, fun y => absurd us y, fun y => by omega, fun y => by omega⟩⟩
/-- where a catch goes -/
theorem cu_catchHolds (h : wX2_catchHolds S x Q1) : wX2_catchHolds S x (fun z u => Q1 z u ∧ (¬ z.toInt = 0 → ¬ (fX2_isInstruction S ((fX7_u2 S (x + (4 : Int32))).toInt64)).toInt = 0)) := by
  have J : ∀ V : MS, w_X2_catchHolds_J84 Q1 V → w_X2_catchHolds_J84 (fun z u => Q1 z u ∧ (¬ z.toInt = 0 → ¬ (fX2_isInstruction S ((fX7_u2 S (x + (4 : Int32))).toInt64)).toInt = 0)) V := fun V hj => by
    unfold w_X2_catchHolds_J84 at hj ⊢
    exact fun w => ⟨hj w, fun z => absurd (by decide) z⟩
  unfold wX2_catchHolds at h ⊢
  obtain ⟨d1, h⟩ := h
  refine ⟨d1, fun a4 e4 => ?_⟩
  obtain ⟨d2, h⟩ := h a4 e4
  refine ⟨d2, fun a9 e9 => ?_⟩
  obtain ⟨d3, h⟩ := h a9 e9
  refine ⟨d3, fun a13 e13 => ?_⟩
  obtain ⟨h1, h2⟩ := h a13 e13
  refine ⟨fun c => J S (h1 c), fun c => ?_⟩
  obtain ⟨d4, h⟩ := h2 c
  refine ⟨d4, fun a18 e18 => ?_⟩
  obtain ⟨h1, h2⟩ := h a18 e18
  refine ⟨fun c => J S (h1 c), fun c => ?_⟩
  obtain ⟨h1, h2⟩ := h2 c
  refine ⟨fun c => J S (h1 c), fun c => ?_⟩
  obtain ⟨d5, h⟩ := h2 c
  refine ⟨d5, fun a25 e25 => ?_⟩
  obtain ⟨d6, h⟩ := h a25 e25
  refine ⟨d6, fun a29 e29 => ?_⟩
  obtain ⟨h1, h2⟩ := h a29 e29
  refine ⟨fun c => J S (h1 c), fun c => ?_⟩
  obtain ⟨d7, h⟩ := h2 c
  refine ⟨d7, fun a35 e35 => ?_⟩
  obtain ⟨Q36, p36, h36⟩ := h a35 e35
  refine ⟨Q36, p36, fun r37 S38 g w38 s38 => ?_⟩
  obtain ⟨h1, h2⟩ := h36 r37 S38 g w38 s38
  refine ⟨fun c => J S38 (h1 c), fun c1 => ⟨h2 c1, fun _ => ?_⟩⟩
  rw [← e25, ← e29]
  exact c
end PWX
/-! pointersHold, with what it finds -/
section PHX
variable {S u v U V W : MS} {Q : Int32 → MS → Prop} {G : Prop} {k2 k3 : MS → Int32 → Prop} {x o : Int32}
theorem cu_breaks {a b : Int32} (h : wX7_breaks S a b Q) : wX7_breaks S a b (fun z u => Q z u ∧ z = 0) := by
  unfold wX7_breaks at h ⊢
  exact fun S1 e1 k1 w1 S2 e2 k2 w2 => ⟨h S1 e1 k1 w1 S2 e2 k2 w2, rfl⟩
def PwC (V : MS) : Prop := ∀ c : Int32, 0 ≤ c.toInt → c.toInt < (qI V 8 6).toInt → ¬ (fX2_isInstruction V ((fX7_u2 V (((qI V 8 5) + ((8 : Int32) * c)) + (4 : Int32))).toInt64)).toInt = 0
/-- the method that V looks at points well -/
def PwV (V : MS) : Prop := ChP V 1300 0 ∧ PwC V
def PwM (S : MS) (m : Int32) : Prop := ∃ V, (LoR S (stV S m) V ∧ smF S V ∧ NuV V) ∧ PwV V
def PwS (S : MS) : Prop := ∀ m : Int32, 0 ≤ m.toInt → m.toInt < (qI S 9 8).toInt → PwM S m
theorem cu_phC (hk : ∀ (W : MS) (a : Int32), smP V W → PwC V → a = x + Int32.ofInt 1 → k2 W a → k3 W a) : ∀ (n : Nat) {U : MS} {c : Int32}, smP V U → 0 ≤ c.toInt → (∀ d : Int32, 0 ≤ d.toInt → d.toInt < c.toInt → ¬ (fX2_isInstruction V ((fX7_u2 V (((qI V 8 5) + ((8 : Int32) * d)) + (4 : Int32))).toInt64)).toInt = 0) → w_X2_pointersHold_L77 Q k2 n U x c → w_X2_pointersHold_L77 (fun z u => Q z u ∧ (¬ z.toInt = 0 → G)) k3 n U x c := by
  intro n
  induction n with
  | zero => intro U c _ _ _ h; exact h
  | succ n ih =>
    intro U c y c0 hc h
    unfold w_X2_pointersHold_L77 at h ⊢
    intro w
    obtain ⟨h1, h2⟩ := h w
    refine ⟨fun z a ea => hk U a y (fun d d0 d1 => hc d d0 (by rw [y.2.1.2.2.2.2.2] at z; omega)) ea (h1 z a ea), fun z => ?_⟩
    obtain ⟨Q13, p13, h13⟩ := h2 z
    refine ⟨_, frX2_catchHolds w (cu_catchHolds p13), ?_⟩
    rintro r14 S15 ⟨⟨g, hz⟩, f15⟩ w15 s15
    obtain ⟨h3, h4⟩ := h13 r14 S15 g w15 s15
    have y15 : smP V S15 := y.tr (smP.fr w f15 rfl rfl rfl rfl rfl rfl rfl rfl rfl)
    refine ⟨fun z1 => ?_, fun z1 a ea => ?_⟩
    · obtain ⟨Q21, p21, h21⟩ := h3 z1
      exact ⟨_, cu_breaks p21, fun r22 S23 g2 w23 s23 => ⟨h21 r22 S23 g2.1 w23 s23, fun z => absurd (by rw [g2.2]; rfl) z⟩⟩
    · have r6 := rgI (qI U 8 6)
      have e1 : a.toInt = c.toInt + 1 := by rw [ea, t_addk (by rw [lo_1k]; omega), lo_1k]
      refine ih y15 (by omega) (fun d d0 d1 => ?_) (h4 z1 a ea)
      by_cases t : d.toInt < c.toInt
      · exact hc d d0 t
      · have : d = c := Int32.toInt_inj.mp (by omega)
        subst this
        have q := hz z1
        rw [y.ins, y.1.1.1.u2, y.2.1.2.2.2.2.1] at q
        exact q
theorem cu_phI (h9 : 0 ≤ (qI V 9 1).toInt) (h7 : (qI V 9 7).toInt ≤ 24) (h8 : (qI V 9 8).toInt ≤ 24) (hs : (qI V 8 2).toInt ≤ 1200) (hk : ∀ (W : MS) (a : Int32), smP V W → PwV V → a = x + Int32.ofInt 1 → k2 W a → k3 W a) : ∀ (n k : Nat) {U : MS} {o : Int32}, smP V U → 0 ≤ o.toInt → o.toInt ≤ 4300 → 1201 - o.toInt ≤ k → (ChP V k o → ChP V 1300 0) → w_X2_pointersHold_L24 Q k2 n U x o → w_X2_pointersHold_L24 (fun z u => Q z u ∧ (¬ z.toInt = 0 → G)) k3 n U x o := by
  intro n
  induction n with
  | zero => intro k U o _ _ _ _ _ h; exact h
  | succ n ih =>
    intro k U o y o0 o1 hk' hc h
    unfold w_X2_pointersHold_L24 at h ⊢
    intro w
    obtain ⟨h1, h2⟩ := h w
    refine ⟨fun z => ?_, fun z => ?_⟩
    · have ch : ChP V 1300 0 := hc (by
        cases k with
        | zero => exact trivial
        | succ k => rw [ChP_s]; left; rw [← y.2.1.2.1]; exact z)
      obtain ⟨m, h3⟩ := h1 z
      exact ⟨m, cu_phC (fun W a sW pc ea k => hk W a sW ⟨ch, pc⟩ ea k) m y (by decide) (fun d d0 d1 => by rw [li_0k] at d1; omega) h3⟩
    · obtain ⟨Q25, p25, h25⟩ := h2 z
      refine ⟨_, frX2_decode w (ct_decode w p25), ?_⟩
      rintro S26 ⟨⟨g26, ⟨x9, x10⟩, x11⟩, f26⟩ w26 s26
      obtain ⟨Q28, p28, h28⟩ := h25 S26 g26 w26 s26
      have y26 : smP V S26 := y.tr (smP.fr w f26 rfl rfl rfl rfl rfl rfl rfl rfl rfl)
      refine ⟨_, cu_pointsWell (by rw [y26.1.1.2.2.2.2.2.1]; exact h7) (by rw [y26.1.1.2.2.2.2.2.2]; exact h8) p28, ?_⟩
      rintro r29 S30 ⟨g30, e30, hz⟩ w30 s30
      obtain ⟨h3, h4⟩ := h28 r29 S30 g30 w30 s30
      rw [e30] at h3 h4 ⊢
      refine ⟨fun z1 => ?_, fun z1 => ?_⟩
      · obtain ⟨Q41, p41, h41⟩ := h3 z1
        exact ⟨_, cu_breaks p41, fun r22 S23 g2 w23 s23 => ⟨h41 r22 S23 g2.1 w23 s23, fun z => absurd (by rw [g2.2]; rfl) z⟩⟩
      · obtain ⟨Q33, p33, h33⟩ := h4 z1
        refine ⟨_, cu_lengthAt w26 p33 (y26.toY.h9 h9), ?_⟩
        rintro r34 S35 ⟨g35, er, e35⟩ w35 s35 a ea
        have hn := h33 r34 S35 g35 w35 s35 a ea
        rw [e35] at hn ⊢
        have ho : 0 ≤ o.toInt ∧ o.toInt ≤ 1200 := ⟨o0, by rw [y.2.1.2.1] at z; omega⟩
        have st := stp_rg (S := V) ho
        have ea' : a = o + stp (laF V o) := by rw [ea, er, y26.toY.xla]; rfl
        have ea2 : a.toInt = o.toInt + (stp (laF V o)).toInt := by rw [ea', st.2.2]
        rw [y.2.1.2.1] at z
        obtain ⟨k, rfl⟩ : ∃ k', k = k' + 1 := ⟨k - 1, by omega⟩
        refine ih k y26 (by omega) (by omega) (by omega) (fun ck => hc ?_) hn
        rw [ChP_s]
        refine Or.inr ⟨fun W sW e9 e10 e11 => ?_, by rw [← ea']; exact ck⟩
        have q := hz z1
        rw [y.toY.dc] at x9 x10
        have sm : smP S26 W := by
          obtain ⟨a, ⟨a1, a2, a3, a4, a5, a6⟩, c⟩ := y26
          obtain ⟨b, ⟨b1, b2, b3, b4, b5, b6⟩, d⟩ := sW
          exact ⟨a.eu b, ⟨b1.trans a1.symm, b2.trans a2.symm, b3.trans a3.symm, b4.trans a4.symm, b5.trans a5.symm, b6.trans a6.symm⟩, fun j hj => by rw [a2] at hj; exact (d j hj).trans (c j hj).symm⟩
        exact q.mv sm (by rw [e9, x9]) (by rw [e10, x10]) (by rw [e11, x11])
theorem cu_phO (h9 : 0 ≤ (qI S 9 1).toInt) (h7 : (qI S 9 7).toInt ≤ 24) (h8 : (qI S 9 8).toInt ≤ 24) : ∀ (n : Nat) {U : MS} {m : Int32}, smF S U → 0 ≤ m.toInt → (∀ j : Int32, 0 ≤ j.toInt → j.toInt < m.toInt → PwM S j) → w_X2_pointersHold_L2 Q n U m → w_X2_pointersHold_L2 (fun z u => Q z u ∧ (¬ z.toInt = 0 → PwS S)) n U m := by
  intro n
  induction n with
  | zero => intro U m _ _ _ h; exact h
  | succ n ih =>
    intro U m y m0 hm h
    unfold w_X2_pointersHold_L2 at h ⊢
    intro w
    obtain ⟨h1, h2⟩ := h w
    rw [y.1.2.2.2.2.2.2] at h1 h2 ⊢
    refine ⟨fun c => ⟨h1 c, fun _ j j0 j1 => hm j j0 (by omega)⟩, fun c => ?_⟩
    obtain ⟨Q2, p2, h3⟩ := h2 c
    refine ⟨_, frX2_lookAt w (cu_lookAt p2), ?_⟩
    rintro S3 ⟨⟨g3, l3⟩, f3⟩ w3 s3
    obtain ⟨Q5, p5, h5⟩ := h3 S3 g3 w3 s3
    have y3 : smF S S3 := y.tr (smF.fr w f3 rfl rfl rfl rfl rfl rfl rfl)
    have sz3 : (qI S3 8 2).toInt ≤ 1200 := by rw [l3.1.2.2.1]; exact szV_rg
    refine ⟨_, frX2_numberInstructions w3 (cu_numberInstructions w3 (y3.1.1.h9 h9) sz3 p5), ?_⟩
    rintro S6 ⟨⟨g6, n6⟩, f6⟩ w6 s6
    obtain ⟨k, h6⟩ := h5 S6 g6 w6 s6
    have y36 : smF S3 S6 := smF.fr w3 f6 rfl rfl rfl rfl rfl rfl rfl
    have y6 : smF S S6 := y3.tr y36
    have i6 : ∀ j, j ≠ 8 → qI S6 8 j = qI S3 8 j := fun j hj => f6.kI w3.k8 (by decide) (by
      cases e : ([(42, 8)] : List (Nat × Nat)).contains (42, j) with
      | false => rfl
      | true => have := List.contains_iff_mem.mp e; simp at this; exact absurd this hj)
    have L6 : LoR S (stV S m) S6 := by
      obtain ⟨⟨a1, a2, a3, a4, a5⟩, a6, a7⟩ := l3
      rw [y.st] at a2 a3 a4 a5 a6 a7
      have es : szV U (stV S m) = szV S (stV S m) := by unfold szV; rw [y.1.1.s4]
      rw [es] at a3 a4 a7
      rw [y.1.1.u2] at a4 a5 a6
      exact ⟨⟨y6.1.1, by rw [i6 1 (by decide)]; exact a2, by rw [i6 2 (by decide)]; exact a3, by rw [i6 6 (by decide)]; exact a4, by rw [i6 3 (by decide)]; exact a5⟩, by rw [i6 4 (by decide)]; exact a6, by rw [i6 5 (by decide)]; exact a7⟩
    refine ⟨k, cu_phI (V := S6) (y6.1.1.h9 h9) (by rw [y6.1.2.2.2.2.2.1]; exact h7) (by rw [y6.1.2.2.2.2.2.2]; exact h8) (by rw [i6 2 (by decide)]; exact sz3) (fun W a sW pv ea hk => ?_) k 1300 smP.rf (by decide) (by decide) (by rw [li_0k]; decide) (fun z => z) h6⟩
    have r8 := rgI (qI S 9 8)
    have e1 : a.toInt = m.toInt + 1 := by rw [ea, t_addk (by rw [lo_1k]; omega), lo_1k]
    refine ih (y6.tr sW.1) (by omega) (fun j j0 j1 => ?_) hk
    by_cases t : j.toInt < m.toInt
    · exact hm j j0 t
    · have : j = m := Int32.toInt_inj.mp (by omega)
      subst this
      exact ⟨S6, ⟨L6, y6, n6⟩, pv⟩
theorem cu_pointersHold (h9 : 0 ≤ (qI S 9 1).toInt) (h7 : (qI S 9 7).toInt ≤ 24) (h8 : (qI S 9 8).toInt ≤ 24) (h : wX2_pointersHold S Q) : wX2_pointersHold S (fun z u => Q z u ∧ (¬ z.toInt = 0 → PwS S)) := by
  unfold wX2_pointersHold at h ⊢
  obtain ⟨n, h⟩ := h
  exact ⟨n, cu_phO h9 h7 h8 n smF.rf (by decide) (fun j j0 j1 => by rw [li_0k] at j1; omega) h⟩
/-- what points well in one look does in another -/
theorem PwM.at {m : Int32} (h : PwM S m) (l : LoR S (stV S m) u) (s : smF S u) (n : NuV u) : PwV u := by
  obtain ⟨V, ⟨lV, sV, nV⟩, ch, pc⟩ := h
  have y : smY u V := ⟨l.1.1.eu lV.1.1, lV.1.2.1.trans l.1.2.1.symm, lV.1.2.2.1.trans l.1.2.2.1.symm⟩
  have p : smP u V := by
    refine ⟨s.eu sV, ⟨y.2.1, y.2.2, lV.1.2.2.2.2.trans l.1.2.2.2.2.symm, lV.2.1.trans l.2.1.symm, lV.2.2.trans l.2.2.symm, lV.1.2.2.2.1.trans l.1.2.2.2.1.symm⟩, fun j hj => ?_⟩
    rw [nV j (by rw [y.2.2]; exact hj), n j hj, y.nu]
  refine ⟨ChP.mv p y 1300 0 ch, fun c c0 c1 => ?_⟩
  have := pc c c0 (by rw [p.2.1.2.2.2.2.2]; exact c1)
  rw [p.ins, p.1.1.1.u2, p.2.1.2.2.2.2.1] at this
  exact this
end PHX
/-! a Row is filled: what its instructions are -/
/-- where a Row's rows lie -/
def RpK (S : MS) (r : Nat) : Prop := qT S r = 47 ∧ qR S r 0 = some (r + 1) ∧ qR S r 1 = some (r + 2) ∧ qR S r 3 = some (r + 3)
/-- instruction i of a Row of n instructions and a file of m methods -/
def OkE (N M : Int) (u : MS) (r i : Nat) : Prop := okOp (rOp u r i).toInt ∧ (¬ (fX6_isJump u (rOp u r i)).toInt = 0 → 0 ≤ ((rAr u r i).toInt32).toInt ∧ ((rAr u r i).toInt32).toInt < N) ∧ (swO (rOp u r i) → ∀ j : Nat, (j : Int) < mT u r i → 0 ≤ (qI u (qO u r 3) (aTk u r i + 2 + j).toNat).toInt ∧ (qI u (qO u r 3) (aTk u r i + 2 + j).toNat).toInt < N) ∧ (¬ (fX6_usesLocal u (rOp u r i)).toInt = 0 → (((rAr u r i).toInt32) &&& (255 : Int32)).toInt < 24) ∧ ((rOp u r i).toInt = 179 → 0 ≤ ((rAr u r i).toInt32).toInt ∧ ((rAr u r i).toInt32).toInt < 24) ∧ ((rOp u r i).toInt = 184 → 0 ≤ ((rAr u r i).toInt32).toInt ∧ ((rAr u r i).toInt32).toInt < M)
section ADX
variable {S S1 u v U V : MS} {K : List Nat} {F : List (Nat × Nat)} {Q : MS → Prop} {r i : Nat} {x : Int32} {y : Int64} {N M : Int}
theorem RwK.rp (w : wfC S) (k : qT S r = 47) (R : RwK S r) : RpK S r := by
  obtain ⟨e0, e1, e3, _⟩ := R.at w k
  have p0 := R.1.1
  have p1 := R.1.2.1
  have p3 := R.1.2.2.1
  rw [e0] at p0
  rw [e1] at p1
  rw [e3] at p3
  exact ⟨k, p0, p1, p3⟩
theorem RpK.o (h : RpK S r) : qO S r 0 = r + 1 ∧ qO S r 1 = r + 2 ∧ qO S r 3 = r + 3 := ⟨qO_of h.2.1, qO_of h.2.2.1, qO_of h.2.2.2⟩
theorem RpK.k (h : RpK S r) (w : wfC S) : qT S (r + 1) = 222 ∧ qT S (r + 2) = 406 ∧ qT S (r + 3) = 223 := ⟨w.ref h.2.1 h.1, w.ref h.2.2.1 h.1, w.ref h.2.2.2 h.1⟩
theorem RpK.fr (h : RpK S r) (f : cfr K F S u) (hK : K.contains 47 = false) (h0 : F.contains (47, 0) = false) (h1 : F.contains (47, 1) = false) (h3 : F.contains (47, 3) = false) : RpK u r := ⟨f.1.T h.1 (by decide), by rw [f.kO h.1 hK h0]; exact h.2.1, by rw [f.kO h.1 hK h1]; exact h.2.2.1, by rw [f.kO h.1 hK h3]; exact h.2.2.2⟩
theorem cu_set8 (P : RpK S r) {i : Int32} (hi : 0 ≤ i.toInt ∧ i.toInt < (qN S (r + 1) : Int)) (h : wX8_set S r i x y Q) : wX8_set S r i x y (fun u => Q u ∧ u = wJ (wI S (r + 1) i.toInt.toNat x) (r + 2) i.toInt.toNat y) := by
  obtain ⟨o0, o1, o3⟩ := P.o
  unfold wX8_set at h ⊢
  rw [o0] at h ⊢
  refine ⟨fun c => by omega, fun c => ?_⟩
  obtain ⟨e, h1, h2⟩ := h.2 c
  refine ⟨e, fun c1 => by omega, fun c1 => ?_⟩
  obtain ⟨e1, b1, h3⟩ := h2 c1
  refine ⟨e1, b1, fun S9 e9 k9 w9 => ?_⟩
  obtain ⟨e2, b2, h4⟩ := h3 S9 e9 k9 w9
  refine ⟨e2, b2, fun S13 e13 k13 w13 => ⟨h4 S13 e13 k13 w13, ?_⟩⟩
  have o9 : qO S9 r 1 = r + 2 := by rw [e9]; exact o1
  rw [e13, o9, e9]
theorem cu_add (w : wfC S) (P : RpK S r) (hc : 0 ≤ (qI S r 2).toInt ∧ (qI S r 2).toInt < (qN S (r + 1) : Int) ∧ (qI S r 2).toInt ≤ 100000) (h : wX8_add S r x y Q) : wX8_add S r x y (fun u => Q u ∧ AdP S u r x y) := by
  obtain ⟨e0, e1, e3⟩ := P.o
  have k := P.1
  have kd := P.k w
  unfold wX8_add at h ⊢
  rw [e0] at h ⊢
  refine ⟨h.1, fun c => by omega, fun c kk => ?_⟩
  obtain ⟨Q5, p5, h5⟩ := h.2.2 c kk
  refine ⟨_, cu_set8 P (by omega) p5, ?_⟩
  rintro S6 ⟨g6, q6⟩ w6 s6 S9 e9 k9 w9
  refine ⟨h5 S6 g6 w6 s6 S9 e9 k9 w9, ?_⟩
  have i6 : ∀ a j, qI S6 a j = if a = r + 1 ∧ j = (qI S r 2).toInt.toNat then x else qI S a j := fun a j => by
    rw [q6]
    show qI (wI S (r + 1) (qI S r 2).toInt.toNat x) a j = _
    rw [qI_wI]
  have j6 : ∀ a j, qJ S6 a j = if a = r + 2 ∧ j = (qI S r 2).toInt.toNat then y else qJ S a j := fun a j => by
    rw [q6, qJ_wJ]
    rfl
  have c6 : qI S6 r 2 = qI S r 2 := by rw [i6, if_neg (fun z => by omega)]
  have n1 : ((qI S6 r 2) + (1 : Int32)).toInt = (qI S r 2).toInt + 1 := by rw [c6, t_addk (by rw [li_1k]; omega), li_1k]
  have i9 : ∀ a j, qI S9 a j = if a = r ∧ j = 2 then (qI S6 r 2) + (1 : Int32) else qI S6 a j := fun a j => by rw [e9, qI_wI]
  have r9 : ∀ a j, qR S9 a j = qR S a j := fun a j => by rw [e9, q6]; rfl
  have o9 : ∀ a j, qO S9 a j = qO S a j := fun a j => qO_eq (r9 a j)
  have op : ∀ i, rOp S9 r i = if i = (qI S r 2).toInt.toNat then x else rOp S r i := fun i => by
    unfold rOp
    rw [o9, i9, if_neg (fun z => by omega), i6, e0]
    by_cases z : i = (qI S r 2).toInt.toNat
    · rw [if_pos ⟨rfl, z⟩, if_pos z]
    · rw [if_neg (fun q => z q.2), if_neg z]
  have ar : ∀ i, rAr S9 r i = if i = (qI S r 2).toInt.toNat then y else rAr S r i := fun i => by
    unfold rAr
    have : qJ S9 (qO S9 r 1) i = qJ S6 (qO S9 r 1) i := by rw [e9]; rfl
    rw [this, o9, j6, e1]
    by_cases z : i = (qI S r 2).toInt.toNat
    · rw [if_pos ⟨rfl, z⟩, if_pos z]
    · rw [if_neg (fun q => z q.2), if_neg z]
  refine ⟨⟨?_, o9 r 0, o9 r 1, o9 r 3, ?_⟩, Or.inr ⟨?_, by rw [e0]; omega, fun i hi => ⟨by rw [op, if_neg hi], by rw [ar, if_neg hi]⟩, by rw [op, if_pos rfl], by rw [ar, if_pos rfl]⟩⟩
  · rw [i9, if_neg (fun z => by omega), i6, if_neg (fun z => by omega)]
  · funext j
    rw [i9, if_neg (fun z => by omega), i6, if_neg (fun z => by omega)]
  · rw [i9, if_pos ⟨rfl, rfl⟩, n1]
theorem cu_addToTable (w : wfC S) (P : RpK S r) (hr : 0 ≤ (qI S r 4).toInt ∧ (qI S r 4).toInt < (qN S (r + 3) : Int) ∧ (qI S r 4).toInt ≤ 100000) (h : wX8_addToTable S r x Q) : wX8_addToTable S r x (fun u => Q u ∧ AtP S u r x) := by
  obtain ⟨e0, e1, e3⟩ := P.o
  have kd := P.k w
  unfold wX8_addToTable at h ⊢
  rw [e3] at h ⊢
  refine ⟨h.1, fun c => by omega, fun c => ?_⟩
  obtain ⟨e, b, h2⟩ := h.2.2 c
  refine ⟨e, b, fun S8 e8 k8 w8 S10 e10 k10 w10 => ⟨h2 S8 e8 k8 w8 S10 e10 k10 w10, ?_⟩⟩
  have i8 : ∀ a j, qI S8 a j = if a = r + 3 ∧ j = (qI S r 4).toInt.toNat then x else qI S a j := fun a j => by rw [e8, qI_wI]
  have c8 : qI S8 r 4 = qI S r 4 := by rw [i8, if_neg (fun z => by omega)]
  have n1 : ((qI S8 r 4) + (1 : Int32)).toInt = (qI S r 4).toInt + 1 := by rw [c8, t_addk (by rw [li_1k]; omega), li_1k]
  have i10 : ∀ a j, qI S10 a j = if a = r ∧ j = 4 then (qI S8 r 4) + (1 : Int32) else qI S8 a j := fun a j => by rw [e10, qI_wI]
  have r10 : ∀ a j, qR S10 a j = qR S a j := fun a j => by rw [e10, e8]; rfl
  have j10 : ∀ a j, qJ S10 a j = qJ S a j := fun a j => by rw [e10, e8]; rfl
  have o10 : ∀ a j, qO S10 a j = qO S a j := fun a j => qO_eq (r10 a j)
  refine ⟨⟨?_, ?_, o10 r 0, o10 r 1, o10 r 3⟩, fun i => ⟨?_, ?_⟩, fun j hj => ?_, ?_⟩
  · rw [i10, if_pos ⟨rfl, rfl⟩, n1]
  · rw [i10, if_neg (fun z => by omega), i8, if_neg (fun z => by omega)]
  · unfold rOp
    rw [o10, i10, if_neg (fun z => by omega), i8, if_neg (fun z => by omega)]
  · unfold rAr
    rw [o10, j10]
  · rw [i10, if_neg (fun z => by omega), i8, if_neg (fun z => hj z.2)]
  · rw [i10, if_neg (fun z => by omega), i8, if_pos ⟨e3, rfl⟩]
/-- the table of a switch, so far -/
def TaX (P : Int32 → Prop) (H : Int) (S1 U : MS) (r : Nat) (hd : Int32) (n : Int) : Prop := ((qI U r 4).toInt = (qI S1 r 4).toInt + n ∧ qI U r 2 = qI S1 r 2 ∧ qO U r 0 = qO S1 r 0 ∧ qO U r 1 = qO S1 r 1 ∧ qO U r 3 = qO S1 r 3) ∧ (∀ i, rOp U r i = rOp S1 r i ∧ rAr U r i = rAr S1 r i) ∧ (∀ j : Nat, (j : Int) < (qI S1 r 4).toInt → qI U (qO S1 r 3) j = qI S1 (qO S1 r 3) j) ∧ (1 ≤ n → qI U (qO S1 r 3) (qI S1 r 4).toInt.toNat = hd) ∧ (∀ j : Nat, (j : Int) < H → (j : Int) + 2 < n → P (qI U (qO S1 r 3) ((qI S1 r 4).toInt + 2 + j).toNat))
theorem TaX.nx {P : Int32 → Prop} {H : Int} {hd : Int32} {n : Int} (h : TaX P H S1 U r hd n) (hn : 0 ≤ n) (h4 : 0 ≤ (qI S1 r 4).toInt) (hx : n = 0 → x = hd) (hp : ∀ j : Nat, (j : Int) < H → (j : Int) + 2 = n → P x) (q : AtP U u r x) : TaX P H S1 u r hd (n + 1) := by
  obtain ⟨⟨b1, b2, b3, b4, b5⟩, c, d, e, f⟩ := h
  obtain ⟨⟨p1, p2, p3, p4, p5⟩, p6, p7, p8⟩ := q
  rw [b5] at p7 p8
  refine ⟨⟨by omega, p2.trans b2, p3.trans b3, p4.trans b4, p5.trans b5⟩, fun i => ⟨(p6 i).1.trans (c i).1, (p6 i).2.trans (c i).2⟩, fun j hj => ?_, fun _ => ?_, fun j hj hn2 => ?_⟩
  · rw [p7 j (by omega)]; exact d j hj
  · by_cases z : n = 0
    · rw [← hx z, ← p8]
      congr 1
      omega
    · rw [p7 _ (by omega)]; exact e (by omega)
  · by_cases z : (j : Int) + 2 = n
    · rw [show ((qI S1 r 4).toInt + 2 + j).toNat = (qI U r 4).toInt.toNat by omega, p8]
      exact hp j hj z
    · rw [p7 _ (by omega)]
      exact f j hj (by omega)
/-- what stays while the table grows -/
def TaG (S U : MS) (r : Nat) : Prop := wfC U ∧ RpK U r ∧ smP S U ∧ (qI U 8 9 = qI S 8 9 ∧ qJ U 8 10 = qJ S 8 10 ∧ qI U 8 11 = qI S 8 11) ∧ qN U (r + 3) = qN S (r + 3)
theorem TaG.fr (h : TaG S U r) (w' : wfC u) (f : cfr K F U u) (h1 : K.contains 101 = false) (h2 : K.contains 46 = false) (h3 : K.contains 218 = false) (h4 : K.contains 219 = false) (h7 : K.contains 220 = false) (h5 : K.contains 201 = false) (h6 : K.contains 42 = false) (hF : okL [(46, 0), (46, 1), (46, 5), (46, 6), (46, 7), (46, 8), (42, 1), (42, 2), (42, 3), (42, 4), (42, 5), (42, 6), (42, 9), (42, 10), (42, 11), (47, 0), (47, 1), (47, 3)] F = true) (hA : okO F = true) (h47 : K.contains 47 = false) : TaG S u r := by
  obtain ⟨w, P, s, ⟨a, b, c⟩, n⟩ := h
  have k8 := w.k8
  refine ⟨w', P.fr f h47 (okL_n hF (by decide)) (okL_n hF (by decide)) (okL_n hF (by decide)), s.tr (smP.fr w f h1 h2 h3 h4 h7 h5 h6 (okL_mo hF (by decide)) hA), ⟨(f.kI k8 h6 (okL_n hF (by decide))).trans a, ?_, (f.kI k8 h6 (okL_n hF (by decide))).trans c⟩, ?_⟩
  · have := (f.2.2 8 10 (by rw [k8]; decide) (by rw [k8]; exact h6) (by rw [k8]; exact okL_n hF (by decide))).2.1
    exact this.trans b
  · rw [(f.1.1 _ (by rw [(P.k w).2.2]; decide)).2]; exact n
theorem TaG.put {P : Int32 → Prop} {H : Int} {hd : Int32} {n : Int} (g : TaG S U r) (t : TaX P H S1 U r hd n) (hn : 0 ≤ n) (h4 : 0 ≤ (qI S1 r 4).toInt) (hb : (qI S1 r 4).toInt + n < (qN S (r + 3) : Int)) (hs : (qI S1 r 4).toInt + n ≤ 100000) (hx : n = 0 → x = hd) (hp : ∀ j : Nat, (j : Int) < H → (j : Int) + 2 = n → P x) (h : wX8_addToTable U r x Q) : wX8_addToTable U r x (fun u => (Q u ∧ TaX P H S1 u r hd (n + 1)) ∧ cfr [223] [(47, 4)] U u) := by
  have e4 := t.1.1
  have z := frX8_addToTable g.1 (cu_addToTable g.1 g.2.1 (by rw [e4, g.2.2.2.2]; omega) h)
  have e : (fun u => (Q u ∧ AtP U u r x) ∧ cfr [223] [(47, 4)] U u) = (fun u => (Q u ∧ AtP U u r x) ∧ cfr [223] [(47, 4)] U u) := rfl
  revert z
  generalize hQ : (fun u => (Q u ∧ AtP U u r x) ∧ cfr [223] [(47, 4)] U u) = Q'
  intro z
  have mono : ∀ u, Q' u → (Q u ∧ TaX P H S1 u r hd (n + 1)) ∧ cfr [223] [(47, 4)] U u := fun u q => by
    rw [← hQ] at q
    exact ⟨⟨q.1.1, t.nx hn h4 hx hp q.1.2⟩, q.2⟩
  unfold wX8_addToTable at z ⊢
  exact ⟨z.1, fun c => mono _ (z.2.1 c), fun c => ⟨(z.2.2 c).1, (z.2.2 c).2.1, fun S8 e8 k8 w8 S10 e10 k10 w10 => mono _ ((z.2.2 c).2.2 S8 e8 k8 w8 S10 e10 k10 w10)⟩⟩
end ADX
