/-! what Graph draws hangs on the Row alone: the edges -/
def cnR (S : MS) (r : Nat) : Nat := bN (mK S r) (nR S r).toNat
def boF (S : MS) (r k : Nat) : Int := (bN (mK S r) (k + 1) : Int) - 1
def lsF (S : MS) (r b : Nat) : Int32 := (if (cnR S r : Int) ≤ (b : Int) + 1 then qI S r 2 else Int32.ofInt (sF (mK S r) (nR S r).toNat (b + 1))) - (1 : Int32)
/-- edges, how many, and which blocks were seen last by whom -/
def aEk (S : MS) (r : Nat) (b x : Int) (s : (Nat → Int) × Nat × (Nat → Int)) : (Nat → Int) × Nat × (Nat → Int) := if 0 ≤ x ∧ x < nR S r ∧ s.2.2 (boF S r x.toNat).toNat ≠ b then (upN s.1 s.2.1 (boF S r x.toNat), s.2.1 + 1, upN s.2.2 (boF S r x.toNat).toNat b) else s
def eTg (S : MS) (r b : Nat) (l : Int32) (s : (Nat → Int) × Nat × (Nat → Int)) : Nat → (Nat → Int) × Nat × (Nat → Int)
  | 0 => s
  | j + 1 => aEk S r b (fX8_targetAt S r l (Int32.ofInt j)).toInt (eTg S r b l s j)
def eC (S : MS) (r b : Nat) (l : Int32) (s : (Nat → Int) × Nat × (Nat → Int)) : Nat → (Nat → Int) × Nat × (Nat → Int)
  | 0 => s
  | c + 1 => if (fX8_catchHas S r (Int32.ofInt c) l).toInt = 0 then eC S r b l s c else aEk S r b (caR S r 7 c) (eC S r b l s c)
def eGk (S : MS) (r b : Nat) (l : Int32) (s : (Nat → Int) × Nat × (Nat → Int)) : (Nat → Int) × Nat × (Nat → Int) := if (fX6_goesOn S (fX8_opAt S r l)).toInt = 0 then s else aEk S r b (l + (1 : Int32)).toInt s
def eB (S : MS) (r b : Nat) (l : Int32) (s : (Nat → Int) × Nat × (Nat → Int)) : (Nat → Int) × Nat × (Nat → Int) := eC S r b l (eTg S r b l (eGk S r b l s) (fX8_targetCount S r l).toInt.toNat) (qI S r 9).toInt.toNat
def eL (S : MS) (r : Nat) : Nat → (Nat → Int) × Nat × (Nat → Int)
  | 0 => (fun _ => 0, 0, fun _ => -1)
  | b + 1 => eB S r b (lsF S r b) (eL S r b)
section GX2
variable {B : Nat × Nat} {K : List Nat} {F : List (Nat × Nat)} {S u v U V : MS} {r i j b ba : Nat} {x y : Int32} {M : Nat → Int} {s : (Nat → Int) × Nat × (Nat → Int)}
theorem bN_mo {n : Nat} : ∀ k : Nat, bN M n ≤ bN M (n + k) := by
  intro k
  induction k with
  | zero => exact Nat.le_refl _
  | succ k ih => rw [show n + (k + 1) = n + k + 1 from rfl, bN_s]; omega
theorem BfI.fr (h : BfI S r M i U) (w : wfC U) (f : cfr K F U u) (hK : okVk K = true) (h2 : K.contains 202 = false) (h3 : K.contains 203 = false) (hF : okFk F = true) (hG : okL [(43, 1), (43, 2), (43, 3)] F = true) (hA : okO F = true) : BfI S r M i u := by
  obtain ⟨g1, g2, g3, g4, g5⟩ := h
  have k43 : K.contains 43 = false := okV_n hK (by decide)
  have e2 := (gi_fr w f w.g2 h2 hA k43 (okL_n hG (by decide)) (by decide)).1
  have e3 := (gi_fr w f w.g3 h3 hA k43 (okL_n hG (by decide)) (by decide)).1
  refine ⟨g1.fr w f hK hF, by rw [f.kI w.k52 k43 (okL_n hG (by decide))]; exact g2, fun k hk => by rw [e3]; exact g3 k hk, fun k a c => by rw [e3]; exact g4 k a c, fun k hk => by rw [e2]; exact g5 k hk⟩
theorem BkC.bo (h : BkC S r U) {k : Nat} (hk : (k : Int) < nR S r) : gi U 3 k = boF S r k := h.2.2.1 k (by omega)
theorem bo_lt {k : Nat} (hk : (k : Int) < nR S r) : boF S r k < cnR S r := by
  have := bN_mo (M := mK S r) (n := k + 1) ((nR S r).toNat - (k + 1))
  rw [show k + 1 + ((nR S r).toNat - (k + 1)) = (nR S r).toNat by omega] at this
  unfold boF cnR
  omega
def EaI (S : MS) (r ba : Nat) (s : (Nat → Int) × Nat × (Nat → Int)) (U : MS) (n : Int32) : Prop := BkC S r U ∧ (n.toInt = (s.2.1 : Int) ∧ (s.2.1 : Int) ≤ (qN U (qO U 52 5) : Int)) ∧ (∀ k : Nat, k < s.2.1 → gi U 5 k = s.1 k) ∧ (∀ k : Nat, k < cnR S r → gi U 14 k = s.2.2 k) ∧ ∀ k : Nat, k < ba → gi U 4 k = ((eL S r k).2.1 : Int)
theorem ct_J59 {Q : Int32 → MS → Prop} {v1 v2 v3 : Int32} (h : w_X3_addEdge_J59 Q U v1 v2 v3) (g : EaI S r ba s U v3) (hx : 0 ≤ v2.toInt ∧ v2.toInt < nR S r) (hs : s.2.2 (boF S r v2.toInt.toNat).toNat ≠ v1.toInt) : w_X3_addEdge_J59 (fun m u => Q m u ∧ EaI S r ba (aEk S r v1.toInt v2.toInt s) u m) U v1 v2 v3 := by
  obtain ⟨g1, ⟨g2, g2'⟩, g3, g4, g5⟩ := g
  unfold w_X3_addEdge_J59 at h ⊢
  intro w
  replace h := h w
  have bo : (qI U (qO U 52 3) v2.toInt.toNat).toInt = boF S r v2.toInt.toNat := g1.bo (by omega)
  refine ⟨h.1, h.2.1, fun S19 e19 k19 w19 => ?_⟩
  replace h := h.2.2 S19 e19 k19 w19
  have f1 : cfr [205, 211] [] U S19 := by rw [e19]; exact cfr.aI k19 rfl
  refine ⟨h.1, h.2.1, fun S25 e25 k25 w25 => ⟨h.2.2 S25 e25 k25 w25, ?_⟩⟩
  have f2 : cfr [205, 211] [] S19 S25 := by rw [e25]; exact cfr.aI k25 rfl
  have f := f1.tr f2
  have l5 : (qN S19 (qO S19 52 5) : Int) = (qN U (qO U 52 5) : Int) := f1.kL w w.k52 (w.ptr (by decide)) rfl rfl
  have l5' : (qN S25 (qO S25 52 5) : Int) = (qN U (qO U 52 5) : Int) := f.kL w w.k52 (w.ptr (by decide)) rfl rfl
  have l9 := w.len9 w.g5 (by decide)
  have hv := h.2.1
  have b3 : (qI S19 (qO S19 52 3) v2.toInt.toNat).toInt = boF S r v2.toInt.toNat := by
    rw [← bo]
    exact (gi_fr w f1 w.g3 rfl rfl rfl rfl (by decide)).1 v2.toInt.toNat
  have e14 : ∀ k, gi S25 14 k = if k = (boF S r v2.toInt.toNat).toNat then v1.toInt else gi U 14 k := fun k => by
    have q1 : gi S25 14 k = gi S19 14 k := by
      unfold gi
      rw [show qO S25 52 14 = qO S19 52 14 by rw [e25]; rfl, e25, qI_wI, if_neg (fun z => absurd (show (211 : Nat) = 205 by rw [← w19.g14, ← k25, z.1]) (by decide))]
    rw [q1]
    unfold gi
    rw [show qO S19 52 14 = qO U 52 14 by rw [e19]; rfl, e19, qI_wI, bo]
    by_cases z : k = (boF S r v2.toInt.toNat).toNat
    · rw [if_pos ⟨rfl, z⟩, if_pos z]
    · rw [if_neg (fun y => z y.2), if_neg z]
  have e5 : ∀ k, gi S25 5 k = if k = s.2.1 then boF S r v2.toInt.toNat else gi U 5 k := fun k => by
    have q1 : gi S19 5 k = gi U 5 k := by
      unfold gi
      rw [show qO S19 52 5 = qO U 52 5 by rw [e19]; rfl, e19, qI_wI, if_neg (fun z => absurd (show (205 : Nat) = 211 by rw [← w.g5, ← k19, z.1]) (by decide))]
    rw [← q1]
    unfold gi
    rw [show qO S25 52 5 = qO S19 52 5 by rw [e25]; rfl, e25, qI_wI, show v3.toInt.toNat = s.2.1 by omega]
    by_cases z : k = s.2.1
    · rw [if_pos ⟨rfl, z⟩, if_pos z]; exact b3
    · rw [if_neg (fun y => z y.2), if_neg z]
  have ea : aEk S r v1.toInt v2.toInt s = (upN s.1 s.2.1 (boF S r v2.toInt.toNat), s.2.1 + 1, upN s.2.2 (boF S r v2.toInt.toNat).toNat v1.toInt) := if_pos ⟨hx.1, hx.2, hs⟩
  rw [ea]
  refine ⟨g1.fr w f rfl rfl rfl rfl rfl rfl, ⟨by rw [t_addk (by rw [li_1k]; omega), li_1k, g2]; rfl, ?_⟩, fun k hk => ?_, fun k hk => ?_, fun k hk => by rw [(gi_fr w f w.g4 rfl rfl rfl rfl (by decide)).1]; exact g5 k hk⟩
  · show ((s.2.1 + 1 : Nat) : Int) ≤ _
    omega
  · rw [e5]
    show _ = upN s.1 s.2.1 _ k
    unfold upN
    by_cases z : k = s.2.1
    · rw [if_pos z, if_pos z]
    · rw [if_neg z, if_neg z]; exact g3 k (by have : k < s.2.1 + 1 := hk; omega)
  · rw [e14]
    show _ = upN s.2.2 _ _ k
    unfold upN
    by_cases z : k = (boF S r v2.toInt.toNat).toNat
    · rw [if_pos z, if_pos z]
    · rw [if_neg z, if_neg z]; exact g4 k hk
theorem cf_copyOf {kd p : Nat} {Q : Nat → MS → Prop} (w : wfC S) (hL : qN S p < 2147483648) (hp : p ≠ qn S) (hx : (qN S p : Int) < x.toInt) (h : wJ7_copyOf_59c91 S kd p x Q) : wJ7_copyOf_59c91 S kd p x (fun c u => (Q c u ∧ (c = qn S ∧ qN u c = x.toInt.toNat) ∧ ∀ k : Nat, k < qN S p → qI u c k = qI S p k) ∧ cfr [] [] S u) := by
  refine frJ7_copyOf_59c91 w ?_
  have eL := toI_nat hL
  unfold wJ7_copyOf_59c91 at h ⊢
  refine ⟨h.1, fun c => ?_⟩
  replace h := h.2 c
  refine ⟨h.1, fun S5 e5 w5 => ?_⟩
  replace h := h.2 S5 e5 w5
  refine ⟨h.1, fun S9 e9 k9 w9 => ⟨h.2 S9 e9 k9 w9, ⟨rfl, ?_⟩, fun k hk => ?_⟩⟩
  · rw [e9, e5]; exact wCN_n
  · have e1 : qN S5 p = qN S p := by rw [e5]; exact if_neg hp
    have cc : ¬ x < (Int32.ofNat (qN S p)) := fun q => by have := n_lt.mp q; rw [eL] at this; omega
    rw [e1, if_neg cc] at e9
    rw [e9]
    have : ∀ f : Nat → Int32, qI (wC S5 (qn S) f) (qn S) k = f k := fun f => by
      show (if qn S = qn S then f else _) k = f k
      rw [if_pos rfl]
    rw [this, cpy_0 (by omega), e5, wN_I hp]
theorem ct_addEdge {Q : Int32 → MS → Prop} {x1 x2 x3 : Int32} (w : wfC U) (h : wX3_addEdge U x1 x2 x3 Q) (g : EaI S r ba s U x3) : wX3_addEdge U x1 x2 x3 (fun m u => (Q m u ∧ EaI S r ba (aEk S r x1.toInt x2.toInt s) u m) ∧ cfr [205, 211] [(43, 5)] U u) := by
  refine frX3_addEdge w ?_
  obtain ⟨g1, ⟨g2, g2'⟩, g3, g4, g5⟩ := id g
  have eN : (qI U (qO U 52 0) 2).toInt = nR S r := by rw [g1.1.1.1, g1.1.1.2.1.1.1]; rfl
  have same : ¬ (0 ≤ x2.toInt ∧ x2.toInt < nR S r ∧ s.2.2 (boF S r x2.toInt.toNat).toNat ≠ x1.toInt) → EaI S r ba (aEk S r x1.toInt x2.toInt s) U x3 := fun c => by
    rw [show aEk S r x1.toInt x2.toInt s = s from if_neg c]; exact g
  unfold wX3_addEdge at h ⊢
  refine ⟨fun c => ⟨h.1 c, same (fun z => by omega)⟩, fun c => ?_⟩
  replace h := h.2 c
  refine ⟨h.1, fun d => ⟨h.2.1 d, same (fun z => by omega)⟩, fun d => ?_⟩
  replace h := h.2.2 d
  have bo : (qI U (qO U 52 3) x2.toInt.toNat).toInt = boF S r x2.toInt.toNat := g1.bo (by omega)
  have bl := bo_lt (S := S) (r := r) (k := x2.toInt.toNat) (by omega)
  have h0 := h.2.1.1
  rw [bo] at h0
  have sn := g4 (boF S r x2.toInt.toNat).toNat (by omega)
  have sn' : (qI U (qO U 52 14) (qI U (qO U 52 3) x2.toInt.toNat).toInt.toNat).toInt = s.2.2 (boF S r x2.toInt.toNat).toNat := by rw [bo]; exact sn
  refine ⟨h.1, h.2.1, fun c3 => ⟨h.2.2.1 c3, same (fun z => z.2.2 (by rw [← sn']; exact c3))⟩, fun c3 => ?_⟩
  replace h := h.2.2.2 c3
  have hs : s.2.2 (boF S r x2.toInt.toNat).toNat ≠ x1.toInt := fun z => c3 (by rw [sn']; exact z)
  refine ⟨fun c4 => ct_J59 (h.1 c4) g ⟨by omega, by omega⟩ hs, fun c4 k5 => ?_⟩
  obtain ⟨Q32, a1, a2⟩ := h.2 c4 k5
  have hT : qn U < TXB := by
    unfold wJ7_copyOf_59c91 at a1
    by_cases z : ((2 : Int32) * (Int32.ofNat (qN U (qO U 52 5)))).toInt = (Int32.ofNat (qN U (qO U 52 5))).toInt
    · exact (a1.1 z).elim
    · exact KC_TX (a1.2 z).1.2.1
  have l9 := w.len9 k5 (by decide)
  have eL := toI_nat (n := qN U (qO U 52 5)) (by omega)
  have m2 : ((2 : Int32) * (Int32.ofNat (qN U (qO U 52 5)))).toInt = 2 * (qN U (qO U 52 5) : Int) := by rw [t_mulk (by rw [li_2k, eL]; omega), li_2k, eL]
  have hx : (qN U (qO U 52 5) : Int) < ((2 : Int32) * (Int32.ofNat (qN U (qO U 52 5)))).toInt := by
    by_cases z : qN U (qO U 52 5) = 0
    · exfalso
      unfold wJ7_copyOf_59c91 at a1
      refine a1.1 ?_
      rw [toI_nat (by omega), m2, z]
      rfl
    · omega
  refine ⟨_, cf_copyOf w (by omega) (w.ne hT k5 (by decide)) hx a1, fun b37 S34 q34 w34 s34 k34 S38 e38 k38 w38 => ?_⟩
  obtain ⟨⟨q1, ⟨q2, q2'⟩, q3⟩, f34⟩ := q34
  replace h := a2 b37 S34 q1 w34 s34 k34 S38 e38 k38 w38
  have f38 : cfr [] [(43, 5)] S34 S38 := by rw [e38]; exact cfr.oR k38 rfl
  have f := (f34.mo (K' := []) (F' := [(43, 5)]) rfl rfl).tr f38
  have o5 : qO S38 52 5 = b37 := qO_of (by rw [e38, qR_wR, if_pos ⟨rfl, rfl⟩])
  refine ct_J59 h ⟨g1.fr w f rfl rfl rfl rfl rfl rfl, ⟨g2, ?_⟩, fun k hk => ?_, fun k hk => by rw [(gi_fr w f w.g14 rfl rfl rfl rfl (by decide)).1]; exact g4 k hk, fun k hk => by rw [(gi_fr w f w.g4 rfl rfl rfl rfl (by decide)).1]; exact g5 k hk⟩ ⟨by omega, by omega⟩ hs
  · rw [o5, show qN S38 b37 = qN S34 b37 by rw [e38]; rfl, q2']
    omega
  · rw [← g3 k hk]
    unfold gi
    rw [o5, show qI S38 b37 k = qI S34 b37 k by rw [e38]; rfl, q3 k (by omega)]
end GX2
/-! what Graph draws hangs on the Row alone: the edges, its loops -/
section GY
variable {B : Nat × Nat} {K : List Nat} {F : List (Nat × Nat)} {S u v U V : MS} {r i j b ba : Nat} {x y : Int32} {s : (Nat → Int) × Nat × (Nat → Int)}
theorem ct_L103 {Q Q' : MS → Prop} {k12 k12' : MS → Int32 → Int32 → Prop} {v2 v3 : Int32} (h2 : v2.toInt = (b : Int)) (hb : b < 1300) (hk : ∀ (V : MS) (m a : Int32), k12 V m a → EaI S r ba (eC S r b v3 s (qI S r 9).toInt.toNat) V m → a.toInt = ((b + 1 : Nat) : Int) → k12' V m a) : ∀ (n : Nat) {U : MS} {v1 v5 : Int32} (c : Nat), w_X3_findEdges_L103 Q k12 n U v1 v2 v3 v5 → EaI S r ba (eC S r b v3 s c) U v1 → v5.toInt = (c : Int) → ((c : Int) ≤ (qI S r 9).toInt ∨ c = 0) → w_X3_findEdges_L103 Q' k12' n U v1 v2 v3 v5 := by
  intro n
  induction n with
  | zero => intro U v1 v5 c h; unfold w_X3_findEdges_L103 at h; exact h.elim
  | succ n ih =>
    intro U v1 v5 c h g h5 hc
    unfold w_X3_findEdges_L103 at h ⊢
    intro w
    replace h := h w
    have n5 : v5.toInt.toNat = c := by omega
    have o := g.1.1.1.1
    have rc := g.1.1.1.2
    have e9 : qI U (qO U 52 0) 9 = qI S r 9 := by rw [o]; exact rc.2.1
    have rr := rgI (qI S r 9)
    have J : ∀ (V : MS) (m : Int32), ¬ (qI U (qO U 52 0) 9).toInt ≤ v5.toInt → EaI S r ba (eC S r b v3 s (c + 1)) V m → w_X3_findEdges_J145 Q (w_X3_findEdges_L103 Q k12 n) V m v2 v3 v5 → w_X3_findEdges_J145 Q' (w_X3_findEdges_L103 Q' k12' n) V m v2 v3 v5 := fun V m d gV hV => by
      unfold w_X3_findEdges_J145 at hV ⊢
      intro wV a ea
      rw [e9] at d
      have e := t_inc ea (by omega)
      exact ih (c + 1) (hV wV a ea) gV (by omega) (by omega)
    refine ⟨h.1, fun d a ea => hk U v1 a (h.2.1 d a ea) ?_ (by have := t_inc ea (by omega); omega), fun d => ?_⟩
    · rw [e9] at d
      rw [show (qI S r 9).toInt.toNat = c by omega]; exact g
    · replace h := h.2.2 d
      refine ⟨h.1, h.2.1, fun a42 e42 => ?_⟩
      replace h := h.2.2 a42 e42
      have ch : (fX8_catchHas S r (Int32.ofInt (c : Int)) v3).toInt = a42.toInt := by rw [e42, o, rc.ch, ofI h5]
      refine ⟨fun z => J U v1 d ?_ (h.1 z), fun z => ?_⟩
      · unfold eC
        rw [ch, if_pos z]; exact g
      · replace h := h.2 z
        refine ⟨h.1, h.2.1, h.2.2.1, ?_⟩
        obtain ⟨Q51, a1, a2⟩ := h.2.2.2
        refine ⟨_, ct_addEdge w a1 g, fun r52 S53 q w53 s53 => J S53 r52 d ?_ (a2 r52 S53 q.1.1 w53 s53)⟩
        have ca : (qI U (qO U (qO U 52 0) 7) v5.toInt.toNat).toInt = caR S r 7 c := by
          rw [o, n5, ← rc.ca (Or.inr (Or.inr rfl))]
          rfl
        have q2 := q.1.2
        rw [ca, h2] at q2
        unfold eC
        rw [ch, if_neg z]; exact q2
theorem ct_L70 {Q Q' : MS → Prop} {k12 k12' : MS → Int32 → Int32 → Prop} {v2 v3 v4 : Int32} (h2 : v2.toInt = (b : Int)) (hb : b < 1300) (h4 : v4.toInt = (fX8_targetCount S r v3).toInt) (hk : ∀ (V : MS) (m a : Int32), k12 V m a → EaI S r ba (eC S r b v3 (eTg S r b v3 s (fX8_targetCount S r v3).toInt.toNat) (qI S r 9).toInt.toNat) V m → a.toInt = ((b + 1 : Nat) : Int) → k12' V m a) : ∀ (n : Nat) {U : MS} {v1 v5 : Int32} (j : Nat), w_X3_findEdges_L70 Q k12 n U v1 v2 v3 v4 v5 → EaI S r ba (eTg S r b v3 s j) U v1 → v5.toInt = (j : Int) → ((j : Int) ≤ v4.toInt ∨ j = 0) → w_X3_findEdges_L70 Q' k12' n U v1 v2 v3 v4 v5 := by
  intro n
  induction n with
  | zero => intro U v1 v5 j h; unfold w_X3_findEdges_L70 at h; exact h.elim
  | succ n ih =>
    intro U v1 v5 j h g h5 hj
    unfold w_X3_findEdges_L70 at h ⊢
    intro w
    replace h := h w
    have o := g.1.1.1.1
    have rc := g.1.1.1.2
    refine ⟨fun d => ?_, fun d => ?_⟩
    · obtain ⟨m, hm⟩ := h.1 d
      refine ⟨m, ct_L103 h2 hb hk m 0 hm ?_ (by decide) (Or.inr rfl)⟩
      show EaI S r ba (eTg S r b v3 s (fX8_targetCount S r v3).toInt.toNat) U v1
      rw [show (fX8_targetCount S r v3).toInt.toNat = j by omega]; exact g
    · replace h := h.2 d
      refine ⟨h.1, h.2.1, fun a61 e61 => ?_⟩
      obtain ⟨Q62, a1, a2⟩ := h.2.2 a61 e61
      refine ⟨_, ct_addEdge w a1 g, fun r63 S64 q w64 s64 a ea => ?_⟩
      have r4 := rgI v4
      have e := t_inc ea (by omega)
      refine ih (j + 1) (a2 r63 S64 q.1.1 w64 s64 a ea) ?_ (by omega) (by omega)
      have q2 := q.1.2
      rw [e61, o, rc.ta, h2, ← ofI h5] at q2
      exact q2
theorem ct_J57 {Q Q' : MS → Prop} {k12 k12' : MS → Int32 → Int32 → Prop} {v1 v2 v3 : Int32} (h2 : v2.toInt = (b : Int)) (hb : b < 1300) (g : EaI S r ba s U v1) (hk : ∀ (V : MS) (m a : Int32), k12 V m a → EaI S r ba (eC S r b v3 (eTg S r b v3 s (fX8_targetCount S r v3).toInt.toNat) (qI S r 9).toInt.toNat) V m → a.toInt = ((b + 1 : Nat) : Int) → k12' V m a) (h : w_X3_findEdges_J57 Q k12 U v1 v2 v3) : w_X3_findEdges_J57 Q' k12' U v1 v2 v3 := by
  unfold w_X3_findEdges_J57 at h ⊢
  intro w
  replace h := h w
  refine ⟨h.1, h.2.1, fun a31 e31 => ?_⟩
  obtain ⟨m, hm⟩ := h.2.2 a31 e31
  exact ⟨m, ct_L70 h2 hb (by rw [e31, g.1.1.1.1, g.1.1.1.2.tc]) hk m 0 hm g (by decide) (Or.inr rfl)⟩
/-- the edges of Row r -/
def EdC (S : MS) (r : Nat) (U : MS) : Prop := BkC S r U ∧ (∀ k : Nat, k ≤ cnR S r → gi U 4 k = ((eL S r k).2.1 : Int)) ∧ ∀ k : Nat, k < (eL S r (cnR S r)).2.1 → gi U 5 k = (eL S r (cnR S r)).1 k
theorem ct_L12 {Q Q' : MS → Prop} (hN : 0 ≤ nR S r ∧ nR S r ≤ 1200) (hQ : ∀ U : MS, Q U → EdC S r U → Q' U) : ∀ (n : Nat) {U : MS} {v1 v2 : Int32} (b : Nat), w_X3_findEdges_L12 Q n U v1 v2 → EaI S r b (eL S r b) U v1 → v2.toInt = (b : Int) → b ≤ cnR S r → w_X3_findEdges_L12 Q' n U v1 v2 := by
  intro n
  induction n with
  | zero => intro U v1 v2 b h; unfold w_X3_findEdges_L12 at h; exact h.elim
  | succ n ih =>
    intro U v1 v2 b h g h2 hb
    obtain ⟨g1, ⟨g2, g2'⟩, g3, g4, g5⟩ := id g
    unfold w_X3_findEdges_L12 at h ⊢
    intro w
    replace h := h w
    have cN : (qI U 52 1).toInt = (cnR S r : Int) := g1.2.1
    have cl : cnR S r ≤ (nR S r).toNat := bN_le _
    have put : ∀ (V : MS) (i : Nat), V = wI U (qO U 52 4) i v1 → qT U (qO U 52 4) = 204 → BkC S r V ∧ (∀ k, gi V 4 k = if k = i then v1.toInt else gi U 4 k) ∧ (∀ k, gi V 5 k = gi U 5 k) ∧ (∀ k, gi V 14 k = gi U 14 k) ∧ (qN V (qO V 52 5) : Int) = (qN U (qO U 52 5) : Int) := fun V i e k4 => by
      have f : cfr [204] [] U V := by rw [e]; exact cfr.aI k4 rfl
      refine ⟨g1.fr w f rfl rfl rfl rfl rfl rfl, fun k => ?_, (gi_fr w f w.g5 rfl rfl rfl rfl (by decide)).1, (gi_fr w f w.g14 rfl rfl rfl rfl (by decide)).1, f.kL w w.k52 (w.ptr (by decide)) rfl rfl⟩
      unfold gi
      rw [show qO V 52 4 = qO U 52 4 by rw [e]; rfl, e, qI_wI]
      by_cases z : k = i
      · rw [if_pos ⟨rfl, z⟩, if_pos z]
      · rw [if_neg (fun y => z y.2), if_neg z]
    refine ⟨fun c => ?_, fun c => ?_⟩
    · replace h := h.1 c
      refine ⟨h.1, fun S8 e8 k8 w8 => hQ S8 (h.2 S8 e8 k8 w8) ?_⟩
      obtain ⟨p1, p2, p3, p4, p5⟩ := put S8 _ e8 k8
      have eb : b = cnR S r := by omega
      refine ⟨p1, fun k hk => ?_, fun k hk => ?_⟩
      · rw [p2]
        by_cases z : k = (qI U 52 1).toInt.toNat
        · rw [if_pos z, g2, show k = b by omega]
        · rw [if_neg z]; exact g5 k (by omega)
      · rw [p3, ← eb]
        rw [← eb] at hk
        exact g3 k hk
    · replace h := h.2 c
      refine ⟨h.1, fun S11 e11 k11 w11 => ?_⟩
      replace h := h.2 S11 e11 k11 w11
      obtain ⟨p1, p2, p3, p4, p5⟩ := put S11 _ e11 k11
      rw [show v2.toInt.toNat = b by omega] at p2
      have G : EaI S r (b + 1) (eL S r b) S11 v1 := ⟨p1, ⟨g2, by rw [p5]; exact g2'⟩, fun k hk => by rw [p3]; exact g3 k hk, fun k hk => by rw [p4]; exact g4 k hk, fun k hk => by
        rw [p2]
        by_cases z : k = b
        · rw [if_pos z, g2, z]
        · rw [if_neg z]; exact g5 k (by omega)⟩
      have o := p1.1.1.1
      have rc := p1.1.1.2
      have v21 : (v2 + (1 : Int32)).toInt = (b : Int) + 1 := by rw [t_addk (by rw [li_1k]; omega), li_1k, h2]
      have cN11 : (qI S11 52 1).toInt = (cnR S r : Int) := p1.2.1
      refine ⟨h.1, fun a15 e15 => ?_⟩
      replace h := h.2 a15 e15
      have el : a15 = lsF S r b := by
        rw [e15]
        unfold fX3_lastOf lsF
        rw [v21, cN11, o, rc.1.1.1]
        by_cases z : (cnR S r : Int) ≤ (b : Int) + 1
        · rw [if_pos z, if_pos z]
        · rw [if_neg z, if_neg z]
          have := p1.2.2.2.2 (b + 1) (show b + 1 < cnR S r by omega)
          rw [show ((b : Int) + 1).toNat = b + 1 by omega, ← this]
          unfold gi
          rw [Int32.ofInt_toInt]
      rw [el] at h ⊢
      have fin : ∀ (V : MS) (m a : Int32), w_X3_findEdges_L12 Q n V m a → EaI S r (b + 1) (eB S r b (lsF S r b) (eL S r b)) V m → a.toInt = ((b + 1 : Nat) : Int) → w_X3_findEdges_L12 Q' n V m a := fun V m a k gV ea => ih (b + 1) k gV ea (by omega)
      refine ⟨h.1, h.2.1, fun a21 e21 => ?_⟩
      replace h := h.2.2 a21 e21
      refine ⟨h.1, fun a25 e25 => ?_⟩
      replace h := h.2 a25 e25
      have go : (fX6_goesOn S (fX8_opAt S r (lsF S r b))).toInt = a25.toInt := by
        rw [e25, e21, o, rc.op]
        rfl
      refine ⟨fun z => ct_J57 h2 (by omega) G (fun V m a k gV ea => fin V m a k ?_ ea) (h.1 z), fun z => ?_⟩
      · unfold eB eGk
        rw [go, if_pos z]; exact gV
      · obtain ⟨Q70, a1, a2⟩ := h.2 z
        refine ⟨_, ct_addEdge w11 a1 G, fun r71 S72 q w72 s72 => ct_J57 h2 (by omega) q.1.2 (fun V m a k gV ea => fin V m a k ?_ ea) (a2 r71 S72 q.1.1 w72 s72)⟩
        rw [h2] at gV
        unfold eB eGk
        rw [go, if_neg z]; exact gV
theorem ct_findEdges {Q : MS → Prop} (w : wfC U) (hN : 0 ≤ nR S r ∧ nR S r ≤ 1200) (g : BkC S r U) (hl : (cnR S r : Int) ≤ (qN U (qO U 52 14) : Int)) (h : wX3_findEdges U Q) : wX3_findEdges U (fun u => Q u ∧ EdC S r u) := by
  unfold wX3_findEdges at h ⊢
  intro k14
  obtain ⟨Q2, a1, a2⟩ := h k14
  refine ⟨_, cf_fillS w k14 (by decide) (by have := w.len9 k14 (by decide); omega) a1, fun S3 q3 w3 s3 => ?_⟩
  obtain ⟨n, hn⟩ := a2 S3 q3.1.1 w3 s3
  refine ⟨n, ct_L12 hN (fun V a b => ⟨a, b⟩) n 0 hn ⟨g.fr w q3.2 rfl rfl rfl rfl rfl rfl, ⟨by rw [li_0k]; rfl, by show ((0 : Nat) : Int) ≤ _; omega⟩, fun k hk => absurd hk (Nat.not_lt_zero k), fun k hk => ?_, fun k hk => absurd hk (Nat.not_lt_zero k)⟩ (by decide) (Nat.zero_le _)⟩
  unfold gi
  rw [qO_eq (q3.2.kO w.k52 rfl rfl), q3.1.2 k (by omega)]
  show (-1 : Int32).toInt = (-1 : Int)
  decide
end GY
/-! what Graph draws hangs on the Row alone: what is reached -/
def edNk (S : MS) (r b : Nat) : Nat := (eL S r b).2.1
def edF (S : MS) (r k : Nat) : Int := (eL S r (cnR S r)).1 k
def rK (E : Nat → Int) (s : (Nat → Int) × (Nat → Int) × Nat) (k : Nat) : (Nat → Int) × (Nat → Int) × Nat := if s.1 (E k).toNat = 0 then (upN s.1 (E k).toNat 1, upN s.2.1 s.2.2 (E k), s.2.2 + 1) else s
def rL (E : Nat → Int) (a : Nat) (s : (Nat → Int) × (Nat → Int) × Nat) : Nat → (Nat → Int) × (Nat → Int) × Nat
  | 0 => s
  | m + 1 => rK E (rL E a s m) (a + m)
def rT (S : MS) (r : Nat) (s : (Nat → Int) × (Nat → Int) × Nat) : (Nat → Int) × (Nat → Int) × Nat := if s.2.2 = 0 then s else rL (edF S r) (edNk S r (s.2.1 (s.2.2 - 1)).toNat) (s.1, s.2.1, s.2.2 - 1) (edNk S r ((s.2.1 (s.2.2 - 1)).toNat + 1) - edNk S r (s.2.1 (s.2.2 - 1)).toNat)
def rS (S : MS) (r : Nat) : Nat → (Nat → Int) × (Nat → Int) × Nat
  | 0 => (fun b => if b = 0 then 1 else 0, fun _ => 0, 1)
  | t + 1 => rT S r (rS S r t)
section GZ
variable {B : Nat × Nat} {K : List Nat} {F : List (Nat × Nat)} {S u v U V : MS} {r i j b ba : Nat} {x y : Int32} {s : (Nat → Int) × Nat × (Nat → Int)} {z : (Nat → Int) × (Nat → Int) × Nat}
theorem aE_mo {b x : Int} : s.2.1 ≤ (aEk S r b x s).2.1 := by
  unfold aEk
  split
  · show s.2.1 ≤ s.2.1 + 1
    omega
  · exact Nat.le_refl _
theorem eTg_mo {l : Int32} : ∀ j : Nat, s.2.1 ≤ (eTg S r b l s j).2.1 := by
  intro j
  induction j with
  | zero => exact Nat.le_refl _
  | succ j ih => exact Nat.le_trans ih aE_mo
theorem eC_mo {l : Int32} : ∀ c : Nat, s.2.1 ≤ (eC S r b l s c).2.1 := by
  intro c
  induction c with
  | zero => exact Nat.le_refl _
  | succ c ih =>
    unfold eC
    split
    · exact ih
    · exact Nat.le_trans ih aE_mo
theorem eB_mo {l : Int32} : s.2.1 ≤ (eB S r b l s).2.1 := by
  refine Nat.le_trans ?_ (Nat.le_trans (eTg_mo _) (eC_mo _))
  unfold eGk
  split
  · exact Nat.le_refl _
  · exact aE_mo
theorem edN_mo : ∀ k : Nat, edNk S r b ≤ edNk S r (b + k) := by
  intro k
  induction k with
  | zero => exact Nat.le_refl _
  | succ k ih => exact Nat.le_trans ih eB_mo
theorem EdC.fr (h : EdC S r U) (w : wfC U) (f : cfr K F U u) (hK : okVk K = true) (h2 : K.contains 202 = false) (h3 : K.contains 203 = false) (h4 : K.contains 204 = false) (h5 : K.contains 205 = false) (hF : okFk F = true) (hG : okL [(43, 1), (43, 2), (43, 3)] F = true) (hH : okL [(43, 4), (43, 5)] F = true) (hA : okO F = true) : EdC S r u := by
  have k43 : K.contains 43 = false := okV_n hK (by decide)
  refine ⟨h.1.fr w f hK h2 h3 hF hG hA, fun k hk => ?_, fun k hk => ?_⟩
  · rw [(gi_fr w f w.g4 h4 hA k43 (okL_n hH (by decide)) (by decide)).1]; exact h.2.1 k hk
  · rw [(gi_fr w f w.g5 h5 hA k43 (okL_n hH (by decide)) (by decide)).1]; exact h.2.2 k hk
def RaI (S : MS) (r : Nat) (z : (Nat → Int) × (Nat → Int) × Nat) (U : MS) (n : Int32) : Prop := EdC S r U ∧ n.toInt = (z.2.2 : Int) ∧ (∀ k : Nat, k < cnR S r → gi U 8 k = z.1 k) ∧ (∀ k : Nat, k < z.2.2 → gi U 15 k = z.2.1 k) ∧ ∀ k : Nat, k < z.2.2 → 0 ≤ z.2.1 k ∧ z.2.1 k < cnR S r
theorem ct_L72 {Q Q' : MS → Prop} {k42 k42' : MS → Int32 → Int32 → Prop} {v2 v3 : Int32} (hE : ∀ k : Nat, k < edNk S r (cnR S r) → 0 ≤ edF S r k ∧ edF S r k < cnR S r) (h3 : v3.toInt = (b : Int)) (hb : b < cnR S r) (hc : cnR S r ≤ 1200) (hk : ∀ (V : MS) (m a : Int32), k42 V m a → RaI S r (rL (edF S r) (edNk S r b) z (edNk S r (b + 1) - edNk S r b)) V m → a = v2 + Int32.ofInt 1 → k42' V m a) : ∀ (n : Nat) {U : MS} {v1 v4 : Int32} (m : Nat), w_X3_findReached_L72 Q k42 n U v1 v2 v3 v4 → RaI S r (rL (edF S r) (edNk S r b) z m) U v1 → v4.toInt = ((edNk S r b + m : Nat) : Int) → m ≤ edNk S r (b + 1) - edNk S r b → w_X3_findReached_L72 Q' k42' n U v1 v2 v3 v4 := by
  intro n
  induction n with
  | zero => intro U v1 v4 m h; unfold w_X3_findReached_L72 at h; exact h.elim
  | succ n ih =>
    intro U v1 v4 m h g h4 hm
    obtain ⟨g1, g2, g3, g4, g5⟩ := id g
    unfold w_X3_findReached_L72 at h ⊢
    intro w
    replace h := h w
    have v31 : (v3 + (1 : Int32)).toInt = (b : Int) + 1 := by rw [t_addk (by rw [li_1k]; omega), li_1k, h3]
    have mo1 := edN_mo (S := S) (r := r) (b := b) 1
    have mo2 := edN_mo (S := S) (r := r) (b := b + 1) (cnR S r - (b + 1))
    rw [show b + 1 + (cnR S r - (b + 1)) = cnR S r by omega] at mo2
    have eA : (qI U (qO U 52 4) (v3 + (1 : Int32)).toInt.toNat).toInt = (edNk S r (b + 1) : Int) := by
      rw [v31, show ((b : Int) + 1).toNat = b + 1 by omega]
      exact g1.2.1 (b + 1) (by omega)
    refine ⟨h.1, fun c a ea => hk U v1 a (h.2.1 c a ea) ?_ ea, fun c => ?_⟩
    · rw [eA] at c
      rw [show edNk S r (b + 1) - edNk S r b = m by omega]; exact g
    · replace h := h.2.2 c
      rw [eA] at c
      have n4 : v4.toInt.toNat = edNk S r b + m := by omega
      have ee : (qI U (qO U 52 5) v4.toInt.toNat).toInt = edF S r (edNk S r b + m) := by
        rw [n4]
        exact g1.2.2 _ (show edNk S r b + m < edNk S r (cnR S r) by omega)
      have eb := hE (edNk S r b + m) (by omega)
      have g8 : (qI U (qO U 52 8) (qI U (qO U 52 5) v4.toInt.toNat).toInt.toNat).toInt = (rL (edF S r) (edNk S r b) z m).1 (edF S r (edNk S r b + m)).toNat := by
        rw [ee]
        exact g3 _ (by omega)
      have r4 := rgI v4
      have l4 := w.len9 w.g5 (by decide)
      have J : ∀ (V : MS) (x : Int32), RaI S r (rL (edF S r) (edNk S r b) z (m + 1)) V x → w_X3_findReached_J129 Q (w_X3_findReached_L72 Q k42 n) V x v2 v3 v4 → w_X3_findReached_J129 Q' (w_X3_findReached_L72 Q' k42' n) V x v2 v3 v4 := fun V x gV hV => by
        unfold w_X3_findReached_J129 at hV ⊢
        intro wV a ea
        have h41 := h.1
        have e := t_inc ea (by omega)
        exact ih (m + 1) (hV wV a ea) gV (by omega) (by omega)
      refine ⟨h.1, h.2.1, fun c0 => ?_, fun c0 => J U v1 ?_ (h.2.2.2 c0)⟩
      · replace h := h.2.2.1 c0
        have hz : (rL (edF S r) (edNk S r b) z m).1 (edF S r (edNk S r b + m)).toNat = 0 := by rw [← g8]; exact c0
        refine ⟨h.1, h.2.1, fun S36 e36 k36 w36 => ?_⟩
        replace h := h.2.2 S36 e36 k36 w36
        refine ⟨h.1, h.2.1, fun S42 e42 k42x w42 a43 ea => J S42 a43 ?_ (h.2.2 S42 e42 k42x w42 a43 ea)⟩
        have f1 : cfr [212, 303] [] U S36 := by rw [e36]; exact cfr.aI k36 rfl
        have f2 : cfr [212, 303] [] S36 S42 := by rw [e42]; exact cfr.aI k42x rfl
        have f := f1.tr f2
        have l15 := w36.len9 w36.g15 (by decide)
        have hv := h.2.1
        have e := t_inc ea (by omega)
        have i5 : (qI S36 (qO S36 52 5) v4.toInt.toNat).toInt = edF S r (edNk S r b + m) := by
          rw [← ee]
          exact (gi_fr w f1 w.g5 rfl rfl rfl rfl (by decide)).1 v4.toInt.toNat
        have i8 : ∀ k, gi S42 8 k = if k = (edF S r (edNk S r b + m)).toNat then 1 else gi U 8 k := fun k => by
          have q1 : gi S42 8 k = gi S36 8 k := by
            unfold gi
            rw [show qO S42 52 8 = qO S36 52 8 by rw [e42]; rfl, e42, qI_wI, if_neg (fun y => absurd (show (303 : Nat) = 212 by rw [← w36.g8, ← k42x, y.1]) (by decide))]
          rw [q1]
          unfold gi
          rw [show qO S36 52 8 = qO U 52 8 by rw [e36]; rfl, e36, qI_wI, ee]
          by_cases y : k = (edF S r (edNk S r b + m)).toNat
          · rw [if_pos ⟨rfl, y⟩, if_pos y]; decide
          · rw [if_neg (fun t => y t.2), if_neg y]
        have i15 : ∀ k, gi S42 15 k = if k = (rL (edF S r) (edNk S r b) z m).2.2 then edF S r (edNk S r b + m) else gi U 15 k := fun k => by
          have q1 : gi S36 15 k = gi U 15 k := by
            unfold gi
            rw [show qO S36 52 15 = qO U 52 15 by rw [e36]; rfl, e36, qI_wI, if_neg (fun y => absurd (show (212 : Nat) = 303 by rw [← w.g15, ← k36, y.1]) (by decide))]
          rw [← q1]
          unfold gi
          rw [show qO S42 52 15 = qO S36 52 15 by rw [e42]; rfl, e42, qI_wI, show v1.toInt.toNat = (rL (edF S r) (edNk S r b) z m).2.2 by omega]
          by_cases y : k = (rL (edF S r) (edNk S r b) z m).2.2
          · rw [if_pos ⟨rfl, y⟩, if_pos y]; exact i5
          · rw [if_neg (fun t => y t.2), if_neg y]
        have er : rL (edF S r) (edNk S r b) z (m + 1) = (upN (rL (edF S r) (edNk S r b) z m).1 (edF S r (edNk S r b + m)).toNat 1, upN (rL (edF S r) (edNk S r b) z m).2.1 (rL (edF S r) (edNk S r b) z m).2.2 (edF S r (edNk S r b + m)), (rL (edF S r) (edNk S r b) z m).2.2 + 1) := if_pos hz
        rw [er]
        refine ⟨g1.fr w f rfl rfl rfl rfl rfl rfl rfl rfl rfl, ?_, fun k hk => ?_, fun k hk => ?_, fun k hk => ?_⟩
        · show a43.toInt = (((rL (edF S r) (edNk S r b) z m).2.2 + 1 : Nat) : Int)
          omega
        · rw [i8]
          show _ = upN _ _ 1 k
          unfold upN
          split
          · rfl
          · exact g3 k hk
        · have hk' : k < (rL (edF S r) (edNk S r b) z m).2.2 + 1 := hk
          rw [i15]
          show _ = upN _ _ _ k
          unfold upN
          by_cases y : k = (rL (edF S r) (edNk S r b) z m).2.2
          · rw [if_pos y, if_pos y]
          · rw [if_neg y, if_neg y]; exact g4 k (by omega)
        · have hk' : k < (rL (edF S r) (edNk S r b) z m).2.2 + 1 := hk
          show 0 ≤ upN _ _ _ k ∧ upN _ _ _ k < _
          unfold upN
          by_cases y : k = (rL (edF S r) (edNk S r b) z m).2.2
          · rw [if_pos y]; exact eb
          · rw [if_neg y]; exact g5 k (by omega)
      · have er : rL (edF S r) (edNk S r b) z (m + 1) = rL (edF S r) (edNk S r b) z m := if_neg (fun q => c0 (by rw [g8]; exact q))
        rw [er]; exact g
theorem rS_st {t : Nat} (h : (rS S r t).2.2 = 0) : ∀ k : Nat, rS S r (t + k) = rS S r t := by
  intro k
  induction k with
  | zero => rfl
  | succ k ih =>
    show rT S r (rS S r (t + k)) = _
    rw [ih]
    exact if_pos h
/-- what is reached of Row r -/
def RcC (S : MS) (r : Nat) (U : MS) : Prop := EdC S r U ∧ ∀ k : Nat, k < cnR S r → gi U 8 k = (rS S r (cnR S r)).1 k
theorem ct_L42 {Q Q' : MS → Prop} (hE : ∀ k : Nat, k < edNk S r (cnR S r) → 0 ≤ edF S r k ∧ edF S r k < cnR S r) (hc : cnR S r ≤ 1200) (hQ : ∀ U : MS, Q U → RcC S r U → Q' U) : ∀ (n : Nat) {U : MS} {v1 v2 : Int32} (t : Nat), w_X3_findReached_L42 Q n U v1 v2 → RaI S r (rS S r t) U v1 → v2.toInt = (t : Int) → t ≤ cnR S r → w_X3_findReached_L42 Q' n U v1 v2 := by
  intro n
  induction n with
  | zero => intro U v1 v2 t h; unfold w_X3_findReached_L42 at h; exact h.elim
  | succ n ih =>
    intro U v1 v2 t h g h2 ht
    obtain ⟨g1, g2, g3, g4, g5⟩ := id g
    have cN : (qI U 52 1).toInt = (cnR S r : Int) := g1.1.2.1
    unfold w_X3_findReached_L42 at h ⊢
    intro w
    replace h := h w
    refine ⟨fun c => hQ U (h.1 c) ⟨g1, fun k hk => ?_⟩, fun c => ?_⟩
    · have := rS_st (S := S) (r := r) (t := t) (by omega) (cnR S r - t)
      rw [show t + (cnR S r - t) = cnR S r by omega] at this
      rw [this]; exact g3 k hk
    · replace h := h.2 c
      refine ⟨fun d => hQ U (h.1 d) ⟨g1, fun k hk => ?_⟩, fun d a7 e7 => ?_⟩
      · rw [show cnR S r = t by omega]; exact g3 k hk
      · replace h := h.2 d a7 e7
        have e := t_dec e7
        have e' : a7.toInt = v1.toInt - 1 := by have := rgI v1; omega
        have n7 : a7.toInt.toNat = (rS S r t).2.2 - 1 := by omega
        refine ⟨h.1, fun a11 e11 => ?_⟩
        replace h := h.2 a11 e11
        have wb := g5 ((rS S r t).2.2 - 1) (by omega)
        have e11' : a11.toInt = (rS S r t).2.1 ((rS S r t).2.2 - 1) := by
          rw [e11, n7]
          exact g4 _ (by omega)
        refine ⟨h.1, fun a15 e15 => ?_⟩
        obtain ⟨m, hm⟩ := h.2 a15 e15
        have e15' : a15.toInt = (edNk S r ((rS S r t).2.1 ((rS S r t).2.2 - 1)).toNat : Int) := by
          rw [e15, e11']
          exact g1.2.1 _ (by omega)
        refine ⟨m, ct_L72 (z := ((rS S r t).1, (rS S r t).2.1, (rS S r t).2.2 - 1)) (b := ((rS S r t).2.1 ((rS S r t).2.2 - 1)).toNat) hE (by omega) (by omega) hc (fun V x a k gV ea => ?_) m 0 hm ⟨g1, ?_, g3, fun k hk => g4 k ?_, fun k hk => g5 k ?_⟩ (by rw [e15']; rfl) (Nat.zero_le _)⟩
        · have e2 := t_inc ea (by omega)
          refine ih (t + 1) k ?_ (by omega) (by omega)
          show RaI S r (rT S r (rS S r t)) V x
          unfold rT
          rw [if_neg (by omega)]; exact gV
        · show a7.toInt = (((rS S r t).2.2 - 1 : Nat) : Int)
          omega
        · have : k < (rS S r t).2.2 - 1 := hk
          omega
        · have : k < (rS S r t).2.2 - 1 := hk
          omega
theorem ct_L2 {Q Q' : MS → Prop} (hE : ∀ k : Nat, k < edNk S r (cnR S r) → 0 ≤ edF S r k ∧ edF S r k < cnR S r) (hc : 1 ≤ cnR S r ∧ cnR S r ≤ 1200) (hQ : ∀ U : MS, Q U → RcC S r U → Q' U) : ∀ (n : Nat) {U : MS} {v1 : Int32} (b : Nat), w_X3_findReached_L2 Q n U v1 → EdC S r U → (∀ k : Nat, k < b → gi U 8 k = if k = 0 then 1 else 0) → v1.toInt = (b : Int) → b ≤ cnR S r → w_X3_findReached_L2 Q' n U v1 := by
  intro n
  induction n with
  | zero => intro U v1 b h; unfold w_X3_findReached_L2 at h; exact h.elim
  | succ n ih =>
    intro U v1 b h g g8 h1 hb
    have cN : (qI U 52 1).toInt = (cnR S r : Int) := g.1.2.1
    unfold w_X3_findReached_L2 at h ⊢
    intro w
    replace h := h w
    have J : ∀ (t : Int32) (tv : Int), (vp_nar .boolean t).toInt = tv → tv = (if b = 0 then 1 else 0) → ¬ (qI U 52 1).toInt ≤ v1.toInt → w_X3_findReached_J24 Q (w_X3_findReached_L2 Q n) U t v1 (qO U 52 8) v1 → w_X3_findReached_J24 Q' (w_X3_findReached_L2 Q' n) U t v1 (qO U 52 8) v1 := fun t tv et ev c hJ => by
      unfold w_X3_findReached_J24 at hJ ⊢
      intro wU k8 ht
      replace hJ := hJ wU k8 ht
      refine ⟨hJ.1, fun S46 e46 k46 w46 a ea => ?_⟩
      have e := t_inc ea (by omega)
      have f : cfr [303] [] U S46 := by rw [e46]; exact cfr.aI k46 rfl
      refine ih (b + 1) (hJ.2 S46 e46 k46 w46 a ea) (g.fr w f rfl rfl rfl rfl rfl rfl rfl rfl rfl) (fun k hk => ?_) (by omega) (by omega)
      unfold gi
      rw [show qO S46 52 8 = qO U 52 8 by rw [e46]; rfl, e46, qI_wI, show v1.toInt.toNat = b by omega]
      by_cases y : k = b
      · rw [if_pos ⟨rfl, y⟩, et, ev, y]
      · rw [if_neg (fun t => y t.2)]; exact g8 k (by omega)
    refine ⟨fun c => ?_, fun c => ?_⟩
    · replace h := h.1 c
      refine ⟨h.1, fun S4 e4 k4 w4 => ?_⟩
      obtain ⟨m, hm⟩ := h.2 S4 e4 k4 w4
      have f : cfr [212] [] U S4 := by rw [e4]; exact cfr.aI k4 rfl
      refine ⟨m, ct_L42 hE hc.2 hQ m 0 hm ⟨g.fr w f rfl rfl rfl rfl rfl rfl rfl rfl rfl, by rw [li_1k]; rfl, fun k hk => ?_, fun k hk => ?_, fun k hk => ?_⟩ (by decide) (Nat.zero_le _)⟩
      · rw [(gi_fr w f w.g8 rfl rfl rfl rfl (by decide)).1]
        exact g8 k (by omega)
      · have : k < 1 := hk
        unfold gi
        rw [show qO S4 52 15 = qO U 52 15 by rw [e4]; rfl, e4, qI_wI, if_pos ⟨rfl, by omega⟩]
        exact li_0k
      · show (0 : Int) ≤ 0 ∧ (0 : Int) < _
        omega
    · replace h := h.2 c
      exact ⟨fun y => J 1 1 (by decide) (by rw [if_pos (by omega)]) c (h.1 y), fun y => J 0 0 (by decide) (by rw [if_neg (by omega)]) c (h.2 y)⟩
theorem ct_findReached {Q : MS → Prop} (hE : ∀ k : Nat, k < edNk S r (cnR S r) → 0 ≤ edF S r k ∧ edF S r k < cnR S r) (hc : 1 ≤ cnR S r ∧ cnR S r ≤ 1200) (g : EdC S r U) (h : wX3_findReached U Q) : wX3_findReached U (fun u => Q u ∧ RcC S r u) := by
  unfold wX3_findReached at h ⊢
  obtain ⟨n, hn⟩ := h
  exact ⟨n, ct_L2 hE hc (fun V a b => ⟨a, b⟩) n 0 hn g (fun k hk => absurd hk (Nat.not_lt_zero k)) (by decide) (Nat.zero_le _)⟩
end GZ
/-! what Graph draws hangs on the Row alone: drawn twice, drawn alike -/
section HA
variable {B : Nat × Nat} {K : List Nat} {F : List (Nat × Nat)} {S u v U V : MS} {r q i j b : Nat} {x y : Int32} {M : Nat → Int} {s : (Nat → Int) × Nat × (Nat → Int)} {z : (Nat → Int) × (Nat → Int) × Nat}
theorem cg_ta (h : rC S u r) : taR u r i j = taR S r i j := by unfold taR; rw [h.ta]
theorem cg_tc (h : rC S u r) : tcR u r i = tcR S r i := by unfold tcR; rw [h.tc]
theorem cg_go (h : rC S u r) : goR u r i = goR S r i := by unfold goR; rw [h.op]; rfl
theorem cg_mJ (h : rC S u r) : ∀ j : Nat, mJ u r i M j = mJ S r i M j := by
  intro j
  induction j with
  | zero => rfl
  | succ j ih =>
    show bgF (nR u r) (mJ u r i M j) (taR u r i j) = bgF (nR S r) (mJ S r i M j) (taR S r i j)
    rw [ih, h.nE, cg_ta h]
theorem cg_mI (h : rC S u r) : mI u r i M = mI S r i M := by unfold mI; rw [cg_tc h, cg_go h, h.nE, cg_mJ h]
theorem cg_mL (h : rC S u r) : ∀ i : Nat, mLk u r i = mLk S r i := by
  intro i
  induction i with
  | zero =>
    show bgF (nR u r) (fun _ => 0) 0 = bgF (nR S r) (fun _ => 0) 0
    rw [h.nE]
  | succ i ih =>
    show mI u r i (mLk u r i) = mI S r i (mLk S r i)
    rw [ih, cg_mI h]
theorem cg_mC (h : rC S u r) : ∀ c : Nat, mC u r c = mC S r c := by
  intro c
  induction c with
  | zero =>
    show mLk u r (nR u r).toNat = mLk S r (nR S r).toNat
    rw [h.nE, cg_mL h]
  | succ c ih =>
    show bgF (nR u r) (bgF (nR u r) (bgF (nR u r) (mC u r c) (caR u r 5 c)) (caR u r 6 c)) (caR u r 7 c) = bgF (nR S r) (bgF (nR S r) (bgF (nR S r) (mC S r c) (caR S r 5 c)) (caR S r 6 c)) (caR S r 7 c)
    rw [ih, h.nE, h.ca (by omega), h.ca (by omega), h.ca (by omega)]
theorem cg_mK (h : rC S u r) : mK u r = mK S r := by unfold mK; rw [h.2.1, cg_mC h]
theorem cg_cn (h : rC S u r) : cnR u r = cnR S r := by unfold cnR; rw [cg_mK h, h.nE]
theorem cg_bo (h : rC S u r) : boF u r = boF S r := by funext k; unfold boF; rw [cg_mK h]
theorem cg_ls (h : rC S u r) : lsF u r b = lsF S r b := by unfold lsF; rw [cg_cn h, h.1.1.1, cg_mK h, h.nE]
theorem cg_aE (h : rC S u r) {b x : Int} : aEk u r b x s = aEk S r b x s := by unfold aEk; rw [h.nE, cg_bo h]
theorem cg_eT (h : rC S u r) {l : Int32} : ∀ j : Nat, eTg u r b l s j = eTg S r b l s j := by
  intro j
  induction j with
  | zero => rfl
  | succ j ih =>
    show aEk u r b (fX8_targetAt u r l (Int32.ofInt j)).toInt (eTg u r b l s j) = aEk S r b (fX8_targetAt S r l (Int32.ofInt j)).toInt (eTg S r b l s j)
    rw [ih, h.ta, cg_aE h]
theorem cg_eC (h : rC S u r) {l : Int32} : ∀ c : Nat, eC u r b l s c = eC S r b l s c := by
  intro c
  induction c with
  | zero => rfl
  | succ c ih =>
    show (if (fX8_catchHas u r (Int32.ofInt c) l).toInt = 0 then eC u r b l s c else aEk u r b (caR u r 7 c) (eC u r b l s c)) = (if (fX8_catchHas S r (Int32.ofInt c) l).toInt = 0 then eC S r b l s c else aEk S r b (caR S r 7 c) (eC S r b l s c))
    rw [ih, h.ch, h.ca (by omega), cg_aE h]
theorem cg_eG (h : rC S u r) {l : Int32} : eGk u r b l s = eGk S r b l s := by
  unfold eGk
  rw [h.op, cg_aE h]
  rfl
theorem cg_eB (h : rC S u r) {l : Int32} : eB u r b l s = eB S r b l s := by unfold eB; rw [cg_eG h, h.tc, cg_eT h, h.2.1, cg_eC h]
theorem cg_eL (h : rC S u r) : ∀ b : Nat, eL u r b = eL S r b := by
  intro b
  induction b with
  | zero => rfl
  | succ b ih =>
    show eB u r b (lsF u r b) (eL u r b) = eB S r b (lsF S r b) (eL S r b)
    rw [ih, cg_ls h, cg_eB h]
theorem cg_eN (h : rC S u r) : edNk u r = edNk S r := by funext b; unfold edNk; rw [cg_eL h]
theorem cg_eF (h : rC S u r) : edF u r = edF S r := by funext k; unfold edF; rw [cg_cn h, cg_eL h]
theorem cg_rT (h : rC S u r) : rT u r z = rT S r z := by unfold rT; rw [cg_eF h, cg_eN h]
theorem cg_rS (h : rC S u r) : ∀ t : Nat, rS u r t = rS S r t := by
  intro t
  induction t with
  | zero => rfl
  | succ t ih =>
    show rT u r (rS u r t) = rT S r (rS S r t)
    rw [ih, cg_rT h]
/-- how many blocks of Row r are reached -/
def rcR (S : MS) (r : Nat) : Nat := bN (rS S r (cnR S r)).1 (cnR S r)
theorem cg_rc (h : rC S u r) : rcR u r = rcR S r := by unfold rcR; rw [cg_cn h, cg_rS h]
/-- what Graph holds is its Row's -/
def GcIk (U : MS) : Prop := ∀ r, qR U 52 0 = some r → (qI U 52 1).toInt = (cnR U r : Int) ∧ ∀ k : Nat, k < cnR U r → gi U 8 k = (rS U r (cnR U r)).1 k
theorem RcC.gc (h : RcC S r U) (e : qR U 52 0 = some r) : GcIk U := by
  intro r' e'
  have : r' = r := by rw [e] at e'; exact (Option.some.inj e').symm
  subst this
  have c := h.1.1.1.1.2
  rw [cg_cn c, cg_rS c]
  exact ⟨h.1.1.2.1, h.2⟩
theorem sp_drawC (w : wfC S) (h : GrR B S) (gc : GcIk S) (kr : qT S r = 47) (hr : RdK S r) : wX3_draw S (some r) (fun u => (GB4 B u ∧ qR u 52 0 = some r) ∧ GcIk u) := by
  unfold wX3_draw
  refine ⟨fun c => (by cases c), fun _ => ⟨fun c => ?_, fun c S4 e4 k4 w4 => ?_⟩⟩
  · have c' : qR S 52 0 = some r := c.symm
    rcases h.2.2 with q | q
    · rw [c'] at q; cases q.1
    · exact ⟨⟨q, c'⟩, gc⟩
  · have f : cfr [] [(43, 0)] S S4 := by rw [e4]; exact cfr.oR k4 rfl
    have G4 : ShC B S4 := ShC.ws w h.1 f (by rw [e4]; rfl) (by rw [e4]; rfl) (by rw [e4]; rfl) rfl rfl
    have r4 : qR S4 52 0 = some r := by rw [e4, qR_wR, if_pos ⟨rfl, rfl⟩]; rfl
    have o4 := qO_of r4
    have s4 := rSm.fr w kr (h.1.row kr) f rfl rfl rfl
    have LL : ∀ j, (52, j) ∈ ptrC → ([(43, 0)] : List (Nat × Nat)).contains (43, j) = false → qN S4 (qO S4 52 j) = qN S (qO S 52 j) := fun j hp hc => by
      have p := w.ptr hp
      have kb := w.rf3 52 j _ p
      rw [qO_eq (f.kO w.k52 rfl hc), (f.1.1 _ (by rw [kb.1]; exact kb.2.1)).2]
    have L4 : GrL S4 := by
      have := h.2.1
      unfold GrL at this ⊢
      rw [LL 2 (by decide) rfl, LL 3 (by decide) rfl, LL 4 (by decide) rfl, LL 5 (by decide) rfl, LL 6 (by decide) rfl, LL 7 (by decide) rfl, LL 8 (by decide) rfl, LL 11 (by decide) rfl, LL 12 (by decide) rfl, LL 13 (by decide) rfl, LL 14 (by decide) rfl, LL 15 (by decide) rfl]
      exact this
    have g4 : GBs B S4 := ⟨G4, L4, ⟨by rw [o4]; exact r4, by rw [o4]; exact hr.1.mv s4⟩, by rw [o4, s4.1.1]; exact hr.2⟩
    have kr4 : qT S4 r = 47 := f.1.T kr (by decide)
    have v4 : VwI S4 r S4 := ⟨⟨o4, rC.rf⟩, kr4, G4.row kr4⟩
    have hN : 0 ≤ nR S4 r ∧ nR S4 r ≤ 1200 := by unfold nR; rw [s4.1.1]; have := hr.2; omega
    refine ⟨_, ct_findBlocks w4 hN v4 (sp_findBlocks w4 g4), fun S6 q6 w6 x6 => ⟨_, sp_graphRoom w6 q6.1.1.1 q6.1.1.2, fun S10 q10 w10 x10 => ?_⟩⟩
    have b10 : BkC S4 r S10 := q6.2.fr w6 q10.2 rfl rfl rfl rfl rfl rfl
    have c10 : (qI S10 52 1).toInt = (cnR S4 r : Int) := b10.2.1
    have n10 := q10.1.2.1.1
    have m10 := q10.1.2.2.1
    have l10 := q10.1.1.2.1.1
    refine ⟨_, ct_findEdges w10 hN b10 (by omega) (sp_findEdges w10 q10.1), fun S14 q14 w14 x14 => ⟨_, sp_findBacks w14 q14.1.1, fun S18 q18 w18 x18 => ?_⟩⟩
    have e18 : EdC S4 r S18 := q14.2.fr w14 q18.2 rfl rfl rfl rfl rfl rfl rfl rfl rfl
    have c18 : (qI S18 52 1).toInt = (cnR S4 r : Int) := e18.1.2.1
    have hc : 1 ≤ cnR S4 r ∧ cnR S4 r ≤ 1200 := by
      have := bN_le (M := mK S4 r) (nR S4 r).toNat
      unfold cnR at c10 ⊢
      omega
    have hE : ∀ k : Nat, k < edNk S4 r (cnR S4 r) → 0 ≤ edF S4 r k ∧ edF S4 r k < cnR S4 r := fun k hk => by
      have ep := q18.1.1.2
      unfold EdP at ep
      rw [c18] at ep
      have e1 := e18.2.1 (cnR S4 r) (Nat.le_refl _)
      have := ep.2.1 k (by rw [show ((cnR S4 r : Nat) : Int).toNat = cnR S4 r by omega, e1]; exact Int.ofNat_lt.mpr hk)
      rw [e18.2.2 k hk] at this
      exact this
    refine ⟨_, ct_findReached hE hc e18 (sp_findReached w18 q18.1), fun S22 q22 w22 x22 => ⟨_, sp_findDominators w22 q22.1.1, fun S25 q25 w25 x25 => ⟨_, frX3_findLoops w25 (sp_findLoops w25 q25.1), fun S28 q28 w28 x28 => ?_⟩⟩⟩
    have R28 : qR S28 52 0 = some r := by
      rw [q28.2.kO w25.k52 rfl rfl, q25.2.kO w22.k52 rfl rfl, q22.1.2.kO w18.k52 rfl rfl, q18.2.kO w14.k52 rfl rfl, q14.1.2.kO w10.k52 rfl rfl, q10.2.kO w6.k52 rfl rfl, q6.1.2.kO w4.k52 rfl rfl]
      exact r4
    refine ⟨⟨q28.1, R28⟩, RcC.gc (S := S4) ⟨(q22.2.1.fr w22 q25.2 rfl rfl rfl rfl rfl rfl rfl rfl rfl).fr w25 q28.2 rfl rfl rfl rfl rfl rfl rfl rfl rfl, fun k hk => ?_⟩ R28⟩
    rw [(gi_fr w25 q28.2 w25.g8 rfl rfl rfl rfl (by decide)).1, (gi_fr w22 q25.2 w22.g8 rfl rfl rfl rfl (by decide)).1]
    exact q22.2.2 k hk
theorem sp_reachedCountC (h : GrR B S) (gc : GcIk S) (e : qR S 52 0 = some r) : wX3_reachedCount S (fun a u => a.toInt = (rcR S r : Int) ∧ u = S) := by
  obtain ⟨c1, c2⟩ := gc r e
  have hn : (qI S 52 1).toInt ≤ 1200 ∧ (qI S 52 1).toInt ≤ (qN S (qO S 52 8) : Int) := by
    rcases h.2.2 with q | q
    · omega
    · have n := q.num; omega
  unfold wX3_reachedCount
  refine ⟨2147483649, ?_⟩
  have L : ∀ (n : Nat) {v1 v2 : Int32} (k : Nat), v1.toInt = (bN (rS S r (cnR S r)).1 k : Int) → v2.toInt = (k : Int) → k ≤ cnR S r → 2147483648 - v2.toInt < n → w_X3_reachedCount_L4 (fun a u => a.toInt = (rcR S r : Int) ∧ u = S) n S v1 v2 := by
    intro n
    induction n with
    | zero => intro v1 v2 k _ _ _ hm; have := rgI v2; omega
    | succ n ih =>
      intro v1 v2 k h1 h2 hk hm
      have bl := bN_le (M := (rS S r (cnR S r)).1) k
      unfold w_X3_reachedCount_L4
      intro w
      have J : ∀ t : Int32, t.toInt = (if (rS S r (cnR S r)).1 k = 0 then 0 else 1) → ¬ (qI S 52 1).toInt ≤ v2.toInt → w_X3_reachedCount_J27 (fun a u => a.toInt = (rcR S r : Int) ∧ u = S) (w_X3_reachedCount_L4 (fun a u => a.toInt = (rcR S r : Int) ∧ u = S) n) S t v1 v2 := fun t ht c => by
        unfold w_X3_reachedCount_J27
        intro _ _ a7 e7 a8 e8
        have e := t_inc e8 (by omega)
        have e2 : a7.toInt = v1.toInt + t.toInt := by
          rw [e7, t_addk]
          rw [ht]
          split <;> omega
        refine ih (k + 1) ?_ (by omega) (by omega) (by omega)
        rw [e2, h1, ht, bN_s]
        split <;> omega
      refine ⟨fun c => ⟨?_, rfl⟩, fun c => ?_⟩
      · rw [h1, show k = cnR S r by omega]
        rfl
      · have g8 : (qI S (qO S 52 8) v2.toInt.toNat).toInt = (rS S r (cnR S r)).1 k := by
          rw [show v2.toInt.toNat = k by omega]
          exact c2 k (by omega)
        refine ⟨by omega, fun y => J 0 ?_ c, fun y => J 1 ?_ c⟩
        · rw [if_pos (by rw [← g8]; exact y)]; rfl
        · rw [if_neg (by rw [← g8]; exact y)]; rfl
  exact L _ 0 (by rw [li_0k]; rfl) (by decide) (Nat.zero_le _) (by rw [li_0k]; decide)
theorem bN_po {f g : Nat → Int} (h : ∀ k, f k ≠ 0 → g k ≠ 0) : ∀ n : Nat, bN f n ≤ bN g n := by
  intro n
  induction n with
  | zero => exact Nat.le_refl _
  | succ n ih =>
    rw [bN_s, bN_s]
    have := h n
    by_cases y : f n = 0
    · rw [if_pos y]; omega
    · rw [if_neg y, if_neg (this y)]; omega
theorem bN_up {f g : Nat → Int} {a : Nat} (h : ∀ k, f k ≠ 0 → g k ≠ 0) (h0 : f a = 0) (h1 : g a ≠ 0) : ∀ n : Nat, a < n → bN f n + 1 ≤ bN g n := by
  intro n
  induction n with
  | zero => intro hn; omega
  | succ n ih =>
    intro hn
    rw [bN_s, bN_s]
    by_cases y : a = n
    · subst y
      have := bN_po h a
      rw [if_pos h0, if_neg h1]; omega
    · have := ih (by omega)
      have h' := h n
      by_cases y : f n = 0
      · rw [if_pos y]; omega
      · rw [if_neg y, if_neg (h' y)]; omega
theorem bN_eq {f g : Nat → Int} : ∀ n : Nat, (∀ k, k < n → f k = g k) → bN f n = bN g n := by
  intro n
  induction n with
  | zero => intro _; rfl
  | succ n ih => intro h; rw [bN_s, bN_s, ih (fun k hk => h k (by omega)), h n (by omega)]
/-- no more counters than blocks that are reached -/
theorem nC_le (d : GB4 B S) (gc : GcIk S) (e : qR S 52 0 = some r) {N : Nat} (hN : N ≤ 1300) : nC S N ≤ rcR S r := by
  obtain ⟨c1, c2⟩ := gc r e
  have key : ∀ n : Nat, n ≤ 1300 → nC S n ≤ bN (fun b => if gi S 8 b ≠ 0 ∧ gi S 2 b < (n : Int) then 1 else 0) (cnR S r) := by
    intro n
    induction n with
    | zero => intro _; exact Nat.zero_le _
    | succ n ih =>
      intro hn
      have ih := ih (by omega)
      have mo : ∀ k : Nat, (fun b => if gi S 8 b ≠ 0 ∧ gi S 2 b < ((n : Nat) : Int) then (1 : Int) else 0) k ≠ 0 → (fun b => if gi S 8 b ≠ 0 ∧ gi S 2 b < ((n + 1 : Nat) : Int) then (1 : Int) else 0) k ≠ 0 := fun k hk => by
        show (if gi S 8 k ≠ 0 ∧ gi S 2 k < ((n + 1 : Nat) : Int) then (1 : Int) else 0) ≠ 0
        have hk' : (if gi S 8 k ≠ 0 ∧ gi S 2 k < ((n : Nat) : Int) then (1 : Int) else 0) ≠ 0 := hk
        split at hk'
        · rename_i t
          rw [if_pos ⟨t.1, by omega⟩]; decide
        · exact absurd rfl hk'
      rw [nC_s]
      by_cases z : rcNk S n = 0
      · rw [z]
        exact Nat.le_trans ih (bN_po mo _)
      · have en : (Int32.ofInt ((n : Nat) : Int)).toInt = n := by
          have sz : Int32.size = 4294967296 := rfl
          rw [Int32.toInt_ofInt, sz]
          apply Int.bmod_eq_of_le <;> omega
        have nz : (fX3_isReached S (fX3_blockAt S (Int32.ofInt ((n : Nat) : Int)))).toInt ≠ 0 := fun q => z (by unfold rcNk; rw [if_pos q])
        have one : rcNk S n = 1 := by unfold rcNk; rw [if_neg nz]
        have iz : f_X3_isReached_J25 S = 0 := rfl
        have bz : f_X3_blockAt_J59 S = -1 := rfl
        have m1 : (fX3_isReached S (-1 : Int32)).toInt = 0 := by
          unfold fX3_isReached
          rw [if_pos (by decide), iz]
          decide
        obtain ⟨a, ha1, ha2, ha3⟩ : ∃ a : Nat, (a : Int) < (qI S 52 1).toInt ∧ gi S 2 a = n ∧ gi S 8 a ≠ 0 := by
          unfold fX3_blockAt at nz
          rw [en, bz] at nz
          by_cases y1 : (n : Int) < 0
          · omega
          · rw [if_neg y1] at nz
            by_cases y2 : (qN S (qO S 52 3) : Int) ≤ n
            · rw [if_pos y2] at nz; exact absurd m1 nz
            · rw [if_neg y2] at nz
              by_cases y3 : (n : Int) < (qI S (qO S 52 0) 2).toInt
              · rw [if_pos y3] at nz
                by_cases y4 : (qI S (qO S 52 3) ((n : Nat) : Int).toNat).toInt < 0
                · rw [if_pos y4] at nz; exact absurd m1 nz
                · rw [if_neg y4] at nz
                  by_cases y5 : (qI S 52 1).toInt ≤ (qI S (qO S 52 3) ((n : Nat) : Int).toNat).toInt
                  · rw [if_pos y5] at nz; exact absurd m1 nz
                  · rw [if_neg y5] at nz
                    by_cases y6 : (qI S (qO S 52 2) (qI S (qO S 52 3) ((n : Nat) : Int).toNat).toInt.toNat).toInt = n
                    · rw [if_pos y6] at nz
                      refine ⟨(qI S (qO S 52 3) ((n : Nat) : Int).toNat).toInt.toNat, by omega, y6, fun q => ?_⟩
                      unfold fX3_isReached at nz
                      unfold gi at q
                      rw [if_neg y4, if_neg y5, if_pos q, iz] at nz
                      exact nz (by decide)
                    · rw [if_neg y6] at nz; exact absurd m1 nz
              · rw [if_neg y3] at nz; exact absurd m1 nz
        rw [one]
        refine Nat.le_trans (Nat.add_le_add_right ih 1) (bN_up mo (a := a) ?_ ?_ _ (by omega))
        · show (if gi S 8 a ≠ 0 ∧ gi S 2 a < ((n : Nat) : Int) then (1 : Int) else 0) = 0
          rw [if_neg (fun t => by omega)]
        · show (if gi S 8 a ≠ 0 ∧ gi S 2 a < ((n + 1 : Nat) : Int) then (1 : Int) else 0) ≠ 0
          rw [if_pos ⟨ha3, by omega⟩]; decide
  refine Nat.le_trans (key N hN) ?_
  unfold rcR
  rw [← bN_eq (f := gi S 8) _ (fun k hk => c2 k hk)]
  refine bN_po (fun k hk => ?_) _
  have hk' : (if gi S 8 k ≠ 0 ∧ gi S 2 k < ((N : Nat) : Int) then (1 : Int) else 0) ≠ 0 := hk
  split at hk'
  · rename_i t
    exact t.1
  · exact absurd rfl hk'
end HA
/-! Bytes, with what they hold -/
def fB (b : Nat) (S u : MS) : Prop := (∀ a : Nat, qT S a ≠ 0 → a ≠ b → a ≠ qO S b 0 → qI u a = qI S a) ∧ (qO u b 0 = qO S b 0 ∨ qT S (qO u b 0) = 0) ∧ ∀ k : Nat, (k : Int) < (qI S b 1).toInt → qI u (qO u b 0) k = qI S (qO S b 0) k
section BC
variable {S u v U : MS} {b c cap i j : Nat} {x y : Int32}
theorem fB.rf : fB b S S := ⟨fun _ _ _ _ => rfl, Or.inl rfl, fun _ _ => rfl⟩
theorem fB.tr (h : fB b S u) (k : fB b u v) (s : shx S u) (hc : (qI S b 1).toInt ≤ (qI u b 1).toInt) : fB b S v := by
  refine ⟨fun a a0 ab ar => ?_, ?_, fun i hi => (k.2.2 i (by omega)).trans (h.2.2 i hi)⟩
  · have e := (s.1 a a0).1
    refine (k.1 a (by rw [e]; exact a0) ab (fun z => ?_)).trans (h.1 a a0 ab ar)
    rcases h.2.1 with q | q
    · exact ar (z.trans q)
    · rw [← z] at q; exact a0 q
  · rcases k.2.1 with q | q
    · rw [q]; exact h.2.1
    · right
      exact Decidable.byContradiction (fun z => by rw [(s.1 _ z).1] at q; exact z q)
/-- one byte put -/
def CpB (b : Nat) (x : Int32) (S u : MS) : Prop := fB b S u ∧ qI u (qO u b 0) (qI S b 1).toInt.toNat = vp_nar .byte (x.toInt8.toInt32)
theorem ct_put30 {Q : MS → Prop} (h : w_X0_put_J30 Q S b x) (h0 : 0 ≤ (qI S b 1).toInt) : w_X0_put_J30 (fun u => Q u ∧ CpB b x S u) S b x := by
  unfold w_X0_put_J30 at h ⊢
  intro w k
  replace h := h w k
  refine ⟨h.1, h.2.1, fun S7 e7 k7 w7 S9 e9 k9 w9 => ⟨h.2.2 S7 e7 k7 w7 S9 e9 k9 w9, ?_⟩⟩
  have hne : b ≠ qO S b 0 := fun q => by rw [← q, k] at k7; exact absurd k7 (by decide)
  have o9 : qO S9 b 0 = qO S b 0 := by rw [e9, e7]; rfl
  have i9 : ∀ k, qI S9 (qO S b 0) k = if k = (qI S b 1).toInt.toNat then vp_nar .byte (x.toInt8.toInt32) else qI S (qO S b 0) k := fun k => by
    rw [e9, qI_wI, if_neg (fun z => hne z.1.symm), e7, qI_wI]
    by_cases z : k = (qI S b 1).toInt.toNat
    · rw [if_pos ⟨rfl, z⟩, if_pos z]
    · rw [if_neg (fun y => z y.2), if_neg z]
  refine ⟨⟨fun a a0 ab ar => funext fun j => ?_, Or.inl o9, fun k hk => ?_⟩, ?_⟩
  · rw [e9, qI_wI, if_neg (fun z => ab z.1), e7, qI_wI, if_neg (fun z => ar z.1)]
  · rw [o9, i9, if_neg (by omega)]
  · rw [o9, i9, if_pos rfl]
theorem cf_copyOfB {kd p : Nat} {Q : Nat → MS → Prop} (hL : qN S p < 2147483648) (hp : p ≠ qn S) (hx : (qN S p : Int) < x.toInt) (h : wJ7_copyOf_9075b S kd p x Q) : wJ7_copyOf_9075b S kd p x (fun c u => Q c u ∧ (c = qn S ∧ qn S + 1 ≤ KCC) ∧ ∃ f : Nat → Int32, (∀ k : Nat, k < qN S p → f k = qI S p k) ∧ u = wC (wN S kd x.toInt.toNat x.toInt.toNat) (qn S) f) := by
  have eL := toI_nat hL
  unfold wJ7_copyOf_9075b at h ⊢
  refine ⟨fun c => by rw [eL] at c; omega, fun c => ?_⟩
  replace h := h.2 c
  refine ⟨h.1, fun S5 e5 w5 => ?_⟩
  have hr := h.1.2.1
  replace h := h.2 S5 e5 w5
  refine ⟨h.1, fun S9 e9 k9 w9 => ⟨h.2 S9 e9 k9 w9, ⟨rfl, hr⟩, ?_⟩⟩
  have e1 : qN S5 p = qN S p := by rw [e5]; exact if_neg hp
  have cc : ¬ x < (Int32.ofNat (qN S p)) := fun q => by have := n_lt.mp q; rw [eL] at this; omega
  rw [e1, if_neg cc] at e9
  refine ⟨_, fun k hk => ?_, by rw [e9, e5]⟩
  rw [cpy_0 (by omega), wN_I hp]
/-- a longer row for Bytes b -/
theorem fB_grow {f : Nat → Int32} (w : wfC S) (hb : qT S b = 40) (kr : qT S (qO S b 0) = 101) (hT : qn S < TXB) (hc : (qI S b 1).toInt ≤ (qN S (qO S b 0) : Int)) (hf : ∀ k : Nat, k < qN S (qO S b 0) → f k = qI S (qO S b 0) k) {n m : Nat} (e : u = wC (wN S 101 n m) (qn S) f) (e2 : v = wR u b 0 (some (qn S))) : fB b S v ∧ qI v b 1 = qI S b 1 ∧ shx S v ∧ qO v b 0 = qn S := by
  have hbn := w.ne hT hb (by decide)
  have oo : qO v b 0 = qn S := qO_of (by rw [e2, qR_wR, if_pos ⟨rfl, rfl⟩])
  have hI : ∀ a j, a ≠ qn S → qI v a j = qI S a j := fun a j ha => by rw [e2]; show qI u a j = _; rw [e]; exact wCN_I ha
  refine ⟨⟨fun a a0 _ _ => funext fun j => hI a j (fun q => a0 (by rw [q]; exact w.nx hT)), Or.inr (by rw [oo]; exact w.nx hT), fun k hk => ?_⟩, hI b 1 hbn, ⟨fun a a0 => ?_, by rw [e2, e]; exact Nat.le_succ _⟩, oo⟩
  · rw [oo, e2]
    show qI u (qn S) k = _
    rw [e]
    show (if qn S = qn S then f else _) k = _
    rw [if_pos rfl]
    exact hf k (by omega)
  · have han : a ≠ qn S := fun q => a0 (by rw [q]; exact w.nx hT)
    rw [e2]
    show qT u a = _ ∧ qN u a = _
    rw [e]
    exact ⟨wCN_T han, wCN_N han⟩
theorem ct_put {Q : MS → Prop} (w : wfC S) (hb : qT S b = 40) (hi : ByI S b cap) (h : wX0_put S b x Q) : wX0_put S b x (fun u => Q u ∧ CpB b x S u) := by
  obtain ⟨h1, h2, h3, h4⟩ := hi
  have hl := p2_le _ h3
  unfold wX0_put at h ⊢
  refine ⟨h.1, fun c => ct_put30 (h.2.1 c) h2.1, fun c => ?_⟩
  replace h := h.2.2 c
  refine ⟨h.1, h.2.1, fun kr => ?_⟩
  obtain ⟨Q17, a1, a2⟩ := h.2.2 kr
  have eL := toI_nat (n := qN S (qO S b 0)) (by omega)
  have em : ((2 : Int32) * (Int32.ofNat (qN S (qO S b 0)))).toInt = 2 * qN S (qO S b 0) := by rw [t_mulk (by rw [li_2k, eL]; omega), li_2k, eL]
  have hT : qn S < TXB := by
    unfold wJ7_copyOf_9075b at a1
    exact KC_TX (a1.2 (by rw [em, eL]; omega)).1.2.1
  refine ⟨_, cf_copyOfB (by omega) (w.ne hT kr (by decide)) (by omega) a1, ?_⟩
  rintro b22 S19 ⟨q1, ⟨rfl, -⟩, f, hf, e19⟩ w19 s19 k19 S23 e23 k23 w23
  obtain ⟨g1, g2, g3, g4⟩ := fB_grow w hb kr hT h2.2 hf e19 e23
  have := ct_put30 (a2 _ S19 q1 w19 s19 k19 S23 e23 k23 w23) (by rw [g2]; exact h2.1)
  unfold w_X0_put_J30 at this ⊢
  intro wV kV
  replace this := this wV kV
  refine ⟨this.1, this.2.1, fun S7 e7 k7 w7 S9 e9 k9 w9 => ?_⟩
  obtain ⟨q, cp⟩ := this.2.2 S7 e7 k7 w7 S9 e9 k9 w9
  refine ⟨q, g1.tr cp.1 g3 (by rw [g2]; exact Int.le_refl _), ?_⟩
  rw [← g2]; exact cp.2
theorem sp_putC {Q : MS → Prop} (w : wfC S) (hb : qT S b = 40) (h : ByI S b cap) (hcap : cap ∈ p2L) (hc : (qI S b 1).toInt < cap) (hR : RmB b cap S) (hQ : ∀ u : MS, ByPk b 1 cap S u → CpB b x S u → Q u) : wX0_put S b x Q := by
  have := ct_put (x := x) w hb h (sp_put w hb h hcap hc hR (Q := fun u => ByPk b 1 cap S u) (fun u q => q))
  unfold wX0_put w_X0_put_J30 at this ⊢
  refine ⟨this.1, fun c w' k' => ?_, fun c => ?_⟩
  · replace this := this.2.1 c w' k'
    exact ⟨this.1, this.2.1, fun S7 e7 k7 w7 S9 e9 k9 w9 => (fun q => hQ S9 q.1 q.2) (this.2.2 S7 e7 k7 w7 S9 e9 k9 w9)⟩
  · replace this := this.2.2 c
    refine ⟨this.1, this.2.1, fun kr => ?_⟩
    obtain ⟨Q17, a1, a2⟩ := this.2.2 kr
    refine ⟨Q17, a1, fun b22 S19 q w19 s19 k19 S23 e23 k23 w23 w' k' => ?_⟩
    replace this := a2 b22 S19 q w19 s19 k19 S23 e23 k23 w23 w' k'
    exact ⟨this.1, this.2.1, fun S7 e7 k7 w7 S9 e9 k9 w9 => (fun q => hQ S9 q.1 q.2) (this.2.2 S7 e7 k7 w7 S9 e9 k9 w9)⟩
theorem sp_put2C {Q : MS → Prop} (w : wfC S) (hb : qT S b = 40) (h : ByI S b cap) (hcap : cap ∈ p2L) (hc : (qI S b 1).toInt + 1 < cap) (hR : RmB b cap S) (hQ : ∀ u : MS, ByPk b 2 cap S u → fB b S u → qI u (qO u b 0) (qI S b 1).toInt.toNat = vp_nar .byte ((x >>> ((8 : Int32) &&& 31)).toInt8.toInt32) → qI u (qO u b 0) ((qI S b 1).toInt.toNat + 1) = vp_nar .byte (x.toInt8.toInt32) → Q u) : wX0_put2 S b x Q := by
  have h0 := h.2.1.1
  unfold wX0_put2
  refine fun _ => ⟨_, sp_putC w hb h hcap (by omega) hR (Q := fun u => ByPk b 1 cap S u ∧ CpB b (x >>> ((8 : Int32) &&& 31)) S u) (fun u a c => ⟨a, c⟩), fun S3 q3 w3 s3 k3 => ⟨_, sp_putC w3 k3 q3.1.1 hcap (by have := q3.1.2.1; omega) (hR.mo q3.1.2.2.2) (Q := fun u => ByPk b 1 cap S3 u ∧ CpB b x S3 u) (fun u a c => ⟨a, c⟩), fun S7 q7 w7 s7 => ?_⟩⟩
  have e3 := q3.1.2.1
  refine hQ S7 (q3.1.tr q7.1) (q3.2.1.tr q7.2.1 s3 (by omega)) ?_ ?_
  · rw [q7.2.1.2.2 _ (by omega)]; exact q3.2.2
  · have := q7.2.2
    rw [show (qI S3 b 1).toInt.toNat = (qI S b 1).toInt.toNat + 1 by omega] at this
    exact this
theorem sp_put4C {Q : MS → Prop} (w : wfC S) (hb : qT S b = 40) (h : ByI S b cap) (hcap : cap ∈ p2L) (hc : (qI S b 1).toInt + 3 < cap) (hR : RmB b cap S) (hQ : ∀ u : MS, ByPk b 4 cap S u → fB b S u → Q u) : wX0_put4 S b x Q := by
  unfold wX0_put4
  refine fun _ => ⟨_, sp_put2C w hb h hcap (by omega) hR (Q := fun u => ByPk b 2 cap S u ∧ fB b S u) (fun u a c _ _ => ⟨a, c⟩), fun S3 q3 w3 s3 k3 => ⟨_, sp_put2C w3 k3 q3.1.1 hcap (by have := q3.1.2.1; omega) (hR.mo q3.1.2.2.2) (Q := fun u => ByPk b 2 cap S3 u ∧ fB b S3 u) (fun u a c _ _ => ⟨a, c⟩), fun S7 q7 w7 s7 => ?_⟩⟩
  have e3 := q3.1.2.1
  exact hQ S7 (q3.1.tr q7.1) (q3.2.tr q7.2 s3 (by omega))
/-- Bytes c put behind Bytes b -/
def CaB (b c : Nat) (S u : MS) : Prop := fB b S u ∧ ∀ k : Nat, (k : Int) < (qI S c 1).toInt → qI u (qO u b 0) ((qI S b 1).toInt.toNat + k) = qI S (qO S c 0) k
theorem cpy_d {f g : Nat → Int32} {d n : Int32} {k : Nat} (h : 0 ≤ d.toInt) : va_cpy f g (0 : Int32).toNatClampNeg d.toNatClampNeg n.toNatClampNeg k = if d.toInt ≤ (k : Int) ∧ (k : Int) < d.toInt + n.toInt then f (k - d.toInt.toNat) else g k := by
  have z : (0 : Int32).toNatClampNeg = 0 := by decide
  have e : n.toNatClampNeg = n.toInt.toNat := rfl
  have e2 : d.toNatClampNeg = d.toInt.toNat := rfl
  unfold va_cpy
  rw [z, e, e2]
  by_cases q : d.toInt ≤ (k : Int) ∧ (k : Int) < d.toInt + n.toInt
  · rw [if_pos q, if_pos (by omega)]
    congr 1
    omega
  · rw [if_neg q, if_neg (by omega)]
theorem ct_all58 {Q : MS → Prop} (hbc : b ≠ c) (hr : qO S b 0 ≠ qO S c 0) (h : w_X0_putAll_J58 Q S b c) (h0 : 0 ≤ (qI S b 1).toInt) : w_X0_putAll_J58 (fun u => Q u ∧ CaB b c S u) S b c := by
  unfold w_X0_putAll_J58 at h ⊢
  intro w kb kc
  replace h := h w kb kc
  refine ⟨h.1, h.2.1, h.2.2.1, fun S14 e14 k14 w14 S16 e16 k16 w16 => ⟨h.2.2.2 S14 e14 k14 w14 S16 e16 k16 w16, ?_⟩⟩
  have hne : b ≠ qO S b 0 := fun q => by rw [← q, kb] at k14; exact absurd k14 (by decide)
  have o16 : qO S16 b 0 = qO S b 0 := by rw [e16, e14]; rfl
  have wc : ∀ (f : Nat → Int32) (a j : Nat), qI (wC S (qO S b 0) f) a j = if a = qO S b 0 then f j else qI S a j := fun f a j => by
    show (if a = qO S b 0 then f else qI S a) j = _
    split <;> rfl
  have i16 : ∀ k, qI S16 (qO S b 0) k = if (qI S b 1).toInt ≤ (k : Int) ∧ (k : Int) < (qI S b 1).toInt + (qI S c 1).toInt then qI S (qO S c 0) (k - (qI S b 1).toInt.toNat) else qI S (qO S b 0) k := fun k => by
    rw [e16, qI_wI, if_neg (fun z => hne z.1.symm), e14, wc, if_pos rfl, cpy_d h0]
  refine ⟨⟨fun a a0 ab ar => funext fun j => ?_, Or.inl o16, fun k hk => ?_⟩, fun k hk => ?_⟩
  · rw [e16, qI_wI, if_neg (fun z => ab z.1), e14, wc, if_neg ar]
  · rw [o16, i16, if_neg (by omega)]
  · rw [o16, i16, if_pos (by omega)]
    congr 1
    omega
theorem ct_all37 {Q : MS → Prop} {v2 : Int32} (hbc : b ≠ c) (hr : qO S b 0 ≠ qO S c 0) (kr : qT S (qO S c 0) = 101) (hi : (0 ≤ (qI S b 1).toInt ∧ (qI S b 1).toInt ≤ (qN S (qO S b 0) : Int)) ∧ qN S (qO S b 0) < 2147483648) (h : w_X0_putAll_J37 Q S b c v2) : w_X0_putAll_J37 (fun u => Q u ∧ CaB b c S u) S b c v2 := by
  unfold w_X0_putAll_J37 at h ⊢
  intro w kb kc
  replace h := h w kb kc
  refine ⟨h.1, fun d => ct_all58 hbc hr (h.2.1 d) hi.1.1, fun d => ?_⟩
  replace h := h.2.2 d
  refine ⟨h.1, fun kk => ?_⟩
  obtain ⟨Q20, a1, a2⟩ := h.2 kk
  have eL := toI_nat hi.2
  have hT : qn S < TXB := by
    unfold wJ7_copyOf_9075b at a1
    exact KC_TX (a1.2 (by rw [eL]; omega)).1.2.1
  refine ⟨_, cf_copyOfB hi.2 (w.ne hT kk (by decide)) (by omega) a1, ?_⟩
  rintro b25 S22 ⟨q1, ⟨rfl, -⟩, f, hf, e22⟩ w22 s22 k22 S26 e26 k26 w26
  obtain ⟨g1, g2, g3, g4⟩ := fB_grow w kb kk hT hi.1.2 hf e22 e26
  have hcn := w.ne hT kc (by decide)
  have oc : qO S26 c 0 = qO S c 0 := by
    unfold qO
    rw [e26, qR_wR, if_neg (fun z => hbc z.1.symm), e22, wCN_R, if_neg hcn]
  have ic : qI S26 c 1 = qI S c 1 := by
    rw [e26]
    show qI S22 c 1 = _
    rw [e22]
    exact wCN_I hcn
  have rn : qO S c 0 ≠ qn S := w.ne hT kr (by decide)
  have := ct_all58 hbc (by rw [g4, oc]; exact fun q => rn q.symm) (a2 _ S22 q1 w22 s22 k22 S26 e26 k26 w26) (by rw [g2]; exact hi.1.1)
  unfold w_X0_putAll_J58 at this ⊢
  intro wV k1 k2
  replace this := this wV k1 k2
  refine ⟨this.1, this.2.1, this.2.2.1, fun S14 e14 k14 w14 S16 e16 k16 w16 => ?_⟩
  obtain ⟨q, cp⟩ := this.2.2.2 S14 e14 k14 w14 S16 e16 k16 w16
  refine ⟨q, g1.tr cp.1 g3 (by rw [g2]; exact Int.le_refl _), fun k hk => ?_⟩
  have r := cp.2 k (by rw [ic]; exact hk)
  rw [g2, oc, g1.1 _ (by rw [kr]; decide) (fun q => by rw [q, kb] at kr; exact absurd kr (by decide)) (fun q => hr q.symm)] at r
  exact r
theorem ct_all8 {Q : MS → Prop} (hbc : b ≠ c) (hr : qO S b 0 ≠ qO S c 0) (kr : qT S (qO S c 0) = 101) (hi : (0 ≤ (qI S b 1).toInt ∧ (qI S b 1).toInt ≤ (qN S (qO S b 0) : Int)) ∧ qN S (qO S b 0) < 2147483648) : ∀ (n : Nat) {v2 v3 : Int32}, w_X0_putAll_L8 Q n S b c v2 v3 → w_X0_putAll_L8 (fun u => Q u ∧ CaB b c S u) n S b c v2 v3 := by
  intro n
  induction n with
  | zero => intro v2 v3 h; unfold w_X0_putAll_L8 at h; exact h.elim
  | succ n ih =>
    intro v2 v3 h
    unfold w_X0_putAll_L8 at h ⊢
    intro w kb kc
    replace h := h w kb kc
    exact ⟨fun d => ct_all37 hbc hr kr hi (h.1 d), fun d => ⟨fun e => ct_all37 hbc hr kr hi ((h.2 d).1 e), fun e a ea a' ea' => ih ((h.2 d).2 e a ea a' ea')⟩⟩
theorem ct_putAll {Q : MS → Prop} (hbc : b ≠ c) (hr : qO S b 0 ≠ qO S c 0) (kr : qT S (qO S c 0) = 101) (hi : (0 ≤ (qI S b 1).toInt ∧ (qI S b 1).toInt ≤ (qN S (qO S b 0) : Int)) ∧ qN S (qO S b 0) < 2147483648) (h : wX0_putAll S b c Q) : wX0_putAll S b c (fun u => Q u ∧ CaB b c S u) := by
  unfold wX0_putAll at h ⊢
  refine ⟨h.1, fun a ea => ?_⟩
  obtain ⟨n, hn⟩ := h.2 a ea
  exact ⟨n, ct_all8 hbc hr kr hi n hn⟩
end BC
/-! Writer: the pool -/
/-- the pool has an entry of just these bytes -/
def InP (W : Nat → Int32) (L : Nat) (U : MS) : Prop := ∃ k : Nat, 1 ≤ k ∧ (k : Int) < (qI U 25 5).toInt ∧ (qI U 32 k).toInt + L = (qI U 33 k).toInt ∧ ∀ i : Nat, i < L → qI U (qO U 26 0) ((qI U 32 k).toInt.toNat + i) = W i
def PoI (U : MS) : Prop := (1 ≤ (qI U 25 5).toInt ∧ (qI U 25 5).toInt ≤ 500) ∧ ∀ k : Nat, 1 ≤ k → (k : Int) < (qI U 25 5).toInt → 0 ≤ (qI U 32 k).toInt ∧ (qI U 32 k).toInt ≤ (qI U 33 k).toInt ∧ (qI U 33 k).toInt ≤ (qI U 26 1).toInt
/-- Writer's Bytes and its pool -/
def WpI (B : Nat × Nat) (U : MS) : Prop := ShC B U ∧ PoI U ∧ (ByI U 26 16384 ∧ ByI U 28 65536 ∧ ByI U 30 128) ∧ qO U 26 0 ≠ qO U 30 0 ∧ qO U 26 0 ≠ qO U 28 0
section WP
variable {B : Nat × Nat} {S u v U : MS} {i j : Nat} {x y : Int32} {n : Int}
theorem ByI.kr (h : ByI S i j) (w : wfC S) (k : qT S i = 40) : qT S (qO S i 0) = 101 := w.ref h.1 k
theorem fb.at (f : fb i S u) {a t : Nat} (e : qT S a = t) (h0 : t ≠ 0) (h1 : t ≠ 101) (hb : a ≠ i) (j : Nat) : qI u a j = qI S a j ∧ qR u a j = qR S a j := by
  have := f.2.1 a j (by rw [e]; exact h0) (by rw [e]; exact h1) hb
  exact ⟨this.1, this.2.2⟩
theorem ByI.fb {cap : Nat} (h : ByI S j cap) (w : wfC S) (k : qT S j = 40) (f : fb i S u) (ne : j ≠ i) : ByI u j cap := by
  have a := f.at k (by decide) (by decide) ne
  have o : qO u j 0 = qO S j 0 := qO_eq (a 0).2
  have n : qN u (qO S j 0) = qN S (qO S j 0) := (f.1.1 _ (by rw [h.kr w k]; decide)).2
  unfold ByI
  rw [o, n, (a 0).2, (a 1).1]
  exact h
theorem wfC.k32 (w : wfC S) : qT S 32 = 238 := (w.2.1 _ finC_15).2.1
theorem wfC.k33 (w : wfC S) : qT S 33 = 239 := (w.2.1 _ finC_16).2.1
theorem WpI.w3 {k : Int} {cap : Nat} (h : WpI B S) (w : wfC S) (hi : (i = 28 ∧ cap = 65536) ∨ (i = 30 ∧ cap = 128)) (p : ByPk i k cap S u) (f : fB i S u) : WpI B u ∧ (∀ W L, InP W L S → InP W L u) ∧ (qI u 25 5 = qI S 25 5 ∧ qI u 26 1 = qI S 26 1 ∧ qI u 25 6 = qI S 25 6) := by
  obtain ⟨g, po, ⟨b26, b28, b30⟩, n30, n28⟩ := h
  obtain ⟨p1, p2, p3, p4⟩ := p
  have hcap := p1.2.2.2
  have gu : ShC B u := by
    rcases hi with ⟨rfl, rfl⟩ | ⟨rfl, rfl⟩
    · exact ShC.b_28 w g p3 p4 hcap
    · exact ShC.b_30 w g p3 p4 hcap
  have e25 := p3.at w.k25 (by decide) (by decide) (show 25 ≠ i by omega)
  have e26 := p3.at w.k26 (by decide) (by decide) (show 26 ≠ i by omega)
  have e32 := p3.at w.k32 (by decide) (by decide) (show 32 ≠ i by omega)
  have e33 := p3.at w.k33 (by decide) (by decide) (show 33 ≠ i by omega)
  have o26 : qO u 26 0 = qO S 26 0 := qO_eq (e26 0).2
  have k26 := b26.kr w w.k26
  have ki : qT S i = 40 := by
    rcases hi with ⟨rfl, -⟩ | ⟨rfl, -⟩
    · exact w.k28
    · exact w.k30
  have ni : qO S 26 0 ≠ qO S i 0 := by
    rcases hi with ⟨rfl, -⟩ | ⟨rfl, -⟩
    · exact n28
    · exact n30
  have c26 : qI u (qO S 26 0) = qI S (qO S 26 0) := f.1 _ (by rw [k26]; decide) (fun q => by rw [q, ki] at k26; exact absurd k26 (by decide)) ni
  have nu : qO u 26 0 ≠ qO u i 0 := by
    rw [o26]
    rcases f.2.1 with q | q
    · rw [q]; exact ni
    · intro z; rw [← z, k26] at q; exact absurd q (by decide)
  have po' : PoI u := by
    unfold PoI
    rw [(e25 5).1, (e26 1).1]
    refine ⟨po.1, fun k h1 h2 => ?_⟩
    rw [(e32 k).1, (e33 k).1]
    exact po.2 k h1 h2
  refine ⟨⟨gu, po', ⟨b26.fb w w.k26 p3 (by omega), ?_, ?_⟩, ?_, ?_⟩, fun W L hW => ?_, (e25 5).1, (e26 1).1, (e25 6).1⟩
  · rcases hi with ⟨rfl, rfl⟩ | ⟨rfl, rfl⟩
    · exact p1
    · exact b28.fb w w.k28 p3 (by decide)
  · rcases hi with ⟨rfl, rfl⟩ | ⟨rfl, rfl⟩
    · exact b30.fb w w.k30 p3 (by decide)
    · exact p1
  · rcases hi with ⟨rfl, rfl⟩ | ⟨rfl, rfl⟩
    · rw [o26, qO_eq (p3.at w.k30 (by decide) (by decide) (by decide) 0).2]; exact n30
    · exact nu
  · rcases hi with ⟨rfl, rfl⟩ | ⟨rfl, rfl⟩
    · exact nu
    · rw [o26, qO_eq (p3.at w.k28 (by decide) (by decide) (by decide) 0).2]; exact n28
  · obtain ⟨k, a1, a2, a3, a4⟩ := hW
    refine ⟨k, a1, by rw [(e25 5).1]; exact a2, by rw [(e32 k).1, (e33 k).1]; exact a3, fun i hi => ?_⟩
    rw [o26, c26, (e32 k).1]
    exact a4 i hi
/-- entry k of the pool is what is wanted -/
def EqW (S : MS) (k : Nat) : Prop := (qI S 32 k).toInt + (qI S 30 1).toInt = (qI S 33 k).toInt ∧ ∀ i : Nat, (i : Int) < (qI S 30 1).toInt → qI S (qO S 26 0) ((qI S 32 k).toInt.toNat + i) = qI S (qO S 30 0) i
theorem iw_L53 {Q : Int32 → MS → Prop} {v2 v3 : Int32} {k : Nat} (h : WpI B S) (e2 : v2 = qI S 32 k) (e3 : v3.toInt = (qI S 30 1).toInt) (hb : 0 ≤ v2.toInt ∧ v2.toInt + v3.toInt ≤ (qN S (qO S 26 0) : Int)) (hQ : ∀ r : Int32, (r = 0 ∨ r = 1) → (r.toInt = 0 → ¬ EqW S k) → Q r S) : ∀ (n : Nat) {v4 : Int32}, 0 ≤ v4.toInt → 2147483648 - v4.toInt < n → w_X11_isWanted_L53 Q n S v2 v3 v4 := by
  intro n
  induction n with
  | zero => intro v4 _ hm; have := rgI v4; omega
  | succ n ih =>
    intro v4 h0 hm
    have l26 := h.2.2.1.1.2.2.2
    have b30 := h.2.2.1.2.2.2.1
    unfold w_X11_isWanted_L53
    intro w
    refine ⟨fun _ => hQ 1 (Or.inr rfl) (fun z => absurd z (by decide)), fun c => ⟨fun _ => hQ 1 (Or.inr rfl) (fun z => absurd z (by decide)), fun c2 => ?_⟩⟩
    have ea : (v2 + v4).toInt = v2.toInt + v4.toInt := t_addk (by omega)
    refine ⟨by omega, by omega, fun _ a ea' => ?_, fun d => hQ 0 (Or.inl rfl) (fun _ q => ?_)⟩
    · have e := t_inc ea' (by omega)
      exact ih (by omega) (by omega)
    · have := q.2 v4.toInt.toNat (by omega)
      rw [← e2] at this
      refine d ?_
      rw [ea, show (v2.toInt + v4.toInt).toNat = v2.toInt.toNat + v4.toInt.toNat by omega, this]
theorem sp_isWanted {k : Nat} (h : WpI B S) (hx : x.toInt = (k : Int)) (hk : 1 ≤ k ∧ (k : Int) < (qI S 25 5).toInt) : wX11_isWanted S x (fun r u => u = S ∧ (r = 0 ∨ r = 1) ∧ (r.toInt = 0 → ¬ EqW S k)) := by
  have po := h.2.1.2 k hk.1 hk.2
  have p5 := h.2.1.1
  have b26 := h.2.2.1.1
  have l26 := b26.2.2.2
  have l26b := b26.2.1
  have nk : x.toInt.toNat = k := by omega
  unfold wX11_isWanted
  refine ⟨by omega, fun a3 e3 => ⟨by omega, fun a7 e7 => ?_⟩⟩
  rw [nk] at e3 e7
  have r3 : a3.toInt = (qI S 32 k).toInt := by rw [e3]
  have r7 : a7.toInt = (qI S 33 k).toInt - (qI S 32 k).toInt := by rw [e7, t_subk (by omega), r3]
  refine ⟨fun c => ⟨fun d => by omega, fun d => ⟨by omega, fun _ => ⟨2147483649, iw_L53 h e3 (by omega) (by omega) (fun r a b => ⟨rfl, a, b⟩) _ (by decide) (by rw [li_0k]; decide)⟩, fun d2 => ?_⟩⟩, fun c => ⟨rfl, Or.inl rfl, fun _ q => c ?_⟩⟩
  · exfalso
    rw [nk] at d2
    omega
  · have := q.1
    omega
end WP
/-! Writer: an entry that is wanted -/
section WE
variable {B : Nat × Nat} {S u v U : MS} {i j : Nat} {x y : Int32} {n : Int}
def EnQ (B : Nat × Nat) (S u : MS) (r : Int32) : Prop := (WpI B u ∧ (∀ W L, InP W L S → InP W L u) ∧ (0 ≤ r.toInt ∧ r.toInt < 500) ∧ qI u 28 1 = qI S 28 1) ∧ ((qI u 25 5 = qI S 25 5 ∧ qI u 26 1 = qI S 26 1) ∨ (¬ InP (qI S (qO S 30 0)) (qI S 30 1).toInt.toNat S ∧ InP (qI S (qO S 30 0)) (qI S 30 1).toInt.toNat u ∧ (qI S 25 5).toInt + 1 ≤ (qI u 25 5).toInt ∧ (qI u 26 1).toInt = (qI S 26 1).toInt + (qI S 30 1).toInt))
theorem en_fin {t r : Int32} (h : WpI B S) (hin : ¬ InP (qI S (qO S 30 0)) (qI S 30 1).toInt.toNat S) (ht : t.toInt = 1 ∨ t.toInt = 2) (hpt : (qI S 25 5).toInt + t.toInt ≤ 500) (A : ShC B u) (b5 : (qI u 25 5).toInt = (qI S 25 5).toInt + t.toInt) (cl : ∀ k : Nat, (k : Int) < (qI S 25 5).toInt → qI u 32 k = qI S 32 k ∧ qI u 33 k = qI S 33 k) (c1 : qI u 32 (qI S 25 5).toInt.toNat = qI S 26 1 ∧ (qI u 33 (qI S 25 5).toInt.toNat).toInt = (qI S 26 1).toInt + (qI S 30 1).toInt) (c2 : t.toInt = 2 → (qI u 32 ((qI S 25 5).toInt.toNat + 1)).toInt = (qI S 26 1).toInt + (qI S 30 1).toInt ∧ (qI u 33 ((qI S 25 5).toInt.toNat + 1)).toInt = (qI S 26 1).toInt + (qI S 30 1).toInt) (d : (ByI u 26 16384 ∧ ByI u 28 65536 ∧ ByI u 30 128) ∧ (qI u 26 1).toInt = (qI S 26 1).toInt + (qI S 30 1).toInt) (e1 : ∀ k : Nat, (k : Int) < (qI S 26 1).toInt → qI u (qO u 26 0) k = qI S (qO S 26 0) k) (e2 : ∀ k : Nat, (k : Int) < (qI S 30 1).toInt → qI u (qO u 26 0) ((qI S 26 1).toInt.toNat + k) = qI S (qO S 30 0) k) (f : qO u 26 0 ≠ qO u 30 0 ∧ qO u 26 0 ≠ qO u 28 0) (g : qI u 28 1 = qI S 28 1) (hr : r.toInt = (qI S 25 5).toInt) : EnQ B S u r := by
  have p1 := h.2.1.1
  have w0 := h.2.2.1.2.2.2.1.1
  have q0 := h.2.2.1.1.2.1.1
  have mono : ∀ W L, InP W L S → InP W L u := fun W L hW => by
    obtain ⟨k, a1, a2, a3, a4⟩ := hW
    have po := h.2.1.2 k a1 a2
    refine ⟨k, a1, by omega, by rw [(cl k a2).1, (cl k a2).2]; exact a3, fun i hi => ?_⟩
    rw [(cl k a2).1, e1 _ (by omega)]
    exact a4 i hi
  refine ⟨⟨⟨A, ⟨by omega, fun k h1 h2 => ?_⟩, d.1, f⟩, mono, by omega, g⟩, Or.inr ⟨hin, ⟨(qI S 25 5).toInt.toNat, by omega, by omega, ?_, fun i hi => ?_⟩, by omega, d.2⟩⟩
  · by_cases z : (k : Int) < (qI S 25 5).toInt
    · have po := h.2.1.2 k h1 z
      rw [(cl k z).1, (cl k z).2]
      omega
    · by_cases y : k = (qI S 25 5).toInt.toNat
      · rw [y, c1.1]
        have := c1.2
        omega
      · have e : k = (qI S 25 5).toInt.toNat + 1 := by omega
        have := c2 (by omega)
        rw [e]
        omega
  · rw [c1.1, c1.2]; omega
  · rw [c1.1]
    exact e2 i (by omega)
theorem en_J52 {Q : Int32 → MS → Prop} {t : Int32} (h : WpI B S) (ht : t.toInt = 1 ∨ t.toInt = 2) (hin : ¬ InP (qI S (qO S 30 0)) (qI S 30 1).toInt.toNat S) (hs : (qI S 26 1).toInt + (qI S 30 1).toInt ≤ 16384) (hQ : ∀ (r : Int32) (u : MS), EnQ B S u r → Q r u) : w_X11_entryOfWanted_J52 Q S t := by
  obtain ⟨g, po, ⟨b26, b28, b30⟩, n30, n28⟩ := id h
  have p1 := po.1
  have w0 := b30.2.1
  have q0 := b26.2.1
  unfold w_X11_entryOfWanted_J52
  intro w
  have et : ((qI S 25 5) + t).toInt = (qI S 25 5).toInt + t.toInt := t_addk (by omega)
  refine ⟨fun c => ?_, fun c S24 e24 k24 w24 => ?_⟩
  · have hpt : (qI S 25 5).toInt + t.toInt ≤ 500 := by omega
    refine ⟨by omega, fun S7 e7 k7 w7 _ _ => ?_⟩
    have f7 : cfr [238] [] S S7 := by rw [e7]; exact cfr.aI k7 rfl
    have g7 : ShC B S7 := ShC.ws w g f7 (by rw [e7]; rfl) (by rw [e7]; rfl) (by rw [e7]; rfl) rfl rfl
    have I7 : ∀ a j, a ≠ 32 → qI S7 a j = qI S a j := fun a j ha => by rw [e7, qI_wI, if_neg (fun z => ha z.1)]
    have O7 : ∀ a j, qO S7 a j = qO S a j := fun a j => by rw [e7]; rfl
    have k26 := b26.kr w w.k26
    have k30 := b30.kr w w.k30
    have r26 : qO S 26 0 ≠ 32 := fun z => by rw [z, w.k32] at k26; exact absurd k26 (by decide)
    have r30 : qO S 30 0 ≠ 32 := fun z => by rw [z, w.k32] at k30; exact absurd k30 (by decide)
    have B7 : ∀ b cap, b ≠ 32 → ByI S b cap → ByI S7 b cap := fun b cap hb q => by
      unfold ByI
      rw [O7, I7 b 1 hb, show qR S7 b 0 = qR S b 0 by rw [e7]; rfl, show qN S7 = qN S by rw [e7]; rfl]
      exact q
    have b26' := B7 26 _ (by decide) b26
    have b30' := B7 30 _ (by decide) b30
    refine ⟨_, ct_putAll (b := 26) (c := 30) (by decide) (by rw [O7, O7]; exact n30) (b30'.kr w7 w7.k30) ⟨b26'.2.1, by have := p2_le _ b26'.2.2.1; omega⟩ (sp_putAll (b := 26) (c := 30) (cap := 16384) (by decide) b26' (by decide) ⟨b30'.1, b30'.2.1⟩ (by rw [I7 26 1 (by decide), I7 30 1 (by decide)]; exact hs) g7.rb_26 (Q := fun u => ByPk 26 (qI S7 30 1).toInt 16384 S7 u) (fun u q => q)), fun S9 q9 w9 s9 => ?_⟩
    obtain ⟨⟨p9, c9, fb9, bk9⟩, fB9, ca9⟩ := q9
    have g9 : ShC B S9 := ShC.b_26 w7 g7 fb9 bk9 p9.2.2.2
    rw [I7 26 1 (by decide), I7 30 1 (by decide)] at c9
    have a25 := fb9.at w7.k25 (by decide) (by decide) (by decide)
    have a28 := fb9.at w7.k28 (by decide) (by decide) (by decide)
    have a30 := fb9.at w7.k30 (by decide) (by decide) (by decide)
    have a32 := fb9.at w7.k32 (by decide) (by decide) (by decide)
    have a33 := fb9.at w7.k33 (by decide) (by decide) (by decide)
    have pc9 : qI S9 25 5 = qI S 25 5 := by rw [(a25 5).1]; exact I7 25 5 (by decide)
    have b28' : ByI S9 28 65536 := (B7 28 _ (by decide) b28).fb w7 w7.k28 fb9 (by decide)
    have b30'' : ByI S9 30 128 := b30'.fb w7 w7.k30 fb9 (by decide)
    have o30 : qO S9 30 0 = qO S 30 0 := by rw [qO_eq (a30 0).2]; exact O7 30 0
    have o28 : qO S9 28 0 = qO S 28 0 := by rw [qO_eq (a28 0).2]; exact O7 28 0
    have k28 := b28.kr w w.k28
    have T7 : qT S7 = qT S := by rw [e7]; rfl
    have nn : ∀ z, qT S z = 101 → qO S 26 0 ≠ z → qO S9 26 0 ≠ z := fun z kz nz => by
      rcases fB9.2.1 with q | q
      · rw [q, O7]; exact nz
      · intro e; rw [e, T7, kz] at q; exact absurd q (by decide)
    have E1 : ∀ k : Nat, (k : Int) < (qI S 26 1).toInt → qI S9 (qO S9 26 0) k = qI S (qO S 26 0) k := fun k hk => by
      rw [fB9.2.2 k (by rw [I7 26 1 (by decide)]; exact hk), O7, I7 _ _ r26]
    have E2 : ∀ k : Nat, (k : Int) < (qI S 30 1).toInt → qI S9 (qO S9 26 0) ((qI S 26 1).toInt.toNat + k) = qI S (qO S 30 0) k := fun k hk => by
      have := ca9 k (by rw [I7 30 1 (by decide)]; exact hk)
      rw [I7 26 1 (by decide), O7, I7 _ _ r30] at this
      exact this
    rw [pc9]
    refine ⟨by omega, fun S13 e13 k13 w13 S15 e15 k15 w15 => ?_⟩
    have f13 : cfr [239] [] S9 S13 := by rw [e13]; exact cfr.aI k13 rfl
    have g13 : ShC B S13 := ShC.ws w9 g9 f13 (by rw [e13]; rfl) (by rw [e13]; rfl) (by rw [e13]; rfl) rfl rfl
    have f15 : cfr [] [(50, 5)] S13 S15 := by rw [e15]; exact cfr.oI k15 rfl
    have g15 : ShC B S15 := ShC.ws w13 g13 f15 (by rw [e15]; rfl) (by rw [e15]; rfl) (by rw [e15]; rfl) rfl rfl
    have k269 : qT S9 (qO S9 26 0) = 101 := p9.kr w9 w9.k26
    have i15 : ∀ a j, a ≠ 25 → a ≠ 33 → qI S15 a j = qI S9 a j := fun a j h1 h2 => by rw [e15, qI_wI, if_neg (fun z => h1 z.1), e13, qI_wI, if_neg (fun z => h2 z.1)]
    have p15 : qI S15 25 5 = (qI S 25 5) + t := by rw [e15, qI_wI, if_pos ⟨rfl, rfl⟩, e13, qI_wI, if_neg (fun z => absurd z.1 (by decide)), pc9]
    have i33 : ∀ k, qI S15 33 k = if k = (qI S 25 5).toInt.toNat then qI S9 26 1 else qI S 33 k := fun k => by
      rw [e15, qI_wI, if_neg (fun z => absurd z.1 (by decide)), e13, qI_wI]
      by_cases y : k = (qI S 25 5).toInt.toNat
      · rw [if_pos ⟨rfl, y⟩, if_pos y]
      · rw [if_neg (fun z => y z.2), if_neg y, (a33 k).1]; exact I7 33 k (by decide)
    have i32 : ∀ k, qI S15 32 k = if k = (qI S 25 5).toInt.toNat then qI S 26 1 else qI S 32 k := fun k => by
      rw [i15 32 k (by decide) (by decide), (a32 k).1, e7, qI_wI]
      by_cases y : k = (qI S 25 5).toInt.toNat
      · rw [if_pos ⟨rfl, y⟩, if_pos y]
      · rw [if_neg (fun z => y z.2), if_neg y]
    have row : qO S9 26 0 ≠ 25 ∧ qO S9 26 0 ≠ 33 ∧ qO S9 26 0 ≠ 32 := ⟨fun z => by rw [z, w9.k25] at k269; exact absurd k269 (by decide), fun z => by rw [z, w9.k33] at k269; exact absurd k269 (by decide), fun z => by rw [z, w9.k32] at k269; exact absurd k269 (by decide)⟩
    have c9' : (qI S9 26 1).toInt = (qI S 26 1).toInt + (qI S 30 1).toInt := c9
    have R15 : ∀ a j, qR S15 a j = qR S9 a j := fun a j => by rw [e15, e13]; rfl
    have N15 : qN S15 = qN S9 := by rw [e15, e13]; rfl
    have O15 : ∀ a j, qO S15 a j = qO S9 a j := fun a j => qO_eq (R15 a j)
    have B15 : ∀ b cap, b ≠ 25 → b ≠ 33 → ByI S9 b cap → ByI S15 b cap := fun b cap h1 h2 q => by
      unfold ByI
      rw [O15, i15 b 1 h1 h2, R15, N15]
      exact q
    have sub : ∀ z : Int32, z.toInt = (qI S 25 5).toInt + t.toInt → (z - t).toInt = (qI S 25 5).toInt := fun z hz => by rw [t_subk (by omega), hz]; omega
    refine ⟨fun c2 => ?_, fun c2 => ?_⟩
    · have m1 : ((qI S15 25 5) - (1 : Int32)).toInt = (qI S 25 5).toInt + 1 := by rw [p15, t_subk (by rw [li_1k]; omega), li_1k, et]; omega
      refine ⟨by omega, fun S20 e20 k20 w20 => ?_⟩
      have p20 : qI S20 25 5 = qI S15 25 5 := by rw [e20, qI_wI, if_neg (fun z => absurd z.1 (by decide))]
      rw [p20]
      refine ⟨by omega, fun S23 e23 k23 w23 => ?_⟩
      unfold w_X11_entryOfWanted_J166
      intro _
      have f20 : cfr [238] [] S15 S20 := by rw [e20]; exact cfr.aI k20 rfl
      have g20 : ShC B S20 := ShC.ws w15 g15 f20 (by rw [e20]; rfl) (by rw [e20]; rfl) (by rw [e20]; rfl) rfl rfl
      have f23 : cfr [239] [] S20 S23 := by rw [e23]; exact cfr.aI k23 rfl
      have g23 : ShC B S23 := ShC.ws w20 g20 f23 (by rw [e23]; rfl) (by rw [e23]; rfl) (by rw [e23]; rfl) rfl rfl
      have i23 : ∀ a j, a ≠ 32 → a ≠ 33 → qI S23 a j = qI S15 a j := fun a j h1 h2 => by rw [e23, qI_wI, if_neg (fun z => h2 z.1), e20, qI_wI, if_neg (fun z => h1 z.1)]
      have m1n : ((qI S15 25 5) - (1 : Int32)).toInt.toNat = (qI S 25 5).toInt.toNat + 1 := by omega
      rw [m1n] at e20 e23
      have c26 : qI S20 26 1 = qI S9 26 1 := by rw [e20, qI_wI, if_neg (fun z => absurd z.1 (by decide))]; exact i15 26 1 (by decide) (by decide)
      have j32 : ∀ k, qI S23 32 k = if k = (qI S 25 5).toInt.toNat + 1 then qI S9 26 1 else qI S15 32 k := fun k => by
        rw [e23, qI_wI, if_neg (fun z => absurd z.1 (by decide)), e20, qI_wI, i15 26 1 (by decide) (by decide)]
        by_cases y : k = (qI S 25 5).toInt.toNat + 1
        · rw [if_pos ⟨rfl, y⟩, if_pos y]
        · rw [if_neg (fun z => y z.2), if_neg y]
      have j33 : ∀ k, qI S23 33 k = if k = (qI S 25 5).toInt.toNat + 1 then qI S9 26 1 else qI S15 33 k := fun k => by
        rw [e23, qI_wI, c26]
        by_cases y : k = (qI S 25 5).toInt.toNat + 1
        · rw [if_pos ⟨rfl, y⟩, if_pos y]
        · rw [if_neg (fun z => y z.2), if_neg y, e20, qI_wI, if_neg (fun z => absurd z.1 (by decide))]
      have R23 : ∀ a j, qR S23 a j = qR S15 a j := fun a j => by rw [e23, e20]; rfl
      have O23 : ∀ a j, qO S23 a j = qO S9 a j := fun a j => (qO_eq (R23 a j)).trans (O15 a j)
      have N23 : qN S23 = qN S15 := by rw [e23, e20]; rfl
      have B23 : ∀ b cap, b ≠ 32 → b ≠ 33 → ByI S15 b cap → ByI S23 b cap := fun b cap h1 h2 q => by
        unfold ByI
        rw [qO_eq (R23 b 0), i23 b 1 h1 h2, R23, N23]
        exact q
      have p23 : qI S23 25 5 = qI S 25 5 + t := (i23 25 5 (by decide) (by decide)).trans p15
      refine hQ _ S23 (en_fin (t := t) h hin ht hpt g23 (by rw [p23]; exact et) (fun k hk => ?_) ?_ (fun _ => ?_) ⟨⟨B23 _ _ (by decide) (by decide) (B15 _ _ (by decide) (by decide) p9), B23 _ _ (by decide) (by decide) (B15 _ _ (by decide) (by decide) b28'), B23 _ _ (by decide) (by decide) (B15 _ _ (by decide) (by decide) b30'')⟩, ?_⟩ (fun k hk => ?_) (fun k hk => ?_) ?_ ?_ (by rw [p23]; exact sub _ et))
      · rw [j32, if_neg (by omega), i32, if_neg (by omega), j33, if_neg (by omega), i33, if_neg (by omega)]
        exact ⟨rfl, rfl⟩
      · rw [j32, if_neg (by omega), i32, if_pos rfl, j33, if_neg (by omega), i33, if_pos rfl]
        exact ⟨rfl, c9'⟩
      · rw [j32, if_pos rfl, j33, if_pos rfl]
        exact ⟨c9', c9'⟩
      · rw [i23 26 1 (by decide) (by decide), i15 26 1 (by decide) (by decide)]; exact c9'
      · rw [O23, i23 _ _ row.2.2 row.2.1, i15 _ _ row.1 row.2.1]; exact E1 k hk
      · rw [O23, i23 _ _ row.2.2 row.2.1, i15 _ _ row.1 row.2.1]; exact E2 k hk
      · rw [O23, O23, O23, o30, o28]; exact ⟨nn _ k30 n30, nn _ k28 n28⟩
      · rw [i23 28 1 (by decide) (by decide), i15 28 1 (by decide) (by decide), (a28 1).1]; exact I7 28 1 (by decide)
    · unfold w_X11_entryOfWanted_J166
      intro _
      refine hQ _ S15 (en_fin (t := t) h hin ht hpt g15 (by rw [p15]; exact et) (fun k hk => ?_) ?_ (fun z => absurd z c2) ⟨⟨B15 _ _ (by decide) (by decide) p9, B15 _ _ (by decide) (by decide) b28', B15 _ _ (by decide) (by decide) b30''⟩, ?_⟩ (fun k hk => ?_) (fun k hk => ?_) ?_ ?_ (by rw [p15]; exact sub _ et))
      · rw [i32, if_neg (by omega), i33, if_neg (by omega)]
        exact ⟨rfl, rfl⟩
      · rw [i32, if_pos rfl, i33, if_pos rfl]
        exact ⟨rfl, c9'⟩
      · rw [i15 26 1 (by decide) (by decide)]; exact c9'
      · rw [O15, i15 _ _ row.1 row.2.1]; exact E1 k hk
      · rw [O15, i15 _ _ row.1 row.2.1]; exact E2 k hk
      · rw [O15, O15, O15, o30, o28]; exact ⟨nn _ k30 n30, nn _ k28 n28⟩
      · rw [i15 28 1 (by decide) (by decide), (a28 1).1]; exact I7 28 1 (by decide)
  · have f : cfr [] [(50, 6)] S S24 := by rw [e24]; exact cfr.oI k24 rfl
    have I : ∀ a j, ¬ (a = 25 ∧ j = 6) → qI S24 a j = qI S a j := fun a j ha => by rw [e24, qI_wI, if_neg ha]
    have O : ∀ a j, qO S24 a j = qO S a j := fun a j => by rw [e24]; rfl
    have k26 := b26.kr w w.k26
    have r26 : qO S 26 0 ≠ 25 := fun z => by rw [z, w.k25] at k26; exact absurd k26 (by decide)
    have BB : ∀ b cap, b ≠ 25 → ByI S b cap → ByI S24 b cap := fun b cap hb q => by
      unfold ByI
      rw [O, I b 1 (fun z => hb z.1), show qR S24 b 0 = qR S b 0 by rw [e24]; rfl, show qN S24 = qN S by rw [e24]; rfl]
      exact q
    refine hQ 0 S24 ⟨⟨⟨ShC.ws w g f (by rw [e24]; rfl) (by rw [e24]; rfl) (by rw [e24]; rfl) rfl rfl, ?_, ⟨BB _ _ (by decide) b26, BB _ _ (by decide) b28, BB _ _ (by decide) b30⟩, by rw [O, O, O]; exact ⟨n30, n28⟩⟩, fun W L hW => ?_, by decide, I 28 1 (fun z => absurd z.1 (by decide))⟩, Or.inl ⟨I 25 5 (fun z => absurd z.2 (by decide)), I 26 1 (fun z => absurd z.1 (by decide))⟩⟩
    · unfold PoI
      rw [I 25 5 (fun z => absurd z.2 (by decide)), I 26 1 (fun z => absurd z.1 (by decide))]
      refine ⟨po.1, fun k h1 h2 => ?_⟩
      rw [I 32 k (fun z => absurd z.1 (by decide)), I 33 k (fun z => absurd z.1 (by decide))]
      exact po.2 k h1 h2
    · obtain ⟨k, a1, a2, a3, a4⟩ := hW
      refine ⟨k, a1, by rw [I 25 5 (fun z => absurd z.2 (by decide))]; exact a2, by rw [I 32 k (fun z => absurd z.1 (by decide)), I 33 k (fun z => absurd z.1 (by decide))]; exact a3, fun i hi => ?_⟩
      rw [O, I _ _ (fun z => r26 z.1), I 32 k (fun z => absurd z.1 (by decide))]
      exact a4 i hi
theorem en_L2 {Q : Int32 → MS → Prop} (h : WpI B S) (hs : (qI S 26 1).toInt + (qI S 30 1).toInt ≤ 16384) (hQ : ∀ (r : Int32) (u : MS), EnQ B S u r → Q r u) : ∀ (n : Nat) {v1 : Int32} (k : Nat), v1.toInt = (k : Int) → 1 ≤ k → k ≤ 500 → (∀ j : Nat, 1 ≤ j → j < k → (j : Int) < (qI S 25 5).toInt → ¬ EqW S j) → 2147483648 - v1.toInt < n → w_X11_entryOfWanted_L2 Q n S v1 := by
  have p1 := h.2.1.1
  have b30 := h.2.2.1.2.2
  intro n
  induction n with
  | zero => intro v1 k _ _ _ _ hm; have := rgI v1; omega
  | succ n ih =>
    intro v1 k h1 hk hk5 hne hm
    have J : (qI S 25 5).toInt ≤ v1.toInt → w_X11_entryOfWanted_J35 Q S := fun c => by
      have hin : ¬ InP (qI S (qO S 30 0)) (qI S 30 1).toInt.toNat S := fun q => by
        obtain ⟨j, a1, a2, a3, a4⟩ := q
        have w0 := b30.2.1.1
        exact hne j a1 (by omega) a2 ⟨by omega, fun i hi => a4 i (by omega)⟩
      unfold w_X11_entryOfWanted_J35
      intro w
      refine ⟨?_, fun _ => en_J52 h (by decide) hin hs hQ, fun _ => en_J52 h (by decide) hin hs hQ⟩
      unfold d_X0_get d_X0_get_J12
      rw [if_neg (by decide)]
      split
      · have := b30.2.1
        have z0 := li_0k
        exact ⟨b30.1, by omega, trivial⟩
      · trivial
    unfold w_X11_entryOfWanted_L2
    intro w
    refine ⟨J, fun c => ⟨fun d => J (by omega), fun d => ⟨_, sp_isWanted h h1 ⟨hk, by omega⟩, ?_⟩⟩⟩
    rintro r29 S30 ⟨rfl, hr, hz⟩ w30 s30
    refine ⟨fun z a ea => ?_, fun z => hQ v1 _ ⟨⟨h, fun _ _ q => q, by omega, rfl⟩, Or.inl ⟨rfl, rfl⟩⟩⟩
    have e := t_inc ea (by omega)
    refine ih (k + 1) (by omega) (by omega) (by omega) (fun j j1 j2 j3 => ?_) (by omega)
    by_cases y : j = k
    · rw [y]; exact hz z
    · exact hne j j1 (by omega) j3
theorem sp_entryk (h : WpI B S) (hs : (qI S 26 1).toInt + (qI S 30 1).toInt ≤ 16384) : wX11_entryOfWanted S (fun r u => EnQ B S u r) := by
  unfold wX11_entryOfWanted
  exact ⟨2147483649, en_L2 h hs (fun _ _ q => q) _ 1 (by decide) (by decide) (by decide) (fun j a b _ => absurd b (by omega)) (by rw [li_1k]; decide)⟩
end WE
/-! Writer: small entries -/
def NB (x : Int32) : Int32 := vp_nar .byte (x.toInt8.toInt32)
section WS
variable {B : Nat × Nat} {S u v U : MS} {i j : Nat} {x y : Int32} {n k : Int}
/-- the pool is as it was -/
def WkQ (B : Nat × Nat) (S u : MS) : Prop := WpI B u ∧ (∀ W L, InP W L S → InP W L u) ∧ (qI u 25 5 = qI S 25 5 ∧ qI u 26 1 = qI S 26 1 ∧ qI u 28 1 = qI S 28 1) ∧ ∀ W L, InP W L u → InP W L S
theorem WpI.w3' {cap : Nat} (h : WpI B S) (w : wfC S) (hi : (i = 28 ∧ cap = 65536) ∨ (i = 30 ∧ cap = 128)) (p : ByPk i k cap S u) (f : fB i S u) : ∀ W L, InP W L u → InP W L S := by
  obtain ⟨g, po, ⟨b26, b28, b30⟩, n30, n28⟩ := h
  obtain ⟨p1, p2, p3, p4⟩ := p
  have e25 := p3.at w.k25 (by decide) (by decide) (show 25 ≠ i by omega)
  have e26 := p3.at w.k26 (by decide) (by decide) (show 26 ≠ i by omega)
  have e32 := p3.at w.k32 (by decide) (by decide) (show 32 ≠ i by omega)
  have e33 := p3.at w.k33 (by decide) (by decide) (show 33 ≠ i by omega)
  have o26 : qO u 26 0 = qO S 26 0 := qO_eq (e26 0).2
  have k26 := b26.kr w w.k26
  have ki : qT S i = 40 := by
    rcases hi with ⟨rfl, -⟩ | ⟨rfl, -⟩
    · exact w.k28
    · exact w.k30
  have ni : qO S 26 0 ≠ qO S i 0 := by
    rcases hi with ⟨rfl, -⟩ | ⟨rfl, -⟩
    · exact n28
    · exact n30
  have c26 : qI u (qO S 26 0) = qI S (qO S 26 0) := f.1 _ (by rw [k26]; decide) (fun q => by rw [q, ki] at k26; exact absurd k26 (by decide)) ni
  intro W L hW
  obtain ⟨k, a1, a2, a3, a4⟩ := hW
  refine ⟨k, a1, by rw [← (e25 5).1]; exact a2, by rw [← (e32 k).1, ← (e33 k).1]; exact a3, fun i hi => ?_⟩
  have := a4 i hi
  rw [o26, c26, (e32 k).1] at this
  exact this
theorem WkQ.rf (h : WpI B S) : WkQ B S S := ⟨h, fun _ _ q => q, ⟨rfl, rfl, rfl⟩, fun _ _ q => q⟩
theorem WkQ.p30 (h : WkQ B S U) (w : wfC U) (p : ByPk 30 k 128 U u) (f : fB 30 U u) : WkQ B S u := by
  obtain ⟨a, b, c1, c2, c3⟩ := h.1.w3 w (Or.inr ⟨rfl, rfl⟩) p f
  refine ⟨a, fun W L q => b W L (h.2.1 W L q), ⟨c1.trans h.2.2.1.1, c2.trans h.2.2.1.2.1, ?_⟩, fun W L q => h.2.2.2 W L (h.1.w3' w (Or.inr ⟨rfl, rfl⟩) p f W L q)⟩
  exact ((p.2.2.1.at w.k28 (by decide) (by decide) (by decide) 1).1).trans h.2.2.1.2.2
theorem WkQ.z30 (h : WpI B S) (w : wfC S) (e : u = wI S 30 1 (0 : Int32)) (k30 : qT S 30 = 40) : WkQ B S u := by
  obtain ⟨g, po, ⟨b26, b28, b30⟩, n30, n28⟩ := h
  have f : cfr [] [(40, 1)] S u := by rw [e]; exact cfr.oI k30 rfl
  have I : ∀ a j, ¬ (a = 30 ∧ j = 1) → qI u a j = qI S a j := fun a j ha => by rw [e, qI_wI, if_neg ha]
  have O : ∀ a j, qO u a j = qO S a j := fun a j => by rw [e]; rfl
  have k26 := b26.kr w w.k26
  have r26 : qO S 26 0 ≠ 30 := fun z => by rw [z, w.k30] at k26; exact absurd k26 (by decide)
  have BB : ∀ b cap, b ≠ 30 → ByI S b cap → ByI u b cap := fun b cap hb q => by
    unfold ByI
    rw [O, I b 1 (fun z => hb z.1), show qR u b 0 = qR S b 0 by rw [e]; rfl, show qN u = qN S by rw [e]; rfl]
    exact q
  have b30' : ByI u 30 128 := by
    unfold ByI
    rw [O, show qR u 30 0 = qR S 30 0 by rw [e]; rfl, show qN u = qN S by rw [e]; rfl, show qI u 30 1 = 0 by rw [e, qI_wI, if_pos ⟨rfl, rfl⟩], li_0k]
    exact ⟨b30.1, ⟨by omega, by omega⟩, b30.2.2⟩
  have E : ∀ W L, InP W L u ↔ InP W L S := fun W L => by
    unfold InP
    simp only [O, I 25 5 (fun z => absurd z.1 (by decide)), I (qO S 26 0) _ (fun z => r26 z.1), I 32 _ (fun z => absurd z.1 (by decide)), I 33 _ (fun z => absurd z.1 (by decide))]
  refine ⟨⟨ShC.ws w g f (by rw [e]; rfl) (by rw [e]; rfl) (by rw [e]; rfl) rfl rfl, ?_, ⟨BB _ _ (by decide) b26, BB _ _ (by decide) b28, b30'⟩, by rw [O, O, O]; exact ⟨n30, n28⟩⟩, fun W L q => (E W L).mpr q, ⟨I 25 5 (fun z => absurd z.1 (by decide)), I 26 1 (fun z => absurd z.1 (by decide)), I 28 1 (fun z => absurd z.1 (by decide))⟩, fun W L q => (E W L).mp q⟩
  unfold PoI
  rw [I 25 5 (fun z => absurd z.1 (by decide)), I 26 1 (fun z => absurd z.1 (by decide))]
  refine ⟨po.1, fun k h1 h2 => ?_⟩
  rw [I 32 k (fun z => absurd z.1 (by decide)), I 33 k (fun z => absurd z.1 (by decide))]
  exact po.2 k h1 h2
theorem p128 : 128 ∈ p2L := by decide
theorem sp_want (w : wfC S) (h : WpI B S) : wX11_want S x (fun u => WkQ B S u ∧ (qI u 30 1).toInt = 1 ∧ qI u (qO u 30 0) 0 = NB x) := by
  unfold wX11_want
  intro S1 e1 k1 w1 k1'
  have h1 := WkQ.z30 h w e1 k1
  have c1 : qI S1 30 1 = 0 := by rw [e1, qI_wI, if_pos ⟨rfl, rfl⟩]
  have c1' : (qI S1 30 1).toInt = 0 := by rw [c1]; exact li_0k
  refine ⟨_, sp_putC w1 k1' h1.1.2.2.1.2.2 p128 (by omega) h1.1.1.rb_30 (Q := fun u => ByPk 30 1 128 S1 u ∧ CpB 30 x S1 u) (fun u a b => ⟨a, b⟩), fun S3 q3 w3 s3 => ⟨h1.p30 w1 q3.1 q3.2.1, by have := q3.1.2.1; omega, ?_⟩⟩
  have := q3.2.2
  rw [c1'] at this
  exact this
/-- an entry, and what the pool grew by -/
def SmQ (B : Nat × Nat) (S u : MS) (r : Int32) : Prop := (WpI B u ∧ (∀ W L, InP W L S → InP W L u) ∧ (0 ≤ r.toInt ∧ r.toInt < 500) ∧ qI u 28 1 = qI S 28 1) ∧ (qI S 25 5).toInt ≤ (qI u 25 5).toInt ∧ (qI u 26 1).toInt + 9 * (qI S 25 5).toInt ≤ (qI S 26 1).toInt + 9 * (qI u 25 5).toInt
theorem EnQ.sm {r : Int32} (h : WkQ B S U) (e : EnQ B U u r) (hL : (qI U 30 1).toInt ≤ 9) : SmQ B S u r := by
  obtain ⟨⟨a1, a2, a3, a4⟩, b⟩ := e
  obtain ⟨h1, h2, ⟨h3, h4, h5⟩, h6⟩ := h
  refine ⟨⟨a1, fun W L q => a2 W L (h2 W L q), a3, a4.trans h5⟩, ?_⟩
  rw [← h3, ← h4]
  rcases b with ⟨b1, b2⟩ | ⟨-, -, b3, b4⟩
  · rw [b1, b2]; omega
  · omega
theorem sp_pointerEntry (w : wfC S) (h : WpI B S) (hp : (qI S 26 1).toInt ≤ 16000) : wX11_pointerEntry S x y (fun r u => SmQ B S u r) := by
  unfold wX11_pointerEntry
  refine ⟨_, sp_want w h, fun S2 q2 w2 s2 k2 => ?_⟩
  obtain ⟨q2, c2, -⟩ := q2
  refine ⟨_, sp_put2C w2 k2 q2.1.2.2.1.2.2 p128 (by omega) q2.1.1.rb_30 (Q := fun u => ByPk 30 2 128 S2 u ∧ fB 30 S2 u) (fun u a b _ _ => ⟨a, b⟩), fun S6 q6 w6 s6 => ?_⟩
  have h6 := q2.p30 w2 q6.1 q6.2
  have c6 := q6.1.2.1
  exact ⟨_, sp_entryk h6.1 (by rw [h6.2.2.1.2.1]; omega), fun r10 S11 q11 w11 s11 => EnQ.sm h6 q11 (by omega)⟩
theorem sp_pointersEntry {z : Int32} (w : wfC S) (h : WpI B S) (hp : (qI S 26 1).toInt ≤ 16000) : wX11_pointersEntry S x y z (fun r u => SmQ B S u r) := by
  unfold wX11_pointersEntry
  refine ⟨_, sp_want w h, fun S2 q2 w2 s2 k2 => ?_⟩
  obtain ⟨q2, c2, -⟩ := q2
  refine ⟨_, sp_put2C w2 k2 q2.1.2.2.1.2.2 p128 (by omega) q2.1.1.rb_30 (Q := fun u => ByPk 30 2 128 S2 u ∧ fB 30 S2 u) (fun u a b _ _ => ⟨a, b⟩), fun S6 q6 w6 s6 k6 => ?_⟩
  have h6 := q2.p30 w2 q6.1 q6.2
  have c6 := q6.1.2.1
  refine ⟨_, sp_put2C w6 k6 h6.1.2.2.1.2.2 p128 (by omega) h6.1.1.rb_30 (Q := fun u => ByPk 30 2 128 S6 u ∧ fB 30 S6 u) (fun u a b _ _ => ⟨a, b⟩), fun S10 q10 w10 s10 => ?_⟩
  have h10 := h6.p30 w6 q10.1 q10.2
  have c10 := q10.1.2.1
  exact ⟨_, sp_entryk h10.1 (by rw [h10.2.2.1.2.1]; omega), fun r14 S15 q15 w15 s15 => EnQ.sm h10 q15 (by omega)⟩
theorem sp_intEntry (w : wfC S) (h : WpI B S) (hp : (qI S 26 1).toInt ≤ 16000) : wX11_intEntry S x (fun r u => SmQ B S u r) := by
  unfold wX11_intEntry
  refine ⟨_, sp_want w h, fun S2 q2 w2 s2 k2 => ?_⟩
  obtain ⟨q2, c2, -⟩ := q2
  refine ⟨_, sp_put4C w2 k2 q2.1.2.2.1.2.2 p128 (by omega) q2.1.1.rb_30 (Q := fun u => ByPk 30 4 128 S2 u ∧ fB 30 S2 u) (fun u a b => ⟨a, b⟩), fun S6 q6 w6 s6 => ?_⟩
  have h6 := q2.p30 w2 q6.1 q6.2
  have c6 := q6.1.2.1
  exact ⟨_, sp_entryk h6.1 (by rw [h6.2.2.1.2.1]; omega), fun r10 S11 q11 w11 s11 => EnQ.sm h6 q11 (by omega)⟩
theorem sp_longEntry {z : Int64} (w : wfC S) (h : WpI B S) (hp : (qI S 26 1).toInt ≤ 16000) : wX11_longEntry S z (fun r u => SmQ B S u r) := by
  unfold wX11_longEntry
  refine ⟨_, sp_want w h, fun S2 q2 w2 s2 k2 => ?_⟩
  obtain ⟨q2, c2, -⟩ := q2
  refine ⟨_, sp_put4C w2 k2 q2.1.2.2.1.2.2 p128 (by omega) q2.1.1.rb_30 (Q := fun u => ByPk 30 4 128 S2 u ∧ fB 30 S2 u) (fun u a b => ⟨a, b⟩), fun S6 q6 w6 s6 k6 => ?_⟩
  have h6 := q2.p30 w2 q6.1 q6.2
  have c6 := q6.1.2.1
  refine ⟨_, sp_put4C w6 k6 h6.1.2.2.1.2.2 p128 (by omega) h6.1.1.rb_30 (Q := fun u => ByPk 30 4 128 S6 u ∧ fB 30 S6 u) (fun u a b => ⟨a, b⟩), fun S10 q10 w10 s10 => ?_⟩
  have h10 := h6.p30 w6 q10.1 q10.2
  have c10 := q10.1.2.1
  exact ⟨_, sp_entryk h10.1 (by rw [h10.2.2.1.2.1]; omega), fun r14 S15 q15 w15 s15 => EnQ.sm h10 q15 (by omega)⟩
theorem ce_J52 {Q : Int32 → MS → Prop} {v1 : Int32} (h : WkQ B S U) (hp : (qI S 26 1).toInt ≤ 16000) (c : 0 ≤ (qI U 30 1).toInt ∧ (qI U 30 1).toInt ≤ 5) (hQ : ∀ (r : Int32) (u : MS), SmQ B S u r → Q r u) : w_X11_counterEntry_J52 Q U v1 := by
  unfold w_X11_counterEntry_J52
  intro wU kU
  refine ⟨_, sp_putC wU kU h.1.2.2.1.2.2 p128 (by omega) h.1.1.rb_30 (Q := fun u => ByPk 30 1 128 U u ∧ fB 30 U u) (fun u a b => ⟨a, b.1⟩), fun S16 q16 w16 s16 => ?_⟩
  have h16 := h.p30 wU q16.1 q16.2
  have c16 := q16.1.2.1
  exact ⟨_, sp_entryk h16.1 (by rw [h16.2.2.1.2.1]; omega), fun r20 S21 q21 w21 s21 => hQ _ _ (EnQ.sm h16 q21 (by omega))⟩
theorem ce_J20 {Q : Int32 → MS → Prop} {t v1 : Int32} (h : WkQ B S U) (hp : (qI S 26 1).toInt ≤ 16000) (c : (qI U 30 1).toInt = 1) (hQ : ∀ (r : Int32) (u : MS), SmQ B S u r → Q r u) : w_X11_counterEntry_J20 Q U t v1 := by
  unfold w_X11_counterEntry_J20
  intro wU kU
  refine ⟨_, sp_put2C wU kU h.1.2.2.1.2.2 p128 (by omega) h.1.1.rb_30 (Q := fun u => ByPk 30 2 128 U u ∧ fB 30 U u) (fun u a b _ _ => ⟨a, b⟩), fun S6 q6 w6 s6 k6 => ?_⟩
  have h6 := h.p30 wU q6.1 q6.2
  have c6 := q6.1.2.1
  refine ⟨_, sp_putC w6 k6 h6.1.2.2.1.2.2 p128 (by omega) h6.1.1.rb_30 (Q := fun u => ByPk 30 1 128 S6 u ∧ fB 30 S6 u) (fun u a b => ⟨a, b.1⟩), fun S10 q10 w10 s10 => ?_⟩
  have h10 := h6.p30 w6 q10.1 q10.2
  have c10 := q10.1.2.1
  refine ⟨fun _ => ce_J52 h10 hp (by omega) hQ, fun _ k10 => ⟨_, sp_putC w10 k10 h10.1.2.2.1.2.2 p128 (by omega) h10.1.1.rb_30 (Q := fun u => ByPk 30 1 128 S10 u ∧ fB 30 S10 u) (fun u a b => ⟨a, b.1⟩), fun S28 q28 w28 s28 => ?_⟩⟩
  have c28 := q28.1.2.1
  exact ce_J52 (h10.p30 w10 q28.1 q28.2) hp (by omega) hQ
theorem sp_counterEntry (w : wfC S) (h : WpI B S) (hp : (qI S 26 1).toInt ≤ 16000) : wX11_counterEntry S x (fun r u => SmQ B S u r) := by
  unfold wX11_counterEntry
  refine ⟨_, sp_want w h, fun S2 q2 w2 s2 => ?_⟩
  obtain ⟨q2, c2, -⟩ := q2
  exact ⟨fun _ => ce_J20 q2 hp c2 (fun _ _ q => q), fun _ => ce_J20 q2 hp c2 (fun _ _ q => q)⟩
end WS
/-! Writer: names and texts -/
section WN
variable {B : Nat × Nat} {S u v U : MS} {i j L : Nat} {x y a : Int32} {n k : Int} {W W' : Nat → Int32}
theorem InP.cg (h : InP W L S) (e : ∀ i, i < L → W i = W' i) : InP W' L S := by
  obtain ⟨k, a1, a2, a3, a4⟩ := h
  exact ⟨k, a1, a2, a3, fun i hi => (a4 i hi).trans (e i hi)⟩
/-- an entry of bytes W, L of them -/
def NeQ (B : Nat × Nat) (S u : MS) (r : Int32) (W : Nat → Int32) (L : Nat) : Prop := (WpI B u ∧ (∀ W L, InP W L S → InP W L u) ∧ (0 ≤ r.toInt ∧ r.toInt < 500) ∧ qI u 28 1 = qI S 28 1) ∧ ((qI u 25 5 = qI S 25 5 ∧ qI u 26 1 = qI S 26 1) ∨ (¬ InP W L S ∧ InP W L u ∧ (qI S 25 5).toInt + 1 ≤ (qI u 25 5).toInt ∧ (qI u 26 1).toInt = (qI S 26 1).toInt + L))
theorem EnQ.ne {r : Int32} (h : WkQ B S U) (e : EnQ B U u r) (hc : (qI U 30 1).toInt = (L : Int)) (hw : ∀ j, j < L → qI U (qO U 30 0) j = W j) : NeQ B S u r W L := by
  obtain ⟨⟨a1, a2, a3, a4⟩, b⟩ := e
  obtain ⟨h1, h2, ⟨h3, h4, h5⟩, h6⟩ := h
  refine ⟨⟨a1, fun W L q => a2 W L (h2 W L q), a3, a4.trans h5⟩, ?_⟩
  rcases b with ⟨b1, b2⟩ | ⟨b1, b2, b3, b4⟩
  · exact Or.inl ⟨b1.trans h3, b2.trans h4⟩
  · rw [show (qI U 30 1).toInt.toNat = L by omega] at b1 b2
    rw [← h3, ← h4]
    exact Or.inr ⟨fun q => b1 ((h2 _ _ q).cg (fun i hi => (hw i hi).symm)), b2.cg hw, b3, by omega⟩
theorem ub_fb (w : wfC U) (g : ShC B U) (hu : qR U 25 7 = some (qO U 25 7)) (f : fb 30 U u) : qR u 25 7 = qR U 25 7 ∧ ∀ y, fX11_unitByte u y = fX11_unitByte U y := by
  have k7 : qT U (qO U 25 7) = 49 := w.ref hu w.k25
  have un := g.2.1 _ k7
  have kr : qT U (qO U (qO U 25 7) 0) = 105 := w.ref un.1.1 k7
  have a7 := f.at w.k25 (by decide) (by decide) (by decide) 7
  have b := f.at k7 (by decide) (by decide) (fun z => by rw [z, w.k30] at k7; exact absurd k7 (by decide)) 0
  have c := f.at kr (by decide) (by decide) (fun z => by rw [z, w.k30] at kr; exact absurd kr (by decide))
  have nn : qN u (qO U (qO U 25 7) 0) = qN U (qO U (qO U 25 7) 0) := (f.1.1 _ (by rw [kr]; decide)).2
  refine ⟨a7.2, fun y => ?_⟩
  unfold fX11_unitByte
  rw [qO_eq a7.2, qO_eq b.2, nn, (c _).1]
  rfl
/-- a name of the Unit, as an entry -/
def nmW (S : MS) (a : Int32) (i : Nat) : Int32 := if i = 0 then NB 1 else NB (fX11_unitByte S (a + Int32.ofInt i))
theorem ne_L26 {Q : Int32 → MS → Prop} {v2 : Int32} (hL : v2.toInt = (L : Int)) (hL1 : L ≤ 100) (hp : (qI S 26 1).toInt ≤ 16000) (hQ : ∀ (r : Int32) (u : MS), NeQ B S u r (nmW S a) (3 + L) → Q r u) : ∀ (n : Nat) {U : MS} {v3 : Int32} (i : Nat), WkQ B S U → (qR U 25 7 = some (qO U 25 7) ∧ ∀ y, fX11_unitByte U y = fX11_unitByte S y) → (qI U 30 1).toInt = (i : Int) → v3.toInt = (i : Int) → 1 ≤ i → i ≤ 3 + L → (∀ j, j < i → qI U (qO U 30 0) j = nmW S a j) → 2147483648 - v3.toInt < n → w_X11_nameEntry_L26 Q n U a v2 v3 := by
  intro n
  induction n with
  | zero => intro U v3 i _ _ _ _ _ _ _ hm; have := rgI v3; omega
  | succ n ih =>
    intro U v3 i h hu hc h3 hi hi2 hw hm
    unfold w_X11_nameEntry_L26
    intro w
    have e3 : ((3 : Int32) + v2).toInt = 3 + (L : Int) := by
      have z : (3 : Int32).toInt = 3 := by decide
      rw [t_addk (by omega), z, hL]
    refine ⟨fun c => ⟨_, sp_entryk h.1 (by rw [h.2.2.1.2.1]; omega), fun r21 S22 q22 w22 s22 => hQ _ _ (EnQ.ne h q22 (by omega) (fun j hj => hw j (by omega)))⟩, fun c => ⟨dd_X11_unitByte w h.1.1 hu.1, fun a29 e29 k30 => ⟨_, sp_putC w k30 h.1.2.2.1.2.2 p128 (by omega) h.1.1.rb_30 (Q := fun u => ByPk 30 1 128 U u ∧ CpB 30 a29 U u) (fun u a b => ⟨a, b⟩), fun S31 q31 w31 s31 a34 e34 => ?_⟩⟩⟩
    have e := t_inc e34 (by omega)
    have f := ub_fb w h.1.1 hu.1 q31.1.2.2.1
    have c31 := q31.1.2.1
    refine ih (i + 1) (h.p30 w q31.1 q31.2.1) ⟨?_, fun y => (f.2 y).trans (hu.2 y)⟩ (by omega) (by omega) (by omega) (by omega) (fun j hj => ?_) (by omega)
    · rw [f.1, qO_eq f.1]; exact hu.1
    · by_cases z : j = i
      · have := q31.2.2
        rw [hc, show ((i : Nat) : Int).toNat = i by omega] at this
        rw [z, this, e29, hu.2]
        unfold nmW
        rw [if_neg (by omega), ofI h3]
        rfl
      · rw [q31.2.1.2.2 j (by omega)]
        exact hw j (by omega)
def nmNk (S : MS) (a : Int32) : Int32 := ((fX11_unitByte S (a + (1 : Int32))) <<< ((8 : Int32) &&& 31)) ||| fX11_unitByte S (a + (2 : Int32))
theorem rg_ub : 0 ≤ (fX11_unitByte S x).toInt ∧ (fX11_unitByte S x).toInt < 256 := by
  have z : (f_X11_unitByte_J16 S).toInt = 0 := li_0k
  unfold fX11_unitByte
  split
  · omega
  · split
    · exact c_andk (k := 8) (b := 256) rfl (by decide) (by decide) rfl
    · omega
theorem rg_nmN : 0 ≤ (nmNk S a).toInt ∧ (nmNk S a).toInt < 65536 := by
  have h1 := rg_ub (S := S) (x := a + (1 : Int32))
  have h2 := rg_ub (S := S) (x := a + (2 : Int32))
  have h3 := c_shlk (z := (fX11_unitByte S (a + (1 : Int32))) <<< ((8 : Int32) &&& 31)) (k := 8) (j := 8) (b := 256) (c := 65536) rfl (by decide) rfl rfl (by decide) h1
  exact c_ork (k := 16) (b := 65536) rfl rfl (by decide) h3 ⟨h2.1, by omega⟩
theorem sp_nameEntryk (w : wfC S) (h : WpI B S) (hu : qR S 25 7 = some (qO S 25 7)) (hp : (qI S 26 1).toInt ≤ 16000) (hn : (nmNk S a).toInt ≤ 100) : wX11_nameEntry S a (fun r u => NeQ B S u r (nmW S a) (3 + (nmNk S a).toInt.toNat)) := by
  have rg := rg_nmN (S := S) (a := a)
  unfold wX11_nameEntry wX11_want
  refine ⟨fun u => (WkQ B S u ∧ (qI u 30 1).toInt = 1 ∧ qI u (qO u 30 0) 0 = NB 1) ∧ qR u 25 7 = some (qO u 25 7) ∧ ∀ y, fX11_unitByte u y = fX11_unitByte S y, ?_, fun S2 q2 w2 s2 => ?_⟩
  · intro S1 e1 k1 w1 k1'
    have h1 := WkQ.z30 h w e1 k1
    have c1 : qI S1 30 1 = 0 := by rw [e1, qI_wI, if_pos ⟨rfl, rfl⟩]
    have c1' : (qI S1 30 1).toInt = 0 := by rw [c1]; exact li_0k
    have k7 : qT S (qO S 25 7) = 49 := w.ref hu w.k25
    have un := h.1.2.1 _ k7
    have kr : qT S (qO S (qO S 25 7) 0) = 105 := w.ref un.1.1 k7
    have u1 : ∀ y, fX11_unitByte S1 y = fX11_unitByte S y := fun y => by
      unfold fX11_unitByte
      rw [show qO S1 25 7 = qO S 25 7 by rw [e1]; rfl, show qO S1 (qO S 25 7) 0 = qO S (qO S 25 7) 0 by rw [e1]; rfl, show qN S1 = qN S by rw [e1]; rfl, show qI S1 (qO S (qO S 25 7) 0) y.toInt.toNat = qI S (qO S (qO S 25 7) 0) y.toInt.toNat by rw [e1, qI_wI, if_neg (fun z => by rw [z.1, w.k30] at kr; exact absurd kr (by decide))]]
      rfl
    have hu1 : qR S1 25 7 = some (qO S1 25 7) := by rw [e1]; exact hu
    refine ⟨_, sp_putC w1 k1' h1.1.2.2.1.2.2 p128 (by omega) h1.1.1.rb_30 (Q := fun u => ByPk 30 1 128 S1 u ∧ CpB 30 1 S1 u) (fun u a b => ⟨a, b⟩), fun S3 q3 w3 s3 => ?_⟩
    have f := ub_fb w1 h1.1.1 hu1 q3.1.2.2.1
    have cc := q3.2.2
    rw [c1'] at cc
    exact ⟨⟨h1.p30 w1 q3.1 q3.2.1, by have := q3.1.2.1; omega, cc⟩, by rw [f.1, qO_eq f.1]; exact hu1, fun y => (f.2 y).trans (u1 y)⟩
  · obtain ⟨⟨q2, c2, b2⟩, u2, ub2⟩ := q2
    refine ⟨dd_X11_unitByte w2 q2.1.1 u2, fun a9 e9 => ⟨dd_X11_unitByte w2 q2.1.1 u2, fun a15 e15 a17 e17 => ⟨2147483649, ?_⟩⟩⟩
    have e17' : a17 = nmNk S a := by rw [e17, e9, e15, ub2, ub2]; rfl
    refine ne_L26 (L := (nmNk S a).toInt.toNat) (by rw [e17']; omega) (by omega) hp (fun _ _ q => q) _ 1 q2 ⟨u2, ub2⟩ (by omega) (by decide) (by decide) (by omega) (fun j hj => ?_) (by rw [li_1k]; decide)
    rw [show j = 0 by omega, b2]
    rfl
/-- one of the class's own texts, as an entry -/
def txWk (i : Nat) (k : Nat) : Int32 := if k = 0 then NB 1 else if k = 1 then NB (Int32.ofNat (sLc.getD i 0) >>> ((8 : Int32) &&& 31)) else if k = 2 then NB (Int32.ofNat (sLc.getD i 0)) else NB (((sBc.getD i []).getD (k - 3) 0 &&& 255).toUInt32 % 65536).toInt32
theorem tx_le : ∀ i, i < 7 → sLc.getD i 0 ≤ 40 := by decide
theorem te_L18 {Q : Int32 → MS → Prop} {t : Nat} (ht : t < 7) (hp : (qI S 26 1).toInt ≤ 16000) (hQ : ∀ (r : Int32) (u : MS), NeQ B S u r (txWk t) (3 + sLc.getD t 0) → Q r u) : ∀ (n : Nat) {U : MS} {v2 : Int32} (i : Nat), WkQ B S U → (qI U 30 1).toInt = ((3 + i : Nat) : Int) → v2.toInt = (i : Int) → i ≤ sLc.getD t 0 → (∀ j, j < 3 + i → qI U (qO U 30 0) j = txWk t j) → 2147483648 - v2.toInt < n → w_X11_textEntry_L18 Q n U (TXB + 2 * t) v2 := by
  have tl := tx_le t ht
  intro n
  induction n with
  | zero => intro U v2 i _ _ _ _ _ hm; have := rgI v2; omega
  | succ n ih =>
    intro U v2 i h hc h2 hi hw hm
    unfold w_X11_textEntry_L18
    intro w k12
    obtain ⟨t1, t2, t3, t4⟩ := w.tx6 t ht
    rw [t3]
    have el : (Int32.ofNat (sLc.getD t 0)).toInt = (sLc.getD t 0 : Int) := toI_nat (by omega)
    rw [el]
    refine ⟨fun c => ⟨_, sp_entryk h.1 (by rw [h.2.2.1.2.1]; omega), fun r13 S14 q14 w14 s14 => hQ _ _ (EnQ.ne h q14 (by omega) (fun j hj => hw j (by omega)))⟩, fun c => ⟨by omega, fun k30 => ⟨_, sp_putC w k30 h.1.2.2.1.2.2 p128 (by omega) h.1.1.rb_30 (Q := fun u => ByPk 30 1 128 U u ∧ CpB 30 (cAt U (TXB + 2 * t) v2) U u) (fun u a b => ⟨a, b⟩), fun S20 q20 w20 s20 a23 e23 => ?_⟩⟩⟩
    have e := t_inc e23 (by omega)
    have c20 := q20.1.2.1
    refine ih (i + 1) (h.p30 w q20.1 q20.2.1) (by omega) (by omega) (by omega) (fun j hj => ?_) (by omega)
    by_cases z : j = 3 + i
    · have := q20.2.2
      rw [hc, show ((3 + i : Nat) : Int).toNat = 3 + i by omega] at this
      rw [z, this]
      unfold cAt txWk NB
      rw [t4, if_neg (by omega), if_neg (by omega), if_neg (by omega), show 3 + i - 3 = v2.toInt.toNat by omega]
    · rw [q20.2.1.2.2 j (by omega)]
      exact hw j (by omega)
theorem sp_textEntry {t : Nat} (ht : t < 7) (w : wfC S) (h : WpI B S) (hp : (qI S 26 1).toInt ≤ 16000) : wX11_textEntry S (TXB + 2 * t) (fun r u => NeQ B S u r (txWk t) (3 + sLc.getD t 0)) := by
  unfold wX11_textEntry
  refine ⟨_, sp_want w h, fun S2 q2 w2 s2 k2 => ?_⟩
  obtain ⟨q2, c2, b2⟩ := q2
  obtain ⟨t1, t2, t3, t4⟩ := w2.tx6 t ht
  rw [t3]
  refine ⟨_, sp_put2C w2 k2 q2.1.2.2.1.2.2 p128 (by omega) q2.1.1.rb_30 (Q := fun u => (ByPk 30 2 128 S2 u ∧ fB 30 S2 u) ∧ qI u (qO u 30 0) (qI S2 30 1).toInt.toNat = NB (Int32.ofNat (sLc.getD t 0) >>> ((8 : Int32) &&& 31)) ∧ qI u (qO u 30 0) ((qI S2 30 1).toInt.toNat + 1) = NB (Int32.ofNat (sLc.getD t 0))) (fun u a b c d => ⟨⟨a, b⟩, c, d⟩), fun S7 q7 w7 s7 => ⟨2147483649, ?_⟩⟩
  have c7 := q7.1.1.2.1
  refine te_L18 ht hp (fun _ _ q => q) _ 0 (q2.p30 w2 q7.1.1 q7.1.2) (by omega) (by decide) (Nat.zero_le _) (fun j hj => ?_) (by rw [li_0k]; decide)
  have d1 := q7.2.1
  have d2 := q7.2.2
  rw [show (qI S2 30 1).toInt.toNat = 1 by omega] at d1 d2
  have hj' : j = 0 ∨ j = 1 ∨ j = 2 := by omega
  rcases hj' with rfl | rfl | rfl
  · rw [q7.1.2.2.2 0 (by omega), b2]; rfl
  · rw [d1]; rfl
  · rw [d2]; rfl
end WN
