def v_X10_rowAt_J13 (ro : Option Nat) (uo : MS) (U13 : MS) : Prop := (wfC U13 ∧ (ro = none ∧ uo = U13))
def vX10_rowAt (S : MS) (p0 : Nat) (x1 : Int32) (ro : Option Nat) (uo : MS) : Prop := ((x1.toInt < 0 ∧ (v_X10_rowAt_J13 ro uo S)) ∨ (¬ x1.toInt < 0 ∧ ((qR S p0 13 = some (qO S p0 13)) ∧ ((x1.toInt < (qN S (qO S p0 13) : Int) ∧ ((qR S p0 13 = some (qO S p0 13)) ∧ (((0 : Int) ≤ x1.toInt ∧ x1.toInt < (qN S (qO S p0 13) : Int)) ∧ (((qR S (qO S p0 13) x1.toInt.toNat) = none ∧ (ro = none ∧ uo = S)) ∨ (¬ (qR S (qO S p0 13) x1.toInt.toNat) = none ∧ (ro = (some (((qR S (qO S p0 13) x1.toInt.toNat)).getD 0)) ∧ uo = S)))))) ∨ (¬ x1.toInt < (qN S (qO S p0 13) : Int) ∧ (v_X10_rowAt_J13 ro uo S))))))
set_option maxRecDepth 100000 in
theorem ru_X10_rowAt_J13 {ι : Type} {P Q : Option Nat → MS → Prop} {U13 : MS} (i0 : ι) (K : ∀ (i : ι) (ro : Option Nat) (uo : MS), v_X10_rowAt_J13 ro uo U13 → P ro uo) (h : w_X10_rowAt_J13 Q U13) : w_X10_rowAt_J13 (fun r u => Q r u ∧ P r u) U13 := by
  unfold w_X10_rowAt_J13 at h ⊢
  intro y1_
  replace h := h y1_
  replace K := fun i ro uo z => K i ro uo ⟨y1_, z⟩
  exact ⟨h, K i0 _ _ ⟨rfl, rfl⟩⟩
set_option maxRecDepth 100000 in
theorem ruX10_rowAt {S : MS} {p0 : Nat} {x1 : Int32} {Q : Option Nat → MS → Prop} (h : wX10_rowAt S p0 x1 Q) : wX10_rowAt S p0 x1 (fun r u => Q r u ∧ vX10_rowAt S p0 x1 r u) := by
  have i0 : Unit := ()
  have K : ∀ (i : Unit) (ro : Option Nat) (uo : MS), vX10_rowAt S p0 x1 ro uo → vX10_rowAt S p0 x1 ro uo := fun _ _ _ z => z
  unfold wX10_rowAt at h ⊢
  refine ⟨fun c => ?_, fun c => ?_⟩
  · replace h := h.1 c
    replace K := fun i ro uo z => K i ro uo (Or.inl ⟨c, z⟩)
    exact ru_X10_rowAt_J13 i0 K h
  · replace h := h.2 c
    replace K := fun i ro uo z => K i ro uo (Or.inr ⟨c, z⟩)
    obtain ⟨g2_, h⟩ := h
    refine ⟨g2_, ?_⟩
    replace K := fun i ro uo z => K i ro uo ⟨g2_, z⟩
    refine ⟨fun c => ?_, fun c => ?_⟩
    · replace h := h.1 c
      replace K := fun i ro uo z => K i ro uo (Or.inl ⟨c, z⟩)
      obtain ⟨g3_, h⟩ := h
      refine ⟨g3_, ?_⟩
      replace K := fun i ro uo z => K i ro uo ⟨g3_, z⟩
      obtain ⟨g4_, h⟩ := h
      refine ⟨g4_, ?_⟩
      replace K := fun i ro uo z => K i ro uo ⟨g4_, z⟩
      refine ⟨fun c => ?_, fun c => ?_⟩
      · replace h := h.1 c
        replace K := fun i ro uo z => K i ro uo (Or.inl ⟨c, z⟩)
        exact ⟨h, K i0 _ _ ⟨rfl, rfl⟩⟩
      · replace h := h.2 c
        replace K := fun i ro uo z => K i ro uo (Or.inr ⟨c, z⟩)
        exact ⟨h, K i0 _ _ ⟨rfl, rfl⟩⟩
    · replace h := h.2 c
      replace K := fun i ro uo z => K i ro uo (Or.inr ⟨c, z⟩)
      exact ru_X10_rowAt_J13 i0 K h
set_option maxRecDepth 100000 in
theorem vw_X10_rowAt_J13 {ro : Option Nat} {uo : MS} {U13 : MS} (h : v_X10_rowAt_J13 ro uo U13) : w_X10_rowAt_J13 (fun r u => r = ro ∧ u = uo) U13 := by
  unfold v_X10_rowAt_J13 at h
  unfold w_X10_rowAt_J13
  intro _
  replace h := h.2
  exact ⟨h.1.symm, h.2.symm⟩
set_option maxRecDepth 100000 in
theorem vp_X10_rowAt_J13 {ro : Option Nat} {uo : MS} {P : Option Nat → MS → Prop} {U13 : MS} (h : v_X10_rowAt_J13 ro uo U13) (w : w_X10_rowAt_J13 P U13) : P ro uo := by
  unfold v_X10_rowAt_J13 at h
  unfold w_X10_rowAt_J13 at w
  obtain ⟨y1_, h⟩ := h
  replace w := w y1_
  rw [h.1, h.2]
  exact w
set_option maxRecDepth 100000 in
theorem vwX10_rowAt {S : MS} {p0 : Nat} {x1 : Int32} {ro : Option Nat} {uo : MS} (h : vX10_rowAt S p0 x1 ro uo) : wX10_rowAt S p0 x1 (fun r u => r = ro ∧ u = uo) := by
  unfold vX10_rowAt at h
  unfold wX10_rowAt
  rcases h with ⟨c, h⟩ | ⟨c, h⟩
  · refine ⟨fun _ => ?_, fun c2 => absurd c c2⟩
    exact vw_X10_rowAt_J13 h
  · refine ⟨fun c2 => absurd c2 c, fun _ => ?_⟩
    obtain ⟨g9, h⟩ := h
    refine ⟨g9, ?_⟩
    rcases h with ⟨c, h⟩ | ⟨c, h⟩
    · refine ⟨fun _ => ?_, fun c2 => absurd c c2⟩
      obtain ⟨g9, h⟩ := h
      refine ⟨g9, ?_⟩
      obtain ⟨g9, h⟩ := h
      refine ⟨g9, ?_⟩
      rcases h with ⟨c, h⟩ | ⟨c, h⟩
      · refine ⟨fun _ => ?_, fun c2 => absurd c c2⟩
        exact ⟨h.1.symm, h.2.symm⟩
      · refine ⟨fun c2 => absurd c2 c, fun _ => ?_⟩
        exact ⟨h.1.symm, h.2.symm⟩
    · refine ⟨fun c2 => absurd c2 c, fun _ => ?_⟩
      exact vw_X10_rowAt_J13 h
set_option maxRecDepth 100000 in
theorem vpX10_rowAt {S : MS} {p0 : Nat} {x1 : Int32} {ro : Option Nat} {uo : MS} {P : Option Nat → MS → Prop} (h : vX10_rowAt S p0 x1 ro uo) (w : wX10_rowAt S p0 x1 P) : P ro uo := by
  unfold vX10_rowAt at h
  unfold wX10_rowAt at w
  rcases h with ⟨c, h⟩ | ⟨c, h⟩
  · replace w := w.1 c
    exact vp_X10_rowAt_J13 h w
  · replace w := w.2 c
    replace h := h.2
    replace w := w.2
    rcases h with ⟨c, h⟩ | ⟨c, h⟩
    · replace w := w.1 c
      replace h := h.2
      replace w := w.2
      replace h := h.2
      replace w := w.2
      rcases h with ⟨c, h⟩ | ⟨c, h⟩
      · replace w := w.1 c
        rw [h.1, h.2]
        exact w
      · replace w := w.2 c
        rw [h.1, h.2]
        exact w
    · replace w := w.2 c
      exact vp_X10_rowAt_J13 h w
def v_X10_placesGiven_J54 (ro : Int32) (uo : MS) (U54 : MS) (v54_0 : Nat) (v54_1 : Nat) (v54_2 : Int32) : Prop := (wfC U54 ∧ qT U54 v54_0 = 49 ∧ qT U54 v54_1 = 47 ∧ (d_X10_gives U54 v54_0 v54_1 v54_2 ∧ (∃ a8 : Int32, a8 = (fX10_gives U54 v54_0 v54_1 v54_2) ∧ (∃ (r10 : Int32) (S11 : MS), vX6_placesOf U54 a8 r10 S11 ∧ wfC S11 ∧ shy U54 S11 ∧ (ro = r10 ∧ uo = S11)))))
def vX10_placesGiven (S : MS) (p0 : Nat) (p1 : Nat) (x2 : Int32) (ro : Int32) (uo : MS) : Prop := (d_X8_opAt S p1 x2 ∧ (∃ a4 : Int32, a4 = (fX8_opAt S p1 x2) ∧ ((a4.toInt = 89 ∧ (ro = (2 : Int32) ∧ uo = S)) ∨ (¬ a4.toInt = 89 ∧ ((a4.toInt = 90 ∧ (ro = (3 : Int32) ∧ uo = S)) ∨ (¬ a4.toInt = 90 ∧ ((a4.toInt = 91 ∧ (v_X10_placesGiven_J54 ro uo S p0 p1 x2)) ∨ (¬ a4.toInt = 91 ∧ ((a4.toInt = 92 ∧ (ro = (4 : Int32) ∧ uo = S)) ∨ (¬ a4.toInt = 92 ∧ ((a4.toInt = 93 ∧ (v_X10_placesGiven_J54 ro uo S p0 p1 x2)) ∨ (¬ a4.toInt = 93 ∧ ((a4.toInt = 94 ∧ (v_X10_placesGiven_J54 ro uo S p0 p1 x2)) ∨ (¬ a4.toInt = 94 ∧ ((a4.toInt = 95 ∧ (ro = (2 : Int32) ∧ uo = S)) ∨ (¬ a4.toInt = 95 ∧ (v_X10_placesGiven_J54 ro uo S p0 p1 x2)))))))))))))))))
set_option maxRecDepth 100000 in
theorem ru_X10_placesGiven_J54 {ι : Type} {P Q : Int32 → MS → Prop} {U54 : MS} {v54_0 : Nat} {v54_1 : Nat} {v54_2 : Int32} (i0 : ι) (K : ∀ (i : ι) (ro : Int32) (uo : MS), v_X10_placesGiven_J54 ro uo U54 v54_0 v54_1 v54_2 → P ro uo) (h : w_X10_placesGiven_J54 Q U54 v54_0 v54_1 v54_2) : w_X10_placesGiven_J54 (fun r u => Q r u ∧ P r u) U54 v54_0 v54_1 v54_2 := by
  unfold w_X10_placesGiven_J54 at h ⊢
  intro y1_ y2_ y3_
  replace h := h y1_ y2_ y3_
  replace K := fun i ro uo z => K i ro uo ⟨y1_, y2_, y3_, z⟩
  obtain ⟨g4_, h⟩ := h
  refine ⟨g4_, ?_⟩
  replace K := fun i ro uo z => K i ro uo ⟨g4_, z⟩
  intro a8 ea8 
  replace h := h a8 ea8 
  replace K := fun i ro uo z => K i ro uo ⟨a8, ea8, z⟩
  obtain ⟨Q9, h0, h⟩ := h
  refine ⟨_, ruX6_placesOf h0, ?_⟩
  intro r10 S11 q5_ y6_ y7_
  replace h := h r10 S11 q5_.1 y6_ y7_
  replace K := fun i ro uo z => K i ro uo ⟨r10, S11, q5_.2, y6_, y7_, z⟩
  exact ⟨h, K i0 _ _ ⟨rfl, rfl⟩⟩
set_option maxRecDepth 100000 in
theorem ruX10_placesGiven {S : MS} {p0 : Nat} {p1 : Nat} {x2 : Int32} {Q : Int32 → MS → Prop} (h : wX10_placesGiven S p0 p1 x2 Q) : wX10_placesGiven S p0 p1 x2 (fun r u => Q r u ∧ vX10_placesGiven S p0 p1 x2 r u) := by
  have i0 : Unit := ()
  have K : ∀ (i : Unit) (ro : Int32) (uo : MS), vX10_placesGiven S p0 p1 x2 ro uo → vX10_placesGiven S p0 p1 x2 ro uo := fun _ _ _ z => z
  unfold wX10_placesGiven at h ⊢
  obtain ⟨g8_, h⟩ := h
  refine ⟨g8_, ?_⟩
  replace K := fun i ro uo z => K i ro uo ⟨g8_, z⟩
  intro a4 ea4 
  replace h := h a4 ea4 
  replace K := fun i ro uo z => K i ro uo ⟨a4, ea4, z⟩
  refine ⟨fun c => ?_, fun c => ?_⟩
  · replace h := h.1 c
    replace K := fun i ro uo z => K i ro uo (Or.inl ⟨c, z⟩)
    exact ⟨h, K i0 _ _ ⟨rfl, rfl⟩⟩
  · replace h := h.2 c
    replace K := fun i ro uo z => K i ro uo (Or.inr ⟨c, z⟩)
    refine ⟨fun c => ?_, fun c => ?_⟩
    · replace h := h.1 c
      replace K := fun i ro uo z => K i ro uo (Or.inl ⟨c, z⟩)
      exact ⟨h, K i0 _ _ ⟨rfl, rfl⟩⟩
    · replace h := h.2 c
      replace K := fun i ro uo z => K i ro uo (Or.inr ⟨c, z⟩)
      refine ⟨fun c => ?_, fun c => ?_⟩
      · replace h := h.1 c
        replace K := fun i ro uo z => K i ro uo (Or.inl ⟨c, z⟩)
        exact ru_X10_placesGiven_J54 i0 K h
      · replace h := h.2 c
        replace K := fun i ro uo z => K i ro uo (Or.inr ⟨c, z⟩)
        refine ⟨fun c => ?_, fun c => ?_⟩
        · replace h := h.1 c
          replace K := fun i ro uo z => K i ro uo (Or.inl ⟨c, z⟩)
          exact ⟨h, K i0 _ _ ⟨rfl, rfl⟩⟩
        · replace h := h.2 c
          replace K := fun i ro uo z => K i ro uo (Or.inr ⟨c, z⟩)
          refine ⟨fun c => ?_, fun c => ?_⟩
          · replace h := h.1 c
            replace K := fun i ro uo z => K i ro uo (Or.inl ⟨c, z⟩)
            exact ru_X10_placesGiven_J54 i0 K h
          · replace h := h.2 c
            replace K := fun i ro uo z => K i ro uo (Or.inr ⟨c, z⟩)
            refine ⟨fun c => ?_, fun c => ?_⟩
            · replace h := h.1 c
              replace K := fun i ro uo z => K i ro uo (Or.inl ⟨c, z⟩)
              exact ru_X10_placesGiven_J54 i0 K h
            · replace h := h.2 c
              replace K := fun i ro uo z => K i ro uo (Or.inr ⟨c, z⟩)
              refine ⟨fun c => ?_, fun c => ?_⟩
              · replace h := h.1 c
                replace K := fun i ro uo z => K i ro uo (Or.inl ⟨c, z⟩)
                exact ⟨h, K i0 _ _ ⟨rfl, rfl⟩⟩
              · replace h := h.2 c
                replace K := fun i ro uo z => K i ro uo (Or.inr ⟨c, z⟩)
                exact ru_X10_placesGiven_J54 i0 K h
set_option maxRecDepth 100000 in
theorem vw_X10_placesGiven_J54 {ro : Int32} {uo : MS} {U54 : MS} {v54_0 : Nat} {v54_1 : Nat} {v54_2 : Int32} (h : v_X10_placesGiven_J54 ro uo U54 v54_0 v54_1 v54_2) : w_X10_placesGiven_J54 (fun r u => r = ro ∧ u = uo) U54 v54_0 v54_1 v54_2 := by
  unfold v_X10_placesGiven_J54 at h
  unfold w_X10_placesGiven_J54
  intro _ _ _
  replace h := h.2.2.2
  obtain ⟨g9, h⟩ := h
  refine ⟨g9, ?_⟩
  obtain ⟨v9, e9, h⟩ := h
  intro x9 d9 
  have c9 : v9 = x9 := e9.trans d9.symm
  subst c9
  obtain ⟨p9, q9, z9, h⟩ := h
  refine ⟨_, vwX6_placesOf z9, ?_⟩
  rintro p8 q8 ⟨d8, d9⟩ _ _
  subst d8
  subst d9
  replace h := h.2.2
  exact ⟨h.1.symm, h.2.symm⟩
set_option maxRecDepth 100000 in
theorem vp_X10_placesGiven_J54 {ro : Int32} {uo : MS} {P : Int32 → MS → Prop} {U54 : MS} {v54_0 : Nat} {v54_1 : Nat} {v54_2 : Int32} (h : v_X10_placesGiven_J54 ro uo U54 v54_0 v54_1 v54_2) (w : w_X10_placesGiven_J54 P U54 v54_0 v54_1 v54_2) : P ro uo := by
  unfold v_X10_placesGiven_J54 at h
  unfold w_X10_placesGiven_J54 at w
  obtain ⟨y1_, y2_, y3_, h⟩ := h
  replace w := w y1_ y2_ y3_
  replace h := h.2
  replace w := w.2
  obtain ⟨v9, e9, h⟩ := h
  replace w := w v9 e9 
  obtain ⟨p9, q9, z9, y4_, y5_, h⟩ := h
  obtain ⟨Q9, w0, w⟩ := w
  replace w := w p9 q9 (vpX6_placesOf z9 w0) y4_ y5_
  rw [h.1, h.2]
  exact w
set_option maxRecDepth 100000 in
theorem vwX10_placesGiven {S : MS} {p0 : Nat} {p1 : Nat} {x2 : Int32} {ro : Int32} {uo : MS} (h : vX10_placesGiven S p0 p1 x2 ro uo) : wX10_placesGiven S p0 p1 x2 (fun r u => r = ro ∧ u = uo) := by
  unfold vX10_placesGiven at h
  unfold wX10_placesGiven
  obtain ⟨g9, h⟩ := h
  refine ⟨g9, ?_⟩
  obtain ⟨v9, e9, h⟩ := h
  intro x9 d9 
  have c9 : v9 = x9 := e9.trans d9.symm
  subst c9
  rcases h with ⟨c, h⟩ | ⟨c, h⟩
  · refine ⟨fun _ => ?_, fun c2 => absurd c c2⟩
    exact ⟨h.1.symm, h.2.symm⟩
  · refine ⟨fun c2 => absurd c2 c, fun _ => ?_⟩
    rcases h with ⟨c, h⟩ | ⟨c, h⟩
    · refine ⟨fun _ => ?_, fun c2 => absurd c c2⟩
      exact ⟨h.1.symm, h.2.symm⟩
    · refine ⟨fun c2 => absurd c2 c, fun _ => ?_⟩
      rcases h with ⟨c, h⟩ | ⟨c, h⟩
      · refine ⟨fun _ => ?_, fun c2 => absurd c c2⟩
        exact vw_X10_placesGiven_J54 h
      · refine ⟨fun c2 => absurd c2 c, fun _ => ?_⟩
        rcases h with ⟨c, h⟩ | ⟨c, h⟩
        · refine ⟨fun _ => ?_, fun c2 => absurd c c2⟩
          exact ⟨h.1.symm, h.2.symm⟩
        · refine ⟨fun c2 => absurd c2 c, fun _ => ?_⟩
          rcases h with ⟨c, h⟩ | ⟨c, h⟩
          · refine ⟨fun _ => ?_, fun c2 => absurd c c2⟩
            exact vw_X10_placesGiven_J54 h
          · refine ⟨fun c2 => absurd c2 c, fun _ => ?_⟩
            rcases h with ⟨c, h⟩ | ⟨c, h⟩
            · refine ⟨fun _ => ?_, fun c2 => absurd c c2⟩
              exact vw_X10_placesGiven_J54 h
            · refine ⟨fun c2 => absurd c2 c, fun _ => ?_⟩
              rcases h with ⟨c, h⟩ | ⟨c, h⟩
              · refine ⟨fun _ => ?_, fun c2 => absurd c c2⟩
                exact ⟨h.1.symm, h.2.symm⟩
              · refine ⟨fun c2 => absurd c2 c, fun _ => ?_⟩
                exact vw_X10_placesGiven_J54 h
set_option maxRecDepth 100000 in
theorem vpX10_placesGiven {S : MS} {p0 : Nat} {p1 : Nat} {x2 : Int32} {ro : Int32} {uo : MS} {P : Int32 → MS → Prop} (h : vX10_placesGiven S p0 p1 x2 ro uo) (w : wX10_placesGiven S p0 p1 x2 P) : P ro uo := by
  unfold vX10_placesGiven at h
  unfold wX10_placesGiven at w
  replace h := h.2
  replace w := w.2
  obtain ⟨v9, e9, h⟩ := h
  replace w := w v9 e9 
  rcases h with ⟨c, h⟩ | ⟨c, h⟩
  · replace w := w.1 c
    rw [h.1, h.2]
    exact w
  · replace w := w.2 c
    rcases h with ⟨c, h⟩ | ⟨c, h⟩
    · replace w := w.1 c
      rw [h.1, h.2]
      exact w
    · replace w := w.2 c
      rcases h with ⟨c, h⟩ | ⟨c, h⟩
      · replace w := w.1 c
        exact vp_X10_placesGiven_J54 h w
      · replace w := w.2 c
        rcases h with ⟨c, h⟩ | ⟨c, h⟩
        · replace w := w.1 c
          rw [h.1, h.2]
          exact w
        · replace w := w.2 c
          rcases h with ⟨c, h⟩ | ⟨c, h⟩
          · replace w := w.1 c
            exact vp_X10_placesGiven_J54 h w
          · replace w := w.2 c
            rcases h with ⟨c, h⟩ | ⟨c, h⟩
            · replace w := w.1 c
              exact vp_X10_placesGiven_J54 h w
            · replace w := w.2 c
              rcases h with ⟨c, h⟩ | ⟨c, h⟩
              · replace w := w.1 c
                rw [h.1, h.2]
                exact w
              · replace w := w.2 c
                exact vp_X10_placesGiven_J54 h w
def vX11_putMember (S : MS) (x1 : Int32) (x2 : Int32) (x3 : Int32) (uo : MS) : Prop := (qT S 28 = 40 ∧ (∃ (S2 : MS), vX0_put2 S 28 (9 : Int32) S2 ∧ wfC S2 ∧ shx S S2 ∧ (qT S2 28 = 40 ∧ (∃ (S6 : MS), vX0_put2 S2 28 x1 S6 ∧ wfC S6 ∧ shx S2 S6 ∧ (qT S6 28 = 40 ∧ (∃ (S10 : MS), vX0_put2 S6 28 x2 S10 ∧ wfC S10 ∧ shx S6 S10 ∧ (qT S10 28 = 40 ∧ (∃ (S14 : MS), vX0_put2 S10 28 x3 S14 ∧ wfC S14 ∧ shx S10 S14 ∧ (uo = S14)))))))))
set_option maxRecDepth 100000 in
theorem ruX11_putMember {S : MS} {x1 : Int32} {x2 : Int32} {x3 : Int32} {Q : MS → Prop} (h : wX11_putMember S x1 x2 x3 Q) : wX11_putMember S x1 x2 x3 (fun u => Q u ∧ vX11_putMember S x1 x2 x3 u) := by
  have i0 : Unit := ()
  have K : ∀ (i : Unit) (uo : MS), vX11_putMember S x1 x2 x3 uo → vX11_putMember S x1 x2 x3 uo := fun _ _ z => z
  unfold wX11_putMember at h ⊢
  intro y1_
  replace h := h y1_
  replace K := fun i uo z => K i uo ⟨y1_, z⟩
  obtain ⟨Q9, h0, h⟩ := h
  refine ⟨_, ruX0_put2 h0, ?_⟩
  intro S2 q2_ y3_ y4_
  replace h := h S2 q2_.1 y3_ y4_
  replace K := fun i uo z => K i uo ⟨S2, q2_.2, y3_, y4_, z⟩
  intro y5_
  replace h := h y5_
  replace K := fun i uo z => K i uo ⟨y5_, z⟩
  obtain ⟨Q9, h0, h⟩ := h
  refine ⟨_, ruX0_put2 h0, ?_⟩
  intro S6 q6_ y7_ y8_
  replace h := h S6 q6_.1 y7_ y8_
  replace K := fun i uo z => K i uo ⟨S6, q6_.2, y7_, y8_, z⟩
  intro y9_
  replace h := h y9_
  replace K := fun i uo z => K i uo ⟨y9_, z⟩
  obtain ⟨Q9, h0, h⟩ := h
  refine ⟨_, ruX0_put2 h0, ?_⟩
  intro S10 q10_ y11_ y12_
  replace h := h S10 q10_.1 y11_ y12_
  replace K := fun i uo z => K i uo ⟨S10, q10_.2, y11_, y12_, z⟩
  intro y13_
  replace h := h y13_
  replace K := fun i uo z => K i uo ⟨y13_, z⟩
  obtain ⟨Q9, h0, h⟩ := h
  refine ⟨_, ruX0_put2 h0, ?_⟩
  intro S14 q14_ y15_ y16_
  replace h := h S14 q14_.1 y15_ y16_
  replace K := fun i uo z => K i uo ⟨S14, q14_.2, y15_, y16_, z⟩
  exact ⟨h, K i0 _ rfl⟩
set_option maxRecDepth 100000 in
theorem vwX11_putMember {S : MS} {x1 : Int32} {x2 : Int32} {x3 : Int32} {uo : MS} (h : vX11_putMember S x1 x2 x3 uo) : wX11_putMember S x1 x2 x3 (fun u => u = uo) := by
  unfold vX11_putMember at h
  unfold wX11_putMember
  intro _
  replace h := h.2
  obtain ⟨q9, z9, h⟩ := h
  refine ⟨_, vwX0_put2 z9, ?_⟩
  intro q8 d9 _ _
  subst d9
  replace h := h.2.2
  intro _
  replace h := h.2
  obtain ⟨q9, z9, h⟩ := h
  refine ⟨_, vwX0_put2 z9, ?_⟩
  intro q8 d9 _ _
  subst d9
  replace h := h.2.2
  intro _
  replace h := h.2
  obtain ⟨q9, z9, h⟩ := h
  refine ⟨_, vwX0_put2 z9, ?_⟩
  intro q8 d9 _ _
  subst d9
  replace h := h.2.2
  intro _
  replace h := h.2
  obtain ⟨q9, z9, h⟩ := h
  refine ⟨_, vwX0_put2 z9, ?_⟩
  intro q8 d9 _ _
  subst d9
  replace h := h.2.2
  exact h.symm
set_option maxRecDepth 100000 in
theorem vpX11_putMember {S : MS} {x1 : Int32} {x2 : Int32} {x3 : Int32} {uo : MS} {P : MS → Prop} (h : vX11_putMember S x1 x2 x3 uo) (w : wX11_putMember S x1 x2 x3 P) : P uo := by
  unfold vX11_putMember at h
  unfold wX11_putMember at w
  obtain ⟨y1_, h⟩ := h
  replace w := w y1_
  obtain ⟨q9, z9, y2_, y3_, h⟩ := h
  obtain ⟨Q9, w0, w⟩ := w
  replace w := w q9 (vpX0_put2 z9 w0) y2_ y3_
  obtain ⟨y4_, h⟩ := h
  replace w := w y4_
  obtain ⟨q9, z9, y5_, y6_, h⟩ := h
  obtain ⟨Q9, w0, w⟩ := w
  replace w := w q9 (vpX0_put2 z9 w0) y5_ y6_
  obtain ⟨y7_, h⟩ := h
  replace w := w y7_
  obtain ⟨q9, z9, y8_, y9_, h⟩ := h
  obtain ⟨Q9, w0, w⟩ := w
  replace w := w q9 (vpX0_put2 z9 w0) y8_ y9_
  obtain ⟨y10_, h⟩ := h
  replace w := w y10_
  obtain ⟨q9, z9, y11_, y12_, h⟩ := h
  obtain ⟨Q9, w0, w⟩ := w
  replace w := w q9 (vpX0_put2 z9 w0) y11_ y12_
  rw [h]
  exact w
def v_X11_finish_L15 (uo : MS) : Nat → MS → Nat → Int32 → Prop
  | 0, _, _, _ => False
  | n15 + 1, U15, v15_1, v15_2 => (wfC U15 ∧ qT U15 v15_1 = 40 ∧ ((8 ≤ v15_2.toInt ∧ (qT U15 v15_1 = 40 ∧ (∃ (S9 : MS), vX0_put2 U15 v15_1 (qI U15 25 5) S9 ∧ wfC S9 ∧ shx U15 S9 ∧ (qT S9 v15_1 = 40 ∧ qT S9 26 = 40 ∧ (∃ (S13 : MS), vX0_putAll S9 v15_1 26 S13 ∧ wfC S13 ∧ shx S9 S13 ∧ (qT S13 v15_1 = 40 ∧ qT S13 28 = 40 ∧ (∃ (S17 : MS), vX0_putAll S13 v15_1 28 S17 ∧ wfC S17 ∧ shx S13 S17 ∧ (uo = S17)))))))) ∨ (¬ 8 ≤ v15_2.toInt ∧ (((0 : Int) ≤ v15_2.toInt ∧ v15_2.toInt < ((8 : Nat) : Int)) ∧ (qT U15 v15_1 = 40 ∧ (∃ (S23 : MS), vX0_put U15 v15_1 (stMG.getD v15_2.toInt.toNat 0) S23 ∧ wfC S23 ∧ shx U15 S23 ∧ (∃ a26 : Int32, a26 = (v15_2 + Int32.ofInt 1) ∧ ((v_X11_finish_L15 uo n15) S23 v15_1 a26))))))))
def vX11_finish (S : MS) (p1 : Nat) (uo : MS) : Prop := (qT S 28 = 40 ∧ (∃ (S2 : MS), vX0_put2 S 28 (0 : Int32) S2 ∧ wfC S2 ∧ shx S S2 ∧ (∃ S5 : MS, S5 = wI S2 p1 1 (0 : Int32) ∧ qT S2 p1 = 40 ∧ wfC S5 ∧ (∃ n, v_X11_finish_L15 uo n S5 p1 0))))
set_option maxRecDepth 100000 in
theorem ru_X11_finish_L15 {ι : Type} {P Q : MS → Prop} : ∀ (n : Nat) {U15 : MS} {v15_1 : Nat} {v15_2 : Int32} (i0 : ι), (∀ (i : ι) (uo : MS), (∃ n8, v_X11_finish_L15 uo n8 U15 v15_1 v15_2) → P uo) → w_X11_finish_L15 Q n U15 v15_1 v15_2 → w_X11_finish_L15 (fun u => Q u ∧ P u) n U15 v15_1 v15_2 := by
  intro n
  induction n with
  | zero => intro U15 v15_1 v15_2 i0 K h; unfold w_X11_finish_L15 at h; exact h.elim
  | succ n ih =>
    intro U15 v15_1 v15_2 i0 K h
    unfold w_X11_finish_L15 at h ⊢
    replace K := fun (i : ι × Nat) uo (z : v_X11_finish_L15 uo (i.2 + 1) U15 v15_1 v15_2) => K i.1 uo ⟨i.2 + 1, z⟩
    have i00 := i0
    replace i0 : ι × Nat := (i0, 0)
    intro y1_ y2_
    replace h := h y1_ y2_
    replace K := fun i uo z => K i uo ⟨y1_, y2_, z⟩
    refine ⟨fun c => ?_, fun c => ?_⟩
    · replace h := h.1 c
      replace K := fun i uo z => K i uo (Or.inl ⟨c, z⟩)
      intro y3_
      replace h := h y3_
      replace K := fun i uo z => K i uo ⟨y3_, z⟩
      obtain ⟨Q9, h0, h⟩ := h
      refine ⟨_, ruX0_put2 h0, ?_⟩
      intro S9 q4_ y5_ y6_
      replace h := h S9 q4_.1 y5_ y6_
      replace K := fun i uo z => K i uo ⟨S9, q4_.2, y5_, y6_, z⟩
      intro y7_ y8_
      replace h := h y7_ y8_
      replace K := fun i uo z => K i uo ⟨y7_, y8_, z⟩
      obtain ⟨Q9, h0, h⟩ := h
      refine ⟨_, ruX0_putAll h0, ?_⟩
      intro S13 q9_ y10_ y11_
      replace h := h S13 q9_.1 y10_ y11_
      replace K := fun i uo z => K i uo ⟨S13, q9_.2, y10_, y11_, z⟩
      intro y12_ y13_
      replace h := h y12_ y13_
      replace K := fun i uo z => K i uo ⟨y12_, y13_, z⟩
      obtain ⟨Q9, h0, h⟩ := h
      refine ⟨_, ruX0_putAll h0, ?_⟩
      intro S17 q14_ y15_ y16_
      replace h := h S17 q14_.1 y15_ y16_
      replace K := fun i uo z => K i uo ⟨S17, q14_.2, y15_, y16_, z⟩
      exact ⟨h, K i0 _ rfl⟩
    · replace h := h.2 c
      replace K := fun i uo z => K i uo (Or.inr ⟨c, z⟩)
      obtain ⟨g17_, h⟩ := h
      refine ⟨g17_, ?_⟩
      replace K := fun i uo z => K i uo ⟨g17_, z⟩
      intro y18_
      replace h := h y18_
      replace K := fun i uo z => K i uo ⟨y18_, z⟩
      obtain ⟨Q9, h0, h⟩ := h
      refine ⟨_, ruX0_put h0, ?_⟩
      intro S23 q19_ y20_ y21_
      replace h := h S23 q19_.1 y20_ y21_
      replace K := fun i uo z => K i uo ⟨S23, q19_.2, y20_, y21_, z⟩
      intro a26 ea26 
      replace h := h a26 ea26 
      replace K := fun i uo z => K i uo ⟨a26, ea26, z⟩
      exact ih i00 (fun i uo ⟨n8, z⟩ => K (i, n8) uo z) h
set_option maxRecDepth 100000 in
theorem ruX11_finish {S : MS} {p1 : Nat} {Q : MS → Prop} (h : wX11_finish S p1 Q) : wX11_finish S p1 (fun u => Q u ∧ vX11_finish S p1 u) := by
  have i0 : Unit := ()
  have K : ∀ (i : Unit) (uo : MS), vX11_finish S p1 uo → vX11_finish S p1 uo := fun _ _ z => z
  unfold wX11_finish at h ⊢
  intro y22_
  replace h := h y22_
  replace K := fun i uo z => K i uo ⟨y22_, z⟩
  obtain ⟨Q9, h0, h⟩ := h
  refine ⟨_, ruX0_put2 h0, ?_⟩
  intro S2 q23_ y24_ y25_
  replace h := h S2 q23_.1 y24_ y25_
  replace K := fun i uo z => K i uo ⟨S2, q23_.2, y24_, y25_, z⟩
  intro S5 eS5 y26_ y27_
  replace h := h S5 eS5 y26_ y27_
  replace K := fun i uo z => K i uo ⟨S5, eS5, y26_, y27_, z⟩
  obtain ⟨n9, h⟩ := h
  exact ⟨n9, ru_X11_finish_L15 n9 i0 K h⟩
set_option maxRecDepth 100000 in
theorem vw_X11_finish_L15 {uo : MS} : ∀ (n : Nat) {U15 : MS} {v15_1 : Nat} {v15_2 : Int32}, v_X11_finish_L15 uo n U15 v15_1 v15_2 → w_X11_finish_L15 (fun u => u = uo) n U15 v15_1 v15_2 := by
  intro n
  induction n with
  | zero => intro U15 v15_1 v15_2 h; unfold v_X11_finish_L15 at h; exact h.elim
  | succ n ih =>
    intro U15 v15_1 v15_2 h
    unfold v_X11_finish_L15 at h
    unfold w_X11_finish_L15
    intro _ _
    replace h := h.2.2
    rcases h with ⟨c, h⟩ | ⟨c, h⟩
    · refine ⟨fun _ => ?_, fun c2 => absurd c c2⟩
      intro _
      replace h := h.2
      obtain ⟨q9, z9, h⟩ := h
      refine ⟨_, vwX0_put2 z9, ?_⟩
      intro q8 d9 _ _
      subst d9
      replace h := h.2.2
      intro _ _
      replace h := h.2.2
      obtain ⟨q9, z9, h⟩ := h
      refine ⟨_, vwX0_putAll z9, ?_⟩
      intro q8 d9 _ _
      subst d9
      replace h := h.2.2
      intro _ _
      replace h := h.2.2
      obtain ⟨q9, z9, h⟩ := h
      refine ⟨_, vwX0_putAll z9, ?_⟩
      intro q8 d9 _ _
      subst d9
      replace h := h.2.2
      exact h.symm
    · refine ⟨fun c2 => absurd c2 c, fun _ => ?_⟩
      obtain ⟨g9, h⟩ := h
      refine ⟨g9, ?_⟩
      intro _
      replace h := h.2
      obtain ⟨q9, z9, h⟩ := h
      refine ⟨_, vwX0_put z9, ?_⟩
      intro q8 d9 _ _
      subst d9
      replace h := h.2.2
      obtain ⟨v9, e9, h⟩ := h
      intro x9 d9 
      have c9 : v9 = x9 := e9.trans d9.symm
      subst c9
      exact ih h
set_option maxRecDepth 100000 in
theorem vp_X11_finish_L15 {uo : MS} {P : MS → Prop} : ∀ (n m : Nat) {U15 : MS} {v15_1 : Nat} {v15_2 : Int32}, v_X11_finish_L15 uo n U15 v15_1 v15_2 → w_X11_finish_L15 P m U15 v15_1 v15_2 → P uo := by
  intro n
  induction n with
  | zero => intro m U15 v15_1 v15_2 h; unfold v_X11_finish_L15 at h; exact h.elim
  | succ n ih =>
    intro m U15 v15_1 v15_2 h w
    cases m with
    | zero => unfold w_X11_finish_L15 at w; exact w.elim
    | succ m =>
      unfold v_X11_finish_L15 at h
      unfold w_X11_finish_L15 at w
      obtain ⟨y1_, y2_, h⟩ := h
      replace w := w y1_ y2_
      rcases h with ⟨c, h⟩ | ⟨c, h⟩
      · replace w := w.1 c
        obtain ⟨y3_, h⟩ := h
        replace w := w y3_
        obtain ⟨q9, z9, y4_, y5_, h⟩ := h
        obtain ⟨Q9, w0, w⟩ := w
        replace w := w q9 (vpX0_put2 z9 w0) y4_ y5_
        obtain ⟨y6_, y7_, h⟩ := h
        replace w := w y6_ y7_
        obtain ⟨q9, z9, y8_, y9_, h⟩ := h
        obtain ⟨Q9, w0, w⟩ := w
        replace w := w q9 (vpX0_putAll z9 w0) y8_ y9_
        obtain ⟨y10_, y11_, h⟩ := h
        replace w := w y10_ y11_
        obtain ⟨q9, z9, y12_, y13_, h⟩ := h
        obtain ⟨Q9, w0, w⟩ := w
        replace w := w q9 (vpX0_putAll z9 w0) y12_ y13_
        rw [h]
        exact w
      · replace w := w.2 c
        replace h := h.2
        replace w := w.2
        obtain ⟨y14_, h⟩ := h
        replace w := w y14_
        obtain ⟨q9, z9, y15_, y16_, h⟩ := h
        obtain ⟨Q9, w0, w⟩ := w
        replace w := w q9 (vpX0_put z9 w0) y15_ y16_
        obtain ⟨v9, e9, h⟩ := h
        replace w := w v9 e9 
        exact ih m h w
set_option maxRecDepth 100000 in
theorem vwX11_finish {S : MS} {p1 : Nat} {uo : MS} (h : vX11_finish S p1 uo) : wX11_finish S p1 (fun u => u = uo) := by
  unfold vX11_finish at h
  unfold wX11_finish
  intro _
  replace h := h.2
  obtain ⟨q9, z9, h⟩ := h
  refine ⟨_, vwX0_put2 z9, ?_⟩
  intro q8 d9 _ _
  subst d9
  replace h := h.2.2
  obtain ⟨v9, e9, h⟩ := h
  intro x9 d9 _ _
  have c9 : v9 = x9 := e9.trans d9.symm
  subst c9
  replace h := h.2.2
  obtain ⟨n9, h⟩ := h
  exact ⟨n9, vw_X11_finish_L15 n9 h⟩
set_option maxRecDepth 100000 in
theorem vpX11_finish {S : MS} {p1 : Nat} {uo : MS} {P : MS → Prop} (h : vX11_finish S p1 uo) (w : wX11_finish S p1 P) : P uo := by
  unfold vX11_finish at h
  unfold wX11_finish at w
  obtain ⟨y17_, h⟩ := h
  replace w := w y17_
  obtain ⟨q9, z9, y18_, y19_, h⟩ := h
  obtain ⟨Q9, w0, w⟩ := w
  replace w := w q9 (vpX0_put2 z9 w0) y18_ y19_
  obtain ⟨v9, e9, y20_, y21_, h⟩ := h
  replace w := w v9 e9 y20_ y21_
  obtain ⟨n9, h⟩ := h
  obtain ⟨n8, w⟩ := w
  exact vp_X11_finish_L15 n9 n8 h w
def v_X11_isWanted_L53 (ro : Int32) (uo : MS) : Nat → MS → Int32 → Int32 → Int32 → Prop
  | 0, _, _, _, _ => False
  | n53 + 1, U53, v53_2, v53_3, v53_4 => (wfC U53 ∧ ((v53_3.toInt ≤ v53_4.toInt ∧ (ro = (1 : Int32) ∧ uo = U53)) ∨ (¬ v53_3.toInt ≤ v53_4.toInt ∧ (((qN U53 (qO U53 30 0) : Int) ≤ v53_4.toInt ∧ (ro = (1 : Int32) ∧ uo = U53)) ∨ (¬ (qN U53 (qO U53 30 0) : Int) ≤ v53_4.toInt ∧ (((0 : Int) ≤ (v53_2 + v53_4).toInt ∧ (v53_2 + v53_4).toInt < (qN U53 (qO U53 26 0) : Int)) ∧ (((0 : Int) ≤ v53_4.toInt ∧ v53_4.toInt < (qN U53 (qO U53 30 0) : Int)) ∧ (((qI U53 (qO U53 26 0) (((v53_2 + v53_4).toInt).toNat)).toInt = (qI U53 (qO U53 30 0) v53_4.toInt.toNat).toInt ∧ (∃ a27 : Int32, a27 = (v53_4 + Int32.ofInt 1) ∧ ((v_X11_isWanted_L53 ro uo n53) U53 v53_2 v53_3 a27))) ∨ (¬ (qI U53 (qO U53 26 0) (((v53_2 + v53_4).toInt).toNat)).toInt = (qI U53 (qO U53 30 0) v53_4.toInt.toNat).toInt ∧ (ro = (0 : Int32) ∧ uo = U53))))))))))
def vX11_isWanted (S : MS) (x1 : Int32) (ro : Int32) (uo : MS) : Prop := (((0 : Int) ≤ x1.toInt ∧ x1.toInt < 500) ∧ (∃ a3 : Int32, a3 = (qI S 32 x1.toInt.toNat) ∧ (((0 : Int) ≤ x1.toInt ∧ x1.toInt < 500) ∧ (∃ a7 : Int32, a7 = ((qI S 33 x1.toInt.toNat) - a3) ∧ ((a7.toInt = (qI S 30 1).toInt ∧ ((a3.toInt < 0 ∧ (ro = (0 : Int32) ∧ uo = S)) ∨ (¬ a3.toInt < 0 ∧ (((0 : Int) ≤ x1.toInt ∧ x1.toInt < 500) ∧ (((qI S 33 x1.toInt.toNat).toInt ≤ (qN S (qO S 26 0) : Int) ∧ (∃ n, v_X11_isWanted_L53 ro uo n S a3 a7 0)) ∨ (¬ (qI S 33 x1.toInt.toNat).toInt ≤ (qN S (qO S 26 0) : Int) ∧ (ro = (0 : Int32) ∧ uo = S))))))) ∨ (¬ a7.toInt = (qI S 30 1).toInt ∧ (ro = (0 : Int32) ∧ uo = S)))))))
set_option maxRecDepth 100000 in
theorem ru_X11_isWanted_L53 {ι : Type} {P Q : Int32 → MS → Prop} : ∀ (n : Nat) {U53 : MS} {v53_2 : Int32} {v53_3 : Int32} {v53_4 : Int32} (i0 : ι), (∀ (i : ι) (ro : Int32) (uo : MS), (∃ n8, v_X11_isWanted_L53 ro uo n8 U53 v53_2 v53_3 v53_4) → P ro uo) → w_X11_isWanted_L53 Q n U53 v53_2 v53_3 v53_4 → w_X11_isWanted_L53 (fun r u => Q r u ∧ P r u) n U53 v53_2 v53_3 v53_4 := by
  intro n
  induction n with
  | zero => intro U53 v53_2 v53_3 v53_4 i0 K h; unfold w_X11_isWanted_L53 at h; exact h.elim
  | succ n ih =>
    intro U53 v53_2 v53_3 v53_4 i0 K h
    unfold w_X11_isWanted_L53 at h ⊢
    replace K := fun (i : ι × Nat) ro uo (z : v_X11_isWanted_L53 ro uo (i.2 + 1) U53 v53_2 v53_3 v53_4) => K i.1 ro uo ⟨i.2 + 1, z⟩
    have i00 := i0
    replace i0 : ι × Nat := (i0, 0)
    intro y1_
    replace h := h y1_
    replace K := fun i ro uo z => K i ro uo ⟨y1_, z⟩
    refine ⟨fun c => ?_, fun c => ?_⟩
    · replace h := h.1 c
      replace K := fun i ro uo z => K i ro uo (Or.inl ⟨c, z⟩)
      exact ⟨h, K i0 _ _ ⟨rfl, rfl⟩⟩
    · replace h := h.2 c
      replace K := fun i ro uo z => K i ro uo (Or.inr ⟨c, z⟩)
      refine ⟨fun c => ?_, fun c => ?_⟩
      · replace h := h.1 c
        replace K := fun i ro uo z => K i ro uo (Or.inl ⟨c, z⟩)
        exact ⟨h, K i0 _ _ ⟨rfl, rfl⟩⟩
      · replace h := h.2 c
        replace K := fun i ro uo z => K i ro uo (Or.inr ⟨c, z⟩)
        obtain ⟨g2_, h⟩ := h
        refine ⟨g2_, ?_⟩
        replace K := fun i ro uo z => K i ro uo ⟨g2_, z⟩
        obtain ⟨g3_, h⟩ := h
        refine ⟨g3_, ?_⟩
        replace K := fun i ro uo z => K i ro uo ⟨g3_, z⟩
        refine ⟨fun c => ?_, fun c => ?_⟩
        · replace h := h.1 c
          replace K := fun i ro uo z => K i ro uo (Or.inl ⟨c, z⟩)
          intro a27 ea27 
          replace h := h a27 ea27 
          replace K := fun i ro uo z => K i ro uo ⟨a27, ea27, z⟩
          exact ih i00 (fun i ro uo ⟨n8, z⟩ => K (i, n8) ro uo z) h
        · replace h := h.2 c
          replace K := fun i ro uo z => K i ro uo (Or.inr ⟨c, z⟩)
          exact ⟨h, K i0 _ _ ⟨rfl, rfl⟩⟩
set_option maxRecDepth 100000 in
theorem ruX11_isWanted {S : MS} {x1 : Int32} {Q : Int32 → MS → Prop} (h : wX11_isWanted S x1 Q) : wX11_isWanted S x1 (fun r u => Q r u ∧ vX11_isWanted S x1 r u) := by
  have i0 : Unit := ()
  have K : ∀ (i : Unit) (ro : Int32) (uo : MS), vX11_isWanted S x1 ro uo → vX11_isWanted S x1 ro uo := fun _ _ _ z => z
  unfold wX11_isWanted at h ⊢
  obtain ⟨g4_, h⟩ := h
  refine ⟨g4_, ?_⟩
  replace K := fun i ro uo z => K i ro uo ⟨g4_, z⟩
  intro a3 ea3 
  replace h := h a3 ea3 
  replace K := fun i ro uo z => K i ro uo ⟨a3, ea3, z⟩
  obtain ⟨g5_, h⟩ := h
  refine ⟨g5_, ?_⟩
  replace K := fun i ro uo z => K i ro uo ⟨g5_, z⟩
  intro a7 ea7 
  replace h := h a7 ea7 
  replace K := fun i ro uo z => K i ro uo ⟨a7, ea7, z⟩
  refine ⟨fun c => ?_, fun c => ?_⟩
  · replace h := h.1 c
    replace K := fun i ro uo z => K i ro uo (Or.inl ⟨c, z⟩)
    refine ⟨fun c => ?_, fun c => ?_⟩
    · replace h := h.1 c
      replace K := fun i ro uo z => K i ro uo (Or.inl ⟨c, z⟩)
      exact ⟨h, K i0 _ _ ⟨rfl, rfl⟩⟩
    · replace h := h.2 c
      replace K := fun i ro uo z => K i ro uo (Or.inr ⟨c, z⟩)
      obtain ⟨g6_, h⟩ := h
      refine ⟨g6_, ?_⟩
      replace K := fun i ro uo z => K i ro uo ⟨g6_, z⟩
      refine ⟨fun c => ?_, fun c => ?_⟩
      · replace h := h.1 c
        replace K := fun i ro uo z => K i ro uo (Or.inl ⟨c, z⟩)
        obtain ⟨n9, h⟩ := h
        exact ⟨n9, ru_X11_isWanted_L53 n9 i0 K h⟩
      · replace h := h.2 c
        replace K := fun i ro uo z => K i ro uo (Or.inr ⟨c, z⟩)
        exact ⟨h, K i0 _ _ ⟨rfl, rfl⟩⟩
  · replace h := h.2 c
    replace K := fun i ro uo z => K i ro uo (Or.inr ⟨c, z⟩)
    exact ⟨h, K i0 _ _ ⟨rfl, rfl⟩⟩
set_option maxRecDepth 100000 in
theorem vw_X11_isWanted_L53 {ro : Int32} {uo : MS} : ∀ (n : Nat) {U53 : MS} {v53_2 : Int32} {v53_3 : Int32} {v53_4 : Int32}, v_X11_isWanted_L53 ro uo n U53 v53_2 v53_3 v53_4 → w_X11_isWanted_L53 (fun r u => r = ro ∧ u = uo) n U53 v53_2 v53_3 v53_4 := by
  intro n
  induction n with
  | zero => intro U53 v53_2 v53_3 v53_4 h; unfold v_X11_isWanted_L53 at h; exact h.elim
  | succ n ih =>
    intro U53 v53_2 v53_3 v53_4 h
    unfold v_X11_isWanted_L53 at h
    unfold w_X11_isWanted_L53
    intro _
    replace h := h.2
    rcases h with ⟨c, h⟩ | ⟨c, h⟩
    · refine ⟨fun _ => ?_, fun c2 => absurd c c2⟩
      exact ⟨h.1.symm, h.2.symm⟩
    · refine ⟨fun c2 => absurd c2 c, fun _ => ?_⟩
      rcases h with ⟨c, h⟩ | ⟨c, h⟩
      · refine ⟨fun _ => ?_, fun c2 => absurd c c2⟩
        exact ⟨h.1.symm, h.2.symm⟩
      · refine ⟨fun c2 => absurd c2 c, fun _ => ?_⟩
        obtain ⟨g9, h⟩ := h
        refine ⟨g9, ?_⟩
        obtain ⟨g9, h⟩ := h
        refine ⟨g9, ?_⟩
        rcases h with ⟨c, h⟩ | ⟨c, h⟩
        · refine ⟨fun _ => ?_, fun c2 => absurd c c2⟩
          obtain ⟨v9, e9, h⟩ := h
          intro x9 d9 
          have c9 : v9 = x9 := e9.trans d9.symm
          subst c9
          exact ih h
        · refine ⟨fun c2 => absurd c2 c, fun _ => ?_⟩
          exact ⟨h.1.symm, h.2.symm⟩
set_option maxRecDepth 100000 in
theorem vp_X11_isWanted_L53 {ro : Int32} {uo : MS} {P : Int32 → MS → Prop} : ∀ (n m : Nat) {U53 : MS} {v53_2 : Int32} {v53_3 : Int32} {v53_4 : Int32}, v_X11_isWanted_L53 ro uo n U53 v53_2 v53_3 v53_4 → w_X11_isWanted_L53 P m U53 v53_2 v53_3 v53_4 → P ro uo := by
  intro n
  induction n with
  | zero => intro m U53 v53_2 v53_3 v53_4 h; unfold v_X11_isWanted_L53 at h; exact h.elim
  | succ n ih =>
    intro m U53 v53_2 v53_3 v53_4 h w
    cases m with
    | zero => unfold w_X11_isWanted_L53 at w; exact w.elim
    | succ m =>
      unfold v_X11_isWanted_L53 at h
      unfold w_X11_isWanted_L53 at w
      obtain ⟨y1_, h⟩ := h
      replace w := w y1_
      rcases h with ⟨c, h⟩ | ⟨c, h⟩
      · replace w := w.1 c
        rw [h.1, h.2]
        exact w
      · replace w := w.2 c
        rcases h with ⟨c, h⟩ | ⟨c, h⟩
        · replace w := w.1 c
          rw [h.1, h.2]
          exact w
        · replace w := w.2 c
          replace h := h.2
          replace w := w.2
          replace h := h.2
          replace w := w.2
          rcases h with ⟨c, h⟩ | ⟨c, h⟩
          · replace w := w.1 c
            obtain ⟨v9, e9, h⟩ := h
            replace w := w v9 e9 
            exact ih m h w
          · replace w := w.2 c
            rw [h.1, h.2]
            exact w
set_option maxRecDepth 100000 in
theorem vwX11_isWanted {S : MS} {x1 : Int32} {ro : Int32} {uo : MS} (h : vX11_isWanted S x1 ro uo) : wX11_isWanted S x1 (fun r u => r = ro ∧ u = uo) := by
  unfold vX11_isWanted at h
  unfold wX11_isWanted
  obtain ⟨g9, h⟩ := h
  refine ⟨g9, ?_⟩
  obtain ⟨v9, e9, h⟩ := h
  intro x9 d9 
  have c9 : v9 = x9 := e9.trans d9.symm
  subst c9
  obtain ⟨g9, h⟩ := h
  refine ⟨g9, ?_⟩
  obtain ⟨v9, e9, h⟩ := h
  intro x9 d9 
  have c9 : v9 = x9 := e9.trans d9.symm
  subst c9
  rcases h with ⟨c, h⟩ | ⟨c, h⟩
  · refine ⟨fun _ => ?_, fun c2 => absurd c c2⟩
    rcases h with ⟨c, h⟩ | ⟨c, h⟩
    · refine ⟨fun _ => ?_, fun c2 => absurd c c2⟩
      exact ⟨h.1.symm, h.2.symm⟩
    · refine ⟨fun c2 => absurd c2 c, fun _ => ?_⟩
      obtain ⟨g9, h⟩ := h
      refine ⟨g9, ?_⟩
      rcases h with ⟨c, h⟩ | ⟨c, h⟩
      · refine ⟨fun _ => ?_, fun c2 => absurd c c2⟩
        obtain ⟨n9, h⟩ := h
        exact ⟨n9, vw_X11_isWanted_L53 n9 h⟩
      · refine ⟨fun c2 => absurd c2 c, fun _ => ?_⟩
        exact ⟨h.1.symm, h.2.symm⟩
  · refine ⟨fun c2 => absurd c2 c, fun _ => ?_⟩
    exact ⟨h.1.symm, h.2.symm⟩
set_option maxRecDepth 100000 in
theorem vpX11_isWanted {S : MS} {x1 : Int32} {ro : Int32} {uo : MS} {P : Int32 → MS → Prop} (h : vX11_isWanted S x1 ro uo) (w : wX11_isWanted S x1 P) : P ro uo := by
  unfold vX11_isWanted at h
  unfold wX11_isWanted at w
  replace h := h.2
  replace w := w.2
  obtain ⟨v9, e9, h⟩ := h
  replace w := w v9 e9 
  replace h := h.2
  replace w := w.2
  obtain ⟨v9, e9, h⟩ := h
  replace w := w v9 e9 
  rcases h with ⟨c, h⟩ | ⟨c, h⟩
  · replace w := w.1 c
    rcases h with ⟨c, h⟩ | ⟨c, h⟩
    · replace w := w.1 c
      rw [h.1, h.2]
      exact w
    · replace w := w.2 c
      replace h := h.2
      replace w := w.2
      rcases h with ⟨c, h⟩ | ⟨c, h⟩
      · replace w := w.1 c
        obtain ⟨n9, h⟩ := h
        obtain ⟨n8, w⟩ := w
        exact vp_X11_isWanted_L53 n9 n8 h w
      · replace w := w.2 c
        rw [h.1, h.2]
        exact w
  · replace w := w.2 c
    rw [h.1, h.2]
    exact w
def vX11_want (S : MS) (x1 : Int32) (uo : MS) : Prop := (∃ S1 : MS, S1 = wI S 30 1 (0 : Int32) ∧ qT S 30 = 40 ∧ wfC S1 ∧ (qT S1 30 = 40 ∧ (∃ (S3 : MS), vX0_put S1 30 x1 S3 ∧ wfC S3 ∧ shx S1 S3 ∧ (uo = S3))))
set_option maxRecDepth 100000 in
theorem ruX11_want {S : MS} {x1 : Int32} {Q : MS → Prop} (h : wX11_want S x1 Q) : wX11_want S x1 (fun u => Q u ∧ vX11_want S x1 u) := by
  have i0 : Unit := ()
  have K : ∀ (i : Unit) (uo : MS), vX11_want S x1 uo → vX11_want S x1 uo := fun _ _ z => z
  unfold wX11_want at h ⊢
  intro S1 eS1 y1_ y2_
  replace h := h S1 eS1 y1_ y2_
  replace K := fun i uo z => K i uo ⟨S1, eS1, y1_, y2_, z⟩
  intro y3_
  replace h := h y3_
  replace K := fun i uo z => K i uo ⟨y3_, z⟩
  obtain ⟨Q9, h0, h⟩ := h
  refine ⟨_, ruX0_put h0, ?_⟩
  intro S3 q4_ y5_ y6_
  replace h := h S3 q4_.1 y5_ y6_
  replace K := fun i uo z => K i uo ⟨S3, q4_.2, y5_, y6_, z⟩
  exact ⟨h, K i0 _ rfl⟩
set_option maxRecDepth 100000 in
theorem vwX11_want {S : MS} {x1 : Int32} {uo : MS} (h : vX11_want S x1 uo) : wX11_want S x1 (fun u => u = uo) := by
  unfold vX11_want at h
  unfold wX11_want
  obtain ⟨v9, e9, h⟩ := h
  intro x9 d9 _ _
  have c9 : v9 = x9 := e9.trans d9.symm
  subst c9
  replace h := h.2.2
  intro _
  replace h := h.2
  obtain ⟨q9, z9, h⟩ := h
  refine ⟨_, vwX0_put z9, ?_⟩
  intro q8 d9 _ _
  subst d9
  replace h := h.2.2
  exact h.symm
set_option maxRecDepth 100000 in
theorem vpX11_want {S : MS} {x1 : Int32} {uo : MS} {P : MS → Prop} (h : vX11_want S x1 uo) (w : wX11_want S x1 P) : P uo := by
  unfold vX11_want at h
  unfold wX11_want at w
  obtain ⟨v9, e9, y1_, y2_, h⟩ := h
  replace w := w v9 e9 y1_ y2_
  obtain ⟨y3_, h⟩ := h
  replace w := w y3_
  obtain ⟨q9, z9, y4_, y5_, h⟩ := h
  obtain ⟨Q9, w0, w⟩ := w
  replace w := w q9 (vpX0_put z9 w0) y4_ y5_
  rw [h]
  exact w
def v_X11_leastLocals_J70 (ro : Int32) (uo : MS) (k20 : MS → Int32 → Int32 → Prop) (U70 : MS) (v70_1 : Int32) (v70_2 : Int32) : Prop := (wfC U70 ∧ (∃ a26 : Int32, a26 = (v70_2 + Int32.ofInt 1) ∧ (k20 U70 v70_1 a26)))
def v_X11_leastLocals_L20 (ro : Int32) (uo : MS) : Nat → MS → Int32 → Int32 → Prop
  | 0, _, _, _ => False
  | n20 + 1, U20, v20_1, v20_2 => (wfC U20 ∧ ((qR U20 25 15 = some (qO U20 25 15)) ∧ (((qI U20 (qO U20 25 15) 2).toInt ≤ v20_2.toInt ∧ (ro = v20_1 ∧ uo = U20)) ∨ (¬ (qI U20 (qO U20 25 15) 2).toInt ≤ v20_2.toInt ∧ ((qR U20 25 15 = some (qO U20 25 15)) ∧ (d_X8_opAt U20 (qO U20 25 15) v20_2 ∧ (∃ a21 : Int32, a21 = (fX8_opAt U20 (qO U20 25 15) v20_2) ∧ (d_X6_usesLocal U20 a21 ∧ (∃ a25 : Int32, a25 = (fX6_usesLocal U20 a21) ∧ ((a25.toInt = 0 ∧ (v_X11_leastLocals_J70 ro uo (v_X11_leastLocals_L20 ro uo n20) U20 v20_1 v20_2)) ∨ (¬ a25.toInt = 0 ∧ ((qR U20 25 15 = some (qO U20 25 15)) ∧ (d_X8_localOf U20 (qO U20 25 15) v20_2 ∧ (∃ a33 : Int32, a33 = (fX8_localOf U20 (qO U20 25 15) v20_2) ∧ ((qR U20 25 15 = some (qO U20 25 15)) ∧ (d_X8_opAt U20 (qO U20 25 15) v20_2 ∧ (∃ a39 : Int32, a39 = (fX8_opAt U20 (qO U20 25 15) v20_2) ∧ (d_X6_localWidth U20 a39 ∧ (∃ a43 : Int32, a43 = (fX6_localWidth U20 a39) ∧ (∃ a46 : Int32, a46 = (if v20_1 < (a33 + a43) then (a33 + a43) else v20_1) ∧ (v_X11_leastLocals_J70 ro uo (v_X11_leastLocals_L20 ro uo n20) U20 a46 v20_2)))))))))))))))))))))
def vX11_leastLocals (S : MS) (ro : Int32) (uo : MS) : Prop := ((qR S 25 7 = some (qO S 25 7)) ∧ ((qR S 25 15 = some (qO S 25 15)) ∧ (d_X10_takesOfMethod S (qO S 25 7) (qI S (qO S 25 15) 11) ∧ (∃ a8 : Int32, a8 = (fX10_takesOfMethod S (qO S 25 7) (qI S (qO S 25 15) 11)) ∧ (∃ (r10 : Int32) (S11 : MS), vX6_placesOf S a8 r10 S11 ∧ wfC S11 ∧ shy S S11 ∧ (∃ n, v_X11_leastLocals_L20 ro uo n S11 r10 0))))))
set_option maxRecDepth 100000 in
theorem ru_X11_leastLocals_J70 {ι : Type} {P Q : Int32 → MS → Prop} {k20 k20' : MS → Int32 → Int32 → Prop} {k20v : ι → Int32 → MS → MS → Int32 → Int32 → Prop} {U70 : MS} {v70_1 : Int32} {v70_2 : Int32} (i0 : ι) (hk20 : ∀ (u : MS) (z0 : Int32) (z1 : Int32), k20 u z0 z1 → (∀ (i : ι) (ro : Int32) (uo : MS), k20v i ro uo u z0 z1 → P ro uo) → k20' u z0 z1) (K : ∀ (i : ι) (ro : Int32) (uo : MS), v_X11_leastLocals_J70 ro uo (k20v i ro uo) U70 v70_1 v70_2 → P ro uo) (h : w_X11_leastLocals_J70 Q k20 U70 v70_1 v70_2) : w_X11_leastLocals_J70 (fun r u => Q r u ∧ P r u) k20' U70 v70_1 v70_2 := by
  unfold w_X11_leastLocals_J70 at h ⊢
  intro y1_
  replace h := h y1_
  replace K := fun i ro uo z => K i ro uo ⟨y1_, z⟩
  intro a26 ea26 
  replace h := h a26 ea26 
  replace K := fun i ro uo z => K i ro uo ⟨a26, ea26, z⟩
  exact hk20 _ _ _ h K
set_option maxRecDepth 100000 in
theorem ru_X11_leastLocals_L20 {ι : Type} {P Q : Int32 → MS → Prop} : ∀ (n : Nat) {U20 : MS} {v20_1 : Int32} {v20_2 : Int32} (i0 : ι), (∀ (i : ι) (ro : Int32) (uo : MS), (∃ n8, v_X11_leastLocals_L20 ro uo n8 U20 v20_1 v20_2) → P ro uo) → w_X11_leastLocals_L20 Q n U20 v20_1 v20_2 → w_X11_leastLocals_L20 (fun r u => Q r u ∧ P r u) n U20 v20_1 v20_2 := by
  intro n
  induction n with
  | zero => intro U20 v20_1 v20_2 i0 K h; unfold w_X11_leastLocals_L20 at h; exact h.elim
  | succ n ih =>
    intro U20 v20_1 v20_2 i0 K h
    unfold w_X11_leastLocals_L20 at h ⊢
    replace K := fun (i : ι × Nat) ro uo (z : v_X11_leastLocals_L20 ro uo (i.2 + 1) U20 v20_1 v20_2) => K i.1 ro uo ⟨i.2 + 1, z⟩
    have i00 := i0
    replace i0 : ι × Nat := (i0, 0)
    intro y2_
    replace h := h y2_
    replace K := fun i ro uo z => K i ro uo ⟨y2_, z⟩
    obtain ⟨g3_, h⟩ := h
    refine ⟨g3_, ?_⟩
    replace K := fun i ro uo z => K i ro uo ⟨g3_, z⟩
    refine ⟨fun c => ?_, fun c => ?_⟩
    · replace h := h.1 c
      replace K := fun i ro uo z => K i ro uo (Or.inl ⟨c, z⟩)
      exact ⟨h, K i0 _ _ ⟨rfl, rfl⟩⟩
    · replace h := h.2 c
      replace K := fun i ro uo z => K i ro uo (Or.inr ⟨c, z⟩)
      obtain ⟨g4_, h⟩ := h
      refine ⟨g4_, ?_⟩
      replace K := fun i ro uo z => K i ro uo ⟨g4_, z⟩
      obtain ⟨g5_, h⟩ := h
      refine ⟨g5_, ?_⟩
      replace K := fun i ro uo z => K i ro uo ⟨g5_, z⟩
      intro a21 ea21 
      replace h := h a21 ea21 
      replace K := fun i ro uo z => K i ro uo ⟨a21, ea21, z⟩
      obtain ⟨g6_, h⟩ := h
      refine ⟨g6_, ?_⟩
      replace K := fun i ro uo z => K i ro uo ⟨g6_, z⟩
      intro a25 ea25 
      replace h := h a25 ea25 
      replace K := fun i ro uo z => K i ro uo ⟨a25, ea25, z⟩
      refine ⟨fun c => ?_, fun c => ?_⟩
      · replace h := h.1 c
        replace K := fun i ro uo z => K i ro uo (Or.inl ⟨c, z⟩)
        exact ru_X11_leastLocals_J70 i0 (fun _ _ _ h K => ih i00 (fun i ro uo ⟨n8, z⟩ => K (i, n8) ro uo z) h) K h
      · replace h := h.2 c
        replace K := fun i ro uo z => K i ro uo (Or.inr ⟨c, z⟩)
        obtain ⟨g7_, h⟩ := h
        refine ⟨g7_, ?_⟩
        replace K := fun i ro uo z => K i ro uo ⟨g7_, z⟩
        obtain ⟨g8_, h⟩ := h
        refine ⟨g8_, ?_⟩
        replace K := fun i ro uo z => K i ro uo ⟨g8_, z⟩
        intro a33 ea33 
        replace h := h a33 ea33 
        replace K := fun i ro uo z => K i ro uo ⟨a33, ea33, z⟩
        obtain ⟨g9_, h⟩ := h
        refine ⟨g9_, ?_⟩
        replace K := fun i ro uo z => K i ro uo ⟨g9_, z⟩
        obtain ⟨g10_, h⟩ := h
        refine ⟨g10_, ?_⟩
        replace K := fun i ro uo z => K i ro uo ⟨g10_, z⟩
        intro a39 ea39 
        replace h := h a39 ea39 
        replace K := fun i ro uo z => K i ro uo ⟨a39, ea39, z⟩
        obtain ⟨g11_, h⟩ := h
        refine ⟨g11_, ?_⟩
        replace K := fun i ro uo z => K i ro uo ⟨g11_, z⟩
        intro a43 ea43 
        replace h := h a43 ea43 
        replace K := fun i ro uo z => K i ro uo ⟨a43, ea43, z⟩
        intro a46 ea46 
        replace h := h a46 ea46 
        replace K := fun i ro uo z => K i ro uo ⟨a46, ea46, z⟩
        exact ru_X11_leastLocals_J70 i0 (fun _ _ _ h K => ih i00 (fun i ro uo ⟨n8, z⟩ => K (i, n8) ro uo z) h) K h
set_option maxRecDepth 100000 in
theorem ruX11_leastLocals {S : MS} {Q : Int32 → MS → Prop} (h : wX11_leastLocals S Q) : wX11_leastLocals S (fun r u => Q r u ∧ vX11_leastLocals S r u) := by
  have i0 : Unit := ()
  have K : ∀ (i : Unit) (ro : Int32) (uo : MS), vX11_leastLocals S ro uo → vX11_leastLocals S ro uo := fun _ _ _ z => z
  unfold wX11_leastLocals at h ⊢
  obtain ⟨g12_, h⟩ := h
  refine ⟨g12_, ?_⟩
  replace K := fun i ro uo z => K i ro uo ⟨g12_, z⟩
  obtain ⟨g13_, h⟩ := h
  refine ⟨g13_, ?_⟩
  replace K := fun i ro uo z => K i ro uo ⟨g13_, z⟩
  obtain ⟨g14_, h⟩ := h
  refine ⟨g14_, ?_⟩
  replace K := fun i ro uo z => K i ro uo ⟨g14_, z⟩
  intro a8 ea8 
  replace h := h a8 ea8 
  replace K := fun i ro uo z => K i ro uo ⟨a8, ea8, z⟩
  obtain ⟨Q9, h0, h⟩ := h
  refine ⟨_, ruX6_placesOf h0, ?_⟩
  intro r10 S11 q15_ y16_ y17_
  replace h := h r10 S11 q15_.1 y16_ y17_
  replace K := fun i ro uo z => K i ro uo ⟨r10, S11, q15_.2, y16_, y17_, z⟩
  obtain ⟨n9, h⟩ := h
  exact ⟨n9, ru_X11_leastLocals_L20 n9 i0 K h⟩
set_option maxRecDepth 100000 in
theorem vw_X11_leastLocals_J70 {ro : Int32} {uo : MS} {k20 k20v : MS → Int32 → Int32 → Prop} {U70 : MS} {v70_1 : Int32} {v70_2 : Int32} (hk20 : ∀ (u : MS) (z0 : Int32) (z1 : Int32), k20v u z0 z1 → k20 u z0 z1) (h : v_X11_leastLocals_J70 ro uo k20v U70 v70_1 v70_2) : w_X11_leastLocals_J70 (fun r u => r = ro ∧ u = uo) k20 U70 v70_1 v70_2 := by
  unfold v_X11_leastLocals_J70 at h
  unfold w_X11_leastLocals_J70
  intro _
  replace h := h.2
  obtain ⟨v9, e9, h⟩ := h
  intro x9 d9 
  have c9 : v9 = x9 := e9.trans d9.symm
  subst c9
  exact hk20 _ _ _ h
set_option maxRecDepth 100000 in
theorem vp_X11_leastLocals_J70 {ro : Int32} {uo : MS} {P : Int32 → MS → Prop} {k20 k20v : MS → Int32 → Int32 → Prop} {U70 : MS} {v70_1 : Int32} {v70_2 : Int32} (hk20 : ∀ (u : MS) (z0 : Int32) (z1 : Int32), k20v u z0 z1 → k20 u z0 z1 → P ro uo) (h : v_X11_leastLocals_J70 ro uo k20v U70 v70_1 v70_2) (w : w_X11_leastLocals_J70 P k20 U70 v70_1 v70_2) : P ro uo := by
  unfold v_X11_leastLocals_J70 at h
  unfold w_X11_leastLocals_J70 at w
  obtain ⟨y1_, h⟩ := h
  replace w := w y1_
  obtain ⟨v9, e9, h⟩ := h
  replace w := w v9 e9 
  exact hk20 _ _ _ h w
set_option maxRecDepth 100000 in
theorem vw_X11_leastLocals_L20 {ro : Int32} {uo : MS} : ∀ (n : Nat) {U20 : MS} {v20_1 : Int32} {v20_2 : Int32}, v_X11_leastLocals_L20 ro uo n U20 v20_1 v20_2 → w_X11_leastLocals_L20 (fun r u => r = ro ∧ u = uo) n U20 v20_1 v20_2 := by
  intro n
  induction n with
  | zero => intro U20 v20_1 v20_2 h; unfold v_X11_leastLocals_L20 at h; exact h.elim
  | succ n ih =>
    intro U20 v20_1 v20_2 h
    unfold v_X11_leastLocals_L20 at h
    unfold w_X11_leastLocals_L20
    intro _
    replace h := h.2
    obtain ⟨g9, h⟩ := h
    refine ⟨g9, ?_⟩
    rcases h with ⟨c, h⟩ | ⟨c, h⟩
    · refine ⟨fun _ => ?_, fun c2 => absurd c c2⟩
      exact ⟨h.1.symm, h.2.symm⟩
    · refine ⟨fun c2 => absurd c2 c, fun _ => ?_⟩
      obtain ⟨g9, h⟩ := h
      refine ⟨g9, ?_⟩
      obtain ⟨g9, h⟩ := h
      refine ⟨g9, ?_⟩
      obtain ⟨v9, e9, h⟩ := h
      intro x9 d9 
      have c9 : v9 = x9 := e9.trans d9.symm
      subst c9
      obtain ⟨g9, h⟩ := h
      refine ⟨g9, ?_⟩
      obtain ⟨v9, e9, h⟩ := h
      intro x9 d9 
      have c9 : v9 = x9 := e9.trans d9.symm
      subst c9
      rcases h with ⟨c, h⟩ | ⟨c, h⟩
      · refine ⟨fun _ => ?_, fun c2 => absurd c c2⟩
        exact vw_X11_leastLocals_J70 (fun _ _ _ h => ih h) h
      · refine ⟨fun c2 => absurd c2 c, fun _ => ?_⟩
        obtain ⟨g9, h⟩ := h
        refine ⟨g9, ?_⟩
        obtain ⟨g9, h⟩ := h
        refine ⟨g9, ?_⟩
        obtain ⟨v9, e9, h⟩ := h
        intro x9 d9 
        have c9 : v9 = x9 := e9.trans d9.symm
        subst c9
        obtain ⟨g9, h⟩ := h
        refine ⟨g9, ?_⟩
        obtain ⟨g9, h⟩ := h
        refine ⟨g9, ?_⟩
        obtain ⟨v9, e9, h⟩ := h
        intro x9 d9 
        have c9 : v9 = x9 := e9.trans d9.symm
        subst c9
        obtain ⟨g9, h⟩ := h
        refine ⟨g9, ?_⟩
        obtain ⟨v9, e9, h⟩ := h
        intro x9 d9 
        have c9 : v9 = x9 := e9.trans d9.symm
        subst c9
        obtain ⟨v9, e9, h⟩ := h
        intro x9 d9 
        have c9 : v9 = x9 := e9.trans d9.symm
        subst c9
        exact vw_X11_leastLocals_J70 (fun _ _ _ h => ih h) h
set_option maxRecDepth 100000 in
theorem vp_X11_leastLocals_L20 {ro : Int32} {uo : MS} {P : Int32 → MS → Prop} : ∀ (n m : Nat) {U20 : MS} {v20_1 : Int32} {v20_2 : Int32}, v_X11_leastLocals_L20 ro uo n U20 v20_1 v20_2 → w_X11_leastLocals_L20 P m U20 v20_1 v20_2 → P ro uo := by
  intro n
  induction n with
  | zero => intro m U20 v20_1 v20_2 h; unfold v_X11_leastLocals_L20 at h; exact h.elim
  | succ n ih =>
    intro m U20 v20_1 v20_2 h w
    cases m with
    | zero => unfold w_X11_leastLocals_L20 at w; exact w.elim
    | succ m =>
      unfold v_X11_leastLocals_L20 at h
      unfold w_X11_leastLocals_L20 at w
      obtain ⟨y2_, h⟩ := h
      replace w := w y2_
      replace h := h.2
      replace w := w.2
      rcases h with ⟨c, h⟩ | ⟨c, h⟩
      · replace w := w.1 c
        rw [h.1, h.2]
        exact w
      · replace w := w.2 c
        replace h := h.2
        replace w := w.2
        replace h := h.2
        replace w := w.2
        obtain ⟨v9, e9, h⟩ := h
        replace w := w v9 e9 
        replace h := h.2
        replace w := w.2
        obtain ⟨v9, e9, h⟩ := h
        replace w := w v9 e9 
        rcases h with ⟨c, h⟩ | ⟨c, h⟩
        · replace w := w.1 c
          exact vp_X11_leastLocals_J70 (fun _ _ _ h w => ih m h w) h w
        · replace w := w.2 c
          replace h := h.2
          replace w := w.2
          replace h := h.2
          replace w := w.2
          obtain ⟨v9, e9, h⟩ := h
          replace w := w v9 e9 
          replace h := h.2
          replace w := w.2
          replace h := h.2
          replace w := w.2
          obtain ⟨v9, e9, h⟩ := h
          replace w := w v9 e9 
          replace h := h.2
          replace w := w.2
          obtain ⟨v9, e9, h⟩ := h
          replace w := w v9 e9 
          obtain ⟨v9, e9, h⟩ := h
          replace w := w v9 e9 
          exact vp_X11_leastLocals_J70 (fun _ _ _ h w => ih m h w) h w
set_option maxRecDepth 100000 in
theorem vwX11_leastLocals {S : MS} {ro : Int32} {uo : MS} (h : vX11_leastLocals S ro uo) : wX11_leastLocals S (fun r u => r = ro ∧ u = uo) := by
  unfold vX11_leastLocals at h
  unfold wX11_leastLocals
  obtain ⟨g9, h⟩ := h
  refine ⟨g9, ?_⟩
  obtain ⟨g9, h⟩ := h
  refine ⟨g9, ?_⟩
  obtain ⟨g9, h⟩ := h
  refine ⟨g9, ?_⟩
  obtain ⟨v9, e9, h⟩ := h
  intro x9 d9 
  have c9 : v9 = x9 := e9.trans d9.symm
  subst c9
  obtain ⟨p9, q9, z9, h⟩ := h
  refine ⟨_, vwX6_placesOf z9, ?_⟩
  rintro p8 q8 ⟨d8, d9⟩ _ _
  subst d8
  subst d9
  replace h := h.2.2
  obtain ⟨n9, h⟩ := h
  exact ⟨n9, vw_X11_leastLocals_L20 n9 h⟩
set_option maxRecDepth 100000 in
theorem vpX11_leastLocals {S : MS} {ro : Int32} {uo : MS} {P : Int32 → MS → Prop} (h : vX11_leastLocals S ro uo) (w : wX11_leastLocals S P) : P ro uo := by
  unfold vX11_leastLocals at h
  unfold wX11_leastLocals at w
  replace h := h.2
  replace w := w.2
  replace h := h.2
  replace w := w.2
  replace h := h.2
  replace w := w.2
  obtain ⟨v9, e9, h⟩ := h
  replace w := w v9 e9 
  obtain ⟨p9, q9, z9, y3_, y4_, h⟩ := h
  obtain ⟨Q9, w0, w⟩ := w
  replace w := w p9 q9 (vpX6_placesOf z9 w0) y3_ y4_
  obtain ⟨n9, h⟩ := h
  obtain ⟨n8, w⟩ := w
  exact vp_X11_leastLocals_L20 n9 n8 h w
def vX11_putLocal (S : MS) (x1 : Int32) (x2 : Int32) (uo : MS) : Prop := ((x2.toInt ≤ 3 ∧ ((x1.toInt = 21 ∧ (qT S 28 = 40 ∧ (∃ (S4 : MS), vX0_put S 28 ((26 : Int32) + x2) S4 ∧ wfC S4 ∧ shx S S4 ∧ (uo = S4)))) ∨ (¬ x1.toInt = 21 ∧ ((x1.toInt = 22 ∧ (qT S 28 = 40 ∧ (∃ (S9 : MS), vX0_put S 28 ((30 : Int32) + x2) S9 ∧ wfC S9 ∧ shx S S9 ∧ (uo = S9)))) ∨ (¬ x1.toInt = 22 ∧ ((x1.toInt = 25 ∧ (qT S 28 = 40 ∧ (∃ (S14 : MS), vX0_put S 28 ((42 : Int32) + x2) S14 ∧ wfC S14 ∧ shx S S14 ∧ (uo = S14)))) ∨ (¬ x1.toInt = 25 ∧ ((x1.toInt = 54 ∧ (qT S 28 = 40 ∧ (∃ (S19 : MS), vX0_put S 28 ((59 : Int32) + x2) S19 ∧ wfC S19 ∧ shx S S19 ∧ (uo = S19)))) ∨ (¬ x1.toInt = 54 ∧ ((x1.toInt = 55 ∧ (qT S 28 = 40 ∧ (∃ (S24 : MS), vX0_put S 28 ((63 : Int32) + x2) S24 ∧ wfC S24 ∧ shx S S24 ∧ (uo = S24)))) ∨ (¬ x1.toInt = 55 ∧ (qT S 28 = 40 ∧ (∃ (S29 : MS), vX0_put S 28 ((75 : Int32) + x2) S29 ∧ wfC S29 ∧ shx S S29 ∧ (uo = S29)))))))))))))) ∨ (¬ x2.toInt ≤ 3 ∧ (qT S 28 = 40 ∧ (∃ (S33 : MS), vX0_put S 28 x1 S33 ∧ wfC S33 ∧ shx S S33 ∧ (qT S33 28 = 40 ∧ (∃ (S37 : MS), vX0_put S33 28 x2 S37 ∧ wfC S37 ∧ shx S33 S37 ∧ (uo = S37)))))))
set_option maxRecDepth 100000 in
theorem ruX11_putLocal {S : MS} {x1 : Int32} {x2 : Int32} {Q : MS → Prop} (h : wX11_putLocal S x1 x2 Q) : wX11_putLocal S x1 x2 (fun u => Q u ∧ vX11_putLocal S x1 x2 u) := by
  have i0 : Unit := ()
  have K : ∀ (i : Unit) (uo : MS), vX11_putLocal S x1 x2 uo → vX11_putLocal S x1 x2 uo := fun _ _ z => z
  unfold wX11_putLocal at h ⊢
  refine ⟨fun c => ?_, fun c => ?_⟩
  · replace h := h.1 c
    replace K := fun i uo z => K i uo (Or.inl ⟨c, z⟩)
    refine ⟨fun c => ?_, fun c => ?_⟩
    · replace h := h.1 c
      replace K := fun i uo z => K i uo (Or.inl ⟨c, z⟩)
      intro y1_
      replace h := h y1_
      replace K := fun i uo z => K i uo ⟨y1_, z⟩
      obtain ⟨Q9, h0, h⟩ := h
      refine ⟨_, ruX0_put h0, ?_⟩
      intro S4 q2_ y3_ y4_
      replace h := h S4 q2_.1 y3_ y4_
      replace K := fun i uo z => K i uo ⟨S4, q2_.2, y3_, y4_, z⟩
      exact ⟨h, K i0 _ rfl⟩
    · replace h := h.2 c
      replace K := fun i uo z => K i uo (Or.inr ⟨c, z⟩)
      refine ⟨fun c => ?_, fun c => ?_⟩
      · replace h := h.1 c
        replace K := fun i uo z => K i uo (Or.inl ⟨c, z⟩)
        intro y5_
        replace h := h y5_
        replace K := fun i uo z => K i uo ⟨y5_, z⟩
        obtain ⟨Q9, h0, h⟩ := h
        refine ⟨_, ruX0_put h0, ?_⟩
        intro S9 q6_ y7_ y8_
        replace h := h S9 q6_.1 y7_ y8_
        replace K := fun i uo z => K i uo ⟨S9, q6_.2, y7_, y8_, z⟩
        exact ⟨h, K i0 _ rfl⟩
      · replace h := h.2 c
        replace K := fun i uo z => K i uo (Or.inr ⟨c, z⟩)
        refine ⟨fun c => ?_, fun c => ?_⟩
        · replace h := h.1 c
          replace K := fun i uo z => K i uo (Or.inl ⟨c, z⟩)
          intro y9_
          replace h := h y9_
          replace K := fun i uo z => K i uo ⟨y9_, z⟩
          obtain ⟨Q9, h0, h⟩ := h
          refine ⟨_, ruX0_put h0, ?_⟩
          intro S14 q10_ y11_ y12_
          replace h := h S14 q10_.1 y11_ y12_
          replace K := fun i uo z => K i uo ⟨S14, q10_.2, y11_, y12_, z⟩
          exact ⟨h, K i0 _ rfl⟩
        · replace h := h.2 c
          replace K := fun i uo z => K i uo (Or.inr ⟨c, z⟩)
          refine ⟨fun c => ?_, fun c => ?_⟩
          · replace h := h.1 c
            replace K := fun i uo z => K i uo (Or.inl ⟨c, z⟩)
            intro y13_
            replace h := h y13_
            replace K := fun i uo z => K i uo ⟨y13_, z⟩
            obtain ⟨Q9, h0, h⟩ := h
            refine ⟨_, ruX0_put h0, ?_⟩
            intro S19 q14_ y15_ y16_
            replace h := h S19 q14_.1 y15_ y16_
            replace K := fun i uo z => K i uo ⟨S19, q14_.2, y15_, y16_, z⟩
            exact ⟨h, K i0 _ rfl⟩
          · replace h := h.2 c
            replace K := fun i uo z => K i uo (Or.inr ⟨c, z⟩)
            refine ⟨fun c => ?_, fun c => ?_⟩
            · replace h := h.1 c
              replace K := fun i uo z => K i uo (Or.inl ⟨c, z⟩)
              intro y17_
              replace h := h y17_
              replace K := fun i uo z => K i uo ⟨y17_, z⟩
              obtain ⟨Q9, h0, h⟩ := h
              refine ⟨_, ruX0_put h0, ?_⟩
              intro S24 q18_ y19_ y20_
              replace h := h S24 q18_.1 y19_ y20_
              replace K := fun i uo z => K i uo ⟨S24, q18_.2, y19_, y20_, z⟩
              exact ⟨h, K i0 _ rfl⟩
            · replace h := h.2 c
              replace K := fun i uo z => K i uo (Or.inr ⟨c, z⟩)
              intro y21_
              replace h := h y21_
              replace K := fun i uo z => K i uo ⟨y21_, z⟩
              obtain ⟨Q9, h0, h⟩ := h
              refine ⟨_, ruX0_put h0, ?_⟩
              intro S29 q22_ y23_ y24_
              replace h := h S29 q22_.1 y23_ y24_
              replace K := fun i uo z => K i uo ⟨S29, q22_.2, y23_, y24_, z⟩
              exact ⟨h, K i0 _ rfl⟩
  · replace h := h.2 c
    replace K := fun i uo z => K i uo (Or.inr ⟨c, z⟩)
    intro y25_
    replace h := h y25_
    replace K := fun i uo z => K i uo ⟨y25_, z⟩
    obtain ⟨Q9, h0, h⟩ := h
    refine ⟨_, ruX0_put h0, ?_⟩
    intro S33 q26_ y27_ y28_
    replace h := h S33 q26_.1 y27_ y28_
    replace K := fun i uo z => K i uo ⟨S33, q26_.2, y27_, y28_, z⟩
    intro y29_
    replace h := h y29_
    replace K := fun i uo z => K i uo ⟨y29_, z⟩
    obtain ⟨Q9, h0, h⟩ := h
    refine ⟨_, ruX0_put h0, ?_⟩
    intro S37 q30_ y31_ y32_
    replace h := h S37 q30_.1 y31_ y32_
    replace K := fun i uo z => K i uo ⟨S37, q30_.2, y31_, y32_, z⟩
    exact ⟨h, K i0 _ rfl⟩
set_option maxRecDepth 100000 in
theorem vwX11_putLocal {S : MS} {x1 : Int32} {x2 : Int32} {uo : MS} (h : vX11_putLocal S x1 x2 uo) : wX11_putLocal S x1 x2 (fun u => u = uo) := by
  unfold vX11_putLocal at h
  unfold wX11_putLocal
  rcases h with ⟨c, h⟩ | ⟨c, h⟩
  · refine ⟨fun _ => ?_, fun c2 => absurd c c2⟩
    rcases h with ⟨c, h⟩ | ⟨c, h⟩
    · refine ⟨fun _ => ?_, fun c2 => absurd c c2⟩
      intro _
      replace h := h.2
      obtain ⟨q9, z9, h⟩ := h
      refine ⟨_, vwX0_put z9, ?_⟩
      intro q8 d9 _ _
      subst d9
      replace h := h.2.2
      exact h.symm
    · refine ⟨fun c2 => absurd c2 c, fun _ => ?_⟩
      rcases h with ⟨c, h⟩ | ⟨c, h⟩
      · refine ⟨fun _ => ?_, fun c2 => absurd c c2⟩
        intro _
        replace h := h.2
        obtain ⟨q9, z9, h⟩ := h
        refine ⟨_, vwX0_put z9, ?_⟩
        intro q8 d9 _ _
        subst d9
        replace h := h.2.2
        exact h.symm
      · refine ⟨fun c2 => absurd c2 c, fun _ => ?_⟩
        rcases h with ⟨c, h⟩ | ⟨c, h⟩
        · refine ⟨fun _ => ?_, fun c2 => absurd c c2⟩
          intro _
          replace h := h.2
          obtain ⟨q9, z9, h⟩ := h
          refine ⟨_, vwX0_put z9, ?_⟩
          intro q8 d9 _ _
          subst d9
          replace h := h.2.2
          exact h.symm
        · refine ⟨fun c2 => absurd c2 c, fun _ => ?_⟩
          rcases h with ⟨c, h⟩ | ⟨c, h⟩
          · refine ⟨fun _ => ?_, fun c2 => absurd c c2⟩
            intro _
            replace h := h.2
            obtain ⟨q9, z9, h⟩ := h
            refine ⟨_, vwX0_put z9, ?_⟩
            intro q8 d9 _ _
            subst d9
            replace h := h.2.2
            exact h.symm
          · refine ⟨fun c2 => absurd c2 c, fun _ => ?_⟩
            rcases h with ⟨c, h⟩ | ⟨c, h⟩
            · refine ⟨fun _ => ?_, fun c2 => absurd c c2⟩
              intro _
              replace h := h.2
              obtain ⟨q9, z9, h⟩ := h
              refine ⟨_, vwX0_put z9, ?_⟩
              intro q8 d9 _ _
              subst d9
              replace h := h.2.2
              exact h.symm
            · refine ⟨fun c2 => absurd c2 c, fun _ => ?_⟩
              intro _
              replace h := h.2
              obtain ⟨q9, z9, h⟩ := h
              refine ⟨_, vwX0_put z9, ?_⟩
              intro q8 d9 _ _
              subst d9
              replace h := h.2.2
              exact h.symm
  · refine ⟨fun c2 => absurd c2 c, fun _ => ?_⟩
    intro _
    replace h := h.2
    obtain ⟨q9, z9, h⟩ := h
    refine ⟨_, vwX0_put z9, ?_⟩
    intro q8 d9 _ _
    subst d9
    replace h := h.2.2
    intro _
    replace h := h.2
    obtain ⟨q9, z9, h⟩ := h
    refine ⟨_, vwX0_put z9, ?_⟩
    intro q8 d9 _ _
    subst d9
    replace h := h.2.2
    exact h.symm
set_option maxRecDepth 100000 in
theorem vpX11_putLocal {S : MS} {x1 : Int32} {x2 : Int32} {uo : MS} {P : MS → Prop} (h : vX11_putLocal S x1 x2 uo) (w : wX11_putLocal S x1 x2 P) : P uo := by
  unfold vX11_putLocal at h
  unfold wX11_putLocal at w
  rcases h with ⟨c, h⟩ | ⟨c, h⟩
  · replace w := w.1 c
    rcases h with ⟨c, h⟩ | ⟨c, h⟩
    · replace w := w.1 c
      obtain ⟨y1_, h⟩ := h
      replace w := w y1_
      obtain ⟨q9, z9, y2_, y3_, h⟩ := h
      obtain ⟨Q9, w0, w⟩ := w
      replace w := w q9 (vpX0_put z9 w0) y2_ y3_
      rw [h]
      exact w
    · replace w := w.2 c
      rcases h with ⟨c, h⟩ | ⟨c, h⟩
      · replace w := w.1 c
        obtain ⟨y4_, h⟩ := h
        replace w := w y4_
        obtain ⟨q9, z9, y5_, y6_, h⟩ := h
        obtain ⟨Q9, w0, w⟩ := w
        replace w := w q9 (vpX0_put z9 w0) y5_ y6_
        rw [h]
        exact w
      · replace w := w.2 c
        rcases h with ⟨c, h⟩ | ⟨c, h⟩
        · replace w := w.1 c
          obtain ⟨y7_, h⟩ := h
          replace w := w y7_
          obtain ⟨q9, z9, y8_, y9_, h⟩ := h
          obtain ⟨Q9, w0, w⟩ := w
          replace w := w q9 (vpX0_put z9 w0) y8_ y9_
          rw [h]
          exact w
        · replace w := w.2 c
          rcases h with ⟨c, h⟩ | ⟨c, h⟩
          · replace w := w.1 c
            obtain ⟨y10_, h⟩ := h
            replace w := w y10_
            obtain ⟨q9, z9, y11_, y12_, h⟩ := h
            obtain ⟨Q9, w0, w⟩ := w
            replace w := w q9 (vpX0_put z9 w0) y11_ y12_
            rw [h]
            exact w
          · replace w := w.2 c
            rcases h with ⟨c, h⟩ | ⟨c, h⟩
            · replace w := w.1 c
              obtain ⟨y13_, h⟩ := h
              replace w := w y13_
              obtain ⟨q9, z9, y14_, y15_, h⟩ := h
              obtain ⟨Q9, w0, w⟩ := w
              replace w := w q9 (vpX0_put z9 w0) y14_ y15_
              rw [h]
              exact w
            · replace w := w.2 c
              obtain ⟨y16_, h⟩ := h
              replace w := w y16_
              obtain ⟨q9, z9, y17_, y18_, h⟩ := h
              obtain ⟨Q9, w0, w⟩ := w
              replace w := w q9 (vpX0_put z9 w0) y17_ y18_
              rw [h]
              exact w
  · replace w := w.2 c
    obtain ⟨y19_, h⟩ := h
    replace w := w y19_
    obtain ⟨q9, z9, y20_, y21_, h⟩ := h
    obtain ⟨Q9, w0, w⟩ := w
    replace w := w q9 (vpX0_put z9 w0) y20_ y21_
    obtain ⟨y22_, h⟩ := h
    replace w := w y22_
    obtain ⟨q9, z9, y23_, y24_, h⟩ := h
    obtain ⟨Q9, w0, w⟩ := w
    replace w := w q9 (vpX0_put z9 w0) y23_ y24_
    rw [h]
    exact w
def v_X11_putInt_J23 (uo : MS) (U23 : MS) (v23_1 : Int32) (v23_2 : Int32) : Prop := (wfC U23 ∧ (d_X11_isByte U23 (v23_1.toInt64) ∧ (((fX11_isByte U23 (v23_1.toInt64)).toInt = 0 ∧ ((v23_1.toInt = (v23_1.toInt16.toInt32).toInt ∧ (qT U23 28 = 40 ∧ (∃ (S24 : MS), vX0_put U23 28 (17 : Int32) S24 ∧ wfC S24 ∧ shx U23 S24 ∧ (qT S24 28 = 40 ∧ (∃ (S28 : MS), vX0_put2 S24 28 v23_1 S28 ∧ wfC S28 ∧ shx S24 S28 ∧ (uo = S28)))))) ∨ (¬ v23_1.toInt = (v23_1.toInt16.toInt32).toInt ∧ ((256 ≤ v23_2.toInt ∧ (qT U23 28 = 40 ∧ (∃ (S8 : MS), vX0_put U23 28 (19 : Int32) S8 ∧ wfC S8 ∧ shx U23 S8 ∧ (qT S8 28 = 40 ∧ (∃ (S12 : MS), vX0_put2 S8 28 v23_2 S12 ∧ wfC S12 ∧ shx S8 S12 ∧ (uo = S12)))))) ∨ (¬ 256 ≤ v23_2.toInt ∧ (qT U23 28 = 40 ∧ (∃ (S16 : MS), vX0_put U23 28 (18 : Int32) S16 ∧ wfC S16 ∧ shx U23 S16 ∧ (qT S16 28 = 40 ∧ (∃ (S20 : MS), vX0_put S16 28 v23_2 S20 ∧ wfC S20 ∧ shx S16 S20 ∧ (uo = S20)))))))))) ∨ (¬ (fX11_isByte U23 (v23_1.toInt64)).toInt = 0 ∧ (qT U23 28 = 40 ∧ (∃ (S32 : MS), vX0_put U23 28 (16 : Int32) S32 ∧ wfC S32 ∧ shx U23 S32 ∧ (qT S32 28 = 40 ∧ (∃ (S36 : MS), vX0_put S32 28 v23_1 S36 ∧ wfC S36 ∧ shx S32 S36 ∧ (uo = S36)))))))))
def vX11_putInt (S : MS) (x1 : Int32) (x2 : Int32) (uo : MS) : Prop := ((x1.toInt < (-1) ∧ (v_X11_putInt_J23 uo S x1 x2)) ∨ (¬ x1.toInt < (-1) ∧ ((5 < x1.toInt ∧ (v_X11_putInt_J23 uo S x1 x2)) ∨ (¬ 5 < x1.toInt ∧ (qT S 28 = 40 ∧ (∃ (S43 : MS), vX0_put S 28 (x1 + (3 : Int32)) S43 ∧ wfC S43 ∧ shx S S43 ∧ (uo = S43)))))))
set_option maxRecDepth 100000 in
theorem ru_X11_putInt_J23 {ι : Type} {P Q : MS → Prop} {U23 : MS} {v23_1 : Int32} {v23_2 : Int32} (i0 : ι) (K : ∀ (i : ι) (uo : MS), v_X11_putInt_J23 uo U23 v23_1 v23_2 → P uo) (h : w_X11_putInt_J23 Q U23 v23_1 v23_2) : w_X11_putInt_J23 (fun u => Q u ∧ P u) U23 v23_1 v23_2 := by
  unfold w_X11_putInt_J23 at h ⊢
  intro y1_
  replace h := h y1_
  replace K := fun i uo z => K i uo ⟨y1_, z⟩
  obtain ⟨g2_, h⟩ := h
  refine ⟨g2_, ?_⟩
  replace K := fun i uo z => K i uo ⟨g2_, z⟩
  refine ⟨fun c => ?_, fun c => ?_⟩
  · replace h := h.1 c
    replace K := fun i uo z => K i uo (Or.inl ⟨c, z⟩)
    refine ⟨fun c => ?_, fun c => ?_⟩
    · replace h := h.1 c
      replace K := fun i uo z => K i uo (Or.inl ⟨c, z⟩)
      intro y3_
      replace h := h y3_
      replace K := fun i uo z => K i uo ⟨y3_, z⟩
      obtain ⟨Q9, h0, h⟩ := h
      refine ⟨_, ruX0_put h0, ?_⟩
      intro S24 q4_ y5_ y6_
      replace h := h S24 q4_.1 y5_ y6_
      replace K := fun i uo z => K i uo ⟨S24, q4_.2, y5_, y6_, z⟩
      intro y7_
      replace h := h y7_
      replace K := fun i uo z => K i uo ⟨y7_, z⟩
      obtain ⟨Q9, h0, h⟩ := h
      refine ⟨_, ruX0_put2 h0, ?_⟩
      intro S28 q8_ y9_ y10_
      replace h := h S28 q8_.1 y9_ y10_
      replace K := fun i uo z => K i uo ⟨S28, q8_.2, y9_, y10_, z⟩
      exact ⟨h, K i0 _ rfl⟩
    · replace h := h.2 c
      replace K := fun i uo z => K i uo (Or.inr ⟨c, z⟩)
      refine ⟨fun c => ?_, fun c => ?_⟩
      · replace h := h.1 c
        replace K := fun i uo z => K i uo (Or.inl ⟨c, z⟩)
        intro y11_
        replace h := h y11_
        replace K := fun i uo z => K i uo ⟨y11_, z⟩
        obtain ⟨Q9, h0, h⟩ := h
        refine ⟨_, ruX0_put h0, ?_⟩
        intro S8 q12_ y13_ y14_
        replace h := h S8 q12_.1 y13_ y14_
        replace K := fun i uo z => K i uo ⟨S8, q12_.2, y13_, y14_, z⟩
        intro y15_
        replace h := h y15_
        replace K := fun i uo z => K i uo ⟨y15_, z⟩
        obtain ⟨Q9, h0, h⟩ := h
        refine ⟨_, ruX0_put2 h0, ?_⟩
        intro S12 q16_ y17_ y18_
        replace h := h S12 q16_.1 y17_ y18_
        replace K := fun i uo z => K i uo ⟨S12, q16_.2, y17_, y18_, z⟩
        exact ⟨h, K i0 _ rfl⟩
      · replace h := h.2 c
        replace K := fun i uo z => K i uo (Or.inr ⟨c, z⟩)
        intro y19_
        replace h := h y19_
        replace K := fun i uo z => K i uo ⟨y19_, z⟩
        obtain ⟨Q9, h0, h⟩ := h
        refine ⟨_, ruX0_put h0, ?_⟩
        intro S16 q20_ y21_ y22_
        replace h := h S16 q20_.1 y21_ y22_
        replace K := fun i uo z => K i uo ⟨S16, q20_.2, y21_, y22_, z⟩
        intro y23_
        replace h := h y23_
        replace K := fun i uo z => K i uo ⟨y23_, z⟩
        obtain ⟨Q9, h0, h⟩ := h
        refine ⟨_, ruX0_put h0, ?_⟩
        intro S20 q24_ y25_ y26_
        replace h := h S20 q24_.1 y25_ y26_
        replace K := fun i uo z => K i uo ⟨S20, q24_.2, y25_, y26_, z⟩
        exact ⟨h, K i0 _ rfl⟩
  · replace h := h.2 c
    replace K := fun i uo z => K i uo (Or.inr ⟨c, z⟩)
    intro y27_
    replace h := h y27_
    replace K := fun i uo z => K i uo ⟨y27_, z⟩
    obtain ⟨Q9, h0, h⟩ := h
    refine ⟨_, ruX0_put h0, ?_⟩
    intro S32 q28_ y29_ y30_
    replace h := h S32 q28_.1 y29_ y30_
    replace K := fun i uo z => K i uo ⟨S32, q28_.2, y29_, y30_, z⟩
    intro y31_
    replace h := h y31_
    replace K := fun i uo z => K i uo ⟨y31_, z⟩
    obtain ⟨Q9, h0, h⟩ := h
    refine ⟨_, ruX0_put h0, ?_⟩
    intro S36 q32_ y33_ y34_
    replace h := h S36 q32_.1 y33_ y34_
    replace K := fun i uo z => K i uo ⟨S36, q32_.2, y33_, y34_, z⟩
    exact ⟨h, K i0 _ rfl⟩
set_option maxRecDepth 100000 in
theorem ruX11_putInt {S : MS} {x1 : Int32} {x2 : Int32} {Q : MS → Prop} (h : wX11_putInt S x1 x2 Q) : wX11_putInt S x1 x2 (fun u => Q u ∧ vX11_putInt S x1 x2 u) := by
  have i0 : Unit := ()
  have K : ∀ (i : Unit) (uo : MS), vX11_putInt S x1 x2 uo → vX11_putInt S x1 x2 uo := fun _ _ z => z
  unfold wX11_putInt at h ⊢
  refine ⟨fun c => ?_, fun c => ?_⟩
  · replace h := h.1 c
    replace K := fun i uo z => K i uo (Or.inl ⟨c, z⟩)
    exact ru_X11_putInt_J23 i0 K h
  · replace h := h.2 c
    replace K := fun i uo z => K i uo (Or.inr ⟨c, z⟩)
    refine ⟨fun c => ?_, fun c => ?_⟩
    · replace h := h.1 c
      replace K := fun i uo z => K i uo (Or.inl ⟨c, z⟩)
      exact ru_X11_putInt_J23 i0 K h
    · replace h := h.2 c
      replace K := fun i uo z => K i uo (Or.inr ⟨c, z⟩)
      intro y35_
      replace h := h y35_
      replace K := fun i uo z => K i uo ⟨y35_, z⟩
      obtain ⟨Q9, h0, h⟩ := h
      refine ⟨_, ruX0_put h0, ?_⟩
      intro S43 q36_ y37_ y38_
      replace h := h S43 q36_.1 y37_ y38_
      replace K := fun i uo z => K i uo ⟨S43, q36_.2, y37_, y38_, z⟩
      exact ⟨h, K i0 _ rfl⟩
set_option maxRecDepth 100000 in
theorem vw_X11_putInt_J23 {uo : MS} {U23 : MS} {v23_1 : Int32} {v23_2 : Int32} (h : v_X11_putInt_J23 uo U23 v23_1 v23_2) : w_X11_putInt_J23 (fun u => u = uo) U23 v23_1 v23_2 := by
  unfold v_X11_putInt_J23 at h
  unfold w_X11_putInt_J23
  intro _
  replace h := h.2
  obtain ⟨g9, h⟩ := h
  refine ⟨g9, ?_⟩
  rcases h with ⟨c, h⟩ | ⟨c, h⟩
  · refine ⟨fun _ => ?_, fun c2 => absurd c c2⟩
    rcases h with ⟨c, h⟩ | ⟨c, h⟩
    · refine ⟨fun _ => ?_, fun c2 => absurd c c2⟩
      intro _
      replace h := h.2
      obtain ⟨q9, z9, h⟩ := h
      refine ⟨_, vwX0_put z9, ?_⟩
      intro q8 d9 _ _
      subst d9
      replace h := h.2.2
      intro _
      replace h := h.2
      obtain ⟨q9, z9, h⟩ := h
      refine ⟨_, vwX0_put2 z9, ?_⟩
      intro q8 d9 _ _
      subst d9
      replace h := h.2.2
      exact h.symm
    · refine ⟨fun c2 => absurd c2 c, fun _ => ?_⟩
      rcases h with ⟨c, h⟩ | ⟨c, h⟩
      · refine ⟨fun _ => ?_, fun c2 => absurd c c2⟩
        intro _
        replace h := h.2
        obtain ⟨q9, z9, h⟩ := h
        refine ⟨_, vwX0_put z9, ?_⟩
        intro q8 d9 _ _
        subst d9
        replace h := h.2.2
        intro _
        replace h := h.2
        obtain ⟨q9, z9, h⟩ := h
        refine ⟨_, vwX0_put2 z9, ?_⟩
        intro q8 d9 _ _
        subst d9
        replace h := h.2.2
        exact h.symm
      · refine ⟨fun c2 => absurd c2 c, fun _ => ?_⟩
        intro _
        replace h := h.2
        obtain ⟨q9, z9, h⟩ := h
        refine ⟨_, vwX0_put z9, ?_⟩
        intro q8 d9 _ _
        subst d9
        replace h := h.2.2
        intro _
        replace h := h.2
        obtain ⟨q9, z9, h⟩ := h
        refine ⟨_, vwX0_put z9, ?_⟩
        intro q8 d9 _ _
        subst d9
        replace h := h.2.2
        exact h.symm
  · refine ⟨fun c2 => absurd c2 c, fun _ => ?_⟩
    intro _
    replace h := h.2
    obtain ⟨q9, z9, h⟩ := h
    refine ⟨_, vwX0_put z9, ?_⟩
    intro q8 d9 _ _
    subst d9
    replace h := h.2.2
    intro _
    replace h := h.2
    obtain ⟨q9, z9, h⟩ := h
    refine ⟨_, vwX0_put z9, ?_⟩
    intro q8 d9 _ _
    subst d9
    replace h := h.2.2
    exact h.symm
set_option maxRecDepth 100000 in
theorem vp_X11_putInt_J23 {uo : MS} {P : MS → Prop} {U23 : MS} {v23_1 : Int32} {v23_2 : Int32} (h : v_X11_putInt_J23 uo U23 v23_1 v23_2) (w : w_X11_putInt_J23 P U23 v23_1 v23_2) : P uo := by
  unfold v_X11_putInt_J23 at h
  unfold w_X11_putInt_J23 at w
  obtain ⟨y1_, h⟩ := h
  replace w := w y1_
  replace h := h.2
  replace w := w.2
  rcases h with ⟨c, h⟩ | ⟨c, h⟩
  · replace w := w.1 c
    rcases h with ⟨c, h⟩ | ⟨c, h⟩
    · replace w := w.1 c
      obtain ⟨y2_, h⟩ := h
      replace w := w y2_
      obtain ⟨q9, z9, y3_, y4_, h⟩ := h
      obtain ⟨Q9, w0, w⟩ := w
      replace w := w q9 (vpX0_put z9 w0) y3_ y4_
      obtain ⟨y5_, h⟩ := h
      replace w := w y5_
      obtain ⟨q9, z9, y6_, y7_, h⟩ := h
      obtain ⟨Q9, w0, w⟩ := w
      replace w := w q9 (vpX0_put2 z9 w0) y6_ y7_
      rw [h]
      exact w
    · replace w := w.2 c
      rcases h with ⟨c, h⟩ | ⟨c, h⟩
      · replace w := w.1 c
        obtain ⟨y8_, h⟩ := h
        replace w := w y8_
        obtain ⟨q9, z9, y9_, y10_, h⟩ := h
        obtain ⟨Q9, w0, w⟩ := w
        replace w := w q9 (vpX0_put z9 w0) y9_ y10_
        obtain ⟨y11_, h⟩ := h
        replace w := w y11_
        obtain ⟨q9, z9, y12_, y13_, h⟩ := h
        obtain ⟨Q9, w0, w⟩ := w
        replace w := w q9 (vpX0_put2 z9 w0) y12_ y13_
        rw [h]
        exact w
      · replace w := w.2 c
        obtain ⟨y14_, h⟩ := h
        replace w := w y14_
        obtain ⟨q9, z9, y15_, y16_, h⟩ := h
        obtain ⟨Q9, w0, w⟩ := w
        replace w := w q9 (vpX0_put z9 w0) y15_ y16_
        obtain ⟨y17_, h⟩ := h
        replace w := w y17_
        obtain ⟨q9, z9, y18_, y19_, h⟩ := h
        obtain ⟨Q9, w0, w⟩ := w
        replace w := w q9 (vpX0_put z9 w0) y18_ y19_
        rw [h]
        exact w
  · replace w := w.2 c
    obtain ⟨y20_, h⟩ := h
    replace w := w y20_
    obtain ⟨q9, z9, y21_, y22_, h⟩ := h
    obtain ⟨Q9, w0, w⟩ := w
    replace w := w q9 (vpX0_put z9 w0) y21_ y22_
    obtain ⟨y23_, h⟩ := h
    replace w := w y23_
    obtain ⟨q9, z9, y24_, y25_, h⟩ := h
    obtain ⟨Q9, w0, w⟩ := w
    replace w := w q9 (vpX0_put z9 w0) y24_ y25_
    rw [h]
    exact w
set_option maxRecDepth 100000 in
theorem vwX11_putInt {S : MS} {x1 : Int32} {x2 : Int32} {uo : MS} (h : vX11_putInt S x1 x2 uo) : wX11_putInt S x1 x2 (fun u => u = uo) := by
  unfold vX11_putInt at h
  unfold wX11_putInt
  rcases h with ⟨c, h⟩ | ⟨c, h⟩
  · refine ⟨fun _ => ?_, fun c2 => absurd c c2⟩
    exact vw_X11_putInt_J23 h
  · refine ⟨fun c2 => absurd c2 c, fun _ => ?_⟩
    rcases h with ⟨c, h⟩ | ⟨c, h⟩
    · refine ⟨fun _ => ?_, fun c2 => absurd c c2⟩
      exact vw_X11_putInt_J23 h
    · refine ⟨fun c2 => absurd c2 c, fun _ => ?_⟩
      intro _
      replace h := h.2
      obtain ⟨q9, z9, h⟩ := h
      refine ⟨_, vwX0_put z9, ?_⟩
      intro q8 d9 _ _
      subst d9
      replace h := h.2.2
      exact h.symm
set_option maxRecDepth 100000 in
theorem vpX11_putInt {S : MS} {x1 : Int32} {x2 : Int32} {uo : MS} {P : MS → Prop} (h : vX11_putInt S x1 x2 uo) (w : wX11_putInt S x1 x2 P) : P uo := by
  unfold vX11_putInt at h
  unfold wX11_putInt at w
  rcases h with ⟨c, h⟩ | ⟨c, h⟩
  · replace w := w.1 c
    exact vp_X11_putInt_J23 h w
  · replace w := w.2 c
    rcases h with ⟨c, h⟩ | ⟨c, h⟩
    · replace w := w.1 c
      exact vp_X11_putInt_J23 h w
    · replace w := w.2 c
      obtain ⟨y26_, h⟩ := h
      replace w := w y26_
      obtain ⟨q9, z9, y27_, y28_, h⟩ := h
      obtain ⟨Q9, w0, w⟩ := w
      replace w := w q9 (vpX0_put z9 w0) y27_ y28_
      rw [h]
      exact w
def v_X11_putLong_J12 (uo : MS) (U12 : MS) (v12_1 : Int64) : Prop := (wfC U12 ∧ (qT U12 28 = 40 ∧ (∃ (S4 : MS), vX0_put U12 28 ((9 : Int32) + (v12_1.toInt32)) S4 ∧ wfC S4 ∧ shx U12 S4 ∧ (uo = S4))))
def vX11_putLong (S : MS) (y1 : Int64) (x3 : Int32) (uo : MS) : Prop := (((lg_cmp y1 0).toInt = 0 ∧ (v_X11_putLong_J12 uo S y1)) ∨ (¬ (lg_cmp y1 0).toInt = 0 ∧ (((lg_cmp y1 1).toInt = 0 ∧ (v_X11_putLong_J12 uo S y1)) ∨ (¬ (lg_cmp y1 1).toInt = 0 ∧ (qT S 28 = 40 ∧ (∃ (S11 : MS), vX0_put S 28 (20 : Int32) S11 ∧ wfC S11 ∧ shx S S11 ∧ (qT S11 28 = 40 ∧ (∃ (S15 : MS), vX0_put2 S11 28 x3 S15 ∧ wfC S15 ∧ shx S11 S15 ∧ (uo = S15)))))))))
set_option maxRecDepth 100000 in
theorem ru_X11_putLong_J12 {ι : Type} {P Q : MS → Prop} {U12 : MS} {v12_1 : Int64} (i0 : ι) (K : ∀ (i : ι) (uo : MS), v_X11_putLong_J12 uo U12 v12_1 → P uo) (h : w_X11_putLong_J12 Q U12 v12_1) : w_X11_putLong_J12 (fun u => Q u ∧ P u) U12 v12_1 := by
  unfold w_X11_putLong_J12 at h ⊢
  intro y1_
  replace h := h y1_
  replace K := fun i uo z => K i uo ⟨y1_, z⟩
  intro y2_
  replace h := h y2_
  replace K := fun i uo z => K i uo ⟨y2_, z⟩
  obtain ⟨Q9, h0, h⟩ := h
  refine ⟨_, ruX0_put h0, ?_⟩
  intro S4 q3_ y4_ y5_
  replace h := h S4 q3_.1 y4_ y5_
  replace K := fun i uo z => K i uo ⟨S4, q3_.2, y4_, y5_, z⟩
  exact ⟨h, K i0 _ rfl⟩
set_option maxRecDepth 100000 in
theorem ruX11_putLong {S : MS} {y1 : Int64} {x3 : Int32} {Q : MS → Prop} (h : wX11_putLong S y1 x3 Q) : wX11_putLong S y1 x3 (fun u => Q u ∧ vX11_putLong S y1 x3 u) := by
  have i0 : Unit := ()
  have K : ∀ (i : Unit) (uo : MS), vX11_putLong S y1 x3 uo → vX11_putLong S y1 x3 uo := fun _ _ z => z
  unfold wX11_putLong at h ⊢
  refine ⟨fun c => ?_, fun c => ?_⟩
  · replace h := h.1 c
    replace K := fun i uo z => K i uo (Or.inl ⟨c, z⟩)
    exact ru_X11_putLong_J12 i0 K h
  · replace h := h.2 c
    replace K := fun i uo z => K i uo (Or.inr ⟨c, z⟩)
    refine ⟨fun c => ?_, fun c => ?_⟩
    · replace h := h.1 c
      replace K := fun i uo z => K i uo (Or.inl ⟨c, z⟩)
      exact ru_X11_putLong_J12 i0 K h
    · replace h := h.2 c
      replace K := fun i uo z => K i uo (Or.inr ⟨c, z⟩)
      intro y6_
      replace h := h y6_
      replace K := fun i uo z => K i uo ⟨y6_, z⟩
      obtain ⟨Q9, h0, h⟩ := h
      refine ⟨_, ruX0_put h0, ?_⟩
      intro S11 q7_ y8_ y9_
      replace h := h S11 q7_.1 y8_ y9_
      replace K := fun i uo z => K i uo ⟨S11, q7_.2, y8_, y9_, z⟩
      intro y10_
      replace h := h y10_
      replace K := fun i uo z => K i uo ⟨y10_, z⟩
      obtain ⟨Q9, h0, h⟩ := h
      refine ⟨_, ruX0_put2 h0, ?_⟩
      intro S15 q11_ y12_ y13_
      replace h := h S15 q11_.1 y12_ y13_
      replace K := fun i uo z => K i uo ⟨S15, q11_.2, y12_, y13_, z⟩
      exact ⟨h, K i0 _ rfl⟩
set_option maxRecDepth 100000 in
theorem vw_X11_putLong_J12 {uo : MS} {U12 : MS} {v12_1 : Int64} (h : v_X11_putLong_J12 uo U12 v12_1) : w_X11_putLong_J12 (fun u => u = uo) U12 v12_1 := by
  unfold v_X11_putLong_J12 at h
  unfold w_X11_putLong_J12
  intro _
  replace h := h.2
  intro _
  replace h := h.2
  obtain ⟨q9, z9, h⟩ := h
  refine ⟨_, vwX0_put z9, ?_⟩
  intro q8 d9 _ _
  subst d9
  replace h := h.2.2
  exact h.symm
set_option maxRecDepth 100000 in
theorem vp_X11_putLong_J12 {uo : MS} {P : MS → Prop} {U12 : MS} {v12_1 : Int64} (h : v_X11_putLong_J12 uo U12 v12_1) (w : w_X11_putLong_J12 P U12 v12_1) : P uo := by
  unfold v_X11_putLong_J12 at h
  unfold w_X11_putLong_J12 at w
  obtain ⟨y1_, h⟩ := h
  replace w := w y1_
  obtain ⟨y2_, h⟩ := h
  replace w := w y2_
  obtain ⟨q9, z9, y3_, y4_, h⟩ := h
  obtain ⟨Q9, w0, w⟩ := w
  replace w := w q9 (vpX0_put z9 w0) y3_ y4_
  rw [h]
  exact w
set_option maxRecDepth 100000 in
theorem vwX11_putLong {S : MS} {y1 : Int64} {x3 : Int32} {uo : MS} (h : vX11_putLong S y1 x3 uo) : wX11_putLong S y1 x3 (fun u => u = uo) := by
  unfold vX11_putLong at h
  unfold wX11_putLong
  rcases h with ⟨c, h⟩ | ⟨c, h⟩
  · refine ⟨fun _ => ?_, fun c2 => absurd c c2⟩
    exact vw_X11_putLong_J12 h
  · refine ⟨fun c2 => absurd c2 c, fun _ => ?_⟩
    rcases h with ⟨c, h⟩ | ⟨c, h⟩
    · refine ⟨fun _ => ?_, fun c2 => absurd c c2⟩
      exact vw_X11_putLong_J12 h
    · refine ⟨fun c2 => absurd c2 c, fun _ => ?_⟩
      intro _
      replace h := h.2
      obtain ⟨q9, z9, h⟩ := h
      refine ⟨_, vwX0_put z9, ?_⟩
      intro q8 d9 _ _
      subst d9
      replace h := h.2.2
      intro _
      replace h := h.2
      obtain ⟨q9, z9, h⟩ := h
      refine ⟨_, vwX0_put2 z9, ?_⟩
      intro q8 d9 _ _
      subst d9
      replace h := h.2.2
      exact h.symm
set_option maxRecDepth 100000 in
theorem vpX11_putLong {S : MS} {y1 : Int64} {x3 : Int32} {uo : MS} {P : MS → Prop} (h : vX11_putLong S y1 x3 uo) (w : wX11_putLong S y1 x3 P) : P uo := by
  unfold vX11_putLong at h
  unfold wX11_putLong at w
  rcases h with ⟨c, h⟩ | ⟨c, h⟩
  · replace w := w.1 c
    exact vp_X11_putLong_J12 h w
  · replace w := w.2 c
    rcases h with ⟨c, h⟩ | ⟨c, h⟩
    · replace w := w.1 c
      exact vp_X11_putLong_J12 h w
    · replace w := w.2 c
      obtain ⟨y5_, h⟩ := h
      replace w := w y5_
      obtain ⟨q9, z9, y6_, y7_, h⟩ := h
      obtain ⟨Q9, w0, w⟩ := w
      replace w := w q9 (vpX0_put z9 w0) y6_ y7_
      obtain ⟨y8_, h⟩ := h
      replace w := w y8_
      obtain ⟨q9, z9, y9_, y10_, h⟩ := h
      obtain ⟨Q9, w0, w⟩ := w
      replace w := w q9 (vpX0_put2 z9 w0) y9_ y10_
      rw [h]
      exact w
def vX11_putGrow (S : MS) (x1 : Int32) (x2 : Int32) (uo : MS) : Prop := (d_X11_isByte S (x2.toInt64) ∧ (((fX11_isByte S (x2.toInt64)).toInt = 0 ∧ (qT S 28 = 40 ∧ (∃ (S6 : MS), vX0_put S 28 (196 : Int32) S6 ∧ wfC S6 ∧ shx S S6 ∧ (qT S6 28 = 40 ∧ (∃ (S10 : MS), vX0_put S6 28 (132 : Int32) S10 ∧ wfC S10 ∧ shx S6 S10 ∧ (qT S10 28 = 40 ∧ (∃ (S14 : MS), vX0_put2 S10 28 x1 S14 ∧ wfC S14 ∧ shx S10 S14 ∧ (qT S14 28 = 40 ∧ (∃ (S18 : MS), vX0_put2 S14 28 x2 S18 ∧ wfC S18 ∧ shx S14 S18 ∧ (uo = S18)))))))))) ∨ (¬ (fX11_isByte S (x2.toInt64)).toInt = 0 ∧ (qT S 28 = 40 ∧ (∃ (S22 : MS), vX0_put S 28 (132 : Int32) S22 ∧ wfC S22 ∧ shx S S22 ∧ (qT S22 28 = 40 ∧ (∃ (S26 : MS), vX0_put S22 28 x1 S26 ∧ wfC S26 ∧ shx S22 S26 ∧ (qT S26 28 = 40 ∧ (∃ (S30 : MS), vX0_put S26 28 x2 S30 ∧ wfC S30 ∧ shx S26 S30 ∧ (uo = S30))))))))))
set_option maxRecDepth 100000 in
theorem ruX11_putGrow {S : MS} {x1 : Int32} {x2 : Int32} {Q : MS → Prop} (h : wX11_putGrow S x1 x2 Q) : wX11_putGrow S x1 x2 (fun u => Q u ∧ vX11_putGrow S x1 x2 u) := by
  have i0 : Unit := ()
  have K : ∀ (i : Unit) (uo : MS), vX11_putGrow S x1 x2 uo → vX11_putGrow S x1 x2 uo := fun _ _ z => z
  unfold wX11_putGrow at h ⊢
  obtain ⟨g1_, h⟩ := h
  refine ⟨g1_, ?_⟩
  replace K := fun i uo z => K i uo ⟨g1_, z⟩
  refine ⟨fun c => ?_, fun c => ?_⟩
  · replace h := h.1 c
    replace K := fun i uo z => K i uo (Or.inl ⟨c, z⟩)
    intro y2_
    replace h := h y2_
    replace K := fun i uo z => K i uo ⟨y2_, z⟩
    obtain ⟨Q9, h0, h⟩ := h
    refine ⟨_, ruX0_put h0, ?_⟩
    intro S6 q3_ y4_ y5_
    replace h := h S6 q3_.1 y4_ y5_
    replace K := fun i uo z => K i uo ⟨S6, q3_.2, y4_, y5_, z⟩
    intro y6_
    replace h := h y6_
    replace K := fun i uo z => K i uo ⟨y6_, z⟩
    obtain ⟨Q9, h0, h⟩ := h
    refine ⟨_, ruX0_put h0, ?_⟩
    intro S10 q7_ y8_ y9_
    replace h := h S10 q7_.1 y8_ y9_
    replace K := fun i uo z => K i uo ⟨S10, q7_.2, y8_, y9_, z⟩
    intro y10_
    replace h := h y10_
    replace K := fun i uo z => K i uo ⟨y10_, z⟩
    obtain ⟨Q9, h0, h⟩ := h
    refine ⟨_, ruX0_put2 h0, ?_⟩
    intro S14 q11_ y12_ y13_
    replace h := h S14 q11_.1 y12_ y13_
    replace K := fun i uo z => K i uo ⟨S14, q11_.2, y12_, y13_, z⟩
    intro y14_
    replace h := h y14_
    replace K := fun i uo z => K i uo ⟨y14_, z⟩
    obtain ⟨Q9, h0, h⟩ := h
    refine ⟨_, ruX0_put2 h0, ?_⟩
    intro S18 q15_ y16_ y17_
    replace h := h S18 q15_.1 y16_ y17_
    replace K := fun i uo z => K i uo ⟨S18, q15_.2, y16_, y17_, z⟩
    exact ⟨h, K i0 _ rfl⟩
  · replace h := h.2 c
    replace K := fun i uo z => K i uo (Or.inr ⟨c, z⟩)
    intro y18_
    replace h := h y18_
    replace K := fun i uo z => K i uo ⟨y18_, z⟩
    obtain ⟨Q9, h0, h⟩ := h
    refine ⟨_, ruX0_put h0, ?_⟩
    intro S22 q19_ y20_ y21_
    replace h := h S22 q19_.1 y20_ y21_
    replace K := fun i uo z => K i uo ⟨S22, q19_.2, y20_, y21_, z⟩
    intro y22_
    replace h := h y22_
    replace K := fun i uo z => K i uo ⟨y22_, z⟩
    obtain ⟨Q9, h0, h⟩ := h
    refine ⟨_, ruX0_put h0, ?_⟩
    intro S26 q23_ y24_ y25_
    replace h := h S26 q23_.1 y24_ y25_
    replace K := fun i uo z => K i uo ⟨S26, q23_.2, y24_, y25_, z⟩
    intro y26_
    replace h := h y26_
    replace K := fun i uo z => K i uo ⟨y26_, z⟩
    obtain ⟨Q9, h0, h⟩ := h
    refine ⟨_, ruX0_put h0, ?_⟩
    intro S30 q27_ y28_ y29_
    replace h := h S30 q27_.1 y28_ y29_
    replace K := fun i uo z => K i uo ⟨S30, q27_.2, y28_, y29_, z⟩
    exact ⟨h, K i0 _ rfl⟩
set_option maxRecDepth 100000 in
theorem vwX11_putGrow {S : MS} {x1 : Int32} {x2 : Int32} {uo : MS} (h : vX11_putGrow S x1 x2 uo) : wX11_putGrow S x1 x2 (fun u => u = uo) := by
  unfold vX11_putGrow at h
  unfold wX11_putGrow
  obtain ⟨g9, h⟩ := h
  refine ⟨g9, ?_⟩
  rcases h with ⟨c, h⟩ | ⟨c, h⟩
  · refine ⟨fun _ => ?_, fun c2 => absurd c c2⟩
    intro _
    replace h := h.2
    obtain ⟨q9, z9, h⟩ := h
    refine ⟨_, vwX0_put z9, ?_⟩
    intro q8 d9 _ _
    subst d9
    replace h := h.2.2
    intro _
    replace h := h.2
    obtain ⟨q9, z9, h⟩ := h
    refine ⟨_, vwX0_put z9, ?_⟩
    intro q8 d9 _ _
    subst d9
    replace h := h.2.2
    intro _
    replace h := h.2
    obtain ⟨q9, z9, h⟩ := h
    refine ⟨_, vwX0_put2 z9, ?_⟩
    intro q8 d9 _ _
    subst d9
    replace h := h.2.2
    intro _
    replace h := h.2
    obtain ⟨q9, z9, h⟩ := h
    refine ⟨_, vwX0_put2 z9, ?_⟩
    intro q8 d9 _ _
    subst d9
    replace h := h.2.2
    exact h.symm
  · refine ⟨fun c2 => absurd c2 c, fun _ => ?_⟩
    intro _
    replace h := h.2
    obtain ⟨q9, z9, h⟩ := h
    refine ⟨_, vwX0_put z9, ?_⟩
    intro q8 d9 _ _
    subst d9
    replace h := h.2.2
    intro _
    replace h := h.2
    obtain ⟨q9, z9, h⟩ := h
    refine ⟨_, vwX0_put z9, ?_⟩
    intro q8 d9 _ _
    subst d9
    replace h := h.2.2
    intro _
    replace h := h.2
    obtain ⟨q9, z9, h⟩ := h
    refine ⟨_, vwX0_put z9, ?_⟩
    intro q8 d9 _ _
    subst d9
    replace h := h.2.2
    exact h.symm
set_option maxRecDepth 100000 in
theorem vpX11_putGrow {S : MS} {x1 : Int32} {x2 : Int32} {uo : MS} {P : MS → Prop} (h : vX11_putGrow S x1 x2 uo) (w : wX11_putGrow S x1 x2 P) : P uo := by
  unfold vX11_putGrow at h
  unfold wX11_putGrow at w
  replace h := h.2
  replace w := w.2
  rcases h with ⟨c, h⟩ | ⟨c, h⟩
  · replace w := w.1 c
    obtain ⟨y1_, h⟩ := h
    replace w := w y1_
    obtain ⟨q9, z9, y2_, y3_, h⟩ := h
    obtain ⟨Q9, w0, w⟩ := w
    replace w := w q9 (vpX0_put z9 w0) y2_ y3_
    obtain ⟨y4_, h⟩ := h
    replace w := w y4_
    obtain ⟨q9, z9, y5_, y6_, h⟩ := h
    obtain ⟨Q9, w0, w⟩ := w
    replace w := w q9 (vpX0_put z9 w0) y5_ y6_
    obtain ⟨y7_, h⟩ := h
    replace w := w y7_
    obtain ⟨q9, z9, y8_, y9_, h⟩ := h
    obtain ⟨Q9, w0, w⟩ := w
    replace w := w q9 (vpX0_put2 z9 w0) y8_ y9_
    obtain ⟨y10_, h⟩ := h
    replace w := w y10_
    obtain ⟨q9, z9, y11_, y12_, h⟩ := h
    obtain ⟨Q9, w0, w⟩ := w
    replace w := w q9 (vpX0_put2 z9 w0) y11_ y12_
    rw [h]
    exact w
  · replace w := w.2 c
    obtain ⟨y13_, h⟩ := h
    replace w := w y13_
    obtain ⟨q9, z9, y14_, y15_, h⟩ := h
    obtain ⟨Q9, w0, w⟩ := w
    replace w := w q9 (vpX0_put z9 w0) y14_ y15_
    obtain ⟨y16_, h⟩ := h
    replace w := w y16_
    obtain ⟨q9, z9, y17_, y18_, h⟩ := h
    obtain ⟨Q9, w0, w⟩ := w
    replace w := w q9 (vpX0_put z9 w0) y17_ y18_
    obtain ⟨y19_, h⟩ := h
    replace w := w y19_
    obtain ⟨q9, z9, y20_, y21_, h⟩ := h
    obtain ⟨Q9, w0, w⟩ := w
    replace w := w q9 (vpX0_put z9 w0) y20_ y21_
    rw [h]
    exact w
def v_X11_putSwitch_J215 (uo : MS) (k180 : MS → Int32 → Int32 → Int32 → Int32 → Int32 → Prop) (U215 : MS) (v215_1 : Int32) (v215_3 : Int32) (v215_4 : Int32) (v215_5 : Int32) (v215_6 : Int32) : Prop := (wfC U215 ∧ (v215_5 = 0 ∨ v215_5 = 1) ∧ ((qR U215 25 15 = some (qO U215 25 15)) ∧ (d_X8_targetAt U215 (qO U215 25 15) v215_1 v215_6 ∧ (∃ a57 : Int32, a57 = (fX8_targetAt U215 (qO U215 25 15) v215_1 v215_6) ∧ (d_X11_offsetOf U215 a57 ∧ (∃ a61 : Int32, a61 = (fX11_offsetOf U215 a57) ∧ (d_X11_offsetOf U215 v215_1 ∧ (∃ a65 : Int32, a65 = (fX11_offsetOf U215 v215_1) ∧ (qT U215 28 = 40 ∧ (∃ (S68 : MS), vX0_put4 U215 28 (a61 - a65) S68 ∧ wfC S68 ∧ shx U215 S68 ∧ (∃ a71 : Int32, a71 = (v215_6 + Int32.ofInt 1) ∧ (k180 S68 v215_1 v215_3 v215_4 v215_5 a71))))))))))))
def v_X11_putSwitch_L180 (uo : MS) : Nat → MS → Int32 → Int32 → Int32 → Int32 → Int32 → Prop
  | 0, _, _, _, _, _, _ => False
  | n180 + 1, U180, v180_1, v180_3, v180_4, v180_5, v180_6 => (wfC U180 ∧ (v180_5 = 0 ∨ v180_5 = 1) ∧ ((v180_4.toInt < v180_6.toInt ∧ (uo = U180)) ∨ (¬ v180_4.toInt < v180_6.toInt ∧ ((v180_5.toInt = 0 ∧ ((qR U180 25 15 = some (qO U180 25 15)) ∧ (d_X8_tableAt U180 (qO U180 25 15) (((v180_3 + (2 : Int32)) + v180_4) + v180_6) ∧ (∃ a81 : Int32, a81 = (fX8_tableAt U180 (qO U180 25 15) (((v180_3 + (2 : Int32)) + v180_4) + v180_6)) ∧ (qT U180 28 = 40 ∧ (∃ (S83 : MS), vX0_put4 U180 28 a81 S83 ∧ wfC S83 ∧ shx U180 S83 ∧ (v_X11_putSwitch_J215 uo (v_X11_putSwitch_L180 uo n180) S83 v180_1 v180_3 v180_4 v180_5 v180_6))))))) ∨ (¬ v180_5.toInt = 0 ∧ (v_X11_putSwitch_J215 uo (v_X11_putSwitch_L180 uo n180) U180 v180_1 v180_3 v180_4 v180_5 v180_6))))))
def v_X11_putSwitch_J177 (uo : MS) (U177 : MS) (v177_1 : Int32) (v177_3 : Int32) (v177_4 : Int32) (v177_5 : Int32) : Prop := (wfC U177 ∧ (v177_5 = 0 ∨ v177_5 = 1) ∧ (∃ n, v_X11_putSwitch_L180 uo n U177 v177_1 v177_3 v177_4 v177_5 1))
def v_X11_putSwitch_J95 (uo : MS) (U95 : MS) (v95_1 : Int32) (v95_3 : Int32) (v95_4 : Int32) (v95_5 : Int32) : Prop := (wfC U95 ∧ (v95_5 = 0 ∨ v95_5 = 1) ∧ ((qR U95 25 15 = some (qO U95 25 15)) ∧ (d_X8_targetAt U95 (qO U95 25 15) v95_1 (0 : Int32) ∧ (∃ a37 : Int32, a37 = (fX8_targetAt U95 (qO U95 25 15) v95_1 (0 : Int32)) ∧ (d_X11_offsetOf U95 a37 ∧ (∃ a41 : Int32, a41 = (fX11_offsetOf U95 a37) ∧ (d_X11_offsetOf U95 v95_1 ∧ (∃ a45 : Int32, a45 = (fX11_offsetOf U95 v95_1) ∧ (qT U95 28 = 40 ∧ (∃ (S48 : MS), vX0_put4 U95 28 (a41 - a45) S48 ∧ wfC S48 ∧ shx U95 S48 ∧ ((v95_5.toInt = 0 ∧ (qT S48 28 = 40 ∧ (∃ (S88 : MS), vX0_put4 S48 28 v95_4 S88 ∧ wfC S88 ∧ shx S48 S88 ∧ (v_X11_putSwitch_J177 uo S88 v95_1 v95_3 v95_4 v95_5)))) ∨ (¬ v95_5.toInt = 0 ∧ ((qR S48 25 15 = some (qO S48 25 15)) ∧ (d_X8_tableAt S48 (qO S48 25 15) (v95_3 + (1 : Int32)) ∧ (∃ a97 : Int32, a97 = (fX8_tableAt S48 (qO S48 25 15) (v95_3 + (1 : Int32))) ∧ (qT S48 28 = 40 ∧ (∃ (S99 : MS), vX0_put4 S48 28 a97 S99 ∧ wfC S99 ∧ shx S48 S99 ∧ ((qR S99 25 15 = some (qO S99 25 15)) ∧ (d_X8_tableAt S99 (qO S99 25 15) (v95_3 + (1 : Int32)) ∧ (∃ a108 : Int32, a108 = (fX8_tableAt S99 (qO S99 25 15) (v95_3 + (1 : Int32))) ∧ (qT S99 28 = 40 ∧ (∃ (S112 : MS), vX0_put4 S99 28 ((a108 + v95_4) - (1 : Int32)) S112 ∧ wfC S112 ∧ shx S99 S112 ∧ (v_X11_putSwitch_J177 uo S112 v95_1 v95_3 v95_4 v95_5)))))))))))))))))))))))
def v_X11_putSwitch_L61 (uo : MS) : Nat → MS → Int32 → Int32 → Int32 → Int32 → Int32 → Int32 → Prop
  | 0, _, _, _, _, _, _, _ => False
  | n61 + 1, U61, v61_1, v61_2, v61_3, v61_4, v61_5, v61_6 => (wfC U61 ∧ (v61_5 = 0 ∨ v61_5 = 1) ∧ ((3 ≤ v61_6.toInt ∧ (v_X11_putSwitch_J95 uo U61 v61_1 v61_3 v61_4 v61_5)) ∨ (¬ 3 ≤ v61_6.toInt ∧ (((((qI U61 28 1) - v61_2) &&& (3 : Int32)).toInt = 0 ∧ (v_X11_putSwitch_J95 uo U61 v61_1 v61_3 v61_4 v61_5)) ∨ (¬ (((qI U61 28 1) - v61_2) &&& (3 : Int32)).toInt = 0 ∧ (qT U61 28 = 40 ∧ (∃ (S120 : MS), vX0_put U61 28 (0 : Int32) S120 ∧ wfC S120 ∧ shx U61 S120 ∧ (∃ a123 : Int32, a123 = (v61_6 + Int32.ofInt 1) ∧ ((v_X11_putSwitch_L61 uo n61) S120 v61_1 v61_2 v61_3 v61_4 v61_5 a123)))))))))
def v_X11_putSwitch_J41 (uo : MS) (U41 : MS) (t41_0 : Int32) (v41_1 : Int32) (v41_2 : Int32) (v41_3 : Int32) (v41_4 : Int32) : Prop := (wfC U41 ∧ (t41_0 = 0 ∨ t41_0 = 1) ∧ ((qR U41 25 15 = some (qO U41 25 15)) ∧ (d_X8_opAt U41 (qO U41 25 15) v41_1 ∧ (∃ a27 : Int32, a27 = (fX8_opAt U41 (qO U41 25 15) v41_1) ∧ (qT U41 28 = 40 ∧ (∃ (S29 : MS), vX0_put U41 28 a27 S29 ∧ wfC S29 ∧ shx U41 S29 ∧ (∃ n, v_X11_putSwitch_L61 uo n S29 v41_1 v41_2 v41_3 v41_4 t41_0 0)))))))
def vX11_putSwitch (S : MS) (x1 : Int32) (x2 : Int32) (uo : MS) : Prop := ((qR S 25 15 = some (qO S 25 15)) ∧ (d_X8_argAt S (qO S 25 15) x1 ∧ (∃ a6 : Int64, a6 = (fX8_argAt S (qO S 25 15) x1) ∧ (∃ a7 : Int32, a7 = (a6.toInt32) ∧ ((qR S 25 15 = some (qO S 25 15)) ∧ (d_X8_targetCount S (qO S 25 15) x1 ∧ (∃ a13 : Int32, a13 = (fX8_targetCount S (qO S 25 15) x1) ∧ (∃ a15 : Int32, a15 = (a13 - (1 : Int32)) ∧ ((qR S 25 15 = some (qO S 25 15)) ∧ (d_X8_opAt S (qO S 25 15) x1 ∧ (∃ a21 : Int32, a21 = (fX8_opAt S (qO S 25 15) x1) ∧ ((a21.toInt = 170 ∧ (v_X11_putSwitch_J41 uo S 1 x1 x2 a7 a15)) ∨ (¬ a21.toInt = 170 ∧ (v_X11_putSwitch_J41 uo S 0 x1 x2 a7 a15))))))))))))))
set_option maxRecDepth 100000 in
theorem ru_X11_putSwitch_J215 {ι : Type} {P Q : MS → Prop} {k180 k180' : MS → Int32 → Int32 → Int32 → Int32 → Int32 → Prop} {k180v : ι → MS → MS → Int32 → Int32 → Int32 → Int32 → Int32 → Prop} {U215 : MS} {v215_1 : Int32} {v215_3 : Int32} {v215_4 : Int32} {v215_5 : Int32} {v215_6 : Int32} (i0 : ι) (hk180 : ∀ (u : MS) (z0 : Int32) (z1 : Int32) (z2 : Int32) (z3 : Int32) (z4 : Int32), k180 u z0 z1 z2 z3 z4 → (∀ (i : ι) (uo : MS), k180v i uo u z0 z1 z2 z3 z4 → P uo) → k180' u z0 z1 z2 z3 z4) (K : ∀ (i : ι) (uo : MS), v_X11_putSwitch_J215 uo (k180v i uo) U215 v215_1 v215_3 v215_4 v215_5 v215_6 → P uo) (h : w_X11_putSwitch_J215 Q k180 U215 v215_1 v215_3 v215_4 v215_5 v215_6) : w_X11_putSwitch_J215 (fun u => Q u ∧ P u) k180' U215 v215_1 v215_3 v215_4 v215_5 v215_6 := by
  unfold w_X11_putSwitch_J215 at h ⊢
  intro y1_ y2_
  replace h := h y1_ y2_
  replace K := fun i uo z => K i uo ⟨y1_, y2_, z⟩
  obtain ⟨g3_, h⟩ := h
  refine ⟨g3_, ?_⟩
  replace K := fun i uo z => K i uo ⟨g3_, z⟩
  obtain ⟨g4_, h⟩ := h
  refine ⟨g4_, ?_⟩
  replace K := fun i uo z => K i uo ⟨g4_, z⟩
  intro a57 ea57 
  replace h := h a57 ea57 
  replace K := fun i uo z => K i uo ⟨a57, ea57, z⟩
  obtain ⟨g5_, h⟩ := h
  refine ⟨g5_, ?_⟩
  replace K := fun i uo z => K i uo ⟨g5_, z⟩
  intro a61 ea61 
  replace h := h a61 ea61 
  replace K := fun i uo z => K i uo ⟨a61, ea61, z⟩
  obtain ⟨g6_, h⟩ := h
  refine ⟨g6_, ?_⟩
  replace K := fun i uo z => K i uo ⟨g6_, z⟩
  intro a65 ea65 
  replace h := h a65 ea65 
  replace K := fun i uo z => K i uo ⟨a65, ea65, z⟩
  intro y7_
  replace h := h y7_
  replace K := fun i uo z => K i uo ⟨y7_, z⟩
  obtain ⟨Q9, h0, h⟩ := h
  refine ⟨_, ruX0_put4 h0, ?_⟩
  intro S68 q8_ y9_ y10_
  replace h := h S68 q8_.1 y9_ y10_
  replace K := fun i uo z => K i uo ⟨S68, q8_.2, y9_, y10_, z⟩
  intro a71 ea71 
  replace h := h a71 ea71 
  replace K := fun i uo z => K i uo ⟨a71, ea71, z⟩
  exact hk180 _ _ _ _ _ _ h K
set_option maxRecDepth 100000 in
theorem ru_X11_putSwitch_L180 {ι : Type} {P Q : MS → Prop} : ∀ (n : Nat) {U180 : MS} {v180_1 : Int32} {v180_3 : Int32} {v180_4 : Int32} {v180_5 : Int32} {v180_6 : Int32} (i0 : ι), (∀ (i : ι) (uo : MS), (∃ n8, v_X11_putSwitch_L180 uo n8 U180 v180_1 v180_3 v180_4 v180_5 v180_6) → P uo) → w_X11_putSwitch_L180 Q n U180 v180_1 v180_3 v180_4 v180_5 v180_6 → w_X11_putSwitch_L180 (fun u => Q u ∧ P u) n U180 v180_1 v180_3 v180_4 v180_5 v180_6 := by
  intro n
  induction n with
  | zero => intro U180 v180_1 v180_3 v180_4 v180_5 v180_6 i0 K h; unfold w_X11_putSwitch_L180 at h; exact h.elim
  | succ n ih =>
    intro U180 v180_1 v180_3 v180_4 v180_5 v180_6 i0 K h
    unfold w_X11_putSwitch_L180 at h ⊢
    replace K := fun (i : ι × Nat) uo (z : v_X11_putSwitch_L180 uo (i.2 + 1) U180 v180_1 v180_3 v180_4 v180_5 v180_6) => K i.1 uo ⟨i.2 + 1, z⟩
    have i00 := i0
    replace i0 : ι × Nat := (i0, 0)
    intro y11_ y12_
    replace h := h y11_ y12_
    replace K := fun i uo z => K i uo ⟨y11_, y12_, z⟩
    refine ⟨fun c => ?_, fun c => ?_⟩
    · replace h := h.1 c
      replace K := fun i uo z => K i uo (Or.inl ⟨c, z⟩)
      exact ⟨h, K i0 _ rfl⟩
    · replace h := h.2 c
      replace K := fun i uo z => K i uo (Or.inr ⟨c, z⟩)
      refine ⟨fun c => ?_, fun c => ?_⟩
      · replace h := h.1 c
        replace K := fun i uo z => K i uo (Or.inl ⟨c, z⟩)
        obtain ⟨g13_, h⟩ := h
        refine ⟨g13_, ?_⟩
        replace K := fun i uo z => K i uo ⟨g13_, z⟩
        obtain ⟨g14_, h⟩ := h
        refine ⟨g14_, ?_⟩
        replace K := fun i uo z => K i uo ⟨g14_, z⟩
        intro a81 ea81 
        replace h := h a81 ea81 
        replace K := fun i uo z => K i uo ⟨a81, ea81, z⟩
        intro y15_
        replace h := h y15_
        replace K := fun i uo z => K i uo ⟨y15_, z⟩
        obtain ⟨Q9, h0, h⟩ := h
        refine ⟨_, ruX0_put4 h0, ?_⟩
        intro S83 q16_ y17_ y18_
        replace h := h S83 q16_.1 y17_ y18_
        replace K := fun i uo z => K i uo ⟨S83, q16_.2, y17_, y18_, z⟩
        exact ru_X11_putSwitch_J215 i0 (fun _ _ _ _ _ _ h K => ih i00 (fun i uo ⟨n8, z⟩ => K (i, n8) uo z) h) K h
      · replace h := h.2 c
        replace K := fun i uo z => K i uo (Or.inr ⟨c, z⟩)
        exact ru_X11_putSwitch_J215 i0 (fun _ _ _ _ _ _ h K => ih i00 (fun i uo ⟨n8, z⟩ => K (i, n8) uo z) h) K h
set_option maxRecDepth 100000 in
theorem ru_X11_putSwitch_J177 {ι : Type} {P Q : MS → Prop} {U177 : MS} {v177_1 : Int32} {v177_3 : Int32} {v177_4 : Int32} {v177_5 : Int32} (i0 : ι) (K : ∀ (i : ι) (uo : MS), v_X11_putSwitch_J177 uo U177 v177_1 v177_3 v177_4 v177_5 → P uo) (h : w_X11_putSwitch_J177 Q U177 v177_1 v177_3 v177_4 v177_5) : w_X11_putSwitch_J177 (fun u => Q u ∧ P u) U177 v177_1 v177_3 v177_4 v177_5 := by
  unfold w_X11_putSwitch_J177 at h ⊢
  intro y19_ y20_
  replace h := h y19_ y20_
  replace K := fun i uo z => K i uo ⟨y19_, y20_, z⟩
  obtain ⟨n9, h⟩ := h
  exact ⟨n9, ru_X11_putSwitch_L180 n9 i0 K h⟩
set_option maxRecDepth 100000 in
theorem ru_X11_putSwitch_J95 {ι : Type} {P Q : MS → Prop} {U95 : MS} {v95_1 : Int32} {v95_3 : Int32} {v95_4 : Int32} {v95_5 : Int32} (i0 : ι) (K : ∀ (i : ι) (uo : MS), v_X11_putSwitch_J95 uo U95 v95_1 v95_3 v95_4 v95_5 → P uo) (h : w_X11_putSwitch_J95 Q U95 v95_1 v95_3 v95_4 v95_5) : w_X11_putSwitch_J95 (fun u => Q u ∧ P u) U95 v95_1 v95_3 v95_4 v95_5 := by
  unfold w_X11_putSwitch_J95 at h ⊢
  intro y21_ y22_
  replace h := h y21_ y22_
  replace K := fun i uo z => K i uo ⟨y21_, y22_, z⟩
  obtain ⟨g23_, h⟩ := h
  refine ⟨g23_, ?_⟩
  replace K := fun i uo z => K i uo ⟨g23_, z⟩
  obtain ⟨g24_, h⟩ := h
  refine ⟨g24_, ?_⟩
  replace K := fun i uo z => K i uo ⟨g24_, z⟩
  intro a37 ea37 
  replace h := h a37 ea37 
  replace K := fun i uo z => K i uo ⟨a37, ea37, z⟩
  obtain ⟨g25_, h⟩ := h
  refine ⟨g25_, ?_⟩
  replace K := fun i uo z => K i uo ⟨g25_, z⟩
  intro a41 ea41 
  replace h := h a41 ea41 
  replace K := fun i uo z => K i uo ⟨a41, ea41, z⟩
  obtain ⟨g26_, h⟩ := h
  refine ⟨g26_, ?_⟩
  replace K := fun i uo z => K i uo ⟨g26_, z⟩
  intro a45 ea45 
  replace h := h a45 ea45 
  replace K := fun i uo z => K i uo ⟨a45, ea45, z⟩
  intro y27_
  replace h := h y27_
  replace K := fun i uo z => K i uo ⟨y27_, z⟩
  obtain ⟨Q9, h0, h⟩ := h
  refine ⟨_, ruX0_put4 h0, ?_⟩
  intro S48 q28_ y29_ y30_
  replace h := h S48 q28_.1 y29_ y30_
  replace K := fun i uo z => K i uo ⟨S48, q28_.2, y29_, y30_, z⟩
  refine ⟨fun c => ?_, fun c => ?_⟩
  · replace h := h.1 c
    replace K := fun i uo z => K i uo (Or.inl ⟨c, z⟩)
    intro y31_
    replace h := h y31_
    replace K := fun i uo z => K i uo ⟨y31_, z⟩
    obtain ⟨Q9, h0, h⟩ := h
    refine ⟨_, ruX0_put4 h0, ?_⟩
    intro S88 q32_ y33_ y34_
    replace h := h S88 q32_.1 y33_ y34_
    replace K := fun i uo z => K i uo ⟨S88, q32_.2, y33_, y34_, z⟩
    exact ru_X11_putSwitch_J177 i0 K h
  · replace h := h.2 c
    replace K := fun i uo z => K i uo (Or.inr ⟨c, z⟩)
    obtain ⟨g35_, h⟩ := h
    refine ⟨g35_, ?_⟩
    replace K := fun i uo z => K i uo ⟨g35_, z⟩
    obtain ⟨g36_, h⟩ := h
    refine ⟨g36_, ?_⟩
    replace K := fun i uo z => K i uo ⟨g36_, z⟩
    intro a97 ea97 
    replace h := h a97 ea97 
    replace K := fun i uo z => K i uo ⟨a97, ea97, z⟩
    intro y37_
    replace h := h y37_
    replace K := fun i uo z => K i uo ⟨y37_, z⟩
    obtain ⟨Q9, h0, h⟩ := h
    refine ⟨_, ruX0_put4 h0, ?_⟩
    intro S99 q38_ y39_ y40_
    replace h := h S99 q38_.1 y39_ y40_
    replace K := fun i uo z => K i uo ⟨S99, q38_.2, y39_, y40_, z⟩
    obtain ⟨g41_, h⟩ := h
    refine ⟨g41_, ?_⟩
    replace K := fun i uo z => K i uo ⟨g41_, z⟩
    obtain ⟨g42_, h⟩ := h
    refine ⟨g42_, ?_⟩
    replace K := fun i uo z => K i uo ⟨g42_, z⟩
    intro a108 ea108 
    replace h := h a108 ea108 
    replace K := fun i uo z => K i uo ⟨a108, ea108, z⟩
    intro y43_
    replace h := h y43_
    replace K := fun i uo z => K i uo ⟨y43_, z⟩
    obtain ⟨Q9, h0, h⟩ := h
    refine ⟨_, ruX0_put4 h0, ?_⟩
    intro S112 q44_ y45_ y46_
    replace h := h S112 q44_.1 y45_ y46_
    replace K := fun i uo z => K i uo ⟨S112, q44_.2, y45_, y46_, z⟩
    exact ru_X11_putSwitch_J177 i0 K h
set_option maxRecDepth 100000 in
theorem ru_X11_putSwitch_L61 {ι : Type} {P Q : MS → Prop} : ∀ (n : Nat) {U61 : MS} {v61_1 : Int32} {v61_2 : Int32} {v61_3 : Int32} {v61_4 : Int32} {v61_5 : Int32} {v61_6 : Int32} (i0 : ι), (∀ (i : ι) (uo : MS), (∃ n8, v_X11_putSwitch_L61 uo n8 U61 v61_1 v61_2 v61_3 v61_4 v61_5 v61_6) → P uo) → w_X11_putSwitch_L61 Q n U61 v61_1 v61_2 v61_3 v61_4 v61_5 v61_6 → w_X11_putSwitch_L61 (fun u => Q u ∧ P u) n U61 v61_1 v61_2 v61_3 v61_4 v61_5 v61_6 := by
  intro n
  induction n with
  | zero => intro U61 v61_1 v61_2 v61_3 v61_4 v61_5 v61_6 i0 K h; unfold w_X11_putSwitch_L61 at h; exact h.elim
  | succ n ih =>
    intro U61 v61_1 v61_2 v61_3 v61_4 v61_5 v61_6 i0 K h
    unfold w_X11_putSwitch_L61 at h ⊢
    replace K := fun (i : ι × Nat) uo (z : v_X11_putSwitch_L61 uo (i.2 + 1) U61 v61_1 v61_2 v61_3 v61_4 v61_5 v61_6) => K i.1 uo ⟨i.2 + 1, z⟩
    have i00 := i0
    replace i0 : ι × Nat := (i0, 0)
    intro y47_ y48_
    replace h := h y47_ y48_
    replace K := fun i uo z => K i uo ⟨y47_, y48_, z⟩
    refine ⟨fun c => ?_, fun c => ?_⟩
    · replace h := h.1 c
      replace K := fun i uo z => K i uo (Or.inl ⟨c, z⟩)
      exact ru_X11_putSwitch_J95 i0 K h
    · replace h := h.2 c
      replace K := fun i uo z => K i uo (Or.inr ⟨c, z⟩)
      refine ⟨fun c => ?_, fun c => ?_⟩
      · replace h := h.1 c
        replace K := fun i uo z => K i uo (Or.inl ⟨c, z⟩)
        exact ru_X11_putSwitch_J95 i0 K h
      · replace h := h.2 c
        replace K := fun i uo z => K i uo (Or.inr ⟨c, z⟩)
        intro y49_
        replace h := h y49_
        replace K := fun i uo z => K i uo ⟨y49_, z⟩
        obtain ⟨Q9, h0, h⟩ := h
        refine ⟨_, ruX0_put h0, ?_⟩
        intro S120 q50_ y51_ y52_
        replace h := h S120 q50_.1 y51_ y52_
        replace K := fun i uo z => K i uo ⟨S120, q50_.2, y51_, y52_, z⟩
        intro a123 ea123 
        replace h := h a123 ea123 
        replace K := fun i uo z => K i uo ⟨a123, ea123, z⟩
        exact ih i00 (fun i uo ⟨n8, z⟩ => K (i, n8) uo z) h
set_option maxRecDepth 100000 in
theorem ru_X11_putSwitch_J41 {ι : Type} {P Q : MS → Prop} {U41 : MS} {t41_0 : Int32} {v41_1 : Int32} {v41_2 : Int32} {v41_3 : Int32} {v41_4 : Int32} (i0 : ι) (K : ∀ (i : ι) (uo : MS), v_X11_putSwitch_J41 uo U41 t41_0 v41_1 v41_2 v41_3 v41_4 → P uo) (h : w_X11_putSwitch_J41 Q U41 t41_0 v41_1 v41_2 v41_3 v41_4) : w_X11_putSwitch_J41 (fun u => Q u ∧ P u) U41 t41_0 v41_1 v41_2 v41_3 v41_4 := by
  unfold w_X11_putSwitch_J41 at h ⊢
  intro y53_ y54_
  replace h := h y53_ y54_
  replace K := fun i uo z => K i uo ⟨y53_, y54_, z⟩
  obtain ⟨g55_, h⟩ := h
  refine ⟨g55_, ?_⟩
  replace K := fun i uo z => K i uo ⟨g55_, z⟩
  obtain ⟨g56_, h⟩ := h
  refine ⟨g56_, ?_⟩
  replace K := fun i uo z => K i uo ⟨g56_, z⟩
  intro a27 ea27 
  replace h := h a27 ea27 
  replace K := fun i uo z => K i uo ⟨a27, ea27, z⟩
  intro y57_
  replace h := h y57_
  replace K := fun i uo z => K i uo ⟨y57_, z⟩
  obtain ⟨Q9, h0, h⟩ := h
  refine ⟨_, ruX0_put h0, ?_⟩
  intro S29 q58_ y59_ y60_
  replace h := h S29 q58_.1 y59_ y60_
  replace K := fun i uo z => K i uo ⟨S29, q58_.2, y59_, y60_, z⟩
  obtain ⟨n9, h⟩ := h
  exact ⟨n9, ru_X11_putSwitch_L61 n9 i0 K h⟩
set_option maxRecDepth 100000 in
theorem ruX11_putSwitch {S : MS} {x1 : Int32} {x2 : Int32} {Q : MS → Prop} (h : wX11_putSwitch S x1 x2 Q) : wX11_putSwitch S x1 x2 (fun u => Q u ∧ vX11_putSwitch S x1 x2 u) := by
  have i0 : Unit := ()
  have K : ∀ (i : Unit) (uo : MS), vX11_putSwitch S x1 x2 uo → vX11_putSwitch S x1 x2 uo := fun _ _ z => z
  unfold wX11_putSwitch at h ⊢
  obtain ⟨g61_, h⟩ := h
  refine ⟨g61_, ?_⟩
  replace K := fun i uo z => K i uo ⟨g61_, z⟩
  obtain ⟨g62_, h⟩ := h
  refine ⟨g62_, ?_⟩
  replace K := fun i uo z => K i uo ⟨g62_, z⟩
  intro a6 ea6 
  replace h := h a6 ea6 
  replace K := fun i uo z => K i uo ⟨a6, ea6, z⟩
  intro a7 ea7 
  replace h := h a7 ea7 
  replace K := fun i uo z => K i uo ⟨a7, ea7, z⟩
  obtain ⟨g63_, h⟩ := h
  refine ⟨g63_, ?_⟩
  replace K := fun i uo z => K i uo ⟨g63_, z⟩
  obtain ⟨g64_, h⟩ := h
  refine ⟨g64_, ?_⟩
  replace K := fun i uo z => K i uo ⟨g64_, z⟩
  intro a13 ea13 
  replace h := h a13 ea13 
  replace K := fun i uo z => K i uo ⟨a13, ea13, z⟩
  intro a15 ea15 
  replace h := h a15 ea15 
  replace K := fun i uo z => K i uo ⟨a15, ea15, z⟩
  obtain ⟨g65_, h⟩ := h
  refine ⟨g65_, ?_⟩
  replace K := fun i uo z => K i uo ⟨g65_, z⟩
  obtain ⟨g66_, h⟩ := h
  refine ⟨g66_, ?_⟩
  replace K := fun i uo z => K i uo ⟨g66_, z⟩
  intro a21 ea21 
  replace h := h a21 ea21 
  replace K := fun i uo z => K i uo ⟨a21, ea21, z⟩
  refine ⟨fun c => ?_, fun c => ?_⟩
  · replace h := h.1 c
    replace K := fun i uo z => K i uo (Or.inl ⟨c, z⟩)
    exact ru_X11_putSwitch_J41 i0 K h
  · replace h := h.2 c
    replace K := fun i uo z => K i uo (Or.inr ⟨c, z⟩)
    exact ru_X11_putSwitch_J41 i0 K h
set_option maxRecDepth 100000 in
theorem vw_X11_putSwitch_J215 {uo : MS} {k180 k180v : MS → Int32 → Int32 → Int32 → Int32 → Int32 → Prop} {U215 : MS} {v215_1 : Int32} {v215_3 : Int32} {v215_4 : Int32} {v215_5 : Int32} {v215_6 : Int32} (hk180 : ∀ (u : MS) (z0 : Int32) (z1 : Int32) (z2 : Int32) (z3 : Int32) (z4 : Int32), k180v u z0 z1 z2 z3 z4 → k180 u z0 z1 z2 z3 z4) (h : v_X11_putSwitch_J215 uo k180v U215 v215_1 v215_3 v215_4 v215_5 v215_6) : w_X11_putSwitch_J215 (fun u => u = uo) k180 U215 v215_1 v215_3 v215_4 v215_5 v215_6 := by
  unfold v_X11_putSwitch_J215 at h
  unfold w_X11_putSwitch_J215
  intro _ _
  replace h := h.2.2
  obtain ⟨g9, h⟩ := h
  refine ⟨g9, ?_⟩
  obtain ⟨g9, h⟩ := h
  refine ⟨g9, ?_⟩
  obtain ⟨v9, e9, h⟩ := h
  intro x9 d9 
  have c9 : v9 = x9 := e9.trans d9.symm
  subst c9
  obtain ⟨g9, h⟩ := h
  refine ⟨g9, ?_⟩
  obtain ⟨v9, e9, h⟩ := h
  intro x9 d9 
  have c9 : v9 = x9 := e9.trans d9.symm
  subst c9
  obtain ⟨g9, h⟩ := h
  refine ⟨g9, ?_⟩
  obtain ⟨v9, e9, h⟩ := h
  intro x9 d9 
  have c9 : v9 = x9 := e9.trans d9.symm
  subst c9
  intro _
  replace h := h.2
  obtain ⟨q9, z9, h⟩ := h
  refine ⟨_, vwX0_put4 z9, ?_⟩
  intro q8 d9 _ _
  subst d9
  replace h := h.2.2
  obtain ⟨v9, e9, h⟩ := h
  intro x9 d9 
  have c9 : v9 = x9 := e9.trans d9.symm
  subst c9
  exact hk180 _ _ _ _ _ _ h
set_option maxRecDepth 100000 in
theorem vp_X11_putSwitch_J215 {uo : MS} {P : MS → Prop} {k180 k180v : MS → Int32 → Int32 → Int32 → Int32 → Int32 → Prop} {U215 : MS} {v215_1 : Int32} {v215_3 : Int32} {v215_4 : Int32} {v215_5 : Int32} {v215_6 : Int32} (hk180 : ∀ (u : MS) (z0 : Int32) (z1 : Int32) (z2 : Int32) (z3 : Int32) (z4 : Int32), k180v u z0 z1 z2 z3 z4 → k180 u z0 z1 z2 z3 z4 → P uo) (h : v_X11_putSwitch_J215 uo k180v U215 v215_1 v215_3 v215_4 v215_5 v215_6) (w : w_X11_putSwitch_J215 P k180 U215 v215_1 v215_3 v215_4 v215_5 v215_6) : P uo := by
  unfold v_X11_putSwitch_J215 at h
  unfold w_X11_putSwitch_J215 at w
  obtain ⟨y1_, y2_, h⟩ := h
  replace w := w y1_ y2_
  replace h := h.2
  replace w := w.2
  replace h := h.2
  replace w := w.2
  obtain ⟨v9, e9, h⟩ := h
  replace w := w v9 e9 
  replace h := h.2
  replace w := w.2
  obtain ⟨v9, e9, h⟩ := h
  replace w := w v9 e9 
  replace h := h.2
  replace w := w.2
  obtain ⟨v9, e9, h⟩ := h
  replace w := w v9 e9 
  obtain ⟨y3_, h⟩ := h
  replace w := w y3_
  obtain ⟨q9, z9, y4_, y5_, h⟩ := h
  obtain ⟨Q9, w0, w⟩ := w
  replace w := w q9 (vpX0_put4 z9 w0) y4_ y5_
  obtain ⟨v9, e9, h⟩ := h
  replace w := w v9 e9 
  exact hk180 _ _ _ _ _ _ h w
set_option maxRecDepth 100000 in
theorem vw_X11_putSwitch_L180 {uo : MS} : ∀ (n : Nat) {U180 : MS} {v180_1 : Int32} {v180_3 : Int32} {v180_4 : Int32} {v180_5 : Int32} {v180_6 : Int32}, v_X11_putSwitch_L180 uo n U180 v180_1 v180_3 v180_4 v180_5 v180_6 → w_X11_putSwitch_L180 (fun u => u = uo) n U180 v180_1 v180_3 v180_4 v180_5 v180_6 := by
  intro n
  induction n with
  | zero => intro U180 v180_1 v180_3 v180_4 v180_5 v180_6 h; unfold v_X11_putSwitch_L180 at h; exact h.elim
  | succ n ih =>
    intro U180 v180_1 v180_3 v180_4 v180_5 v180_6 h
    unfold v_X11_putSwitch_L180 at h
    unfold w_X11_putSwitch_L180
    intro _ _
    replace h := h.2.2
    rcases h with ⟨c, h⟩ | ⟨c, h⟩
    · refine ⟨fun _ => ?_, fun c2 => absurd c c2⟩
      exact h.symm
    · refine ⟨fun c2 => absurd c2 c, fun _ => ?_⟩
      rcases h with ⟨c, h⟩ | ⟨c, h⟩
      · refine ⟨fun _ => ?_, fun c2 => absurd c c2⟩
        obtain ⟨g9, h⟩ := h
        refine ⟨g9, ?_⟩
        obtain ⟨g9, h⟩ := h
        refine ⟨g9, ?_⟩
        obtain ⟨v9, e9, h⟩ := h
        intro x9 d9 
        have c9 : v9 = x9 := e9.trans d9.symm
        subst c9
        intro _
        replace h := h.2
        obtain ⟨q9, z9, h⟩ := h
        refine ⟨_, vwX0_put4 z9, ?_⟩
        intro q8 d9 _ _
        subst d9
        replace h := h.2.2
        exact vw_X11_putSwitch_J215 (fun _ _ _ _ _ _ h => ih h) h
      · refine ⟨fun c2 => absurd c2 c, fun _ => ?_⟩
        exact vw_X11_putSwitch_J215 (fun _ _ _ _ _ _ h => ih h) h
set_option maxRecDepth 100000 in
theorem vp_X11_putSwitch_L180 {uo : MS} {P : MS → Prop} : ∀ (n m : Nat) {U180 : MS} {v180_1 : Int32} {v180_3 : Int32} {v180_4 : Int32} {v180_5 : Int32} {v180_6 : Int32}, v_X11_putSwitch_L180 uo n U180 v180_1 v180_3 v180_4 v180_5 v180_6 → w_X11_putSwitch_L180 P m U180 v180_1 v180_3 v180_4 v180_5 v180_6 → P uo := by
  intro n
  induction n with
  | zero => intro m U180 v180_1 v180_3 v180_4 v180_5 v180_6 h; unfold v_X11_putSwitch_L180 at h; exact h.elim
  | succ n ih =>
    intro m U180 v180_1 v180_3 v180_4 v180_5 v180_6 h w
    cases m with
    | zero => unfold w_X11_putSwitch_L180 at w; exact w.elim
    | succ m =>
      unfold v_X11_putSwitch_L180 at h
      unfold w_X11_putSwitch_L180 at w
      obtain ⟨y6_, y7_, h⟩ := h
      replace w := w y6_ y7_
      rcases h with ⟨c, h⟩ | ⟨c, h⟩
      · replace w := w.1 c
        rw [h]
        exact w
      · replace w := w.2 c
        rcases h with ⟨c, h⟩ | ⟨c, h⟩
        · replace w := w.1 c
          replace h := h.2
          replace w := w.2
          replace h := h.2
          replace w := w.2
          obtain ⟨v9, e9, h⟩ := h
          replace w := w v9 e9 
          obtain ⟨y8_, h⟩ := h
          replace w := w y8_
          obtain ⟨q9, z9, y9_, y10_, h⟩ := h
          obtain ⟨Q9, w0, w⟩ := w
          replace w := w q9 (vpX0_put4 z9 w0) y9_ y10_
          exact vp_X11_putSwitch_J215 (fun _ _ _ _ _ _ h w => ih m h w) h w
        · replace w := w.2 c
          exact vp_X11_putSwitch_J215 (fun _ _ _ _ _ _ h w => ih m h w) h w
set_option maxRecDepth 100000 in
theorem vw_X11_putSwitch_J177 {uo : MS} {U177 : MS} {v177_1 : Int32} {v177_3 : Int32} {v177_4 : Int32} {v177_5 : Int32} (h : v_X11_putSwitch_J177 uo U177 v177_1 v177_3 v177_4 v177_5) : w_X11_putSwitch_J177 (fun u => u = uo) U177 v177_1 v177_3 v177_4 v177_5 := by
  unfold v_X11_putSwitch_J177 at h
  unfold w_X11_putSwitch_J177
  intro _ _
  replace h := h.2.2
  obtain ⟨n9, h⟩ := h
  exact ⟨n9, vw_X11_putSwitch_L180 n9 h⟩
set_option maxRecDepth 100000 in
theorem vp_X11_putSwitch_J177 {uo : MS} {P : MS → Prop} {U177 : MS} {v177_1 : Int32} {v177_3 : Int32} {v177_4 : Int32} {v177_5 : Int32} (h : v_X11_putSwitch_J177 uo U177 v177_1 v177_3 v177_4 v177_5) (w : w_X11_putSwitch_J177 P U177 v177_1 v177_3 v177_4 v177_5) : P uo := by
  unfold v_X11_putSwitch_J177 at h
  unfold w_X11_putSwitch_J177 at w
  obtain ⟨y11_, y12_, h⟩ := h
  replace w := w y11_ y12_
  obtain ⟨n9, h⟩ := h
  obtain ⟨n8, w⟩ := w
  exact vp_X11_putSwitch_L180 n9 n8 h w
set_option maxRecDepth 100000 in
theorem vw_X11_putSwitch_J95 {uo : MS} {U95 : MS} {v95_1 : Int32} {v95_3 : Int32} {v95_4 : Int32} {v95_5 : Int32} (h : v_X11_putSwitch_J95 uo U95 v95_1 v95_3 v95_4 v95_5) : w_X11_putSwitch_J95 (fun u => u = uo) U95 v95_1 v95_3 v95_4 v95_5 := by
  unfold v_X11_putSwitch_J95 at h
  unfold w_X11_putSwitch_J95
  intro _ _
  replace h := h.2.2
  obtain ⟨g9, h⟩ := h
  refine ⟨g9, ?_⟩
  obtain ⟨g9, h⟩ := h
  refine ⟨g9, ?_⟩
  obtain ⟨v9, e9, h⟩ := h
  intro x9 d9 
  have c9 : v9 = x9 := e9.trans d9.symm
  subst c9
  obtain ⟨g9, h⟩ := h
  refine ⟨g9, ?_⟩
  obtain ⟨v9, e9, h⟩ := h
  intro x9 d9 
  have c9 : v9 = x9 := e9.trans d9.symm
  subst c9
  obtain ⟨g9, h⟩ := h
  refine ⟨g9, ?_⟩
  obtain ⟨v9, e9, h⟩ := h
  intro x9 d9 
  have c9 : v9 = x9 := e9.trans d9.symm
  subst c9
  intro _
  replace h := h.2
  obtain ⟨q9, z9, h⟩ := h
  refine ⟨_, vwX0_put4 z9, ?_⟩
  intro q8 d9 _ _
  subst d9
  replace h := h.2.2
  rcases h with ⟨c, h⟩ | ⟨c, h⟩
  · refine ⟨fun _ => ?_, fun c2 => absurd c c2⟩
    intro _
    replace h := h.2
    obtain ⟨q9, z9, h⟩ := h
    refine ⟨_, vwX0_put4 z9, ?_⟩
    intro q8 d9 _ _
    subst d9
    replace h := h.2.2
    exact vw_X11_putSwitch_J177 h
  · refine ⟨fun c2 => absurd c2 c, fun _ => ?_⟩
    obtain ⟨g9, h⟩ := h
    refine ⟨g9, ?_⟩
    obtain ⟨g9, h⟩ := h
    refine ⟨g9, ?_⟩
    obtain ⟨v9, e9, h⟩ := h
    intro x9 d9 
    have c9 : v9 = x9 := e9.trans d9.symm
    subst c9
    intro _
    replace h := h.2
    obtain ⟨q9, z9, h⟩ := h
    refine ⟨_, vwX0_put4 z9, ?_⟩
    intro q8 d9 _ _
    subst d9
    replace h := h.2.2
    obtain ⟨g9, h⟩ := h
    refine ⟨g9, ?_⟩
    obtain ⟨g9, h⟩ := h
    refine ⟨g9, ?_⟩
    obtain ⟨v9, e9, h⟩ := h
    intro x9 d9 
    have c9 : v9 = x9 := e9.trans d9.symm
    subst c9
    intro _
    replace h := h.2
    obtain ⟨q9, z9, h⟩ := h
    refine ⟨_, vwX0_put4 z9, ?_⟩
    intro q8 d9 _ _
    subst d9
    replace h := h.2.2
    exact vw_X11_putSwitch_J177 h
set_option maxRecDepth 100000 in
theorem vp_X11_putSwitch_J95 {uo : MS} {P : MS → Prop} {U95 : MS} {v95_1 : Int32} {v95_3 : Int32} {v95_4 : Int32} {v95_5 : Int32} (h : v_X11_putSwitch_J95 uo U95 v95_1 v95_3 v95_4 v95_5) (w : w_X11_putSwitch_J95 P U95 v95_1 v95_3 v95_4 v95_5) : P uo := by
  unfold v_X11_putSwitch_J95 at h
  unfold w_X11_putSwitch_J95 at w
  obtain ⟨y13_, y14_, h⟩ := h
  replace w := w y13_ y14_
  replace h := h.2
  replace w := w.2
  replace h := h.2
  replace w := w.2
  obtain ⟨v9, e9, h⟩ := h
  replace w := w v9 e9 
  replace h := h.2
  replace w := w.2
  obtain ⟨v9, e9, h⟩ := h
  replace w := w v9 e9 
  replace h := h.2
  replace w := w.2
  obtain ⟨v9, e9, h⟩ := h
  replace w := w v9 e9 
  obtain ⟨y15_, h⟩ := h
  replace w := w y15_
  obtain ⟨q9, z9, y16_, y17_, h⟩ := h
  obtain ⟨Q9, w0, w⟩ := w
  replace w := w q9 (vpX0_put4 z9 w0) y16_ y17_
  rcases h with ⟨c, h⟩ | ⟨c, h⟩
  · replace w := w.1 c
    obtain ⟨y18_, h⟩ := h
    replace w := w y18_
    obtain ⟨q9, z9, y19_, y20_, h⟩ := h
    obtain ⟨Q9, w0, w⟩ := w
    replace w := w q9 (vpX0_put4 z9 w0) y19_ y20_
    exact vp_X11_putSwitch_J177 h w
  · replace w := w.2 c
    replace h := h.2
    replace w := w.2
    replace h := h.2
    replace w := w.2
    obtain ⟨v9, e9, h⟩ := h
    replace w := w v9 e9 
    obtain ⟨y21_, h⟩ := h
    replace w := w y21_
    obtain ⟨q9, z9, y22_, y23_, h⟩ := h
    obtain ⟨Q9, w0, w⟩ := w
    replace w := w q9 (vpX0_put4 z9 w0) y22_ y23_
    replace h := h.2
    replace w := w.2
    replace h := h.2
    replace w := w.2
    obtain ⟨v9, e9, h⟩ := h
    replace w := w v9 e9 
    obtain ⟨y24_, h⟩ := h
    replace w := w y24_
    obtain ⟨q9, z9, y25_, y26_, h⟩ := h
    obtain ⟨Q9, w0, w⟩ := w
    replace w := w q9 (vpX0_put4 z9 w0) y25_ y26_
    exact vp_X11_putSwitch_J177 h w
set_option maxRecDepth 100000 in
theorem vw_X11_putSwitch_L61 {uo : MS} : ∀ (n : Nat) {U61 : MS} {v61_1 : Int32} {v61_2 : Int32} {v61_3 : Int32} {v61_4 : Int32} {v61_5 : Int32} {v61_6 : Int32}, v_X11_putSwitch_L61 uo n U61 v61_1 v61_2 v61_3 v61_4 v61_5 v61_6 → w_X11_putSwitch_L61 (fun u => u = uo) n U61 v61_1 v61_2 v61_3 v61_4 v61_5 v61_6 := by
  intro n
  induction n with
  | zero => intro U61 v61_1 v61_2 v61_3 v61_4 v61_5 v61_6 h; unfold v_X11_putSwitch_L61 at h; exact h.elim
  | succ n ih =>
    intro U61 v61_1 v61_2 v61_3 v61_4 v61_5 v61_6 h
    unfold v_X11_putSwitch_L61 at h
    unfold w_X11_putSwitch_L61
    intro _ _
    replace h := h.2.2
    rcases h with ⟨c, h⟩ | ⟨c, h⟩
    · refine ⟨fun _ => ?_, fun c2 => absurd c c2⟩
      exact vw_X11_putSwitch_J95 h
    · refine ⟨fun c2 => absurd c2 c, fun _ => ?_⟩
      rcases h with ⟨c, h⟩ | ⟨c, h⟩
      · refine ⟨fun _ => ?_, fun c2 => absurd c c2⟩
        exact vw_X11_putSwitch_J95 h
      · refine ⟨fun c2 => absurd c2 c, fun _ => ?_⟩
        intro _
        replace h := h.2
        obtain ⟨q9, z9, h⟩ := h
        refine ⟨_, vwX0_put z9, ?_⟩
        intro q8 d9 _ _
        subst d9
        replace h := h.2.2
        obtain ⟨v9, e9, h⟩ := h
        intro x9 d9 
        have c9 : v9 = x9 := e9.trans d9.symm
        subst c9
        exact ih h
set_option maxRecDepth 100000 in
theorem vp_X11_putSwitch_L61 {uo : MS} {P : MS → Prop} : ∀ (n m : Nat) {U61 : MS} {v61_1 : Int32} {v61_2 : Int32} {v61_3 : Int32} {v61_4 : Int32} {v61_5 : Int32} {v61_6 : Int32}, v_X11_putSwitch_L61 uo n U61 v61_1 v61_2 v61_3 v61_4 v61_5 v61_6 → w_X11_putSwitch_L61 P m U61 v61_1 v61_2 v61_3 v61_4 v61_5 v61_6 → P uo := by
  intro n
  induction n with
  | zero => intro m U61 v61_1 v61_2 v61_3 v61_4 v61_5 v61_6 h; unfold v_X11_putSwitch_L61 at h; exact h.elim
  | succ n ih =>
    intro m U61 v61_1 v61_2 v61_3 v61_4 v61_5 v61_6 h w
    cases m with
    | zero => unfold w_X11_putSwitch_L61 at w; exact w.elim
    | succ m =>
      unfold v_X11_putSwitch_L61 at h
      unfold w_X11_putSwitch_L61 at w
      obtain ⟨y27_, y28_, h⟩ := h
      replace w := w y27_ y28_
      rcases h with ⟨c, h⟩ | ⟨c, h⟩
      · replace w := w.1 c
        exact vp_X11_putSwitch_J95 h w
      · replace w := w.2 c
        rcases h with ⟨c, h⟩ | ⟨c, h⟩
        · replace w := w.1 c
          exact vp_X11_putSwitch_J95 h w
        · replace w := w.2 c
          obtain ⟨y29_, h⟩ := h
          replace w := w y29_
          obtain ⟨q9, z9, y30_, y31_, h⟩ := h
          obtain ⟨Q9, w0, w⟩ := w
          replace w := w q9 (vpX0_put z9 w0) y30_ y31_
          obtain ⟨v9, e9, h⟩ := h
          replace w := w v9 e9 
          exact ih m h w
set_option maxRecDepth 100000 in
theorem vw_X11_putSwitch_J41 {uo : MS} {U41 : MS} {t41_0 : Int32} {v41_1 : Int32} {v41_2 : Int32} {v41_3 : Int32} {v41_4 : Int32} (h : v_X11_putSwitch_J41 uo U41 t41_0 v41_1 v41_2 v41_3 v41_4) : w_X11_putSwitch_J41 (fun u => u = uo) U41 t41_0 v41_1 v41_2 v41_3 v41_4 := by
  unfold v_X11_putSwitch_J41 at h
  unfold w_X11_putSwitch_J41
  intro _ _
  replace h := h.2.2
  obtain ⟨g9, h⟩ := h
  refine ⟨g9, ?_⟩
  obtain ⟨g9, h⟩ := h
  refine ⟨g9, ?_⟩
  obtain ⟨v9, e9, h⟩ := h
  intro x9 d9 
  have c9 : v9 = x9 := e9.trans d9.symm
  subst c9
  intro _
  replace h := h.2
  obtain ⟨q9, z9, h⟩ := h
  refine ⟨_, vwX0_put z9, ?_⟩
  intro q8 d9 _ _
  subst d9
  replace h := h.2.2
  obtain ⟨n9, h⟩ := h
  exact ⟨n9, vw_X11_putSwitch_L61 n9 h⟩
set_option maxRecDepth 100000 in
theorem vp_X11_putSwitch_J41 {uo : MS} {P : MS → Prop} {U41 : MS} {t41_0 : Int32} {v41_1 : Int32} {v41_2 : Int32} {v41_3 : Int32} {v41_4 : Int32} (h : v_X11_putSwitch_J41 uo U41 t41_0 v41_1 v41_2 v41_3 v41_4) (w : w_X11_putSwitch_J41 P U41 t41_0 v41_1 v41_2 v41_3 v41_4) : P uo := by
  unfold v_X11_putSwitch_J41 at h
  unfold w_X11_putSwitch_J41 at w
  obtain ⟨y32_, y33_, h⟩ := h
  replace w := w y32_ y33_
  replace h := h.2
  replace w := w.2
  replace h := h.2
  replace w := w.2
  obtain ⟨v9, e9, h⟩ := h
  replace w := w v9 e9 
  obtain ⟨y34_, h⟩ := h
  replace w := w y34_
  obtain ⟨q9, z9, y35_, y36_, h⟩ := h
  obtain ⟨Q9, w0, w⟩ := w
  replace w := w q9 (vpX0_put z9 w0) y35_ y36_
  obtain ⟨n9, h⟩ := h
  obtain ⟨n8, w⟩ := w
  exact vp_X11_putSwitch_L61 n9 n8 h w
set_option maxRecDepth 100000 in
theorem vwX11_putSwitch {S : MS} {x1 : Int32} {x2 : Int32} {uo : MS} (h : vX11_putSwitch S x1 x2 uo) : wX11_putSwitch S x1 x2 (fun u => u = uo) := by
  unfold vX11_putSwitch at h
  unfold wX11_putSwitch
  obtain ⟨g9, h⟩ := h
  refine ⟨g9, ?_⟩
  obtain ⟨g9, h⟩ := h
  refine ⟨g9, ?_⟩
  obtain ⟨v9, e9, h⟩ := h
  intro x9 d9 
  have c9 : v9 = x9 := e9.trans d9.symm
  subst c9
  obtain ⟨v9, e9, h⟩ := h
  intro x9 d9 
  have c9 : v9 = x9 := e9.trans d9.symm
  subst c9
  obtain ⟨g9, h⟩ := h
  refine ⟨g9, ?_⟩
  obtain ⟨g9, h⟩ := h
  refine ⟨g9, ?_⟩
  obtain ⟨v9, e9, h⟩ := h
  intro x9 d9 
  have c9 : v9 = x9 := e9.trans d9.symm
  subst c9
  obtain ⟨v9, e9, h⟩ := h
  intro x9 d9 
  have c9 : v9 = x9 := e9.trans d9.symm
  subst c9
  obtain ⟨g9, h⟩ := h
  refine ⟨g9, ?_⟩
  obtain ⟨g9, h⟩ := h
  refine ⟨g9, ?_⟩
  obtain ⟨v9, e9, h⟩ := h
  intro x9 d9 
  have c9 : v9 = x9 := e9.trans d9.symm
  subst c9
  rcases h with ⟨c, h⟩ | ⟨c, h⟩
  · refine ⟨fun _ => ?_, fun c2 => absurd c c2⟩
    exact vw_X11_putSwitch_J41 h
  · refine ⟨fun c2 => absurd c2 c, fun _ => ?_⟩
    exact vw_X11_putSwitch_J41 h
set_option maxRecDepth 100000 in
theorem vpX11_putSwitch {S : MS} {x1 : Int32} {x2 : Int32} {uo : MS} {P : MS → Prop} (h : vX11_putSwitch S x1 x2 uo) (w : wX11_putSwitch S x1 x2 P) : P uo := by
  unfold vX11_putSwitch at h
  unfold wX11_putSwitch at w
  replace h := h.2
  replace w := w.2
  replace h := h.2
  replace w := w.2
  obtain ⟨v9, e9, h⟩ := h
  replace w := w v9 e9 
  obtain ⟨v9, e9, h⟩ := h
  replace w := w v9 e9 
  replace h := h.2
  replace w := w.2
  replace h := h.2
  replace w := w.2
  obtain ⟨v9, e9, h⟩ := h
  replace w := w v9 e9 
  obtain ⟨v9, e9, h⟩ := h
  replace w := w v9 e9 
  replace h := h.2
  replace w := w.2
  replace h := h.2
  replace w := w.2
  obtain ⟨v9, e9, h⟩ := h
  replace w := w v9 e9 
  rcases h with ⟨c, h⟩ | ⟨c, h⟩
  · replace w := w.1 c
    exact vp_X11_putSwitch_J41 h w
  · replace w := w.2 c
    exact vp_X11_putSwitch_J41 h w
def vX12_feed (S : MS) (x1 : Int32) (x2 : Int32) (x3 : Int32) (x4 : Int32) (x5 : Int32) (ro : Int32) (uo : MS) : Prop := ((16000 < ((qI S 1 1) + (20 : Int32)).toInt ∧ (ro = (-1 : Int32) ∧ uo = S)) ∨ (¬ 16000 < ((qI S 1 1) + (20 : Int32)).toInt ∧ ((((qI S 0 10) + (20 : Int32)).toInt ≤ 65536 ∧ (qT S 1 = 40 ∧ (∃ (S6 : MS), vX0_put4 S 1 x1 S6 ∧ wfC S6 ∧ shx S S6 ∧ (qT S6 1 = 40 ∧ (∃ (S10 : MS), vX0_put4 S6 1 x2 S10 ∧ wfC S10 ∧ shx S6 S10 ∧ (qT S10 1 = 40 ∧ (∃ (S14 : MS), vX0_put4 S10 1 x3 S14 ∧ wfC S14 ∧ shx S10 S14 ∧ (qT S14 1 = 40 ∧ (∃ (S18 : MS), vX0_put4 S14 1 x4 S18 ∧ wfC S18 ∧ shx S14 S18 ∧ (qT S18 1 = 40 ∧ (∃ (S22 : MS), vX0_put4 S18 1 x5 S22 ∧ wfC S22 ∧ shx S18 S22 ∧ (∃ S26 : MS, S26 = wI S22 0 10 ((qI S22 0 10) + (20 : Int32)) ∧ qT S22 0 = 51 ∧ wfC S26 ∧ (ro = (qI S26 1 1) ∧ uo = S26))))))))))))) ∨ (¬ ((qI S 0 10) + (20 : Int32)).toInt ≤ 65536 ∧ (ro = (-1 : Int32) ∧ uo = S)))))
set_option maxRecDepth 100000 in
theorem ruX12_feed {S : MS} {x1 : Int32} {x2 : Int32} {x3 : Int32} {x4 : Int32} {x5 : Int32} {Q : Int32 → MS → Prop} (h : wX12_feed S x1 x2 x3 x4 x5 Q) : wX12_feed S x1 x2 x3 x4 x5 (fun r u => Q r u ∧ vX12_feed S x1 x2 x3 x4 x5 r u) := by
  have i0 : Unit := ()
  have K : ∀ (i : Unit) (ro : Int32) (uo : MS), vX12_feed S x1 x2 x3 x4 x5 ro uo → vX12_feed S x1 x2 x3 x4 x5 ro uo := fun _ _ _ z => z
  unfold wX12_feed at h ⊢
  refine ⟨fun c => ?_, fun c => ?_⟩
  · replace h := h.1 c
    replace K := fun i ro uo z => K i ro uo (Or.inl ⟨c, z⟩)
    exact ⟨h, K i0 _ _ ⟨rfl, rfl⟩⟩
  · replace h := h.2 c
    replace K := fun i ro uo z => K i ro uo (Or.inr ⟨c, z⟩)
    refine ⟨fun c => ?_, fun c => ?_⟩
    · replace h := h.1 c
      replace K := fun i ro uo z => K i ro uo (Or.inl ⟨c, z⟩)
      intro y1_
      replace h := h y1_
      replace K := fun i ro uo z => K i ro uo ⟨y1_, z⟩
      obtain ⟨Q9, h0, h⟩ := h
      refine ⟨_, ruX0_put4 h0, ?_⟩
      intro S6 q2_ y3_ y4_
      replace h := h S6 q2_.1 y3_ y4_
      replace K := fun i ro uo z => K i ro uo ⟨S6, q2_.2, y3_, y4_, z⟩
      intro y5_
      replace h := h y5_
      replace K := fun i ro uo z => K i ro uo ⟨y5_, z⟩
      obtain ⟨Q9, h0, h⟩ := h
      refine ⟨_, ruX0_put4 h0, ?_⟩
      intro S10 q6_ y7_ y8_
      replace h := h S10 q6_.1 y7_ y8_
      replace K := fun i ro uo z => K i ro uo ⟨S10, q6_.2, y7_, y8_, z⟩
      intro y9_
      replace h := h y9_
      replace K := fun i ro uo z => K i ro uo ⟨y9_, z⟩
      obtain ⟨Q9, h0, h⟩ := h
      refine ⟨_, ruX0_put4 h0, ?_⟩
      intro S14 q10_ y11_ y12_
      replace h := h S14 q10_.1 y11_ y12_
      replace K := fun i ro uo z => K i ro uo ⟨S14, q10_.2, y11_, y12_, z⟩
      intro y13_
      replace h := h y13_
      replace K := fun i ro uo z => K i ro uo ⟨y13_, z⟩
      obtain ⟨Q9, h0, h⟩ := h
      refine ⟨_, ruX0_put4 h0, ?_⟩
      intro S18 q14_ y15_ y16_
      replace h := h S18 q14_.1 y15_ y16_
      replace K := fun i ro uo z => K i ro uo ⟨S18, q14_.2, y15_, y16_, z⟩
      intro y17_
      replace h := h y17_
      replace K := fun i ro uo z => K i ro uo ⟨y17_, z⟩
      obtain ⟨Q9, h0, h⟩ := h
      refine ⟨_, ruX0_put4 h0, ?_⟩
      intro S22 q18_ y19_ y20_
      replace h := h S22 q18_.1 y19_ y20_
      replace K := fun i ro uo z => K i ro uo ⟨S22, q18_.2, y19_, y20_, z⟩
      intro S26 eS26 y21_ y22_
      replace h := h S26 eS26 y21_ y22_
      replace K := fun i ro uo z => K i ro uo ⟨S26, eS26, y21_, y22_, z⟩
      exact ⟨h, K i0 _ _ ⟨rfl, rfl⟩⟩
    · replace h := h.2 c
      replace K := fun i ro uo z => K i ro uo (Or.inr ⟨c, z⟩)
      exact ⟨h, K i0 _ _ ⟨rfl, rfl⟩⟩
set_option maxRecDepth 100000 in
theorem vwX12_feed {S : MS} {x1 : Int32} {x2 : Int32} {x3 : Int32} {x4 : Int32} {x5 : Int32} {ro : Int32} {uo : MS} (h : vX12_feed S x1 x2 x3 x4 x5 ro uo) : wX12_feed S x1 x2 x3 x4 x5 (fun r u => r = ro ∧ u = uo) := by
  unfold vX12_feed at h
  unfold wX12_feed
  rcases h with ⟨c, h⟩ | ⟨c, h⟩
  · refine ⟨fun _ => ?_, fun c2 => absurd c c2⟩
    exact ⟨h.1.symm, h.2.symm⟩
  · refine ⟨fun c2 => absurd c2 c, fun _ => ?_⟩
    rcases h with ⟨c, h⟩ | ⟨c, h⟩
    · refine ⟨fun _ => ?_, fun c2 => absurd c c2⟩
      intro _
      replace h := h.2
      obtain ⟨q9, z9, h⟩ := h
      refine ⟨_, vwX0_put4 z9, ?_⟩
      intro q8 d9 _ _
      subst d9
      replace h := h.2.2
      intro _
      replace h := h.2
      obtain ⟨q9, z9, h⟩ := h
      refine ⟨_, vwX0_put4 z9, ?_⟩
      intro q8 d9 _ _
      subst d9
      replace h := h.2.2
      intro _
      replace h := h.2
      obtain ⟨q9, z9, h⟩ := h
      refine ⟨_, vwX0_put4 z9, ?_⟩
      intro q8 d9 _ _
      subst d9
      replace h := h.2.2
      intro _
      replace h := h.2
      obtain ⟨q9, z9, h⟩ := h
      refine ⟨_, vwX0_put4 z9, ?_⟩
      intro q8 d9 _ _
      subst d9
      replace h := h.2.2
      intro _
      replace h := h.2
      obtain ⟨q9, z9, h⟩ := h
      refine ⟨_, vwX0_put4 z9, ?_⟩
      intro q8 d9 _ _
      subst d9
      replace h := h.2.2
      obtain ⟨v9, e9, h⟩ := h
      intro x9 d9 _ _
      have c9 : v9 = x9 := e9.trans d9.symm
      subst c9
      replace h := h.2.2
      exact ⟨h.1.symm, h.2.symm⟩
    · refine ⟨fun c2 => absurd c2 c, fun _ => ?_⟩
      exact ⟨h.1.symm, h.2.symm⟩
set_option maxRecDepth 100000 in
theorem vpX12_feed {S : MS} {x1 : Int32} {x2 : Int32} {x3 : Int32} {x4 : Int32} {x5 : Int32} {ro : Int32} {uo : MS} {P : Int32 → MS → Prop} (h : vX12_feed S x1 x2 x3 x4 x5 ro uo) (w : wX12_feed S x1 x2 x3 x4 x5 P) : P ro uo := by
  unfold vX12_feed at h
  unfold wX12_feed at w
  rcases h with ⟨c, h⟩ | ⟨c, h⟩
  · replace w := w.1 c
    rw [h.1, h.2]
    exact w
  · replace w := w.2 c
    rcases h with ⟨c, h⟩ | ⟨c, h⟩
    · replace w := w.1 c
      obtain ⟨y1_, h⟩ := h
      replace w := w y1_
      obtain ⟨q9, z9, y2_, y3_, h⟩ := h
      obtain ⟨Q9, w0, w⟩ := w
      replace w := w q9 (vpX0_put4 z9 w0) y2_ y3_
      obtain ⟨y4_, h⟩ := h
      replace w := w y4_
      obtain ⟨q9, z9, y5_, y6_, h⟩ := h
      obtain ⟨Q9, w0, w⟩ := w
      replace w := w q9 (vpX0_put4 z9 w0) y5_ y6_
      obtain ⟨y7_, h⟩ := h
      replace w := w y7_
      obtain ⟨q9, z9, y8_, y9_, h⟩ := h
      obtain ⟨Q9, w0, w⟩ := w
      replace w := w q9 (vpX0_put4 z9 w0) y8_ y9_
      obtain ⟨y10_, h⟩ := h
      replace w := w y10_
      obtain ⟨q9, z9, y11_, y12_, h⟩ := h
      obtain ⟨Q9, w0, w⟩ := w
      replace w := w q9 (vpX0_put4 z9 w0) y11_ y12_
      obtain ⟨y13_, h⟩ := h
      replace w := w y13_
      obtain ⟨q9, z9, y14_, y15_, h⟩ := h
      obtain ⟨Q9, w0, w⟩ := w
      replace w := w q9 (vpX0_put4 z9 w0) y14_ y15_
      obtain ⟨v9, e9, y16_, y17_, h⟩ := h
      replace w := w v9 e9 y16_ y17_
      rw [h.1, h.2]
      exact w
    · replace w := w.2 c
      rw [h.1, h.2]
      exact w
def vX12_end (S : MS) (x1 : Int32) (ro : Int32) (uo : MS) : Prop := ((x1.toInt < 0 ∧ (ro = (0 : Int32) ∧ uo = S)) ∨ (¬ x1.toInt < 0 ∧ ((x1.toInt ≤ (qI S 1 1).toInt ∧ (∃ S3 : MS, S3 = wI S 1 1 x1 ∧ qT S 1 = 40 ∧ wfC S3 ∧ (ro = (1 : Int32) ∧ uo = S3))) ∨ (¬ x1.toInt ≤ (qI S 1 1).toInt ∧ (ro = (0 : Int32) ∧ uo = S)))))
set_option maxRecDepth 100000 in
theorem ruX12_end {S : MS} {x1 : Int32} {Q : Int32 → MS → Prop} (h : wX12_end S x1 Q) : wX12_end S x1 (fun r u => Q r u ∧ vX12_end S x1 r u) := by
  have i0 : Unit := ()
  have K : ∀ (i : Unit) (ro : Int32) (uo : MS), vX12_end S x1 ro uo → vX12_end S x1 ro uo := fun _ _ _ z => z
  unfold wX12_end at h ⊢
  refine ⟨fun c => ?_, fun c => ?_⟩
  · replace h := h.1 c
    replace K := fun i ro uo z => K i ro uo (Or.inl ⟨c, z⟩)
    exact ⟨h, K i0 _ _ ⟨rfl, rfl⟩⟩
  · replace h := h.2 c
    replace K := fun i ro uo z => K i ro uo (Or.inr ⟨c, z⟩)
    refine ⟨fun c => ?_, fun c => ?_⟩
    · replace h := h.1 c
      replace K := fun i ro uo z => K i ro uo (Or.inl ⟨c, z⟩)
      intro S3 eS3 y1_ y2_
      replace h := h S3 eS3 y1_ y2_
      replace K := fun i ro uo z => K i ro uo ⟨S3, eS3, y1_, y2_, z⟩
      exact ⟨h, K i0 _ _ ⟨rfl, rfl⟩⟩
    · replace h := h.2 c
      replace K := fun i ro uo z => K i ro uo (Or.inr ⟨c, z⟩)
      exact ⟨h, K i0 _ _ ⟨rfl, rfl⟩⟩
set_option maxRecDepth 100000 in
theorem vwX12_end {S : MS} {x1 : Int32} {ro : Int32} {uo : MS} (h : vX12_end S x1 ro uo) : wX12_end S x1 (fun r u => r = ro ∧ u = uo) := by
  unfold vX12_end at h
  unfold wX12_end
  rcases h with ⟨c, h⟩ | ⟨c, h⟩
  · refine ⟨fun _ => ?_, fun c2 => absurd c c2⟩
    exact ⟨h.1.symm, h.2.symm⟩
  · refine ⟨fun c2 => absurd c2 c, fun _ => ?_⟩
    rcases h with ⟨c, h⟩ | ⟨c, h⟩
    · refine ⟨fun _ => ?_, fun c2 => absurd c c2⟩
      obtain ⟨v9, e9, h⟩ := h
      intro x9 d9 _ _
      have c9 : v9 = x9 := e9.trans d9.symm
      subst c9
      replace h := h.2.2
      exact ⟨h.1.symm, h.2.symm⟩
    · refine ⟨fun c2 => absurd c2 c, fun _ => ?_⟩
      exact ⟨h.1.symm, h.2.symm⟩
set_option maxRecDepth 100000 in
theorem vpX12_end {S : MS} {x1 : Int32} {ro : Int32} {uo : MS} {P : Int32 → MS → Prop} (h : vX12_end S x1 ro uo) (w : wX12_end S x1 P) : P ro uo := by
  unfold vX12_end at h
  unfold wX12_end at w
  rcases h with ⟨c, h⟩ | ⟨c, h⟩
  · replace w := w.1 c
    rw [h.1, h.2]
    exact w
  · replace w := w.2 c
    rcases h with ⟨c, h⟩ | ⟨c, h⟩
    · replace w := w.1 c
      obtain ⟨v9, e9, y1_, y2_, h⟩ := h
      replace w := w v9 e9 y1_ y2_
      rw [h.1, h.2]
      exact w
    · replace w := w.2 c
      rw [h.1, h.2]
      exact w
def vX12_argument (S : MS) (y1 : Int64) (ro : Int32) (uo : MS) : Prop := (∃ (r2 : Int32) (S3 : MS), vX5_addArgument S y1 r2 S3 ∧ wfC S3 ∧ shy S S3 ∧ (ro = r2 ∧ uo = S3))
set_option maxRecDepth 100000 in
theorem ruX12_argument {S : MS} {y1 : Int64} {Q : Int32 → MS → Prop} (h : wX12_argument S y1 Q) : wX12_argument S y1 (fun r u => Q r u ∧ vX12_argument S y1 r u) := by
  have i0 : Unit := ()
  have K : ∀ (i : Unit) (ro : Int32) (uo : MS), vX12_argument S y1 ro uo → vX12_argument S y1 ro uo := fun _ _ _ z => z
  unfold wX12_argument at h ⊢
  obtain ⟨Q9, h0, h⟩ := h
  refine ⟨_, ruX5_addArgument h0, ?_⟩
  intro r2 S3 q1_ y2_ y3_
  replace h := h r2 S3 q1_.1 y2_ y3_
  replace K := fun i ro uo z => K i ro uo ⟨r2, S3, q1_.2, y2_, y3_, z⟩
  exact ⟨h, K i0 _ _ ⟨rfl, rfl⟩⟩
set_option maxRecDepth 100000 in
theorem vwX12_argument {S : MS} {y1 : Int64} {ro : Int32} {uo : MS} (h : vX12_argument S y1 ro uo) : wX12_argument S y1 (fun r u => r = ro ∧ u = uo) := by
  unfold vX12_argument at h
  unfold wX12_argument
  obtain ⟨p9, q9, z9, h⟩ := h
  refine ⟨_, vwX5_addArgument z9, ?_⟩
  rintro p8 q8 ⟨d8, d9⟩ _ _
  subst d8
  subst d9
  replace h := h.2.2
  exact ⟨h.1.symm, h.2.symm⟩
set_option maxRecDepth 100000 in
theorem vpX12_argument {S : MS} {y1 : Int64} {ro : Int32} {uo : MS} {P : Int32 → MS → Prop} (h : vX12_argument S y1 ro uo) (w : wX12_argument S y1 P) : P ro uo := by
  unfold vX12_argument at h
  unfold wX12_argument at w
  obtain ⟨p9, q9, z9, y1_, y2_, h⟩ := h
  obtain ⟨Q9, w0, w⟩ := w
  replace w := w p9 q9 (vpX5_addArgument z9 w0) y1_ y2_
  rw [h.1, h.2]
  exact w
def v_X12_unitAt_J12 (ro : Option Nat) (uo : MS) (U12 : MS) : Prop := (wfC U12 ∧ (ro = none ∧ uo = U12))
def vX12_unitAt (S : MS) (x1 : Int32) (ro : Option Nat) (uo : MS) : Prop := ((x1.toInt < 0 ∧ (v_X12_unitAt_J12 ro uo S)) ∨ (¬ x1.toInt < 0 ∧ ((x1.toInt < (qI S 0 11).toInt ∧ (((0 : Int) ≤ x1.toInt ∧ x1.toInt < 12) ∧ (((qR S 7 x1.toInt.toNat) = none ∧ (ro = none ∧ uo = S)) ∨ (¬ (qR S 7 x1.toInt.toNat) = none ∧ (ro = (some (((qR S 7 x1.toInt.toNat)).getD 0)) ∧ uo = S))))) ∨ (¬ x1.toInt < (qI S 0 11).toInt ∧ (v_X12_unitAt_J12 ro uo S)))))
set_option maxRecDepth 100000 in
theorem ru_X12_unitAt_J12 {ι : Type} {P Q : Option Nat → MS → Prop} {U12 : MS} (i0 : ι) (K : ∀ (i : ι) (ro : Option Nat) (uo : MS), v_X12_unitAt_J12 ro uo U12 → P ro uo) (h : w_X12_unitAt_J12 Q U12) : w_X12_unitAt_J12 (fun r u => Q r u ∧ P r u) U12 := by
  unfold w_X12_unitAt_J12 at h ⊢
  intro y1_
  replace h := h y1_
  replace K := fun i ro uo z => K i ro uo ⟨y1_, z⟩
  exact ⟨h, K i0 _ _ ⟨rfl, rfl⟩⟩
set_option maxRecDepth 100000 in
theorem ruX12_unitAt {S : MS} {x1 : Int32} {Q : Option Nat → MS → Prop} (h : wX12_unitAt S x1 Q) : wX12_unitAt S x1 (fun r u => Q r u ∧ vX12_unitAt S x1 r u) := by
  have i0 : Unit := ()
  have K : ∀ (i : Unit) (ro : Option Nat) (uo : MS), vX12_unitAt S x1 ro uo → vX12_unitAt S x1 ro uo := fun _ _ _ z => z
  unfold wX12_unitAt at h ⊢
  refine ⟨fun c => ?_, fun c => ?_⟩
  · replace h := h.1 c
    replace K := fun i ro uo z => K i ro uo (Or.inl ⟨c, z⟩)
    exact ru_X12_unitAt_J12 i0 K h
  · replace h := h.2 c
    replace K := fun i ro uo z => K i ro uo (Or.inr ⟨c, z⟩)
    refine ⟨fun c => ?_, fun c => ?_⟩
    · replace h := h.1 c
      replace K := fun i ro uo z => K i ro uo (Or.inl ⟨c, z⟩)
      obtain ⟨g2_, h⟩ := h
      refine ⟨g2_, ?_⟩
      replace K := fun i ro uo z => K i ro uo ⟨g2_, z⟩
      refine ⟨fun c => ?_, fun c => ?_⟩
      · replace h := h.1 c
        replace K := fun i ro uo z => K i ro uo (Or.inl ⟨c, z⟩)
        exact ⟨h, K i0 _ _ ⟨rfl, rfl⟩⟩
      · replace h := h.2 c
        replace K := fun i ro uo z => K i ro uo (Or.inr ⟨c, z⟩)
        exact ⟨h, K i0 _ _ ⟨rfl, rfl⟩⟩
    · replace h := h.2 c
      replace K := fun i ro uo z => K i ro uo (Or.inr ⟨c, z⟩)
      exact ru_X12_unitAt_J12 i0 K h
set_option maxRecDepth 100000 in
theorem vw_X12_unitAt_J12 {ro : Option Nat} {uo : MS} {U12 : MS} (h : v_X12_unitAt_J12 ro uo U12) : w_X12_unitAt_J12 (fun r u => r = ro ∧ u = uo) U12 := by
  unfold v_X12_unitAt_J12 at h
  unfold w_X12_unitAt_J12
  intro _
  replace h := h.2
  exact ⟨h.1.symm, h.2.symm⟩
set_option maxRecDepth 100000 in
theorem vp_X12_unitAt_J12 {ro : Option Nat} {uo : MS} {P : Option Nat → MS → Prop} {U12 : MS} (h : v_X12_unitAt_J12 ro uo U12) (w : w_X12_unitAt_J12 P U12) : P ro uo := by
  unfold v_X12_unitAt_J12 at h
  unfold w_X12_unitAt_J12 at w
  obtain ⟨y1_, h⟩ := h
  replace w := w y1_
  rw [h.1, h.2]
  exact w
set_option maxRecDepth 100000 in
theorem vwX12_unitAt {S : MS} {x1 : Int32} {ro : Option Nat} {uo : MS} (h : vX12_unitAt S x1 ro uo) : wX12_unitAt S x1 (fun r u => r = ro ∧ u = uo) := by
  unfold vX12_unitAt at h
  unfold wX12_unitAt
  rcases h with ⟨c, h⟩ | ⟨c, h⟩
  · refine ⟨fun _ => ?_, fun c2 => absurd c c2⟩
    exact vw_X12_unitAt_J12 h
  · refine ⟨fun c2 => absurd c2 c, fun _ => ?_⟩
    rcases h with ⟨c, h⟩ | ⟨c, h⟩
    · refine ⟨fun _ => ?_, fun c2 => absurd c c2⟩
      obtain ⟨g9, h⟩ := h
      refine ⟨g9, ?_⟩
      rcases h with ⟨c, h⟩ | ⟨c, h⟩
      · refine ⟨fun _ => ?_, fun c2 => absurd c c2⟩
        exact ⟨h.1.symm, h.2.symm⟩
      · refine ⟨fun c2 => absurd c2 c, fun _ => ?_⟩
        exact ⟨h.1.symm, h.2.symm⟩
    · refine ⟨fun c2 => absurd c2 c, fun _ => ?_⟩
      exact vw_X12_unitAt_J12 h
set_option maxRecDepth 100000 in
theorem vpX12_unitAt {S : MS} {x1 : Int32} {ro : Option Nat} {uo : MS} {P : Option Nat → MS → Prop} (h : vX12_unitAt S x1 ro uo) (w : wX12_unitAt S x1 P) : P ro uo := by
  unfold vX12_unitAt at h
  unfold wX12_unitAt at w
  rcases h with ⟨c, h⟩ | ⟨c, h⟩
  · replace w := w.1 c
    exact vp_X12_unitAt_J12 h w
  · replace w := w.2 c
    rcases h with ⟨c, h⟩ | ⟨c, h⟩
    · replace w := w.1 c
      replace h := h.2
      replace w := w.2
      rcases h with ⟨c, h⟩ | ⟨c, h⟩
      · replace w := w.1 c
        rw [h.1, h.2]
        exact w
      · replace w := w.2 c
        rw [h.1, h.2]
        exact w
    · replace w := w.2 c
      exact vp_X12_unitAt_J12 h w
def v_X12_soundUnitAt_J24 (ro : Option Nat) (uo : MS) (U24 : MS) : Prop := (wfC U24 ∧ (ro = none ∧ uo = U24))
def vX12_soundUnitAt (S : MS) (x1 : Int32) (ro : Option Nat) (uo : MS) : Prop := (∃ (b5 : Option Nat) (S3 : MS), vX12_unitAt S x1 b5 S3 ∧ wfC S3 ∧ shy S S3 ∧ (∀ z, b5 = some z → qT S3 z = 49) ∧ ((b5 = none ∧ (v_X12_soundUnitAt_J24 ro uo S3)) ∨ (¬ b5 = none ∧ (((qI S3 ((b5).getD 0) 15).toInt = 0 ∧ (v_X12_soundUnitAt_J24 ro uo S3)) ∨ (¬ (qI S3 ((b5).getD 0) 15).toInt = 0 ∧ (((qI S3 ((b5).getD 0) 16).toInt < 0 ∧ (ro = (some ((b5).getD 0)) ∧ uo = S3)) ∨ (¬ (qI S3 ((b5).getD 0) 16).toInt < 0 ∧ (v_X12_soundUnitAt_J24 ro uo S3))))))))
set_option maxRecDepth 100000 in
theorem ru_X12_soundUnitAt_J24 {ι : Type} {P Q : Option Nat → MS → Prop} {U24 : MS} (i0 : ι) (K : ∀ (i : ι) (ro : Option Nat) (uo : MS), v_X12_soundUnitAt_J24 ro uo U24 → P ro uo) (h : w_X12_soundUnitAt_J24 Q U24) : w_X12_soundUnitAt_J24 (fun r u => Q r u ∧ P r u) U24 := by
  unfold w_X12_soundUnitAt_J24 at h ⊢
  intro y1_
  replace h := h y1_
  replace K := fun i ro uo z => K i ro uo ⟨y1_, z⟩
  exact ⟨h, K i0 _ _ ⟨rfl, rfl⟩⟩
set_option maxRecDepth 100000 in
theorem ruX12_soundUnitAt {S : MS} {x1 : Int32} {Q : Option Nat → MS → Prop} (h : wX12_soundUnitAt S x1 Q) : wX12_soundUnitAt S x1 (fun r u => Q r u ∧ vX12_soundUnitAt S x1 r u) := by
  have i0 : Unit := ()
  have K : ∀ (i : Unit) (ro : Option Nat) (uo : MS), vX12_soundUnitAt S x1 ro uo → vX12_soundUnitAt S x1 ro uo := fun _ _ _ z => z
  unfold wX12_soundUnitAt at h ⊢
  obtain ⟨Q9, h0, h⟩ := h
  refine ⟨_, ruX12_unitAt h0, ?_⟩
  intro b5 S3 q2_ y3_ y4_ y5_
  replace h := h b5 S3 q2_.1 y3_ y4_ y5_
  replace K := fun i ro uo z => K i ro uo ⟨b5, S3, q2_.2, y3_, y4_, y5_, z⟩
  refine ⟨fun c => ?_, fun c => ?_⟩
  · replace h := h.1 c
    replace K := fun i ro uo z => K i ro uo (Or.inl ⟨c, z⟩)
    exact ru_X12_soundUnitAt_J24 i0 K h
  · replace h := h.2 c
    replace K := fun i ro uo z => K i ro uo (Or.inr ⟨c, z⟩)
    refine ⟨fun c => ?_, fun c => ?_⟩
    · replace h := h.1 c
      replace K := fun i ro uo z => K i ro uo (Or.inl ⟨c, z⟩)
      exact ru_X12_soundUnitAt_J24 i0 K h
    · replace h := h.2 c
      replace K := fun i ro uo z => K i ro uo (Or.inr ⟨c, z⟩)
      refine ⟨fun c => ?_, fun c => ?_⟩
      · replace h := h.1 c
        replace K := fun i ro uo z => K i ro uo (Or.inl ⟨c, z⟩)
        exact ⟨h, K i0 _ _ ⟨rfl, rfl⟩⟩
      · replace h := h.2 c
        replace K := fun i ro uo z => K i ro uo (Or.inr ⟨c, z⟩)
        exact ru_X12_soundUnitAt_J24 i0 K h
set_option maxRecDepth 100000 in
theorem vw_X12_soundUnitAt_J24 {ro : Option Nat} {uo : MS} {U24 : MS} (h : v_X12_soundUnitAt_J24 ro uo U24) : w_X12_soundUnitAt_J24 (fun r u => r = ro ∧ u = uo) U24 := by
  unfold v_X12_soundUnitAt_J24 at h
  unfold w_X12_soundUnitAt_J24
  intro _
  replace h := h.2
  exact ⟨h.1.symm, h.2.symm⟩
set_option maxRecDepth 100000 in
theorem vp_X12_soundUnitAt_J24 {ro : Option Nat} {uo : MS} {P : Option Nat → MS → Prop} {U24 : MS} (h : v_X12_soundUnitAt_J24 ro uo U24) (w : w_X12_soundUnitAt_J24 P U24) : P ro uo := by
  unfold v_X12_soundUnitAt_J24 at h
  unfold w_X12_soundUnitAt_J24 at w
  obtain ⟨y1_, h⟩ := h
  replace w := w y1_
  rw [h.1, h.2]
  exact w
set_option maxRecDepth 100000 in
theorem vwX12_soundUnitAt {S : MS} {x1 : Int32} {ro : Option Nat} {uo : MS} (h : vX12_soundUnitAt S x1 ro uo) : wX12_soundUnitAt S x1 (fun r u => r = ro ∧ u = uo) := by
  unfold vX12_soundUnitAt at h
  unfold wX12_soundUnitAt
  obtain ⟨p9, q9, z9, h⟩ := h
  refine ⟨_, vwX12_unitAt z9, ?_⟩
  rintro p8 q8 ⟨d8, d9⟩ _ _ _
  subst d8
  subst d9
  replace h := h.2.2.2
  rcases h with ⟨c, h⟩ | ⟨c, h⟩
  · refine ⟨fun _ => ?_, fun c2 => absurd c c2⟩
    exact vw_X12_soundUnitAt_J24 h
  · refine ⟨fun c2 => absurd c2 c, fun _ => ?_⟩
    rcases h with ⟨c, h⟩ | ⟨c, h⟩
    · refine ⟨fun _ => ?_, fun c2 => absurd c c2⟩
      exact vw_X12_soundUnitAt_J24 h
    · refine ⟨fun c2 => absurd c2 c, fun _ => ?_⟩
      rcases h with ⟨c, h⟩ | ⟨c, h⟩
      · refine ⟨fun _ => ?_, fun c2 => absurd c c2⟩
        exact ⟨h.1.symm, h.2.symm⟩
      · refine ⟨fun c2 => absurd c2 c, fun _ => ?_⟩
        exact vw_X12_soundUnitAt_J24 h
set_option maxRecDepth 100000 in
theorem vpX12_soundUnitAt {S : MS} {x1 : Int32} {ro : Option Nat} {uo : MS} {P : Option Nat → MS → Prop} (h : vX12_soundUnitAt S x1 ro uo) (w : wX12_soundUnitAt S x1 P) : P ro uo := by
  unfold vX12_soundUnitAt at h
  unfold wX12_soundUnitAt at w
  obtain ⟨p9, q9, z9, y2_, y3_, y4_, h⟩ := h
  obtain ⟨Q9, w0, w⟩ := w
  replace w := w p9 q9 (vpX12_unitAt z9 w0) y2_ y3_ y4_
  rcases h with ⟨c, h⟩ | ⟨c, h⟩
  · replace w := w.1 c
    exact vp_X12_soundUnitAt_J24 h w
  · replace w := w.2 c
    rcases h with ⟨c, h⟩ | ⟨c, h⟩
    · replace w := w.1 c
      exact vp_X12_soundUnitAt_J24 h w
    · replace w := w.2 c
      rcases h with ⟨c, h⟩ | ⟨c, h⟩
      · replace w := w.1 c
        rw [h.1, h.2]
        exact w
      · replace w := w.2 c
        exact vp_X12_soundUnitAt_J24 h w
def vX12_rowAt (S : MS) (x1 : Int32) (x2 : Int32) (ro : Option Nat) (uo : MS) : Prop := (∃ (b5 : Option Nat) (S3 : MS), vX12_unitAt S x1 b5 S3 ∧ wfC S3 ∧ shy S S3 ∧ (∀ z, b5 = some z → qT S3 z = 49) ∧ ((b5 = none ∧ (ro = none ∧ uo = S3)) ∨ (¬ b5 = none ∧ (qT S3 ((b5).getD 0) = 49 ∧ (∃ (b11 : Option Nat) (S9 : MS), vX10_rowAt S3 ((b5).getD 0) x2 b11 S9 ∧ wfC S9 ∧ shy S3 S9 ∧ (∀ z, b11 = some z → qT S9 z = 47) ∧ ((b11 = none ∧ (ro = none ∧ uo = S9)) ∨ (¬ b11 = none ∧ (ro = (some ((b11).getD 0)) ∧ uo = S9))))))))
set_option maxRecDepth 100000 in
theorem ruX12_rowAt {S : MS} {x1 : Int32} {x2 : Int32} {Q : Option Nat → MS → Prop} (h : wX12_rowAt S x1 x2 Q) : wX12_rowAt S x1 x2 (fun r u => Q r u ∧ vX12_rowAt S x1 x2 r u) := by
  have i0 : Unit := ()
  have K : ∀ (i : Unit) (ro : Option Nat) (uo : MS), vX12_rowAt S x1 x2 ro uo → vX12_rowAt S x1 x2 ro uo := fun _ _ _ z => z
  unfold wX12_rowAt at h ⊢
  obtain ⟨Q9, h0, h⟩ := h
  refine ⟨_, ruX12_unitAt h0, ?_⟩
  intro b5 S3 q1_ y2_ y3_ y4_
  replace h := h b5 S3 q1_.1 y2_ y3_ y4_
  replace K := fun i ro uo z => K i ro uo ⟨b5, S3, q1_.2, y2_, y3_, y4_, z⟩
  refine ⟨fun c => ?_, fun c => ?_⟩
  · replace h := h.1 c
    replace K := fun i ro uo z => K i ro uo (Or.inl ⟨c, z⟩)
    exact ⟨h, K i0 _ _ ⟨rfl, rfl⟩⟩
  · replace h := h.2 c
    replace K := fun i ro uo z => K i ro uo (Or.inr ⟨c, z⟩)
    intro y5_
    replace h := h y5_
    replace K := fun i ro uo z => K i ro uo ⟨y5_, z⟩
    obtain ⟨Q9, h0, h⟩ := h
    refine ⟨_, ruX10_rowAt h0, ?_⟩
    intro b11 S9 q6_ y7_ y8_ y9_
    replace h := h b11 S9 q6_.1 y7_ y8_ y9_
    replace K := fun i ro uo z => K i ro uo ⟨b11, S9, q6_.2, y7_, y8_, y9_, z⟩
    refine ⟨fun c => ?_, fun c => ?_⟩
    · replace h := h.1 c
      replace K := fun i ro uo z => K i ro uo (Or.inl ⟨c, z⟩)
      exact ⟨h, K i0 _ _ ⟨rfl, rfl⟩⟩
    · replace h := h.2 c
      replace K := fun i ro uo z => K i ro uo (Or.inr ⟨c, z⟩)
      exact ⟨h, K i0 _ _ ⟨rfl, rfl⟩⟩
set_option maxRecDepth 100000 in
theorem vwX12_rowAt {S : MS} {x1 : Int32} {x2 : Int32} {ro : Option Nat} {uo : MS} (h : vX12_rowAt S x1 x2 ro uo) : wX12_rowAt S x1 x2 (fun r u => r = ro ∧ u = uo) := by
  unfold vX12_rowAt at h
  unfold wX12_rowAt
  obtain ⟨p9, q9, z9, h⟩ := h
  refine ⟨_, vwX12_unitAt z9, ?_⟩
  rintro p8 q8 ⟨d8, d9⟩ _ _ _
  subst d8
  subst d9
  replace h := h.2.2.2
  rcases h with ⟨c, h⟩ | ⟨c, h⟩
  · refine ⟨fun _ => ?_, fun c2 => absurd c c2⟩
    exact ⟨h.1.symm, h.2.symm⟩
  · refine ⟨fun c2 => absurd c2 c, fun _ => ?_⟩
    intro _
    replace h := h.2
    obtain ⟨p9, q9, z9, h⟩ := h
    refine ⟨_, vwX10_rowAt z9, ?_⟩
    rintro p8 q8 ⟨d8, d9⟩ _ _ _
    subst d8
    subst d9
    replace h := h.2.2.2
    rcases h with ⟨c, h⟩ | ⟨c, h⟩
    · refine ⟨fun _ => ?_, fun c2 => absurd c c2⟩
      exact ⟨h.1.symm, h.2.symm⟩
    · refine ⟨fun c2 => absurd c2 c, fun _ => ?_⟩
      exact ⟨h.1.symm, h.2.symm⟩
set_option maxRecDepth 100000 in
theorem vpX12_rowAt {S : MS} {x1 : Int32} {x2 : Int32} {ro : Option Nat} {uo : MS} {P : Option Nat → MS → Prop} (h : vX12_rowAt S x1 x2 ro uo) (w : wX12_rowAt S x1 x2 P) : P ro uo := by
  unfold vX12_rowAt at h
  unfold wX12_rowAt at w
  obtain ⟨p9, q9, z9, y1_, y2_, y3_, h⟩ := h
  obtain ⟨Q9, w0, w⟩ := w
  replace w := w p9 q9 (vpX12_unitAt z9 w0) y1_ y2_ y3_
  rcases h with ⟨c, h⟩ | ⟨c, h⟩
  · replace w := w.1 c
    rw [h.1, h.2]
    exact w
  · replace w := w.2 c
    obtain ⟨y4_, h⟩ := h
    replace w := w y4_
    obtain ⟨p9, q9, z9, y5_, y6_, y7_, h⟩ := h
    obtain ⟨Q9, w0, w⟩ := w
    replace w := w p9 q9 (vpX10_rowAt z9 w0) y5_ y6_ y7_
    rcases h with ⟨c, h⟩ | ⟨c, h⟩
    · replace w := w.1 c
      rw [h.1, h.2]
      exact w
    · replace w := w.2 c
      rw [h.1, h.2]
      exact w
def vX12_keep (S : MS) (p1 : Option Nat) (x2 : Int32) (ro : Int32) (uo : MS) : Prop := ((p1 = none ∧ (ro = x2 ∧ uo = S)) ∨ (¬ p1 = none ∧ (((qI S 0 11).toInt < 12 ∧ (((0 : Int) ≤ (qI S 0 11).toInt ∧ (qI S 0 11).toInt < 12) ∧ (∃ S4 : MS, S4 = wR S 7 (((qI S 0 11).toInt).toNat) (some ((p1).getD 0)) ∧ qT S 7 = 5 ∧ wfC S4 ∧ (∃ S6 : MS, S6 = wI S4 0 11 ((qI S4 0 11) + (1 : Int32)) ∧ qT S4 0 = 51 ∧ wfC S6 ∧ (ro = ((qI S6 0 11) - (1 : Int32)) ∧ uo = S6))))) ∨ (¬ (qI S 0 11).toInt < 12 ∧ (ro = x2 ∧ uo = S)))))
set_option maxRecDepth 100000 in
theorem ruX12_keep {S : MS} {p1 : Option Nat} {x2 : Int32} {Q : Int32 → MS → Prop} (h : wX12_keep S p1 x2 Q) : wX12_keep S p1 x2 (fun r u => Q r u ∧ vX12_keep S p1 x2 r u) := by
  have i0 : Unit := ()
  have K : ∀ (i : Unit) (ro : Int32) (uo : MS), vX12_keep S p1 x2 ro uo → vX12_keep S p1 x2 ro uo := fun _ _ _ z => z
  unfold wX12_keep at h ⊢
  refine ⟨fun c => ?_, fun c => ?_⟩
  · replace h := h.1 c
    replace K := fun i ro uo z => K i ro uo (Or.inl ⟨c, z⟩)
    exact ⟨h, K i0 _ _ ⟨rfl, rfl⟩⟩
  · replace h := h.2 c
    replace K := fun i ro uo z => K i ro uo (Or.inr ⟨c, z⟩)
    refine ⟨fun c => ?_, fun c => ?_⟩
    · replace h := h.1 c
      replace K := fun i ro uo z => K i ro uo (Or.inl ⟨c, z⟩)
      obtain ⟨g1_, h⟩ := h
      refine ⟨g1_, ?_⟩
      replace K := fun i ro uo z => K i ro uo ⟨g1_, z⟩
      intro S4 eS4 y2_ y3_
      replace h := h S4 eS4 y2_ y3_
      replace K := fun i ro uo z => K i ro uo ⟨S4, eS4, y2_, y3_, z⟩
      intro S6 eS6 y4_ y5_
      replace h := h S6 eS6 y4_ y5_
      replace K := fun i ro uo z => K i ro uo ⟨S6, eS6, y4_, y5_, z⟩
      exact ⟨h, K i0 _ _ ⟨rfl, rfl⟩⟩
    · replace h := h.2 c
      replace K := fun i ro uo z => K i ro uo (Or.inr ⟨c, z⟩)
      exact ⟨h, K i0 _ _ ⟨rfl, rfl⟩⟩
set_option maxRecDepth 100000 in
theorem vwX12_keep {S : MS} {p1 : Option Nat} {x2 : Int32} {ro : Int32} {uo : MS} (h : vX12_keep S p1 x2 ro uo) : wX12_keep S p1 x2 (fun r u => r = ro ∧ u = uo) := by
  unfold vX12_keep at h
  unfold wX12_keep
  rcases h with ⟨c, h⟩ | ⟨c, h⟩
  · refine ⟨fun _ => ?_, fun c2 => absurd c c2⟩
    exact ⟨h.1.symm, h.2.symm⟩
  · refine ⟨fun c2 => absurd c2 c, fun _ => ?_⟩
    rcases h with ⟨c, h⟩ | ⟨c, h⟩
    · refine ⟨fun _ => ?_, fun c2 => absurd c c2⟩
      obtain ⟨g9, h⟩ := h
      refine ⟨g9, ?_⟩
      obtain ⟨v9, e9, h⟩ := h
      intro x9 d9 _ _
      have c9 : v9 = x9 := e9.trans d9.symm
      subst c9
      replace h := h.2.2
      obtain ⟨v9, e9, h⟩ := h
      intro x9 d9 _ _
      have c9 : v9 = x9 := e9.trans d9.symm
      subst c9
      replace h := h.2.2
      exact ⟨h.1.symm, h.2.symm⟩
    · refine ⟨fun c2 => absurd c2 c, fun _ => ?_⟩
      exact ⟨h.1.symm, h.2.symm⟩
set_option maxRecDepth 100000 in
theorem vpX12_keep {S : MS} {p1 : Option Nat} {x2 : Int32} {ro : Int32} {uo : MS} {P : Int32 → MS → Prop} (h : vX12_keep S p1 x2 ro uo) (w : wX12_keep S p1 x2 P) : P ro uo := by
  unfold vX12_keep at h
  unfold wX12_keep at w
  rcases h with ⟨c, h⟩ | ⟨c, h⟩
  · replace w := w.1 c
    rw [h.1, h.2]
    exact w
  · replace w := w.2 c
    rcases h with ⟨c, h⟩ | ⟨c, h⟩
    · replace w := w.1 c
      replace h := h.2
      replace w := w.2
      obtain ⟨v9, e9, y1_, y2_, h⟩ := h
      replace w := w v9 e9 y1_ y2_
      obtain ⟨v9, e9, y3_, y4_, h⟩ := h
      replace w := w v9 e9 y3_ y4_
      rw [h.1, h.2]
      exact w
    · replace w := w.2 c
      rw [h.1, h.2]
      exact w
def v_X1_comeTo_J152 (uo : MS) (U152 : MS) (v152_1 : Int32) : Prop := (wfC U152 ∧ (((0 : Int) ≤ v152_1.toInt ∧ v152_1.toInt < (qN U152 (qO U152 16 2) : Int)) ∧ (∃ S18 : MS, S18 = wI U152 (qO U152 16 2) v152_1.toInt.toNat (vp_nar .boolean (1 : Int32)) ∧ qT U152 (qO U152 16 2) = 301 ∧ wfC S18 ∧ (uo = S18))))
def v_X1_comeTo_J146 (uo : MS) (k50 : MS → Int32 → Int32 → Int32 → Int32 → Prop) (U146 : MS) (v146_1 : Int32) (v146_2 : Int32) (v146_3 : Int32) (v146_4 : Int32) : Prop := (wfC U146 ∧ (v146_3 = 0 ∨ v146_3 = 1) ∧ (∃ a21 : Int32, a21 = (v146_4 + Int32.ofInt 1) ∧ (k50 U146 v146_1 v146_2 v146_3 a21)))
def v_X1_comeTo_J122 (uo : MS) (k50 : MS → Int32 → Int32 → Int32 → Int32 → Prop) (U122 : MS) (v122_1 : Int32) (v122_2 : Int32) (v122_3 : Int32) (v122_4 : Int32) (v122_5 : Int32) : Prop := (wfC U122 ∧ (v122_3 = 0 ∨ v122_3 = 1) ∧ (((0 : Int) ≤ (v122_2 + v122_4).toInt ∧ (v122_2 + v122_4).toInt < (qN U122 (qO U122 16 1) : Int)) ∧ (∃ S25 : MS, S25 = wI U122 (qO U122 16 1) (((v122_2 + v122_4).toInt).toNat) (vp_nar .byte (v122_5.toInt8.toInt32)) ∧ qT U122 (qO U122 16 1) = 102 ∧ wfC S25 ∧ (((0 : Int) ≤ v122_1.toInt ∧ v122_1.toInt < (qN S25 (qO S25 16 3) : Int)) ∧ (∃ S28 : MS, S28 = wI S25 (qO S25 16 3) v122_1.toInt.toNat (vp_nar .boolean (1 : Int32)) ∧ qT S25 (qO S25 16 3) = 302 ∧ wfC S28 ∧ (∃ S29 : MS, S29 = wI S28 16 7 (1 : Int32) ∧ qT S28 16 = 41 ∧ wfC S29 ∧ (v_X1_comeTo_J146 uo k50 S29 v122_1 v122_2 v122_3 v122_4)))))))
def v_X1_comeTo_J102 (uo : MS) (k50 : MS → Int32 → Int32 → Int32 → Int32 → Prop) (U102 : MS) (t102_0 : Int32) (v102_1 : Int32) (v102_2 : Int32) (v102_3 : Int32) (v102_4 : Int32) : Prop := (wfC U102 ∧ (v102_3 = 0 ∨ v102_3 = 1) ∧ ((v102_3.toInt = 0 ∧ (((0 : Int) ≤ (v102_2 + v102_4).toInt ∧ (v102_2 + v102_4).toInt < (qN U102 (qO U102 16 1) : Int)) ∧ ((t102_0.toInt = (qI U102 (qO U102 16 1) (((v102_2 + v102_4).toInt).toNat)).toInt ∧ (v_X1_comeTo_J146 uo k50 U102 v102_1 v102_2 v102_3 v102_4)) ∨ (¬ t102_0.toInt = (qI U102 (qO U102 16 1) (((v102_2 + v102_4).toInt).toNat)).toInt ∧ (v_X1_comeTo_J122 uo k50 U102 v102_1 v102_2 v102_3 v102_4 t102_0))))) ∨ (¬ v102_3.toInt = 0 ∧ (v_X1_comeTo_J122 uo k50 U102 v102_1 v102_2 v102_3 v102_4 t102_0))))
def v_X1_comeTo_L50 (uo : MS) : Nat → MS → Int32 → Int32 → Int32 → Int32 → Prop
  | 0, _, _, _, _, _ => False
  | n50 + 1, U50, v50_1, v50_2, v50_3, v50_4 => (wfC U50 ∧ (v50_3 = 0 ∨ v50_3 = 1) ∧ ((((24 : Int32) + (qI U50 16 5)).toInt ≤ v50_4.toInt ∧ (v_X1_comeTo_J152 uo U50 v50_1)) ∨ (¬ ((24 : Int32) + (qI U50 16 5)).toInt ≤ v50_4.toInt ∧ ((48 ≤ v50_4.toInt ∧ (v_X1_comeTo_J152 uo U50 v50_1)) ∨ (¬ 48 ≤ v50_4.toInt ∧ ((v50_3.toInt = 0 ∧ (((0 : Int) ≤ (v50_2 + v50_4).toInt ∧ (v50_2 + v50_4).toInt < (qN U50 (qO U50 16 1) : Int)) ∧ (((0 : Int) ≤ v50_4.toInt ∧ v50_4.toInt < 48) ∧ (d_X1_join U50 (qI U50 (qO U50 16 1) (((v50_2 + v50_4).toInt).toNat)) (qI U50 24 v50_4.toInt.toNat) ∧ (v_X1_comeTo_J102 uo (v_X1_comeTo_L50 uo n50) U50 (fX1_join U50 (qI U50 (qO U50 16 1) (((v50_2 + v50_4).toInt).toNat)) (qI U50 24 v50_4.toInt.toNat)) v50_1 v50_2 v50_3 v50_4))))) ∨ (¬ v50_3.toInt = 0 ∧ (((0 : Int) ≤ v50_4.toInt ∧ v50_4.toInt < 48) ∧ (v_X1_comeTo_J102 uo (v_X1_comeTo_L50 uo n50) U50 (qI U50 24 v50_4.toInt.toNat) v50_1 v50_2 v50_3 v50_4)))))))))
def v_X1_comeTo_J46 (uo : MS) (U46 : MS) (t46_0 : Int32) (v46_1 : Int32) (v46_2 : Int32) : Prop := (wfC U46 ∧ (t46_0 = 0 ∨ t46_0 = 1) ∧ (∃ n, v_X1_comeTo_L50 uo n U46 v46_1 v46_2 t46_0 0))
def vX1_comeTo (S : MS) (x1 : Int32) (uo : MS) : Prop := ((x1.toInt < 0 ∧ (uo = S)) ∨ (¬ x1.toInt < 0 ∧ ((qR S 16 9 = some (qO S 16 9)) ∧ (((qI S (qO S 16 9) 2).toInt ≤ x1.toInt ∧ (uo = S)) ∨ (¬ (qI S (qO S 16 9) 2).toInt ≤ x1.toInt ∧ (d_X4_isWrong S 17 x1 ∧ (((fX4_isWrong S 17 x1).toInt = 0 ∧ (∃ a10 : Int32, a10 = (x1 * (48 : Int32)) ∧ (((0 : Int) ≤ x1.toInt ∧ x1.toInt < (qN S (qO S 16 2) : Int)) ∧ (((qI S (qO S 16 2) x1.toInt.toNat).toInt = 0 ∧ (v_X1_comeTo_J46 uo S 1 x1 a10)) ∨ (¬ (qI S (qO S 16 2) x1.toInt.toNat).toInt = 0 ∧ (v_X1_comeTo_J46 uo S 0 x1 a10)))))) ∨ (¬ (fX4_isWrong S 17 x1).toInt = 0 ∧ (uo = S)))))))))
set_option maxRecDepth 100000 in
theorem ru_X1_comeTo_J152 {ι : Type} {P Q : MS → Prop} {U152 : MS} {v152_1 : Int32} (i0 : ι) (K : ∀ (i : ι) (uo : MS), v_X1_comeTo_J152 uo U152 v152_1 → P uo) (h : w_X1_comeTo_J152 Q U152 v152_1) : w_X1_comeTo_J152 (fun u => Q u ∧ P u) U152 v152_1 := by
  unfold w_X1_comeTo_J152 at h ⊢
  intro y1_
  replace h := h y1_
  replace K := fun i uo z => K i uo ⟨y1_, z⟩
  obtain ⟨g2_, h⟩ := h
  refine ⟨g2_, ?_⟩
  replace K := fun i uo z => K i uo ⟨g2_, z⟩
  intro S18 eS18 y3_ y4_
  replace h := h S18 eS18 y3_ y4_
  replace K := fun i uo z => K i uo ⟨S18, eS18, y3_, y4_, z⟩
  exact ⟨h, K i0 _ rfl⟩
set_option maxRecDepth 100000 in
theorem ru_X1_comeTo_J146 {ι : Type} {P Q : MS → Prop} {k50 k50' : MS → Int32 → Int32 → Int32 → Int32 → Prop} {k50v : ι → MS → MS → Int32 → Int32 → Int32 → Int32 → Prop} {U146 : MS} {v146_1 : Int32} {v146_2 : Int32} {v146_3 : Int32} {v146_4 : Int32} (i0 : ι) (hk50 : ∀ (u : MS) (z0 : Int32) (z1 : Int32) (z2 : Int32) (z3 : Int32), k50 u z0 z1 z2 z3 → (∀ (i : ι) (uo : MS), k50v i uo u z0 z1 z2 z3 → P uo) → k50' u z0 z1 z2 z3) (K : ∀ (i : ι) (uo : MS), v_X1_comeTo_J146 uo (k50v i uo) U146 v146_1 v146_2 v146_3 v146_4 → P uo) (h : w_X1_comeTo_J146 Q k50 U146 v146_1 v146_2 v146_3 v146_4) : w_X1_comeTo_J146 (fun u => Q u ∧ P u) k50' U146 v146_1 v146_2 v146_3 v146_4 := by
  unfold w_X1_comeTo_J146 at h ⊢
  intro y5_ y6_
  replace h := h y5_ y6_
  replace K := fun i uo z => K i uo ⟨y5_, y6_, z⟩
  intro a21 ea21 
  replace h := h a21 ea21 
  replace K := fun i uo z => K i uo ⟨a21, ea21, z⟩
  exact hk50 _ _ _ _ _ h K
set_option maxRecDepth 100000 in
theorem ru_X1_comeTo_J122 {ι : Type} {P Q : MS → Prop} {k50 k50' : MS → Int32 → Int32 → Int32 → Int32 → Prop} {k50v : ι → MS → MS → Int32 → Int32 → Int32 → Int32 → Prop} {U122 : MS} {v122_1 : Int32} {v122_2 : Int32} {v122_3 : Int32} {v122_4 : Int32} {v122_5 : Int32} (i0 : ι) (hk50 : ∀ (u : MS) (z0 : Int32) (z1 : Int32) (z2 : Int32) (z3 : Int32), k50 u z0 z1 z2 z3 → (∀ (i : ι) (uo : MS), k50v i uo u z0 z1 z2 z3 → P uo) → k50' u z0 z1 z2 z3) (K : ∀ (i : ι) (uo : MS), v_X1_comeTo_J122 uo (k50v i uo) U122 v122_1 v122_2 v122_3 v122_4 v122_5 → P uo) (h : w_X1_comeTo_J122 Q k50 U122 v122_1 v122_2 v122_3 v122_4 v122_5) : w_X1_comeTo_J122 (fun u => Q u ∧ P u) k50' U122 v122_1 v122_2 v122_3 v122_4 v122_5 := by
  unfold w_X1_comeTo_J122 at h ⊢
  intro y7_ y8_
  replace h := h y7_ y8_
  replace K := fun i uo z => K i uo ⟨y7_, y8_, z⟩
  obtain ⟨g9_, h⟩ := h
  refine ⟨g9_, ?_⟩
  replace K := fun i uo z => K i uo ⟨g9_, z⟩
  intro S25 eS25 y10_ y11_
  replace h := h S25 eS25 y10_ y11_
  replace K := fun i uo z => K i uo ⟨S25, eS25, y10_, y11_, z⟩
  obtain ⟨g12_, h⟩ := h
  refine ⟨g12_, ?_⟩
  replace K := fun i uo z => K i uo ⟨g12_, z⟩
  intro S28 eS28 y13_ y14_
  replace h := h S28 eS28 y13_ y14_
  replace K := fun i uo z => K i uo ⟨S28, eS28, y13_, y14_, z⟩
  intro S29 eS29 y15_ y16_
  replace h := h S29 eS29 y15_ y16_
  replace K := fun i uo z => K i uo ⟨S29, eS29, y15_, y16_, z⟩
  exact ru_X1_comeTo_J146 i0 hk50 K h
set_option maxRecDepth 100000 in
theorem ru_X1_comeTo_J102 {ι : Type} {P Q : MS → Prop} {k50 k50' : MS → Int32 → Int32 → Int32 → Int32 → Prop} {k50v : ι → MS → MS → Int32 → Int32 → Int32 → Int32 → Prop} {U102 : MS} {t102_0 : Int32} {v102_1 : Int32} {v102_2 : Int32} {v102_3 : Int32} {v102_4 : Int32} (i0 : ι) (hk50 : ∀ (u : MS) (z0 : Int32) (z1 : Int32) (z2 : Int32) (z3 : Int32), k50 u z0 z1 z2 z3 → (∀ (i : ι) (uo : MS), k50v i uo u z0 z1 z2 z3 → P uo) → k50' u z0 z1 z2 z3) (K : ∀ (i : ι) (uo : MS), v_X1_comeTo_J102 uo (k50v i uo) U102 t102_0 v102_1 v102_2 v102_3 v102_4 → P uo) (h : w_X1_comeTo_J102 Q k50 U102 t102_0 v102_1 v102_2 v102_3 v102_4) : w_X1_comeTo_J102 (fun u => Q u ∧ P u) k50' U102 t102_0 v102_1 v102_2 v102_3 v102_4 := by
  unfold w_X1_comeTo_J102 at h ⊢
  intro y17_ y18_
  replace h := h y17_ y18_
  replace K := fun i uo z => K i uo ⟨y17_, y18_, z⟩
  refine ⟨fun c => ?_, fun c => ?_⟩
  · replace h := h.1 c
    replace K := fun i uo z => K i uo (Or.inl ⟨c, z⟩)
    obtain ⟨g19_, h⟩ := h
    refine ⟨g19_, ?_⟩
    replace K := fun i uo z => K i uo ⟨g19_, z⟩
    refine ⟨fun c => ?_, fun c => ?_⟩
    · replace h := h.1 c
      replace K := fun i uo z => K i uo (Or.inl ⟨c, z⟩)
      exact ru_X1_comeTo_J146 i0 hk50 K h
    · replace h := h.2 c
      replace K := fun i uo z => K i uo (Or.inr ⟨c, z⟩)
      exact ru_X1_comeTo_J122 i0 hk50 K h
  · replace h := h.2 c
    replace K := fun i uo z => K i uo (Or.inr ⟨c, z⟩)
    exact ru_X1_comeTo_J122 i0 hk50 K h
set_option maxRecDepth 100000 in
theorem ru_X1_comeTo_L50 {ι : Type} {P Q : MS → Prop} : ∀ (n : Nat) {U50 : MS} {v50_1 : Int32} {v50_2 : Int32} {v50_3 : Int32} {v50_4 : Int32} (i0 : ι), (∀ (i : ι) (uo : MS), (∃ n8, v_X1_comeTo_L50 uo n8 U50 v50_1 v50_2 v50_3 v50_4) → P uo) → w_X1_comeTo_L50 Q n U50 v50_1 v50_2 v50_3 v50_4 → w_X1_comeTo_L50 (fun u => Q u ∧ P u) n U50 v50_1 v50_2 v50_3 v50_4 := by
  intro n
  induction n with
  | zero => intro U50 v50_1 v50_2 v50_3 v50_4 i0 K h; unfold w_X1_comeTo_L50 at h; exact h.elim
  | succ n ih =>
    intro U50 v50_1 v50_2 v50_3 v50_4 i0 K h
    unfold w_X1_comeTo_L50 at h ⊢
    replace K := fun (i : ι × Nat) uo (z : v_X1_comeTo_L50 uo (i.2 + 1) U50 v50_1 v50_2 v50_3 v50_4) => K i.1 uo ⟨i.2 + 1, z⟩
    have i00 := i0
    replace i0 : ι × Nat := (i0, 0)
    intro y20_ y21_
    replace h := h y20_ y21_
    replace K := fun i uo z => K i uo ⟨y20_, y21_, z⟩
    refine ⟨fun c => ?_, fun c => ?_⟩
    · replace h := h.1 c
      replace K := fun i uo z => K i uo (Or.inl ⟨c, z⟩)
      exact ru_X1_comeTo_J152 i0 K h
    · replace h := h.2 c
      replace K := fun i uo z => K i uo (Or.inr ⟨c, z⟩)
      refine ⟨fun c => ?_, fun c => ?_⟩
      · replace h := h.1 c
        replace K := fun i uo z => K i uo (Or.inl ⟨c, z⟩)
        exact ru_X1_comeTo_J152 i0 K h
      · replace h := h.2 c
        replace K := fun i uo z => K i uo (Or.inr ⟨c, z⟩)
        refine ⟨fun c => ?_, fun c => ?_⟩
        · replace h := h.1 c
          replace K := fun i uo z => K i uo (Or.inl ⟨c, z⟩)
          obtain ⟨g22_, h⟩ := h
          refine ⟨g22_, ?_⟩
          replace K := fun i uo z => K i uo ⟨g22_, z⟩
          obtain ⟨g23_, h⟩ := h
          refine ⟨g23_, ?_⟩
          replace K := fun i uo z => K i uo ⟨g23_, z⟩
          obtain ⟨g24_, h⟩ := h
          refine ⟨g24_, ?_⟩
          replace K := fun i uo z => K i uo ⟨g24_, z⟩
          exact ru_X1_comeTo_J102 i0 (fun _ _ _ _ _ h K => ih i00 (fun i uo ⟨n8, z⟩ => K (i, n8) uo z) h) K h
        · replace h := h.2 c
          replace K := fun i uo z => K i uo (Or.inr ⟨c, z⟩)
          obtain ⟨g25_, h⟩ := h
          refine ⟨g25_, ?_⟩
          replace K := fun i uo z => K i uo ⟨g25_, z⟩
          exact ru_X1_comeTo_J102 i0 (fun _ _ _ _ _ h K => ih i00 (fun i uo ⟨n8, z⟩ => K (i, n8) uo z) h) K h
set_option maxRecDepth 100000 in
theorem ru_X1_comeTo_J46 {ι : Type} {P Q : MS → Prop} {U46 : MS} {t46_0 : Int32} {v46_1 : Int32} {v46_2 : Int32} (i0 : ι) (K : ∀ (i : ι) (uo : MS), v_X1_comeTo_J46 uo U46 t46_0 v46_1 v46_2 → P uo) (h : w_X1_comeTo_J46 Q U46 t46_0 v46_1 v46_2) : w_X1_comeTo_J46 (fun u => Q u ∧ P u) U46 t46_0 v46_1 v46_2 := by
  unfold w_X1_comeTo_J46 at h ⊢
  intro y26_ y27_
  replace h := h y26_ y27_
  replace K := fun i uo z => K i uo ⟨y26_, y27_, z⟩
  obtain ⟨n9, h⟩ := h
  exact ⟨n9, ru_X1_comeTo_L50 n9 i0 K h⟩
set_option maxRecDepth 100000 in
theorem ruX1_comeTo {S : MS} {x1 : Int32} {Q : MS → Prop} (h : wX1_comeTo S x1 Q) : wX1_comeTo S x1 (fun u => Q u ∧ vX1_comeTo S x1 u) := by
  have i0 : Unit := ()
  have K : ∀ (i : Unit) (uo : MS), vX1_comeTo S x1 uo → vX1_comeTo S x1 uo := fun _ _ z => z
  unfold wX1_comeTo at h ⊢
  refine ⟨fun c => ?_, fun c => ?_⟩
  · replace h := h.1 c
    replace K := fun i uo z => K i uo (Or.inl ⟨c, z⟩)
    exact ⟨h, K i0 _ rfl⟩
  · replace h := h.2 c
    replace K := fun i uo z => K i uo (Or.inr ⟨c, z⟩)
    obtain ⟨g28_, h⟩ := h
    refine ⟨g28_, ?_⟩
    replace K := fun i uo z => K i uo ⟨g28_, z⟩
    refine ⟨fun c => ?_, fun c => ?_⟩
    · replace h := h.1 c
      replace K := fun i uo z => K i uo (Or.inl ⟨c, z⟩)
      exact ⟨h, K i0 _ rfl⟩
    · replace h := h.2 c
      replace K := fun i uo z => K i uo (Or.inr ⟨c, z⟩)
      obtain ⟨g29_, h⟩ := h
      refine ⟨g29_, ?_⟩
      replace K := fun i uo z => K i uo ⟨g29_, z⟩
      refine ⟨fun c => ?_, fun c => ?_⟩
      · replace h := h.1 c
        replace K := fun i uo z => K i uo (Or.inl ⟨c, z⟩)
        intro a10 ea10 
        replace h := h a10 ea10 
        replace K := fun i uo z => K i uo ⟨a10, ea10, z⟩
        obtain ⟨g30_, h⟩ := h
        refine ⟨g30_, ?_⟩
        replace K := fun i uo z => K i uo ⟨g30_, z⟩
        refine ⟨fun c => ?_, fun c => ?_⟩
        · replace h := h.1 c
          replace K := fun i uo z => K i uo (Or.inl ⟨c, z⟩)
          exact ru_X1_comeTo_J46 i0 K h
        · replace h := h.2 c
          replace K := fun i uo z => K i uo (Or.inr ⟨c, z⟩)
          exact ru_X1_comeTo_J46 i0 K h
      · replace h := h.2 c
        replace K := fun i uo z => K i uo (Or.inr ⟨c, z⟩)
        exact ⟨h, K i0 _ rfl⟩
set_option maxRecDepth 100000 in
theorem vw_X1_comeTo_J152 {uo : MS} {U152 : MS} {v152_1 : Int32} (h : v_X1_comeTo_J152 uo U152 v152_1) : w_X1_comeTo_J152 (fun u => u = uo) U152 v152_1 := by
  unfold v_X1_comeTo_J152 at h
  unfold w_X1_comeTo_J152
  intro _
  replace h := h.2
  obtain ⟨g9, h⟩ := h
  refine ⟨g9, ?_⟩
  obtain ⟨v9, e9, h⟩ := h
  intro x9 d9 _ _
  have c9 : v9 = x9 := e9.trans d9.symm
  subst c9
  replace h := h.2.2
  exact h.symm
set_option maxRecDepth 100000 in
theorem vp_X1_comeTo_J152 {uo : MS} {P : MS → Prop} {U152 : MS} {v152_1 : Int32} (h : v_X1_comeTo_J152 uo U152 v152_1) (w : w_X1_comeTo_J152 P U152 v152_1) : P uo := by
  unfold v_X1_comeTo_J152 at h
  unfold w_X1_comeTo_J152 at w
  obtain ⟨y1_, h⟩ := h
  replace w := w y1_
  replace h := h.2
  replace w := w.2
  obtain ⟨v9, e9, y2_, y3_, h⟩ := h
  replace w := w v9 e9 y2_ y3_
  rw [h]
  exact w
set_option maxRecDepth 100000 in
theorem vw_X1_comeTo_J146 {uo : MS} {k50 k50v : MS → Int32 → Int32 → Int32 → Int32 → Prop} {U146 : MS} {v146_1 : Int32} {v146_2 : Int32} {v146_3 : Int32} {v146_4 : Int32} (hk50 : ∀ (u : MS) (z0 : Int32) (z1 : Int32) (z2 : Int32) (z3 : Int32), k50v u z0 z1 z2 z3 → k50 u z0 z1 z2 z3) (h : v_X1_comeTo_J146 uo k50v U146 v146_1 v146_2 v146_3 v146_4) : w_X1_comeTo_J146 (fun u => u = uo) k50 U146 v146_1 v146_2 v146_3 v146_4 := by
  unfold v_X1_comeTo_J146 at h
  unfold w_X1_comeTo_J146
  intro _ _
  replace h := h.2.2
  obtain ⟨v9, e9, h⟩ := h
  intro x9 d9 
  have c9 : v9 = x9 := e9.trans d9.symm
  subst c9
  exact hk50 _ _ _ _ _ h
set_option maxRecDepth 100000 in
theorem vp_X1_comeTo_J146 {uo : MS} {P : MS → Prop} {k50 k50v : MS → Int32 → Int32 → Int32 → Int32 → Prop} {U146 : MS} {v146_1 : Int32} {v146_2 : Int32} {v146_3 : Int32} {v146_4 : Int32} (hk50 : ∀ (u : MS) (z0 : Int32) (z1 : Int32) (z2 : Int32) (z3 : Int32), k50v u z0 z1 z2 z3 → k50 u z0 z1 z2 z3 → P uo) (h : v_X1_comeTo_J146 uo k50v U146 v146_1 v146_2 v146_3 v146_4) (w : w_X1_comeTo_J146 P k50 U146 v146_1 v146_2 v146_3 v146_4) : P uo := by
  unfold v_X1_comeTo_J146 at h
  unfold w_X1_comeTo_J146 at w
  obtain ⟨y4_, y5_, h⟩ := h
  replace w := w y4_ y5_
  obtain ⟨v9, e9, h⟩ := h
  replace w := w v9 e9 
  exact hk50 _ _ _ _ _ h w
set_option maxRecDepth 100000 in
theorem vw_X1_comeTo_J122 {uo : MS} {k50 k50v : MS → Int32 → Int32 → Int32 → Int32 → Prop} {U122 : MS} {v122_1 : Int32} {v122_2 : Int32} {v122_3 : Int32} {v122_4 : Int32} {v122_5 : Int32} (hk50 : ∀ (u : MS) (z0 : Int32) (z1 : Int32) (z2 : Int32) (z3 : Int32), k50v u z0 z1 z2 z3 → k50 u z0 z1 z2 z3) (h : v_X1_comeTo_J122 uo k50v U122 v122_1 v122_2 v122_3 v122_4 v122_5) : w_X1_comeTo_J122 (fun u => u = uo) k50 U122 v122_1 v122_2 v122_3 v122_4 v122_5 := by
  unfold v_X1_comeTo_J122 at h
  unfold w_X1_comeTo_J122
  intro _ _
  replace h := h.2.2
  obtain ⟨g9, h⟩ := h
  refine ⟨g9, ?_⟩
  obtain ⟨v9, e9, h⟩ := h
  intro x9 d9 _ _
  have c9 : v9 = x9 := e9.trans d9.symm
  subst c9
  replace h := h.2.2
  obtain ⟨g9, h⟩ := h
  refine ⟨g9, ?_⟩
  obtain ⟨v9, e9, h⟩ := h
  intro x9 d9 _ _
  have c9 : v9 = x9 := e9.trans d9.symm
  subst c9
  replace h := h.2.2
  obtain ⟨v9, e9, h⟩ := h
  intro x9 d9 _ _
  have c9 : v9 = x9 := e9.trans d9.symm
  subst c9
  replace h := h.2.2
  exact vw_X1_comeTo_J146 hk50 h
set_option maxRecDepth 100000 in
theorem vp_X1_comeTo_J122 {uo : MS} {P : MS → Prop} {k50 k50v : MS → Int32 → Int32 → Int32 → Int32 → Prop} {U122 : MS} {v122_1 : Int32} {v122_2 : Int32} {v122_3 : Int32} {v122_4 : Int32} {v122_5 : Int32} (hk50 : ∀ (u : MS) (z0 : Int32) (z1 : Int32) (z2 : Int32) (z3 : Int32), k50v u z0 z1 z2 z3 → k50 u z0 z1 z2 z3 → P uo) (h : v_X1_comeTo_J122 uo k50v U122 v122_1 v122_2 v122_3 v122_4 v122_5) (w : w_X1_comeTo_J122 P k50 U122 v122_1 v122_2 v122_3 v122_4 v122_5) : P uo := by
  unfold v_X1_comeTo_J122 at h
  unfold w_X1_comeTo_J122 at w
  obtain ⟨y6_, y7_, h⟩ := h
  replace w := w y6_ y7_
  replace h := h.2
  replace w := w.2
  obtain ⟨v9, e9, y8_, y9_, h⟩ := h
  replace w := w v9 e9 y8_ y9_
  replace h := h.2
  replace w := w.2
  obtain ⟨v9, e9, y10_, y11_, h⟩ := h
  replace w := w v9 e9 y10_ y11_
  obtain ⟨v9, e9, y12_, y13_, h⟩ := h
  replace w := w v9 e9 y12_ y13_
  exact vp_X1_comeTo_J146 hk50 h w
set_option maxRecDepth 100000 in
theorem vw_X1_comeTo_J102 {uo : MS} {k50 k50v : MS → Int32 → Int32 → Int32 → Int32 → Prop} {U102 : MS} {t102_0 : Int32} {v102_1 : Int32} {v102_2 : Int32} {v102_3 : Int32} {v102_4 : Int32} (hk50 : ∀ (u : MS) (z0 : Int32) (z1 : Int32) (z2 : Int32) (z3 : Int32), k50v u z0 z1 z2 z3 → k50 u z0 z1 z2 z3) (h : v_X1_comeTo_J102 uo k50v U102 t102_0 v102_1 v102_2 v102_3 v102_4) : w_X1_comeTo_J102 (fun u => u = uo) k50 U102 t102_0 v102_1 v102_2 v102_3 v102_4 := by
  unfold v_X1_comeTo_J102 at h
  unfold w_X1_comeTo_J102
  intro _ _
  replace h := h.2.2
  rcases h with ⟨c, h⟩ | ⟨c, h⟩
  · refine ⟨fun _ => ?_, fun c2 => absurd c c2⟩
    obtain ⟨g9, h⟩ := h
    refine ⟨g9, ?_⟩
    rcases h with ⟨c, h⟩ | ⟨c, h⟩
    · refine ⟨fun _ => ?_, fun c2 => absurd c c2⟩
      exact vw_X1_comeTo_J146 hk50 h
    · refine ⟨fun c2 => absurd c2 c, fun _ => ?_⟩
      exact vw_X1_comeTo_J122 hk50 h
  · refine ⟨fun c2 => absurd c2 c, fun _ => ?_⟩
    exact vw_X1_comeTo_J122 hk50 h
set_option maxRecDepth 100000 in
theorem vp_X1_comeTo_J102 {uo : MS} {P : MS → Prop} {k50 k50v : MS → Int32 → Int32 → Int32 → Int32 → Prop} {U102 : MS} {t102_0 : Int32} {v102_1 : Int32} {v102_2 : Int32} {v102_3 : Int32} {v102_4 : Int32} (hk50 : ∀ (u : MS) (z0 : Int32) (z1 : Int32) (z2 : Int32) (z3 : Int32), k50v u z0 z1 z2 z3 → k50 u z0 z1 z2 z3 → P uo) (h : v_X1_comeTo_J102 uo k50v U102 t102_0 v102_1 v102_2 v102_3 v102_4) (w : w_X1_comeTo_J102 P k50 U102 t102_0 v102_1 v102_2 v102_3 v102_4) : P uo := by
  unfold v_X1_comeTo_J102 at h
  unfold w_X1_comeTo_J102 at w
  obtain ⟨y14_, y15_, h⟩ := h
  replace w := w y14_ y15_
  rcases h with ⟨c, h⟩ | ⟨c, h⟩
  · replace w := w.1 c
    replace h := h.2
    replace w := w.2
    rcases h with ⟨c, h⟩ | ⟨c, h⟩
    · replace w := w.1 c
      exact vp_X1_comeTo_J146 hk50 h w
    · replace w := w.2 c
      exact vp_X1_comeTo_J122 hk50 h w
  · replace w := w.2 c
    exact vp_X1_comeTo_J122 hk50 h w
set_option maxRecDepth 100000 in
theorem vw_X1_comeTo_L50 {uo : MS} : ∀ (n : Nat) {U50 : MS} {v50_1 : Int32} {v50_2 : Int32} {v50_3 : Int32} {v50_4 : Int32}, v_X1_comeTo_L50 uo n U50 v50_1 v50_2 v50_3 v50_4 → w_X1_comeTo_L50 (fun u => u = uo) n U50 v50_1 v50_2 v50_3 v50_4 := by
  intro n
  induction n with
  | zero => intro U50 v50_1 v50_2 v50_3 v50_4 h; unfold v_X1_comeTo_L50 at h; exact h.elim
  | succ n ih =>
    intro U50 v50_1 v50_2 v50_3 v50_4 h
    unfold v_X1_comeTo_L50 at h
    unfold w_X1_comeTo_L50
    intro _ _
    replace h := h.2.2
    rcases h with ⟨c, h⟩ | ⟨c, h⟩
    · refine ⟨fun _ => ?_, fun c2 => absurd c c2⟩
      exact vw_X1_comeTo_J152 h
    · refine ⟨fun c2 => absurd c2 c, fun _ => ?_⟩
      rcases h with ⟨c, h⟩ | ⟨c, h⟩
      · refine ⟨fun _ => ?_, fun c2 => absurd c c2⟩
        exact vw_X1_comeTo_J152 h
      · refine ⟨fun c2 => absurd c2 c, fun _ => ?_⟩
        rcases h with ⟨c, h⟩ | ⟨c, h⟩
        · refine ⟨fun _ => ?_, fun c2 => absurd c c2⟩
          obtain ⟨g9, h⟩ := h
          refine ⟨g9, ?_⟩
          obtain ⟨g9, h⟩ := h
          refine ⟨g9, ?_⟩
          obtain ⟨g9, h⟩ := h
          refine ⟨g9, ?_⟩
          exact vw_X1_comeTo_J102 (fun _ _ _ _ _ h => ih h) h
        · refine ⟨fun c2 => absurd c2 c, fun _ => ?_⟩
          obtain ⟨g9, h⟩ := h
          refine ⟨g9, ?_⟩
          exact vw_X1_comeTo_J102 (fun _ _ _ _ _ h => ih h) h
set_option maxRecDepth 100000 in
theorem vp_X1_comeTo_L50 {uo : MS} {P : MS → Prop} : ∀ (n m : Nat) {U50 : MS} {v50_1 : Int32} {v50_2 : Int32} {v50_3 : Int32} {v50_4 : Int32}, v_X1_comeTo_L50 uo n U50 v50_1 v50_2 v50_3 v50_4 → w_X1_comeTo_L50 P m U50 v50_1 v50_2 v50_3 v50_4 → P uo := by
  intro n
  induction n with
  | zero => intro m U50 v50_1 v50_2 v50_3 v50_4 h; unfold v_X1_comeTo_L50 at h; exact h.elim
  | succ n ih =>
    intro m U50 v50_1 v50_2 v50_3 v50_4 h w
    cases m with
    | zero => unfold w_X1_comeTo_L50 at w; exact w.elim
    | succ m =>
      unfold v_X1_comeTo_L50 at h
      unfold w_X1_comeTo_L50 at w
      obtain ⟨y16_, y17_, h⟩ := h
      replace w := w y16_ y17_
      rcases h with ⟨c, h⟩ | ⟨c, h⟩
      · replace w := w.1 c
        exact vp_X1_comeTo_J152 h w
      · replace w := w.2 c
        rcases h with ⟨c, h⟩ | ⟨c, h⟩
        · replace w := w.1 c
          exact vp_X1_comeTo_J152 h w
        · replace w := w.2 c
          rcases h with ⟨c, h⟩ | ⟨c, h⟩
          · replace w := w.1 c
            replace h := h.2
            replace w := w.2
            replace h := h.2
            replace w := w.2
            replace h := h.2
            replace w := w.2
            exact vp_X1_comeTo_J102 (fun _ _ _ _ _ h w => ih m h w) h w
          · replace w := w.2 c
            replace h := h.2
            replace w := w.2
            exact vp_X1_comeTo_J102 (fun _ _ _ _ _ h w => ih m h w) h w
set_option maxRecDepth 100000 in
theorem vw_X1_comeTo_J46 {uo : MS} {U46 : MS} {t46_0 : Int32} {v46_1 : Int32} {v46_2 : Int32} (h : v_X1_comeTo_J46 uo U46 t46_0 v46_1 v46_2) : w_X1_comeTo_J46 (fun u => u = uo) U46 t46_0 v46_1 v46_2 := by
  unfold v_X1_comeTo_J46 at h
  unfold w_X1_comeTo_J46
  intro _ _
  replace h := h.2.2
  obtain ⟨n9, h⟩ := h
  exact ⟨n9, vw_X1_comeTo_L50 n9 h⟩
set_option maxRecDepth 100000 in
theorem vp_X1_comeTo_J46 {uo : MS} {P : MS → Prop} {U46 : MS} {t46_0 : Int32} {v46_1 : Int32} {v46_2 : Int32} (h : v_X1_comeTo_J46 uo U46 t46_0 v46_1 v46_2) (w : w_X1_comeTo_J46 P U46 t46_0 v46_1 v46_2) : P uo := by
  unfold v_X1_comeTo_J46 at h
  unfold w_X1_comeTo_J46 at w
  obtain ⟨y18_, y19_, h⟩ := h
  replace w := w y18_ y19_
  obtain ⟨n9, h⟩ := h
  obtain ⟨n8, w⟩ := w
  exact vp_X1_comeTo_L50 n9 n8 h w
set_option maxRecDepth 100000 in
theorem vwX1_comeTo {S : MS} {x1 : Int32} {uo : MS} (h : vX1_comeTo S x1 uo) : wX1_comeTo S x1 (fun u => u = uo) := by
  unfold vX1_comeTo at h
  unfold wX1_comeTo
  rcases h with ⟨c, h⟩ | ⟨c, h⟩
  · refine ⟨fun _ => ?_, fun c2 => absurd c c2⟩
    exact h.symm
  · refine ⟨fun c2 => absurd c2 c, fun _ => ?_⟩
    obtain ⟨g9, h⟩ := h
    refine ⟨g9, ?_⟩
    rcases h with ⟨c, h⟩ | ⟨c, h⟩
    · refine ⟨fun _ => ?_, fun c2 => absurd c c2⟩
      exact h.symm
    · refine ⟨fun c2 => absurd c2 c, fun _ => ?_⟩
      obtain ⟨g9, h⟩ := h
      refine ⟨g9, ?_⟩
      rcases h with ⟨c, h⟩ | ⟨c, h⟩
      · refine ⟨fun _ => ?_, fun c2 => absurd c c2⟩
        obtain ⟨v9, e9, h⟩ := h
        intro x9 d9 
        have c9 : v9 = x9 := e9.trans d9.symm
        subst c9
        obtain ⟨g9, h⟩ := h
        refine ⟨g9, ?_⟩
        rcases h with ⟨c, h⟩ | ⟨c, h⟩
        · refine ⟨fun _ => ?_, fun c2 => absurd c c2⟩
          exact vw_X1_comeTo_J46 h
        · refine ⟨fun c2 => absurd c2 c, fun _ => ?_⟩
          exact vw_X1_comeTo_J46 h
      · refine ⟨fun c2 => absurd c2 c, fun _ => ?_⟩
        exact h.symm
set_option maxRecDepth 100000 in
theorem vpX1_comeTo {S : MS} {x1 : Int32} {uo : MS} {P : MS → Prop} (h : vX1_comeTo S x1 uo) (w : wX1_comeTo S x1 P) : P uo := by
  unfold vX1_comeTo at h
  unfold wX1_comeTo at w
  rcases h with ⟨c, h⟩ | ⟨c, h⟩
  · replace w := w.1 c
    rw [h]
    exact w
  · replace w := w.2 c
    replace h := h.2
    replace w := w.2
    rcases h with ⟨c, h⟩ | ⟨c, h⟩
    · replace w := w.1 c
      rw [h]
      exact w
    · replace w := w.2 c
      replace h := h.2
      replace w := w.2
      rcases h with ⟨c, h⟩ | ⟨c, h⟩
      · replace w := w.1 c
        obtain ⟨v9, e9, h⟩ := h
        replace w := w v9 e9 
        replace h := h.2
        replace w := w.2
        rcases h with ⟨c, h⟩ | ⟨c, h⟩
        · replace w := w.1 c
          exact vp_X1_comeTo_J46 h w
        · replace w := w.2 c
          exact vp_X1_comeTo_J46 h w
      · replace w := w.2 c
        rw [h]
        exact w
