def v_X9_isPassedOn_J109 (ro : Int32) (uo : MS) (U109 : MS) : Prop := (wfC U109 ∧ (ro = (0 : Int32) ∧ uo = U109))
def v_X9_isPassedOn_J61 (ro : Int32) (uo : MS) (U61 : MS) (t61_0 : Int32) (v61_1 : Int32) : Prop := (wfC U61 ∧ (t61_0 = 0 ∨ t61_0 = 1) ∧ ((t61_0.toInt = 0 ∧ (v_X9_isPassedOn_J109 ro uo U61)) ∨ (¬ t61_0.toInt = 0 ∧ (d_X8_localOf U61 (qO U61 66 0) v61_1 ∧ (d_X8_localOf U61 (qO U61 66 0) (v61_1 + (1 : Int32)) ∧ (((fX8_localOf U61 (qO U61 66 0) v61_1).toInt = (fX8_localOf U61 (qO U61 66 0) (v61_1 + (1 : Int32))).toInt ∧ (∃ (r25 : Int32) (S26 : MS), vX9_liveBehind U61 (v61_1 + (1 : Int32)) r25 S26 ∧ wfC S26 ∧ shy U61 S26 ∧ (d_X9_localBits S26 v61_1 ∧ (((r25 &&& (fX9_localBits S26 v61_1)).toInt = 0 ∧ (ro = (1 : Int32) ∧ uo = S26)) ∨ (¬ (r25 &&& (fX9_localBits S26 v61_1)).toInt = 0 ∧ (v_X9_isPassedOn_J109 ro uo S26)))))) ∨ (¬ (fX8_localOf U61 (qO U61 66 0) v61_1).toInt = (fX8_localOf U61 (qO U61 66 0) (v61_1 + (1 : Int32))).toInt ∧ (v_X9_isPassedOn_J109 ro uo U61))))))))
def v_X9_isPassedOn_J56 (ro : Int32) (uo : MS) (U56 : MS) (v56_1 : Int32) : Prop := (wfC U56 ∧ (v_X9_isPassedOn_J61 ro uo U56 1 v56_1))
def v_X9_isPassedOn_J60 (ro : Int32) (uo : MS) (U60 : MS) (v60_1 : Int32) : Prop := (wfC U60 ∧ (v_X9_isPassedOn_J61 ro uo U60 0 v60_1))
def v_X9_isPassedOn_J44 (ro : Int32) (uo : MS) (U44 : MS) (v44_1 : Int32) (v44_2 : Int32) (v44_3 : Int32) : Prop := (wfC U44 ∧ ((v44_2.toInt = 58 ∧ ((v44_3.toInt = 25 ∧ (v_X9_isPassedOn_J56 ro uo U44 v44_1)) ∨ (¬ v44_3.toInt = 25 ∧ (v_X9_isPassedOn_J60 ro uo U44 v44_1)))) ∨ (¬ v44_2.toInt = 58 ∧ (v_X9_isPassedOn_J60 ro uo U44 v44_1))))
def v_X9_isPassedOn_J32 (ro : Int32) (uo : MS) (U32 : MS) (v32_1 : Int32) (v32_2 : Int32) (v32_3 : Int32) : Prop := (wfC U32 ∧ ((v32_2.toInt = 55 ∧ ((v32_3.toInt = 22 ∧ (v_X9_isPassedOn_J56 ro uo U32 v32_1)) ∨ (¬ v32_3.toInt = 22 ∧ (v_X9_isPassedOn_J44 ro uo U32 v32_1 v32_2 v32_3)))) ∨ (¬ v32_2.toInt = 55 ∧ (v_X9_isPassedOn_J44 ro uo U32 v32_1 v32_2 v32_3))))
def vX9_isPassedOn (S : MS) (x1 : Int32) (ro : Int32) (uo : MS) : Prop := (d_X8_opAt S (qO S 66 0) x1 ∧ (∃ a5 : Int32, a5 = (fX8_opAt S (qO S 66 0) x1) ∧ (d_X8_opAt S (qO S 66 0) (x1 + (1 : Int32)) ∧ (∃ a11 : Int32, a11 = (fX8_opAt S (qO S 66 0) (x1 + (1 : Int32))) ∧ ((a5.toInt = 54 ∧ ((a11.toInt = 21 ∧ (v_X9_isPassedOn_J56 ro uo S x1)) ∨ (¬ a11.toInt = 21 ∧ (v_X9_isPassedOn_J32 ro uo S x1 a5 a11)))) ∨ (¬ a5.toInt = 54 ∧ (v_X9_isPassedOn_J32 ro uo S x1 a5 a11)))))))
set_option maxRecDepth 100000 in
theorem ru_X9_isPassedOn_J109 {ι : Type} {P Q : Int32 → MS → Prop} {U109 : MS} (i0 : ι) (K : ∀ (i : ι) (ro : Int32) (uo : MS), v_X9_isPassedOn_J109 ro uo U109 → P ro uo) (h : w_X9_isPassedOn_J109 Q U109) : w_X9_isPassedOn_J109 (fun r u => Q r u ∧ P r u) U109 := by
  unfold w_X9_isPassedOn_J109 at h ⊢
  intro y1_
  replace h := h y1_
  replace K := fun i ro uo z => K i ro uo ⟨y1_, z⟩
  exact ⟨h, K i0 _ _ ⟨rfl, rfl⟩⟩
set_option maxRecDepth 100000 in
theorem ru_X9_isPassedOn_J61 {ι : Type} {P Q : Int32 → MS → Prop} {U61 : MS} {t61_0 : Int32} {v61_1 : Int32} (i0 : ι) (K : ∀ (i : ι) (ro : Int32) (uo : MS), v_X9_isPassedOn_J61 ro uo U61 t61_0 v61_1 → P ro uo) (h : w_X9_isPassedOn_J61 Q U61 t61_0 v61_1) : w_X9_isPassedOn_J61 (fun r u => Q r u ∧ P r u) U61 t61_0 v61_1 := by
  unfold w_X9_isPassedOn_J61 at h ⊢
  intro y2_ y3_
  replace h := h y2_ y3_
  replace K := fun i ro uo z => K i ro uo ⟨y2_, y3_, z⟩
  refine ⟨fun c => ?_, fun c => ?_⟩
  · replace h := h.1 c
    replace K := fun i ro uo z => K i ro uo (Or.inl ⟨c, z⟩)
    exact ru_X9_isPassedOn_J109 i0 K h
  · replace h := h.2 c
    replace K := fun i ro uo z => K i ro uo (Or.inr ⟨c, z⟩)
    obtain ⟨g4_, h⟩ := h
    refine ⟨g4_, ?_⟩
    replace K := fun i ro uo z => K i ro uo ⟨g4_, z⟩
    obtain ⟨g5_, h⟩ := h
    refine ⟨g5_, ?_⟩
    replace K := fun i ro uo z => K i ro uo ⟨g5_, z⟩
    refine ⟨fun c => ?_, fun c => ?_⟩
    · replace h := h.1 c
      replace K := fun i ro uo z => K i ro uo (Or.inl ⟨c, z⟩)
      obtain ⟨Q9, h0, h⟩ := h
      refine ⟨_, ruX9_liveBehind h0, ?_⟩
      intro r25 S26 q6_ y7_ y8_
      replace h := h r25 S26 q6_.1 y7_ y8_
      replace K := fun i ro uo z => K i ro uo ⟨r25, S26, q6_.2, y7_, y8_, z⟩
      obtain ⟨g9_, h⟩ := h
      refine ⟨g9_, ?_⟩
      replace K := fun i ro uo z => K i ro uo ⟨g9_, z⟩
      refine ⟨fun c => ?_, fun c => ?_⟩
      · replace h := h.1 c
        replace K := fun i ro uo z => K i ro uo (Or.inl ⟨c, z⟩)
        exact ⟨h, K i0 _ _ ⟨rfl, rfl⟩⟩
      · replace h := h.2 c
        replace K := fun i ro uo z => K i ro uo (Or.inr ⟨c, z⟩)
        exact ru_X9_isPassedOn_J109 i0 K h
    · replace h := h.2 c
      replace K := fun i ro uo z => K i ro uo (Or.inr ⟨c, z⟩)
      exact ru_X9_isPassedOn_J109 i0 K h
set_option maxRecDepth 100000 in
theorem ru_X9_isPassedOn_J56 {ι : Type} {P Q : Int32 → MS → Prop} {U56 : MS} {v56_1 : Int32} (i0 : ι) (K : ∀ (i : ι) (ro : Int32) (uo : MS), v_X9_isPassedOn_J56 ro uo U56 v56_1 → P ro uo) (h : w_X9_isPassedOn_J56 Q U56 v56_1) : w_X9_isPassedOn_J56 (fun r u => Q r u ∧ P r u) U56 v56_1 := by
  unfold w_X9_isPassedOn_J56 at h ⊢
  intro y10_
  replace h := h y10_
  replace K := fun i ro uo z => K i ro uo ⟨y10_, z⟩
  exact ru_X9_isPassedOn_J61 i0 K h
set_option maxRecDepth 100000 in
theorem ru_X9_isPassedOn_J60 {ι : Type} {P Q : Int32 → MS → Prop} {U60 : MS} {v60_1 : Int32} (i0 : ι) (K : ∀ (i : ι) (ro : Int32) (uo : MS), v_X9_isPassedOn_J60 ro uo U60 v60_1 → P ro uo) (h : w_X9_isPassedOn_J60 Q U60 v60_1) : w_X9_isPassedOn_J60 (fun r u => Q r u ∧ P r u) U60 v60_1 := by
  unfold w_X9_isPassedOn_J60 at h ⊢
  intro y11_
  replace h := h y11_
  replace K := fun i ro uo z => K i ro uo ⟨y11_, z⟩
  exact ru_X9_isPassedOn_J61 i0 K h
set_option maxRecDepth 100000 in
theorem ru_X9_isPassedOn_J44 {ι : Type} {P Q : Int32 → MS → Prop} {U44 : MS} {v44_1 : Int32} {v44_2 : Int32} {v44_3 : Int32} (i0 : ι) (K : ∀ (i : ι) (ro : Int32) (uo : MS), v_X9_isPassedOn_J44 ro uo U44 v44_1 v44_2 v44_3 → P ro uo) (h : w_X9_isPassedOn_J44 Q U44 v44_1 v44_2 v44_3) : w_X9_isPassedOn_J44 (fun r u => Q r u ∧ P r u) U44 v44_1 v44_2 v44_3 := by
  unfold w_X9_isPassedOn_J44 at h ⊢
  intro y12_
  replace h := h y12_
  replace K := fun i ro uo z => K i ro uo ⟨y12_, z⟩
  refine ⟨fun c => ?_, fun c => ?_⟩
  · replace h := h.1 c
    replace K := fun i ro uo z => K i ro uo (Or.inl ⟨c, z⟩)
    refine ⟨fun c => ?_, fun c => ?_⟩
    · replace h := h.1 c
      replace K := fun i ro uo z => K i ro uo (Or.inl ⟨c, z⟩)
      exact ru_X9_isPassedOn_J56 i0 K h
    · replace h := h.2 c
      replace K := fun i ro uo z => K i ro uo (Or.inr ⟨c, z⟩)
      exact ru_X9_isPassedOn_J60 i0 K h
  · replace h := h.2 c
    replace K := fun i ro uo z => K i ro uo (Or.inr ⟨c, z⟩)
    exact ru_X9_isPassedOn_J60 i0 K h
set_option maxRecDepth 100000 in
theorem ru_X9_isPassedOn_J32 {ι : Type} {P Q : Int32 → MS → Prop} {U32 : MS} {v32_1 : Int32} {v32_2 : Int32} {v32_3 : Int32} (i0 : ι) (K : ∀ (i : ι) (ro : Int32) (uo : MS), v_X9_isPassedOn_J32 ro uo U32 v32_1 v32_2 v32_3 → P ro uo) (h : w_X9_isPassedOn_J32 Q U32 v32_1 v32_2 v32_3) : w_X9_isPassedOn_J32 (fun r u => Q r u ∧ P r u) U32 v32_1 v32_2 v32_3 := by
  unfold w_X9_isPassedOn_J32 at h ⊢
  intro y13_
  replace h := h y13_
  replace K := fun i ro uo z => K i ro uo ⟨y13_, z⟩
  refine ⟨fun c => ?_, fun c => ?_⟩
  · replace h := h.1 c
    replace K := fun i ro uo z => K i ro uo (Or.inl ⟨c, z⟩)
    refine ⟨fun c => ?_, fun c => ?_⟩
    · replace h := h.1 c
      replace K := fun i ro uo z => K i ro uo (Or.inl ⟨c, z⟩)
      exact ru_X9_isPassedOn_J56 i0 K h
    · replace h := h.2 c
      replace K := fun i ro uo z => K i ro uo (Or.inr ⟨c, z⟩)
      exact ru_X9_isPassedOn_J44 i0 K h
  · replace h := h.2 c
    replace K := fun i ro uo z => K i ro uo (Or.inr ⟨c, z⟩)
    exact ru_X9_isPassedOn_J44 i0 K h
set_option maxRecDepth 100000 in
theorem ruX9_isPassedOn {S : MS} {x1 : Int32} {Q : Int32 → MS → Prop} (h : wX9_isPassedOn S x1 Q) : wX9_isPassedOn S x1 (fun r u => Q r u ∧ vX9_isPassedOn S x1 r u) := by
  have i0 : Unit := ()
  have K : ∀ (i : Unit) (ro : Int32) (uo : MS), vX9_isPassedOn S x1 ro uo → vX9_isPassedOn S x1 ro uo := fun _ _ _ z => z
  unfold wX9_isPassedOn at h ⊢
  obtain ⟨g14_, h⟩ := h
  refine ⟨g14_, ?_⟩
  replace K := fun i ro uo z => K i ro uo ⟨g14_, z⟩
  intro a5 ea5 
  replace h := h a5 ea5 
  replace K := fun i ro uo z => K i ro uo ⟨a5, ea5, z⟩
  obtain ⟨g15_, h⟩ := h
  refine ⟨g15_, ?_⟩
  replace K := fun i ro uo z => K i ro uo ⟨g15_, z⟩
  intro a11 ea11 
  replace h := h a11 ea11 
  replace K := fun i ro uo z => K i ro uo ⟨a11, ea11, z⟩
  refine ⟨fun c => ?_, fun c => ?_⟩
  · replace h := h.1 c
    replace K := fun i ro uo z => K i ro uo (Or.inl ⟨c, z⟩)
    refine ⟨fun c => ?_, fun c => ?_⟩
    · replace h := h.1 c
      replace K := fun i ro uo z => K i ro uo (Or.inl ⟨c, z⟩)
      exact ru_X9_isPassedOn_J56 i0 K h
    · replace h := h.2 c
      replace K := fun i ro uo z => K i ro uo (Or.inr ⟨c, z⟩)
      exact ru_X9_isPassedOn_J32 i0 K h
  · replace h := h.2 c
    replace K := fun i ro uo z => K i ro uo (Or.inr ⟨c, z⟩)
    exact ru_X9_isPassedOn_J32 i0 K h
set_option maxRecDepth 100000 in
theorem vw_X9_isPassedOn_J109 {ro : Int32} {uo : MS} {U109 : MS} (h : v_X9_isPassedOn_J109 ro uo U109) : w_X9_isPassedOn_J109 (fun r u => r = ro ∧ u = uo) U109 := by
  unfold v_X9_isPassedOn_J109 at h
  unfold w_X9_isPassedOn_J109
  intro _
  replace h := h.2
  exact ⟨h.1.symm, h.2.symm⟩
set_option maxRecDepth 100000 in
theorem vp_X9_isPassedOn_J109 {ro : Int32} {uo : MS} {P : Int32 → MS → Prop} {U109 : MS} (h : v_X9_isPassedOn_J109 ro uo U109) (w : w_X9_isPassedOn_J109 P U109) : P ro uo := by
  unfold v_X9_isPassedOn_J109 at h
  unfold w_X9_isPassedOn_J109 at w
  obtain ⟨y1_, h⟩ := h
  replace w := w y1_
  rw [h.1, h.2]
  exact w
set_option maxRecDepth 100000 in
theorem vw_X9_isPassedOn_J61 {ro : Int32} {uo : MS} {U61 : MS} {t61_0 : Int32} {v61_1 : Int32} (h : v_X9_isPassedOn_J61 ro uo U61 t61_0 v61_1) : w_X9_isPassedOn_J61 (fun r u => r = ro ∧ u = uo) U61 t61_0 v61_1 := by
  unfold v_X9_isPassedOn_J61 at h
  unfold w_X9_isPassedOn_J61
  intro _ _
  replace h := h.2.2
  rcases h with ⟨c, h⟩ | ⟨c, h⟩
  · refine ⟨fun _ => ?_, fun c2 => absurd c c2⟩
    exact vw_X9_isPassedOn_J109 h
  · refine ⟨fun c2 => absurd c2 c, fun _ => ?_⟩
    obtain ⟨g9, h⟩ := h
    refine ⟨g9, ?_⟩
    obtain ⟨g9, h⟩ := h
    refine ⟨g9, ?_⟩
    rcases h with ⟨c, h⟩ | ⟨c, h⟩
    · refine ⟨fun _ => ?_, fun c2 => absurd c c2⟩
      obtain ⟨p9, q9, z9, h⟩ := h
      refine ⟨_, vwX9_liveBehind z9, ?_⟩
      rintro p8 q8 ⟨d8, d9⟩ _ _
      subst d8
      subst d9
      replace h := h.2.2
      obtain ⟨g9, h⟩ := h
      refine ⟨g9, ?_⟩
      rcases h with ⟨c, h⟩ | ⟨c, h⟩
      · refine ⟨fun _ => ?_, fun c2 => absurd c c2⟩
        exact ⟨h.1.symm, h.2.symm⟩
      · refine ⟨fun c2 => absurd c2 c, fun _ => ?_⟩
        exact vw_X9_isPassedOn_J109 h
    · refine ⟨fun c2 => absurd c2 c, fun _ => ?_⟩
      exact vw_X9_isPassedOn_J109 h
set_option maxRecDepth 100000 in
theorem vp_X9_isPassedOn_J61 {ro : Int32} {uo : MS} {P : Int32 → MS → Prop} {U61 : MS} {t61_0 : Int32} {v61_1 : Int32} (h : v_X9_isPassedOn_J61 ro uo U61 t61_0 v61_1) (w : w_X9_isPassedOn_J61 P U61 t61_0 v61_1) : P ro uo := by
  unfold v_X9_isPassedOn_J61 at h
  unfold w_X9_isPassedOn_J61 at w
  obtain ⟨y2_, y3_, h⟩ := h
  replace w := w y2_ y3_
  rcases h with ⟨c, h⟩ | ⟨c, h⟩
  · replace w := w.1 c
    exact vp_X9_isPassedOn_J109 h w
  · replace w := w.2 c
    replace h := h.2
    replace w := w.2
    replace h := h.2
    replace w := w.2
    rcases h with ⟨c, h⟩ | ⟨c, h⟩
    · replace w := w.1 c
      obtain ⟨p9, q9, z9, y4_, y5_, h⟩ := h
      obtain ⟨Q9, w0, w⟩ := w
      replace w := w p9 q9 (vpX9_liveBehind z9 w0) y4_ y5_
      replace h := h.2
      replace w := w.2
      rcases h with ⟨c, h⟩ | ⟨c, h⟩
      · replace w := w.1 c
        rw [h.1, h.2]
        exact w
      · replace w := w.2 c
        exact vp_X9_isPassedOn_J109 h w
    · replace w := w.2 c
      exact vp_X9_isPassedOn_J109 h w
set_option maxRecDepth 100000 in
theorem vw_X9_isPassedOn_J56 {ro : Int32} {uo : MS} {U56 : MS} {v56_1 : Int32} (h : v_X9_isPassedOn_J56 ro uo U56 v56_1) : w_X9_isPassedOn_J56 (fun r u => r = ro ∧ u = uo) U56 v56_1 := by
  unfold v_X9_isPassedOn_J56 at h
  unfold w_X9_isPassedOn_J56
  intro _
  replace h := h.2
  exact vw_X9_isPassedOn_J61 h
set_option maxRecDepth 100000 in
theorem vp_X9_isPassedOn_J56 {ro : Int32} {uo : MS} {P : Int32 → MS → Prop} {U56 : MS} {v56_1 : Int32} (h : v_X9_isPassedOn_J56 ro uo U56 v56_1) (w : w_X9_isPassedOn_J56 P U56 v56_1) : P ro uo := by
  unfold v_X9_isPassedOn_J56 at h
  unfold w_X9_isPassedOn_J56 at w
  obtain ⟨y6_, h⟩ := h
  replace w := w y6_
  exact vp_X9_isPassedOn_J61 h w
set_option maxRecDepth 100000 in
theorem vw_X9_isPassedOn_J60 {ro : Int32} {uo : MS} {U60 : MS} {v60_1 : Int32} (h : v_X9_isPassedOn_J60 ro uo U60 v60_1) : w_X9_isPassedOn_J60 (fun r u => r = ro ∧ u = uo) U60 v60_1 := by
  unfold v_X9_isPassedOn_J60 at h
  unfold w_X9_isPassedOn_J60
  intro _
  replace h := h.2
  exact vw_X9_isPassedOn_J61 h
set_option maxRecDepth 100000 in
theorem vp_X9_isPassedOn_J60 {ro : Int32} {uo : MS} {P : Int32 → MS → Prop} {U60 : MS} {v60_1 : Int32} (h : v_X9_isPassedOn_J60 ro uo U60 v60_1) (w : w_X9_isPassedOn_J60 P U60 v60_1) : P ro uo := by
  unfold v_X9_isPassedOn_J60 at h
  unfold w_X9_isPassedOn_J60 at w
  obtain ⟨y7_, h⟩ := h
  replace w := w y7_
  exact vp_X9_isPassedOn_J61 h w
set_option maxRecDepth 100000 in
theorem vw_X9_isPassedOn_J44 {ro : Int32} {uo : MS} {U44 : MS} {v44_1 : Int32} {v44_2 : Int32} {v44_3 : Int32} (h : v_X9_isPassedOn_J44 ro uo U44 v44_1 v44_2 v44_3) : w_X9_isPassedOn_J44 (fun r u => r = ro ∧ u = uo) U44 v44_1 v44_2 v44_3 := by
  unfold v_X9_isPassedOn_J44 at h
  unfold w_X9_isPassedOn_J44
  intro _
  replace h := h.2
  rcases h with ⟨c, h⟩ | ⟨c, h⟩
  · refine ⟨fun _ => ?_, fun c2 => absurd c c2⟩
    rcases h with ⟨c, h⟩ | ⟨c, h⟩
    · refine ⟨fun _ => ?_, fun c2 => absurd c c2⟩
      exact vw_X9_isPassedOn_J56 h
    · refine ⟨fun c2 => absurd c2 c, fun _ => ?_⟩
      exact vw_X9_isPassedOn_J60 h
  · refine ⟨fun c2 => absurd c2 c, fun _ => ?_⟩
    exact vw_X9_isPassedOn_J60 h
set_option maxRecDepth 100000 in
theorem vp_X9_isPassedOn_J44 {ro : Int32} {uo : MS} {P : Int32 → MS → Prop} {U44 : MS} {v44_1 : Int32} {v44_2 : Int32} {v44_3 : Int32} (h : v_X9_isPassedOn_J44 ro uo U44 v44_1 v44_2 v44_3) (w : w_X9_isPassedOn_J44 P U44 v44_1 v44_2 v44_3) : P ro uo := by
  unfold v_X9_isPassedOn_J44 at h
  unfold w_X9_isPassedOn_J44 at w
  obtain ⟨y8_, h⟩ := h
  replace w := w y8_
  rcases h with ⟨c, h⟩ | ⟨c, h⟩
  · replace w := w.1 c
    rcases h with ⟨c, h⟩ | ⟨c, h⟩
    · replace w := w.1 c
      exact vp_X9_isPassedOn_J56 h w
    · replace w := w.2 c
      exact vp_X9_isPassedOn_J60 h w
  · replace w := w.2 c
    exact vp_X9_isPassedOn_J60 h w
set_option maxRecDepth 100000 in
theorem vw_X9_isPassedOn_J32 {ro : Int32} {uo : MS} {U32 : MS} {v32_1 : Int32} {v32_2 : Int32} {v32_3 : Int32} (h : v_X9_isPassedOn_J32 ro uo U32 v32_1 v32_2 v32_3) : w_X9_isPassedOn_J32 (fun r u => r = ro ∧ u = uo) U32 v32_1 v32_2 v32_3 := by
  unfold v_X9_isPassedOn_J32 at h
  unfold w_X9_isPassedOn_J32
  intro _
  replace h := h.2
  rcases h with ⟨c, h⟩ | ⟨c, h⟩
  · refine ⟨fun _ => ?_, fun c2 => absurd c c2⟩
    rcases h with ⟨c, h⟩ | ⟨c, h⟩
    · refine ⟨fun _ => ?_, fun c2 => absurd c c2⟩
      exact vw_X9_isPassedOn_J56 h
    · refine ⟨fun c2 => absurd c2 c, fun _ => ?_⟩
      exact vw_X9_isPassedOn_J44 h
  · refine ⟨fun c2 => absurd c2 c, fun _ => ?_⟩
    exact vw_X9_isPassedOn_J44 h
set_option maxRecDepth 100000 in
theorem vp_X9_isPassedOn_J32 {ro : Int32} {uo : MS} {P : Int32 → MS → Prop} {U32 : MS} {v32_1 : Int32} {v32_2 : Int32} {v32_3 : Int32} (h : v_X9_isPassedOn_J32 ro uo U32 v32_1 v32_2 v32_3) (w : w_X9_isPassedOn_J32 P U32 v32_1 v32_2 v32_3) : P ro uo := by
  unfold v_X9_isPassedOn_J32 at h
  unfold w_X9_isPassedOn_J32 at w
  obtain ⟨y9_, h⟩ := h
  replace w := w y9_
  rcases h with ⟨c, h⟩ | ⟨c, h⟩
  · replace w := w.1 c
    rcases h with ⟨c, h⟩ | ⟨c, h⟩
    · replace w := w.1 c
      exact vp_X9_isPassedOn_J56 h w
    · replace w := w.2 c
      exact vp_X9_isPassedOn_J44 h w
  · replace w := w.2 c
    exact vp_X9_isPassedOn_J44 h w
set_option maxRecDepth 100000 in
theorem vwX9_isPassedOn {S : MS} {x1 : Int32} {ro : Int32} {uo : MS} (h : vX9_isPassedOn S x1 ro uo) : wX9_isPassedOn S x1 (fun r u => r = ro ∧ u = uo) := by
  unfold vX9_isPassedOn at h
  unfold wX9_isPassedOn
  obtain ⟨g9, h⟩ := h
  refine ⟨g9, ?_⟩
  obtain ⟨v9, e9, h⟩ := h
  intro x9 d9 
  have c9 : v9 = x9 := e9.trans d9.symm
  subst c9
  obtain ⟨g9, h⟩ := h
  refine ⟨g9, ?_⟩
  obtain ⟨v9, e9, h⟩ := h
  intro x9 d9 
  have c9 : v9 = x9 := e9.trans d9.symm
  subst c9
  rcases h with ⟨c, h⟩ | ⟨c, h⟩
  · refine ⟨fun _ => ?_, fun c2 => absurd c c2⟩
    rcases h with ⟨c, h⟩ | ⟨c, h⟩
    · refine ⟨fun _ => ?_, fun c2 => absurd c c2⟩
      exact vw_X9_isPassedOn_J56 h
    · refine ⟨fun c2 => absurd c2 c, fun _ => ?_⟩
      exact vw_X9_isPassedOn_J32 h
  · refine ⟨fun c2 => absurd c2 c, fun _ => ?_⟩
    exact vw_X9_isPassedOn_J32 h
set_option maxRecDepth 100000 in
theorem vpX9_isPassedOn {S : MS} {x1 : Int32} {ro : Int32} {uo : MS} {P : Int32 → MS → Prop} (h : vX9_isPassedOn S x1 ro uo) (w : wX9_isPassedOn S x1 P) : P ro uo := by
  unfold vX9_isPassedOn at h
  unfold wX9_isPassedOn at w
  replace h := h.2
  replace w := w.2
  obtain ⟨v9, e9, h⟩ := h
  replace w := w v9 e9 
  replace h := h.2
  replace w := w.2
  obtain ⟨v9, e9, h⟩ := h
  replace w := w v9 e9 
  rcases h with ⟨c, h⟩ | ⟨c, h⟩
  · replace w := w.1 c
    rcases h with ⟨c, h⟩ | ⟨c, h⟩
    · replace w := w.1 c
      exact vp_X9_isPassedOn_J56 h w
    · replace w := w.2 c
      exact vp_X9_isPassedOn_J32 h w
  · replace w := w.2 c
    exact vp_X9_isPassedOn_J32 h w
def v_X9_isDeadStoreDone_J76 (ro : Int32) (uo : MS) (U76 : MS) (t76_0 : Int32) (t76_1 : Int32) (t76_2 : Nat) : Prop := (wfC U76 ∧ qT U76 t76_2 = 47 ∧ (qT U76 t76_2 = 47 ∧ (∃ (S18 : MS), vX8_set U76 t76_2 t76_1 t76_0 0 S18 ∧ wfC S18 ∧ shy U76 S18 ∧ (ro = (1 : Int32) ∧ uo = S18))))
def v_X9_isDeadStoreDone_J23 (ro : Int32) (uo : MS) (U23 : MS) (v23_1 : Int32) (v23_2 : Int32) : Prop := (wfC U23 ∧ (∃ (r7 : Int32) (S8 : MS), vX9_liveBehind U23 v23_1 r7 S8 ∧ wfC S8 ∧ shy U23 S8 ∧ (d_X9_localBits S8 v23_1 ∧ (((r7 &&& (fX9_localBits S8 v23_1)).toInt = 0 ∧ ((v23_2.toInt = 132 ∧ (qT S8 (qO S8 66 0) = 47 ∧ (∃ (S23 : MS), vX8_remove S8 (qO S8 66 0) v23_1 (1 : Int32) S23 ∧ wfC S23 ∧ shy S8 S23 ∧ (ro = (1 : Int32) ∧ uo = S23)))) ∨ (¬ v23_2.toInt = 132 ∧ ((v23_2.toInt = 55 ∧ (v_X9_isDeadStoreDone_J76 ro uo S8 88 v23_1 (qO S8 66 0))) ∨ (¬ v23_2.toInt = 55 ∧ (v_X9_isDeadStoreDone_J76 ro uo S8 87 v23_1 (qO S8 66 0))))))) ∨ (¬ (r7 &&& (fX9_localBits S8 v23_1)).toInt = 0 ∧ (ro = (0 : Int32) ∧ uo = S8))))))
def vX9_isDeadStoreDone (S : MS) (x1 : Int32) (ro : Int32) (uo : MS) : Prop := (d_X8_opAt S (qO S 66 0) x1 ∧ (∃ a5 : Int32, a5 = (fX8_opAt S (qO S 66 0) x1) ∧ ((a5.toInt = 132 ∧ (v_X9_isDeadStoreDone_J23 ro uo S x1 a5)) ∨ (¬ a5.toInt = 132 ∧ (d_X6_isStore S a5 ∧ (((fX6_isStore S a5).toInt = 0 ∧ (ro = (0 : Int32) ∧ uo = S)) ∨ (¬ (fX6_isStore S a5).toInt = 0 ∧ (v_X9_isDeadStoreDone_J23 ro uo S x1 a5))))))))
set_option maxRecDepth 100000 in
theorem ru_X9_isDeadStoreDone_J76 {ι : Type} {P Q : Int32 → MS → Prop} {U76 : MS} {t76_0 : Int32} {t76_1 : Int32} {t76_2 : Nat} (i0 : ι) (K : ∀ (i : ι) (ro : Int32) (uo : MS), v_X9_isDeadStoreDone_J76 ro uo U76 t76_0 t76_1 t76_2 → P ro uo) (h : w_X9_isDeadStoreDone_J76 Q U76 t76_0 t76_1 t76_2) : w_X9_isDeadStoreDone_J76 (fun r u => Q r u ∧ P r u) U76 t76_0 t76_1 t76_2 := by
  unfold w_X9_isDeadStoreDone_J76 at h ⊢
  intro y1_ y2_
  replace h := h y1_ y2_
  replace K := fun i ro uo z => K i ro uo ⟨y1_, y2_, z⟩
  intro y3_
  replace h := h y3_
  replace K := fun i ro uo z => K i ro uo ⟨y3_, z⟩
  obtain ⟨Q9, h0, h⟩ := h
  refine ⟨_, ruX8_set h0, ?_⟩
  intro S18 q4_ y5_ y6_
  replace h := h S18 q4_.1 y5_ y6_
  replace K := fun i ro uo z => K i ro uo ⟨S18, q4_.2, y5_, y6_, z⟩
  exact ⟨h, K i0 _ _ ⟨rfl, rfl⟩⟩
set_option maxRecDepth 100000 in
theorem ru_X9_isDeadStoreDone_J23 {ι : Type} {P Q : Int32 → MS → Prop} {U23 : MS} {v23_1 : Int32} {v23_2 : Int32} (i0 : ι) (K : ∀ (i : ι) (ro : Int32) (uo : MS), v_X9_isDeadStoreDone_J23 ro uo U23 v23_1 v23_2 → P ro uo) (h : w_X9_isDeadStoreDone_J23 Q U23 v23_1 v23_2) : w_X9_isDeadStoreDone_J23 (fun r u => Q r u ∧ P r u) U23 v23_1 v23_2 := by
  unfold w_X9_isDeadStoreDone_J23 at h ⊢
  intro y7_
  replace h := h y7_
  replace K := fun i ro uo z => K i ro uo ⟨y7_, z⟩
  obtain ⟨Q9, h0, h⟩ := h
  refine ⟨_, ruX9_liveBehind h0, ?_⟩
  intro r7 S8 q8_ y9_ y10_
  replace h := h r7 S8 q8_.1 y9_ y10_
  replace K := fun i ro uo z => K i ro uo ⟨r7, S8, q8_.2, y9_, y10_, z⟩
  obtain ⟨g11_, h⟩ := h
  refine ⟨g11_, ?_⟩
  replace K := fun i ro uo z => K i ro uo ⟨g11_, z⟩
  refine ⟨fun c => ?_, fun c => ?_⟩
  · replace h := h.1 c
    replace K := fun i ro uo z => K i ro uo (Or.inl ⟨c, z⟩)
    refine ⟨fun c => ?_, fun c => ?_⟩
    · replace h := h.1 c
      replace K := fun i ro uo z => K i ro uo (Or.inl ⟨c, z⟩)
      intro y12_
      replace h := h y12_
      replace K := fun i ro uo z => K i ro uo ⟨y12_, z⟩
      obtain ⟨Q9, h0, h⟩ := h
      refine ⟨_, ruX8_remove h0, ?_⟩
      intro S23 q13_ y14_ y15_
      replace h := h S23 q13_.1 y14_ y15_
      replace K := fun i ro uo z => K i ro uo ⟨S23, q13_.2, y14_, y15_, z⟩
      exact ⟨h, K i0 _ _ ⟨rfl, rfl⟩⟩
    · replace h := h.2 c
      replace K := fun i ro uo z => K i ro uo (Or.inr ⟨c, z⟩)
      refine ⟨fun c => ?_, fun c => ?_⟩
      · replace h := h.1 c
        replace K := fun i ro uo z => K i ro uo (Or.inl ⟨c, z⟩)
        exact ru_X9_isDeadStoreDone_J76 i0 K h
      · replace h := h.2 c
        replace K := fun i ro uo z => K i ro uo (Or.inr ⟨c, z⟩)
        exact ru_X9_isDeadStoreDone_J76 i0 K h
  · replace h := h.2 c
    replace K := fun i ro uo z => K i ro uo (Or.inr ⟨c, z⟩)
    exact ⟨h, K i0 _ _ ⟨rfl, rfl⟩⟩
set_option maxRecDepth 100000 in
theorem ruX9_isDeadStoreDone {S : MS} {x1 : Int32} {Q : Int32 → MS → Prop} (h : wX9_isDeadStoreDone S x1 Q) : wX9_isDeadStoreDone S x1 (fun r u => Q r u ∧ vX9_isDeadStoreDone S x1 r u) := by
  have i0 : Unit := ()
  have K : ∀ (i : Unit) (ro : Int32) (uo : MS), vX9_isDeadStoreDone S x1 ro uo → vX9_isDeadStoreDone S x1 ro uo := fun _ _ _ z => z
  unfold wX9_isDeadStoreDone at h ⊢
  obtain ⟨g16_, h⟩ := h
  refine ⟨g16_, ?_⟩
  replace K := fun i ro uo z => K i ro uo ⟨g16_, z⟩
  intro a5 ea5 
  replace h := h a5 ea5 
  replace K := fun i ro uo z => K i ro uo ⟨a5, ea5, z⟩
  refine ⟨fun c => ?_, fun c => ?_⟩
  · replace h := h.1 c
    replace K := fun i ro uo z => K i ro uo (Or.inl ⟨c, z⟩)
    exact ru_X9_isDeadStoreDone_J23 i0 K h
  · replace h := h.2 c
    replace K := fun i ro uo z => K i ro uo (Or.inr ⟨c, z⟩)
    obtain ⟨g17_, h⟩ := h
    refine ⟨g17_, ?_⟩
    replace K := fun i ro uo z => K i ro uo ⟨g17_, z⟩
    refine ⟨fun c => ?_, fun c => ?_⟩
    · replace h := h.1 c
      replace K := fun i ro uo z => K i ro uo (Or.inl ⟨c, z⟩)
      exact ⟨h, K i0 _ _ ⟨rfl, rfl⟩⟩
    · replace h := h.2 c
      replace K := fun i ro uo z => K i ro uo (Or.inr ⟨c, z⟩)
      exact ru_X9_isDeadStoreDone_J23 i0 K h
set_option maxRecDepth 100000 in
theorem vw_X9_isDeadStoreDone_J76 {ro : Int32} {uo : MS} {U76 : MS} {t76_0 : Int32} {t76_1 : Int32} {t76_2 : Nat} (h : v_X9_isDeadStoreDone_J76 ro uo U76 t76_0 t76_1 t76_2) : w_X9_isDeadStoreDone_J76 (fun r u => r = ro ∧ u = uo) U76 t76_0 t76_1 t76_2 := by
  unfold v_X9_isDeadStoreDone_J76 at h
  unfold w_X9_isDeadStoreDone_J76
  intro _ _
  replace h := h.2.2
  intro _
  replace h := h.2
  obtain ⟨q9, z9, h⟩ := h
  refine ⟨_, vwX8_set z9, ?_⟩
  intro q8 d9 _ _
  subst d9
  replace h := h.2.2
  exact ⟨h.1.symm, h.2.symm⟩
set_option maxRecDepth 100000 in
theorem vp_X9_isDeadStoreDone_J76 {ro : Int32} {uo : MS} {P : Int32 → MS → Prop} {U76 : MS} {t76_0 : Int32} {t76_1 : Int32} {t76_2 : Nat} (h : v_X9_isDeadStoreDone_J76 ro uo U76 t76_0 t76_1 t76_2) (w : w_X9_isDeadStoreDone_J76 P U76 t76_0 t76_1 t76_2) : P ro uo := by
  unfold v_X9_isDeadStoreDone_J76 at h
  unfold w_X9_isDeadStoreDone_J76 at w
  obtain ⟨y1_, y2_, h⟩ := h
  replace w := w y1_ y2_
  obtain ⟨y3_, h⟩ := h
  replace w := w y3_
  obtain ⟨q9, z9, y4_, y5_, h⟩ := h
  obtain ⟨Q9, w0, w⟩ := w
  replace w := w q9 (vpX8_set z9 w0) y4_ y5_
  rw [h.1, h.2]
  exact w
set_option maxRecDepth 100000 in
theorem vw_X9_isDeadStoreDone_J23 {ro : Int32} {uo : MS} {U23 : MS} {v23_1 : Int32} {v23_2 : Int32} (h : v_X9_isDeadStoreDone_J23 ro uo U23 v23_1 v23_2) : w_X9_isDeadStoreDone_J23 (fun r u => r = ro ∧ u = uo) U23 v23_1 v23_2 := by
  unfold v_X9_isDeadStoreDone_J23 at h
  unfold w_X9_isDeadStoreDone_J23
  intro _
  replace h := h.2
  obtain ⟨p9, q9, z9, h⟩ := h
  refine ⟨_, vwX9_liveBehind z9, ?_⟩
  rintro p8 q8 ⟨d8, d9⟩ _ _
  subst d8
  subst d9
  replace h := h.2.2
  obtain ⟨g9, h⟩ := h
  refine ⟨g9, ?_⟩
  rcases h with ⟨c, h⟩ | ⟨c, h⟩
  · refine ⟨fun _ => ?_, fun c2 => absurd c c2⟩
    rcases h with ⟨c, h⟩ | ⟨c, h⟩
    · refine ⟨fun _ => ?_, fun c2 => absurd c c2⟩
      intro _
      replace h := h.2
      obtain ⟨q9, z9, h⟩ := h
      refine ⟨_, vwX8_remove z9, ?_⟩
      intro q8 d9 _ _
      subst d9
      replace h := h.2.2
      exact ⟨h.1.symm, h.2.symm⟩
    · refine ⟨fun c2 => absurd c2 c, fun _ => ?_⟩
      rcases h with ⟨c, h⟩ | ⟨c, h⟩
      · refine ⟨fun _ => ?_, fun c2 => absurd c c2⟩
        exact vw_X9_isDeadStoreDone_J76 h
      · refine ⟨fun c2 => absurd c2 c, fun _ => ?_⟩
        exact vw_X9_isDeadStoreDone_J76 h
  · refine ⟨fun c2 => absurd c2 c, fun _ => ?_⟩
    exact ⟨h.1.symm, h.2.symm⟩
set_option maxRecDepth 100000 in
theorem vp_X9_isDeadStoreDone_J23 {ro : Int32} {uo : MS} {P : Int32 → MS → Prop} {U23 : MS} {v23_1 : Int32} {v23_2 : Int32} (h : v_X9_isDeadStoreDone_J23 ro uo U23 v23_1 v23_2) (w : w_X9_isDeadStoreDone_J23 P U23 v23_1 v23_2) : P ro uo := by
  unfold v_X9_isDeadStoreDone_J23 at h
  unfold w_X9_isDeadStoreDone_J23 at w
  obtain ⟨y6_, h⟩ := h
  replace w := w y6_
  obtain ⟨p9, q9, z9, y7_, y8_, h⟩ := h
  obtain ⟨Q9, w0, w⟩ := w
  replace w := w p9 q9 (vpX9_liveBehind z9 w0) y7_ y8_
  replace h := h.2
  replace w := w.2
  rcases h with ⟨c, h⟩ | ⟨c, h⟩
  · replace w := w.1 c
    rcases h with ⟨c, h⟩ | ⟨c, h⟩
    · replace w := w.1 c
      obtain ⟨y9_, h⟩ := h
      replace w := w y9_
      obtain ⟨q9, z9, y10_, y11_, h⟩ := h
      obtain ⟨Q9, w0, w⟩ := w
      replace w := w q9 (vpX8_remove z9 w0) y10_ y11_
      rw [h.1, h.2]
      exact w
    · replace w := w.2 c
      rcases h with ⟨c, h⟩ | ⟨c, h⟩
      · replace w := w.1 c
        exact vp_X9_isDeadStoreDone_J76 h w
      · replace w := w.2 c
        exact vp_X9_isDeadStoreDone_J76 h w
  · replace w := w.2 c
    rw [h.1, h.2]
    exact w
set_option maxRecDepth 100000 in
theorem vwX9_isDeadStoreDone {S : MS} {x1 : Int32} {ro : Int32} {uo : MS} (h : vX9_isDeadStoreDone S x1 ro uo) : wX9_isDeadStoreDone S x1 (fun r u => r = ro ∧ u = uo) := by
  unfold vX9_isDeadStoreDone at h
  unfold wX9_isDeadStoreDone
  obtain ⟨g9, h⟩ := h
  refine ⟨g9, ?_⟩
  obtain ⟨v9, e9, h⟩ := h
  intro x9 d9 
  have c9 : v9 = x9 := e9.trans d9.symm
  subst c9
  rcases h with ⟨c, h⟩ | ⟨c, h⟩
  · refine ⟨fun _ => ?_, fun c2 => absurd c c2⟩
    exact vw_X9_isDeadStoreDone_J23 h
  · refine ⟨fun c2 => absurd c2 c, fun _ => ?_⟩
    obtain ⟨g9, h⟩ := h
    refine ⟨g9, ?_⟩
    rcases h with ⟨c, h⟩ | ⟨c, h⟩
    · refine ⟨fun _ => ?_, fun c2 => absurd c c2⟩
      exact ⟨h.1.symm, h.2.symm⟩
    · refine ⟨fun c2 => absurd c2 c, fun _ => ?_⟩
      exact vw_X9_isDeadStoreDone_J23 h
set_option maxRecDepth 100000 in
theorem vpX9_isDeadStoreDone {S : MS} {x1 : Int32} {ro : Int32} {uo : MS} {P : Int32 → MS → Prop} (h : vX9_isDeadStoreDone S x1 ro uo) (w : wX9_isDeadStoreDone S x1 P) : P ro uo := by
  unfold vX9_isDeadStoreDone at h
  unfold wX9_isDeadStoreDone at w
  replace h := h.2
  replace w := w.2
  obtain ⟨v9, e9, h⟩ := h
  replace w := w v9 e9 
  rcases h with ⟨c, h⟩ | ⟨c, h⟩
  · replace w := w.1 c
    exact vp_X9_isDeadStoreDone_J23 h w
  · replace w := w.2 c
    replace h := h.2
    replace w := w.2
    rcases h with ⟨c, h⟩ | ⟨c, h⟩
    · replace w := w.1 c
      rw [h.1, h.2]
      exact w
    · replace w := w.2 c
      exact vp_X9_isDeadStoreDone_J23 h w
def v_X9_liveBefore_J95 (ro : Int32) (uo : MS) (k53 : MS → Int32 → Int32 → Int32 → Prop) (U95 : MS) (v95_1 : Int32) (v95_3 : Int32) (v95_4 : Int32) : Prop := (wfC U95 ∧ (∃ a19 : Int32, a19 = (v95_4 + Int32.ofInt 1) ∧ (k53 U95 v95_1 v95_3 a19)))
def v_X9_liveBefore_L53 (ro : Int32) (uo : MS) : Nat → MS → Int32 → Int32 → Int32 → Prop
  | 0, _, _, _, _ => False
  | n53 + 1, U53, v53_1, v53_3, v53_4 => (wfC U53 ∧ (((qI U53 (qO U53 66 0) 9).toInt ≤ v53_4.toInt ∧ (ro = v53_3 ∧ uo = U53)) ∨ (¬ (qI U53 (qO U53 66 0) 9).toInt ≤ v53_4.toInt ∧ (d_X8_catchHas U53 (qO U53 66 0) v53_4 v53_1 ∧ (((fX8_catchHas U53 (qO U53 66 0) v53_4 v53_1).toInt = 0 ∧ (v_X9_liveBefore_J95 ro uo (v_X9_liveBefore_L53 ro uo n53) U53 v53_1 v53_3 v53_4)) ∨ (¬ (fX8_catchHas U53 (qO U53 66 0) v53_4 v53_1).toInt = 0 ∧ ((qR U53 (qO U53 66 0) 7 = some (qO U53 (qO U53 66 0) 7)) ∧ (((0 : Int) ≤ v53_4.toInt ∧ v53_4.toInt < (qN U53 (qO U53 (qO U53 66 0) 7) : Int)) ∧ (d_X9_liveAt U53 (qI U53 (qO U53 (qO U53 66 0) 7) v53_4.toInt.toNat) ∧ (∃ a30 : Int32, a30 = (v53_3 ||| (fX9_liveAt U53 (qI U53 (qO U53 (qO U53 66 0) 7) v53_4.toInt.toNat))) ∧ (v_X9_liveBefore_J95 ro uo (v_X9_liveBefore_L53 ro uo n53) U53 v53_1 a30 v53_4)))))))))))
def v_X9_liveBefore_J50 (ro : Int32) (uo : MS) (U50 : MS) (v50_1 : Int32) (v50_3 : Int32) : Prop := (wfC U50 ∧ (∃ n, v_X9_liveBefore_L53 ro uo n U50 v50_1 v50_3 0))
def vX9_liveBefore (S : MS) (x1 : Int32) (ro : Int32) (uo : MS) : Prop := (d_X8_opAt S (qO S 66 0) x1 ∧ (∃ a5 : Int32, a5 = (fX8_opAt S (qO S 66 0) x1) ∧ (∃ (r7 : Int32) (S8 : MS), vX9_liveBehind S x1 r7 S8 ∧ wfC S8 ∧ shy S S8 ∧ (d_X6_isStore S8 a5 ∧ (((fX6_isStore S8 a5).toInt = 0 ∧ (d_X6_usesLocal S8 a5 ∧ (((fX6_usesLocal S8 a5).toInt = 0 ∧ (v_X9_liveBefore_J50 ro uo S8 x1 r7)) ∨ (¬ (fX6_usesLocal S8 a5).toInt = 0 ∧ (d_X9_localBits S8 x1 ∧ (∃ a40 : Int32, a40 = (r7 ||| (fX9_localBits S8 x1)) ∧ (v_X9_liveBefore_J50 ro uo S8 x1 a40))))))) ∨ (¬ (fX6_isStore S8 a5).toInt = 0 ∧ (d_X9_localBits S8 x1 ∧ (∃ a46 : Int32, a46 = (r7 &&& ((fX9_localBits S8 x1) ^^^ (-1 : Int32))) ∧ (v_X9_liveBefore_J50 ro uo S8 x1 a46)))))))))
set_option maxRecDepth 100000 in
theorem ru_X9_liveBefore_J95 {ι : Type} {P Q : Int32 → MS → Prop} {k53 k53' : MS → Int32 → Int32 → Int32 → Prop} {k53v : ι → Int32 → MS → MS → Int32 → Int32 → Int32 → Prop} {U95 : MS} {v95_1 : Int32} {v95_3 : Int32} {v95_4 : Int32} (i0 : ι) (hk53 : ∀ (u : MS) (z0 : Int32) (z1 : Int32) (z2 : Int32), k53 u z0 z1 z2 → (∀ (i : ι) (ro : Int32) (uo : MS), k53v i ro uo u z0 z1 z2 → P ro uo) → k53' u z0 z1 z2) (K : ∀ (i : ι) (ro : Int32) (uo : MS), v_X9_liveBefore_J95 ro uo (k53v i ro uo) U95 v95_1 v95_3 v95_4 → P ro uo) (h : w_X9_liveBefore_J95 Q k53 U95 v95_1 v95_3 v95_4) : w_X9_liveBefore_J95 (fun r u => Q r u ∧ P r u) k53' U95 v95_1 v95_3 v95_4 := by
  unfold w_X9_liveBefore_J95 at h ⊢
  intro y1_
  replace h := h y1_
  replace K := fun i ro uo z => K i ro uo ⟨y1_, z⟩
  intro a19 ea19 
  replace h := h a19 ea19 
  replace K := fun i ro uo z => K i ro uo ⟨a19, ea19, z⟩
  exact hk53 _ _ _ _ h K
set_option maxRecDepth 100000 in
theorem ru_X9_liveBefore_L53 {ι : Type} {P Q : Int32 → MS → Prop} : ∀ (n : Nat) {U53 : MS} {v53_1 : Int32} {v53_3 : Int32} {v53_4 : Int32} (i0 : ι), (∀ (i : ι) (ro : Int32) (uo : MS), (∃ n8, v_X9_liveBefore_L53 ro uo n8 U53 v53_1 v53_3 v53_4) → P ro uo) → w_X9_liveBefore_L53 Q n U53 v53_1 v53_3 v53_4 → w_X9_liveBefore_L53 (fun r u => Q r u ∧ P r u) n U53 v53_1 v53_3 v53_4 := by
  intro n
  induction n with
  | zero => intro U53 v53_1 v53_3 v53_4 i0 K h; unfold w_X9_liveBefore_L53 at h; exact h.elim
  | succ n ih =>
    intro U53 v53_1 v53_3 v53_4 i0 K h
    unfold w_X9_liveBefore_L53 at h ⊢
    replace K := fun (i : ι × Nat) ro uo (z : v_X9_liveBefore_L53 ro uo (i.2 + 1) U53 v53_1 v53_3 v53_4) => K i.1 ro uo ⟨i.2 + 1, z⟩
    have i00 := i0
    replace i0 : ι × Nat := (i0, 0)
    intro y2_
    replace h := h y2_
    replace K := fun i ro uo z => K i ro uo ⟨y2_, z⟩
    refine ⟨fun c => ?_, fun c => ?_⟩
    · replace h := h.1 c
      replace K := fun i ro uo z => K i ro uo (Or.inl ⟨c, z⟩)
      exact ⟨h, K i0 _ _ ⟨rfl, rfl⟩⟩
    · replace h := h.2 c
      replace K := fun i ro uo z => K i ro uo (Or.inr ⟨c, z⟩)
      obtain ⟨g3_, h⟩ := h
      refine ⟨g3_, ?_⟩
      replace K := fun i ro uo z => K i ro uo ⟨g3_, z⟩
      refine ⟨fun c => ?_, fun c => ?_⟩
      · replace h := h.1 c
        replace K := fun i ro uo z => K i ro uo (Or.inl ⟨c, z⟩)
        exact ru_X9_liveBefore_J95 i0 (fun _ _ _ _ h K => ih i00 (fun i ro uo ⟨n8, z⟩ => K (i, n8) ro uo z) h) K h
      · replace h := h.2 c
        replace K := fun i ro uo z => K i ro uo (Or.inr ⟨c, z⟩)
        obtain ⟨g4_, h⟩ := h
        refine ⟨g4_, ?_⟩
        replace K := fun i ro uo z => K i ro uo ⟨g4_, z⟩
        obtain ⟨g5_, h⟩ := h
        refine ⟨g5_, ?_⟩
        replace K := fun i ro uo z => K i ro uo ⟨g5_, z⟩
        obtain ⟨g6_, h⟩ := h
        refine ⟨g6_, ?_⟩
        replace K := fun i ro uo z => K i ro uo ⟨g6_, z⟩
        intro a30 ea30 
        replace h := h a30 ea30 
        replace K := fun i ro uo z => K i ro uo ⟨a30, ea30, z⟩
        exact ru_X9_liveBefore_J95 i0 (fun _ _ _ _ h K => ih i00 (fun i ro uo ⟨n8, z⟩ => K (i, n8) ro uo z) h) K h
set_option maxRecDepth 100000 in
theorem ru_X9_liveBefore_J50 {ι : Type} {P Q : Int32 → MS → Prop} {U50 : MS} {v50_1 : Int32} {v50_3 : Int32} (i0 : ι) (K : ∀ (i : ι) (ro : Int32) (uo : MS), v_X9_liveBefore_J50 ro uo U50 v50_1 v50_3 → P ro uo) (h : w_X9_liveBefore_J50 Q U50 v50_1 v50_3) : w_X9_liveBefore_J50 (fun r u => Q r u ∧ P r u) U50 v50_1 v50_3 := by
  unfold w_X9_liveBefore_J50 at h ⊢
  intro y7_
  replace h := h y7_
  replace K := fun i ro uo z => K i ro uo ⟨y7_, z⟩
  obtain ⟨n9, h⟩ := h
  exact ⟨n9, ru_X9_liveBefore_L53 n9 i0 K h⟩
set_option maxRecDepth 100000 in
theorem ruX9_liveBefore {S : MS} {x1 : Int32} {Q : Int32 → MS → Prop} (h : wX9_liveBefore S x1 Q) : wX9_liveBefore S x1 (fun r u => Q r u ∧ vX9_liveBefore S x1 r u) := by
  have i0 : Unit := ()
  have K : ∀ (i : Unit) (ro : Int32) (uo : MS), vX9_liveBefore S x1 ro uo → vX9_liveBefore S x1 ro uo := fun _ _ _ z => z
  unfold wX9_liveBefore at h ⊢
  obtain ⟨g8_, h⟩ := h
  refine ⟨g8_, ?_⟩
  replace K := fun i ro uo z => K i ro uo ⟨g8_, z⟩
  intro a5 ea5 
  replace h := h a5 ea5 
  replace K := fun i ro uo z => K i ro uo ⟨a5, ea5, z⟩
  obtain ⟨Q9, h0, h⟩ := h
  refine ⟨_, ruX9_liveBehind h0, ?_⟩
  intro r7 S8 q9_ y10_ y11_
  replace h := h r7 S8 q9_.1 y10_ y11_
  replace K := fun i ro uo z => K i ro uo ⟨r7, S8, q9_.2, y10_, y11_, z⟩
  obtain ⟨g12_, h⟩ := h
  refine ⟨g12_, ?_⟩
  replace K := fun i ro uo z => K i ro uo ⟨g12_, z⟩
  refine ⟨fun c => ?_, fun c => ?_⟩
  · replace h := h.1 c
    replace K := fun i ro uo z => K i ro uo (Or.inl ⟨c, z⟩)
    obtain ⟨g13_, h⟩ := h
    refine ⟨g13_, ?_⟩
    replace K := fun i ro uo z => K i ro uo ⟨g13_, z⟩
    refine ⟨fun c => ?_, fun c => ?_⟩
    · replace h := h.1 c
      replace K := fun i ro uo z => K i ro uo (Or.inl ⟨c, z⟩)
      exact ru_X9_liveBefore_J50 i0 K h
    · replace h := h.2 c
      replace K := fun i ro uo z => K i ro uo (Or.inr ⟨c, z⟩)
      obtain ⟨g14_, h⟩ := h
      refine ⟨g14_, ?_⟩
      replace K := fun i ro uo z => K i ro uo ⟨g14_, z⟩
      intro a40 ea40 
      replace h := h a40 ea40 
      replace K := fun i ro uo z => K i ro uo ⟨a40, ea40, z⟩
      exact ru_X9_liveBefore_J50 i0 K h
  · replace h := h.2 c
    replace K := fun i ro uo z => K i ro uo (Or.inr ⟨c, z⟩)
    obtain ⟨g15_, h⟩ := h
    refine ⟨g15_, ?_⟩
    replace K := fun i ro uo z => K i ro uo ⟨g15_, z⟩
    intro a46 ea46 
    replace h := h a46 ea46 
    replace K := fun i ro uo z => K i ro uo ⟨a46, ea46, z⟩
    exact ru_X9_liveBefore_J50 i0 K h
set_option maxRecDepth 100000 in
theorem vw_X9_liveBefore_J95 {ro : Int32} {uo : MS} {k53 k53v : MS → Int32 → Int32 → Int32 → Prop} {U95 : MS} {v95_1 : Int32} {v95_3 : Int32} {v95_4 : Int32} (hk53 : ∀ (u : MS) (z0 : Int32) (z1 : Int32) (z2 : Int32), k53v u z0 z1 z2 → k53 u z0 z1 z2) (h : v_X9_liveBefore_J95 ro uo k53v U95 v95_1 v95_3 v95_4) : w_X9_liveBefore_J95 (fun r u => r = ro ∧ u = uo) k53 U95 v95_1 v95_3 v95_4 := by
  unfold v_X9_liveBefore_J95 at h
  unfold w_X9_liveBefore_J95
  intro _
  replace h := h.2
  obtain ⟨v9, e9, h⟩ := h
  intro x9 d9 
  have c9 : v9 = x9 := e9.trans d9.symm
  subst c9
  exact hk53 _ _ _ _ h
set_option maxRecDepth 100000 in
theorem vp_X9_liveBefore_J95 {ro : Int32} {uo : MS} {P : Int32 → MS → Prop} {k53 k53v : MS → Int32 → Int32 → Int32 → Prop} {U95 : MS} {v95_1 : Int32} {v95_3 : Int32} {v95_4 : Int32} (hk53 : ∀ (u : MS) (z0 : Int32) (z1 : Int32) (z2 : Int32), k53v u z0 z1 z2 → k53 u z0 z1 z2 → P ro uo) (h : v_X9_liveBefore_J95 ro uo k53v U95 v95_1 v95_3 v95_4) (w : w_X9_liveBefore_J95 P k53 U95 v95_1 v95_3 v95_4) : P ro uo := by
  unfold v_X9_liveBefore_J95 at h
  unfold w_X9_liveBefore_J95 at w
  obtain ⟨y1_, h⟩ := h
  replace w := w y1_
  obtain ⟨v9, e9, h⟩ := h
  replace w := w v9 e9 
  exact hk53 _ _ _ _ h w
set_option maxRecDepth 100000 in
theorem vw_X9_liveBefore_L53 {ro : Int32} {uo : MS} : ∀ (n : Nat) {U53 : MS} {v53_1 : Int32} {v53_3 : Int32} {v53_4 : Int32}, v_X9_liveBefore_L53 ro uo n U53 v53_1 v53_3 v53_4 → w_X9_liveBefore_L53 (fun r u => r = ro ∧ u = uo) n U53 v53_1 v53_3 v53_4 := by
  intro n
  induction n with
  | zero => intro U53 v53_1 v53_3 v53_4 h; unfold v_X9_liveBefore_L53 at h; exact h.elim
  | succ n ih =>
    intro U53 v53_1 v53_3 v53_4 h
    unfold v_X9_liveBefore_L53 at h
    unfold w_X9_liveBefore_L53
    intro _
    replace h := h.2
    rcases h with ⟨c, h⟩ | ⟨c, h⟩
    · refine ⟨fun _ => ?_, fun c2 => absurd c c2⟩
      exact ⟨h.1.symm, h.2.symm⟩
    · refine ⟨fun c2 => absurd c2 c, fun _ => ?_⟩
      obtain ⟨g9, h⟩ := h
      refine ⟨g9, ?_⟩
      rcases h with ⟨c, h⟩ | ⟨c, h⟩
      · refine ⟨fun _ => ?_, fun c2 => absurd c c2⟩
        exact vw_X9_liveBefore_J95 (fun _ _ _ _ h => ih h) h
      · refine ⟨fun c2 => absurd c2 c, fun _ => ?_⟩
        obtain ⟨g9, h⟩ := h
        refine ⟨g9, ?_⟩
        obtain ⟨g9, h⟩ := h
        refine ⟨g9, ?_⟩
        obtain ⟨g9, h⟩ := h
        refine ⟨g9, ?_⟩
        obtain ⟨v9, e9, h⟩ := h
        intro x9 d9 
        have c9 : v9 = x9 := e9.trans d9.symm
        subst c9
        exact vw_X9_liveBefore_J95 (fun _ _ _ _ h => ih h) h
set_option maxRecDepth 100000 in
theorem vp_X9_liveBefore_L53 {ro : Int32} {uo : MS} {P : Int32 → MS → Prop} : ∀ (n m : Nat) {U53 : MS} {v53_1 : Int32} {v53_3 : Int32} {v53_4 : Int32}, v_X9_liveBefore_L53 ro uo n U53 v53_1 v53_3 v53_4 → w_X9_liveBefore_L53 P m U53 v53_1 v53_3 v53_4 → P ro uo := by
  intro n
  induction n with
  | zero => intro m U53 v53_1 v53_3 v53_4 h; unfold v_X9_liveBefore_L53 at h; exact h.elim
  | succ n ih =>
    intro m U53 v53_1 v53_3 v53_4 h w
    cases m with
    | zero => unfold w_X9_liveBefore_L53 at w; exact w.elim
    | succ m =>
      unfold v_X9_liveBefore_L53 at h
      unfold w_X9_liveBefore_L53 at w
      obtain ⟨y2_, h⟩ := h
      replace w := w y2_
      rcases h with ⟨c, h⟩ | ⟨c, h⟩
      · replace w := w.1 c
        rw [h.1, h.2]
        exact w
      · replace w := w.2 c
        replace h := h.2
        replace w := w.2
        rcases h with ⟨c, h⟩ | ⟨c, h⟩
        · replace w := w.1 c
          exact vp_X9_liveBefore_J95 (fun _ _ _ _ h w => ih m h w) h w
        · replace w := w.2 c
          replace h := h.2
          replace w := w.2
          replace h := h.2
          replace w := w.2
          replace h := h.2
          replace w := w.2
          obtain ⟨v9, e9, h⟩ := h
          replace w := w v9 e9 
          exact vp_X9_liveBefore_J95 (fun _ _ _ _ h w => ih m h w) h w
set_option maxRecDepth 100000 in
theorem vw_X9_liveBefore_J50 {ro : Int32} {uo : MS} {U50 : MS} {v50_1 : Int32} {v50_3 : Int32} (h : v_X9_liveBefore_J50 ro uo U50 v50_1 v50_3) : w_X9_liveBefore_J50 (fun r u => r = ro ∧ u = uo) U50 v50_1 v50_3 := by
  unfold v_X9_liveBefore_J50 at h
  unfold w_X9_liveBefore_J50
  intro _
  replace h := h.2
  obtain ⟨n9, h⟩ := h
  exact ⟨n9, vw_X9_liveBefore_L53 n9 h⟩
set_option maxRecDepth 100000 in
theorem vp_X9_liveBefore_J50 {ro : Int32} {uo : MS} {P : Int32 → MS → Prop} {U50 : MS} {v50_1 : Int32} {v50_3 : Int32} (h : v_X9_liveBefore_J50 ro uo U50 v50_1 v50_3) (w : w_X9_liveBefore_J50 P U50 v50_1 v50_3) : P ro uo := by
  unfold v_X9_liveBefore_J50 at h
  unfold w_X9_liveBefore_J50 at w
  obtain ⟨y3_, h⟩ := h
  replace w := w y3_
  obtain ⟨n9, h⟩ := h
  obtain ⟨n8, w⟩ := w
  exact vp_X9_liveBefore_L53 n9 n8 h w
set_option maxRecDepth 100000 in
theorem vwX9_liveBefore {S : MS} {x1 : Int32} {ro : Int32} {uo : MS} (h : vX9_liveBefore S x1 ro uo) : wX9_liveBefore S x1 (fun r u => r = ro ∧ u = uo) := by
  unfold vX9_liveBefore at h
  unfold wX9_liveBefore
  obtain ⟨g9, h⟩ := h
  refine ⟨g9, ?_⟩
  obtain ⟨v9, e9, h⟩ := h
  intro x9 d9 
  have c9 : v9 = x9 := e9.trans d9.symm
  subst c9
  obtain ⟨p9, q9, z9, h⟩ := h
  refine ⟨_, vwX9_liveBehind z9, ?_⟩
  rintro p8 q8 ⟨d8, d9⟩ _ _
  subst d8
  subst d9
  replace h := h.2.2
  obtain ⟨g9, h⟩ := h
  refine ⟨g9, ?_⟩
  rcases h with ⟨c, h⟩ | ⟨c, h⟩
  · refine ⟨fun _ => ?_, fun c2 => absurd c c2⟩
    obtain ⟨g9, h⟩ := h
    refine ⟨g9, ?_⟩
    rcases h with ⟨c, h⟩ | ⟨c, h⟩
    · refine ⟨fun _ => ?_, fun c2 => absurd c c2⟩
      exact vw_X9_liveBefore_J50 h
    · refine ⟨fun c2 => absurd c2 c, fun _ => ?_⟩
      obtain ⟨g9, h⟩ := h
      refine ⟨g9, ?_⟩
      obtain ⟨v9, e9, h⟩ := h
      intro x9 d9 
      have c9 : v9 = x9 := e9.trans d9.symm
      subst c9
      exact vw_X9_liveBefore_J50 h
  · refine ⟨fun c2 => absurd c2 c, fun _ => ?_⟩
    obtain ⟨g9, h⟩ := h
    refine ⟨g9, ?_⟩
    obtain ⟨v9, e9, h⟩ := h
    intro x9 d9 
    have c9 : v9 = x9 := e9.trans d9.symm
    subst c9
    exact vw_X9_liveBefore_J50 h
set_option maxRecDepth 100000 in
theorem vpX9_liveBefore {S : MS} {x1 : Int32} {ro : Int32} {uo : MS} {P : Int32 → MS → Prop} (h : vX9_liveBefore S x1 ro uo) (w : wX9_liveBefore S x1 P) : P ro uo := by
  unfold vX9_liveBefore at h
  unfold wX9_liveBefore at w
  replace h := h.2
  replace w := w.2
  obtain ⟨v9, e9, h⟩ := h
  replace w := w v9 e9 
  obtain ⟨p9, q9, z9, y4_, y5_, h⟩ := h
  obtain ⟨Q9, w0, w⟩ := w
  replace w := w p9 q9 (vpX9_liveBehind z9 w0) y4_ y5_
  replace h := h.2
  replace w := w.2
  rcases h with ⟨c, h⟩ | ⟨c, h⟩
  · replace w := w.1 c
    replace h := h.2
    replace w := w.2
    rcases h with ⟨c, h⟩ | ⟨c, h⟩
    · replace w := w.1 c
      exact vp_X9_liveBefore_J50 h w
    · replace w := w.2 c
      replace h := h.2
      replace w := w.2
      obtain ⟨v9, e9, h⟩ := h
      replace w := w v9 e9 
      exact vp_X9_liveBefore_J50 h w
  · replace w := w.2 c
    replace h := h.2
    replace w := w.2
    obtain ⟨v9, e9, h⟩ := h
    replace w := w v9 e9 
    exact vp_X9_liveBefore_J50 h w
def v_X11_begin_J293 (uo : MS) (U293 : MS) : Prop := (wfC U293 ∧ ((qR U293 25 7 = some (qO U293 25 7)) ∧ (qT U293 28 = 40 ∧ (∃ (S71 : MS), vX0_put2 U293 28 (qI U293 (qO U293 25 7) 8) S71 ∧ wfC S71 ∧ shx U293 S71 ∧ (uo = S71)))))
def v_X11_begin_J267 (uo : MS) (k155 : MS → Int32 → Int32 → Prop) (U267 : MS) (t267_0 : Int32) (t267_1 : Int32) (v267_4 : Int32) (v267_5 : Int32) : Prop := (wfC U267 ∧ (((0 : Int) ≤ t267_1.toInt ∧ t267_1.toInt < 24) ∧ (∃ S84 : MS, S84 = wI U267 35 t267_1.toInt.toNat t267_0 ∧ qT U267 35 = 241 ∧ wfC S84 ∧ (((0 : Int) ≤ v267_5.toInt ∧ v267_5.toInt < 24) ∧ (((0 : Int) ≤ v267_5.toInt ∧ v267_5.toInt < 24) ∧ (∃ (S90 : MS), vX11_putMember S84 (qI S84 34 v267_5.toInt.toNat) (qI S84 35 v267_5.toInt.toNat) (0 : Int32) S90 ∧ wfC S90 ∧ shx S84 S90 ∧ (∃ a93 : Int32, a93 = (v267_5 + Int32.ofInt 1) ∧ (k155 S90 v267_4 a93))))))))
def v_X11_begin_J232 (uo : MS) (k155 : MS → Int32 → Int32 → Prop) (U232 : MS) (t232_0 : Int32) (t232_1 : Int32) (v232_4 : Int32) (v232_5 : Int32) (v232_6 : Int32) : Prop := (wfC U232 ∧ (v232_6 = 0 ∨ v232_6 = 1) ∧ (((0 : Int) ≤ t232_1.toInt ∧ t232_1.toInt < 24) ∧ (∃ S82 : MS, S82 = wI U232 34 t232_1.toInt.toNat t232_0 ∧ qT U232 34 = 240 ∧ wfC S82 ∧ ((v232_6.toInt = 0 ∧ (qT S82 10000010 = 12 ∧ (∃ (r97 : Int32) (S98 : MS), vX11_textEntry S82 10000010 r97 S98 ∧ wfC S98 ∧ shx S82 S98 ∧ (v_X11_begin_J267 uo k155 S98 r97 v232_5 v232_4 v232_5)))) ∨ (¬ v232_6.toInt = 0 ∧ ((qR S82 25 7 = some (qO S82 25 7)) ∧ ((qR S82 (qO S82 25 7) 6 = some (qO S82 (qO S82 25 7) 6)) ∧ (((0 : Int) ≤ v232_5.toInt ∧ v232_5.toInt < (qN S82 (qO S82 (qO S82 25 7) 6) : Int)) ∧ (∃ (r108 : Int32) (S109 : MS), vX11_nameEntry S82 (qI S82 (qO S82 (qO S82 25 7) 6) v232_5.toInt.toNat) r108 S109 ∧ wfC S109 ∧ shx S82 S109 ∧ (v_X11_begin_J267 uo k155 S109 r108 v232_5 v232_4 v232_5))))))))))
def v_X11_begin_J187 (uo : MS) (k155 : MS → Int32 → Int32 → Prop) (U187 : MS) (t187_0 : Int32) (v187_4 : Int32) (v187_5 : Int32) : Prop := (wfC U187 ∧ (t187_0 = 0 ∨ t187_0 = 1) ∧ ((t187_0.toInt = 0 ∧ ((qR U187 25 7 = some (qO U187 25 7)) ∧ ((qR U187 (qO U187 25 7) 5 = some (qO U187 (qO U187 25 7) 5)) ∧ (∃ (r120 : Int32) (S121 : MS), vX11_counterEntry U187 (v187_5 - (Int32.ofNat (qN U187 (qO U187 (qO U187 25 7) 5)))) r120 S121 ∧ wfC S121 ∧ shx U187 S121 ∧ (v_X11_begin_J232 uo k155 S121 r120 v187_5 v187_4 v187_5 t187_0))))) ∨ (¬ t187_0.toInt = 0 ∧ ((qR U187 25 7 = some (qO U187 25 7)) ∧ ((qR U187 (qO U187 25 7) 5 = some (qO U187 (qO U187 25 7) 5)) ∧ (((0 : Int) ≤ v187_5.toInt ∧ v187_5.toInt < (qN U187 (qO U187 (qO U187 25 7) 5) : Int)) ∧ (∃ (r131 : Int32) (S132 : MS), vX11_nameEntry U187 (qI U187 (qO U187 (qO U187 25 7) 5) v187_5.toInt.toNat) r131 S132 ∧ wfC S132 ∧ shx U187 S132 ∧ (v_X11_begin_J232 uo k155 S132 r131 v187_5 v187_4 v187_5 t187_0))))))))
def v_X11_begin_L155 (uo : MS) : Nat → MS → Int32 → Int32 → Prop
  | 0, _, _, _ => False
  | n155 + 1, U155, v155_4, v155_5 => (wfC U155 ∧ ((v155_4.toInt ≤ v155_5.toInt ∧ (v_X11_begin_J293 uo U155)) ∨ (¬ v155_4.toInt ≤ v155_5.toInt ∧ ((24 ≤ v155_5.toInt ∧ (v_X11_begin_J293 uo U155)) ∨ (¬ 24 ≤ v155_5.toInt ∧ ((qR U155 25 7 = some (qO U155 25 7)) ∧ ((qR U155 (qO U155 25 7) 5 = some (qO U155 (qO U155 25 7) 5)) ∧ (((qN U155 (qO U155 (qO U155 25 7) 5) : Int) ≤ v155_5.toInt ∧ (v_X11_begin_J187 uo (v_X11_begin_L155 uo n155) U155 0 v155_4 v155_5)) ∨ (¬ (qN U155 (qO U155 (qO U155 25 7) 5) : Int) ≤ v155_5.toInt ∧ (v_X11_begin_J187 uo (v_X11_begin_L155 uo n155) U155 1 v155_4 v155_5))))))))))
def vX11_begin (S : MS) (p1 : Nat) (x2 : Int32) (uo : MS) : Prop := (∃ S1 : MS, S1 = wR S 25 7 (some p1) ∧ qT S 25 = 50 ∧ wfC S1 ∧ (∃ S2 : MS, S2 = wI S1 26 1 (0 : Int32) ∧ qT S1 26 = 40 ∧ wfC S2 ∧ (∃ S3 : MS, S3 = wI S2 28 1 (0 : Int32) ∧ qT S2 28 = 40 ∧ wfC S3 ∧ (∃ S4 : MS, S4 = wI S3 25 5 (1 : Int32) ∧ qT S3 25 = 50 ∧ wfC S4 ∧ (∃ S5 : MS, S5 = wI S4 25 6 (0 : Int32) ∧ qT S4 25 = 50 ∧ wfC S5 ∧ (qT S5 36 = 242 ∧ (∃ (S7 : MS), vJ7_fill_53178 S5 36 (0 : Int32) S7 ∧ wfC S7 ∧ shy S5 S7 ∧ (qT S7 37 = 243 ∧ (∃ (S10 : MS), vJ7_fill_53178 S7 37 (0 : Int32) S10 ∧ wfC S10 ∧ shy S7 S10 ∧ (qT S10 10000012 = 12 ∧ (∃ (r14 : Int32) (S15 : MS), vX11_textEntry S10 10000012 r14 S15 ∧ wfC S15 ∧ shx S10 S15 ∧ (∃ S18 : MS, S18 = wI S15 25 8 r14 ∧ qT S15 25 = 50 ∧ wfC S18 ∧ ((qR S18 25 7 = some (qO S18 25 7)) ∧ (∃ (r22 : Int32) (S23 : MS), vX11_nameEntry S18 (qI S18 (qO S18 25 7) 2) r22 S23 ∧ wfC S23 ∧ shx S18 S23 ∧ (∃ (r27 : Int32) (S28 : MS), vX11_pointerEntry S23 (7 : Int32) r22 r27 S28 ∧ wfC S28 ∧ shx S23 S28 ∧ (∃ S31 : MS, S31 = wI S28 25 9 r27 ∧ qT S28 25 = 50 ∧ wfC S31 ∧ ((qR S31 25 7 = some (qO S31 25 7)) ∧ (∃ (r35 : Int32) (S36 : MS), vX11_nameEntry S31 (qI S31 (qO S31 25 7) 3) r35 S36 ∧ wfC S36 ∧ shx S31 S36 ∧ (∃ (r40 : Int32) (S41 : MS), vX11_pointerEntry S36 (7 : Int32) r35 r40 S41 ∧ wfC S41 ∧ shx S36 S41 ∧ (qT S41 28 = 40 ∧ (∃ (S45 : MS), vX0_put2 S41 28 (33 : Int32) S45 ∧ wfC S45 ∧ shx S41 S45 ∧ (qT S45 28 = 40 ∧ (∃ (S49 : MS), vX0_put2 S45 28 (qI S45 25 9) S49 ∧ wfC S49 ∧ shx S45 S49 ∧ (qT S49 28 = 40 ∧ (∃ (S53 : MS), vX0_put2 S49 28 r40 S53 ∧ wfC S53 ∧ shx S49 S53 ∧ (qT S53 28 = 40 ∧ (∃ (S57 : MS), vX0_put2 S53 28 (0 : Int32) S57 ∧ wfC S57 ∧ shx S53 S57 ∧ ((qR S57 25 7 = some (qO S57 25 7)) ∧ (∃ a63 : Int32, a63 = ((qI S57 (qO S57 25 7) 4) + x2) ∧ (qT S57 28 = 40 ∧ (∃ (S65 : MS), vX0_put2 S57 28 a63 S65 ∧ wfC S65 ∧ shx S57 S65 ∧ (∃ n, v_X11_begin_L155 uo n S65 a63 0))))))))))))))))))))))))))))))))
set_option maxRecDepth 100000 in
theorem ru_X11_begin_J293 {ι : Type} {P Q : MS → Prop} {U293 : MS} (i0 : ι) (K : ∀ (i : ι) (uo : MS), v_X11_begin_J293 uo U293 → P uo) (h : w_X11_begin_J293 Q U293) : w_X11_begin_J293 (fun u => Q u ∧ P u) U293 := by
  unfold w_X11_begin_J293 at h ⊢
  intro y1_
  replace h := h y1_
  replace K := fun i uo z => K i uo ⟨y1_, z⟩
  obtain ⟨g2_, h⟩ := h
  refine ⟨g2_, ?_⟩
  replace K := fun i uo z => K i uo ⟨g2_, z⟩
  intro y3_
  replace h := h y3_
  replace K := fun i uo z => K i uo ⟨y3_, z⟩
  obtain ⟨Q9, h0, h⟩ := h
  refine ⟨_, ruX0_put2 h0, ?_⟩
  intro S71 q4_ y5_ y6_
  replace h := h S71 q4_.1 y5_ y6_
  replace K := fun i uo z => K i uo ⟨S71, q4_.2, y5_, y6_, z⟩
  exact ⟨h, K i0 _ rfl⟩
set_option maxRecDepth 100000 in
theorem ru_X11_begin_J267 {ι : Type} {P Q : MS → Prop} {k155 k155' : MS → Int32 → Int32 → Prop} {k155v : ι → MS → MS → Int32 → Int32 → Prop} {U267 : MS} {t267_0 : Int32} {t267_1 : Int32} {v267_4 : Int32} {v267_5 : Int32} (i0 : ι) (hk155 : ∀ (u : MS) (z0 : Int32) (z1 : Int32), k155 u z0 z1 → (∀ (i : ι) (uo : MS), k155v i uo u z0 z1 → P uo) → k155' u z0 z1) (K : ∀ (i : ι) (uo : MS), v_X11_begin_J267 uo (k155v i uo) U267 t267_0 t267_1 v267_4 v267_5 → P uo) (h : w_X11_begin_J267 Q k155 U267 t267_0 t267_1 v267_4 v267_5) : w_X11_begin_J267 (fun u => Q u ∧ P u) k155' U267 t267_0 t267_1 v267_4 v267_5 := by
  unfold w_X11_begin_J267 at h ⊢
  intro y7_
  replace h := h y7_
  replace K := fun i uo z => K i uo ⟨y7_, z⟩
  obtain ⟨g8_, h⟩ := h
  refine ⟨g8_, ?_⟩
  replace K := fun i uo z => K i uo ⟨g8_, z⟩
  intro S84 eS84 y9_ y10_
  replace h := h S84 eS84 y9_ y10_
  replace K := fun i uo z => K i uo ⟨S84, eS84, y9_, y10_, z⟩
  obtain ⟨g11_, h⟩ := h
  refine ⟨g11_, ?_⟩
  replace K := fun i uo z => K i uo ⟨g11_, z⟩
  obtain ⟨g12_, h⟩ := h
  refine ⟨g12_, ?_⟩
  replace K := fun i uo z => K i uo ⟨g12_, z⟩
  obtain ⟨Q9, h0, h⟩ := h
  refine ⟨_, ruX11_putMember h0, ?_⟩
  intro S90 q13_ y14_ y15_
  replace h := h S90 q13_.1 y14_ y15_
  replace K := fun i uo z => K i uo ⟨S90, q13_.2, y14_, y15_, z⟩
  intro a93 ea93 
  replace h := h a93 ea93 
  replace K := fun i uo z => K i uo ⟨a93, ea93, z⟩
  exact hk155 _ _ _ h K
set_option maxRecDepth 100000 in
theorem ru_X11_begin_J232 {ι : Type} {P Q : MS → Prop} {k155 k155' : MS → Int32 → Int32 → Prop} {k155v : ι → MS → MS → Int32 → Int32 → Prop} {U232 : MS} {t232_0 : Int32} {t232_1 : Int32} {v232_4 : Int32} {v232_5 : Int32} {v232_6 : Int32} (i0 : ι) (hk155 : ∀ (u : MS) (z0 : Int32) (z1 : Int32), k155 u z0 z1 → (∀ (i : ι) (uo : MS), k155v i uo u z0 z1 → P uo) → k155' u z0 z1) (K : ∀ (i : ι) (uo : MS), v_X11_begin_J232 uo (k155v i uo) U232 t232_0 t232_1 v232_4 v232_5 v232_6 → P uo) (h : w_X11_begin_J232 Q k155 U232 t232_0 t232_1 v232_4 v232_5 v232_6) : w_X11_begin_J232 (fun u => Q u ∧ P u) k155' U232 t232_0 t232_1 v232_4 v232_5 v232_6 := by
  unfold w_X11_begin_J232 at h ⊢
  intro y16_ y17_
  replace h := h y16_ y17_
  replace K := fun i uo z => K i uo ⟨y16_, y17_, z⟩
  obtain ⟨g18_, h⟩ := h
  refine ⟨g18_, ?_⟩
  replace K := fun i uo z => K i uo ⟨g18_, z⟩
  intro S82 eS82 y19_ y20_
  replace h := h S82 eS82 y19_ y20_
  replace K := fun i uo z => K i uo ⟨S82, eS82, y19_, y20_, z⟩
  refine ⟨fun c => ?_, fun c => ?_⟩
  · replace h := h.1 c
    replace K := fun i uo z => K i uo (Or.inl ⟨c, z⟩)
    intro y21_
    replace h := h y21_
    replace K := fun i uo z => K i uo ⟨y21_, z⟩
    obtain ⟨Q9, h0, h⟩ := h
    refine ⟨_, ruX11_textEntry h0, ?_⟩
    intro r97 S98 q22_ y23_ y24_
    replace h := h r97 S98 q22_.1 y23_ y24_
    replace K := fun i uo z => K i uo ⟨r97, S98, q22_.2, y23_, y24_, z⟩
    exact ru_X11_begin_J267 i0 hk155 K h
  · replace h := h.2 c
    replace K := fun i uo z => K i uo (Or.inr ⟨c, z⟩)
    obtain ⟨g25_, h⟩ := h
    refine ⟨g25_, ?_⟩
    replace K := fun i uo z => K i uo ⟨g25_, z⟩
    obtain ⟨g26_, h⟩ := h
    refine ⟨g26_, ?_⟩
    replace K := fun i uo z => K i uo ⟨g26_, z⟩
    obtain ⟨g27_, h⟩ := h
    refine ⟨g27_, ?_⟩
    replace K := fun i uo z => K i uo ⟨g27_, z⟩
    obtain ⟨Q9, h0, h⟩ := h
    refine ⟨_, ruX11_nameEntry h0, ?_⟩
    intro r108 S109 q28_ y29_ y30_
    replace h := h r108 S109 q28_.1 y29_ y30_
    replace K := fun i uo z => K i uo ⟨r108, S109, q28_.2, y29_, y30_, z⟩
    exact ru_X11_begin_J267 i0 hk155 K h
set_option maxRecDepth 100000 in
theorem ru_X11_begin_J187 {ι : Type} {P Q : MS → Prop} {k155 k155' : MS → Int32 → Int32 → Prop} {k155v : ι → MS → MS → Int32 → Int32 → Prop} {U187 : MS} {t187_0 : Int32} {v187_4 : Int32} {v187_5 : Int32} (i0 : ι) (hk155 : ∀ (u : MS) (z0 : Int32) (z1 : Int32), k155 u z0 z1 → (∀ (i : ι) (uo : MS), k155v i uo u z0 z1 → P uo) → k155' u z0 z1) (K : ∀ (i : ι) (uo : MS), v_X11_begin_J187 uo (k155v i uo) U187 t187_0 v187_4 v187_5 → P uo) (h : w_X11_begin_J187 Q k155 U187 t187_0 v187_4 v187_5) : w_X11_begin_J187 (fun u => Q u ∧ P u) k155' U187 t187_0 v187_4 v187_5 := by
  unfold w_X11_begin_J187 at h ⊢
  intro y31_ y32_
  replace h := h y31_ y32_
  replace K := fun i uo z => K i uo ⟨y31_, y32_, z⟩
  refine ⟨fun c => ?_, fun c => ?_⟩
  · replace h := h.1 c
    replace K := fun i uo z => K i uo (Or.inl ⟨c, z⟩)
    obtain ⟨g33_, h⟩ := h
    refine ⟨g33_, ?_⟩
    replace K := fun i uo z => K i uo ⟨g33_, z⟩
    obtain ⟨g34_, h⟩ := h
    refine ⟨g34_, ?_⟩
    replace K := fun i uo z => K i uo ⟨g34_, z⟩
    obtain ⟨Q9, h0, h⟩ := h
    refine ⟨_, ruX11_counterEntry h0, ?_⟩
    intro r120 S121 q35_ y36_ y37_
    replace h := h r120 S121 q35_.1 y36_ y37_
    replace K := fun i uo z => K i uo ⟨r120, S121, q35_.2, y36_, y37_, z⟩
    exact ru_X11_begin_J232 i0 hk155 K h
  · replace h := h.2 c
    replace K := fun i uo z => K i uo (Or.inr ⟨c, z⟩)
    obtain ⟨g38_, h⟩ := h
    refine ⟨g38_, ?_⟩
    replace K := fun i uo z => K i uo ⟨g38_, z⟩
    obtain ⟨g39_, h⟩ := h
    refine ⟨g39_, ?_⟩
    replace K := fun i uo z => K i uo ⟨g39_, z⟩
    obtain ⟨g40_, h⟩ := h
    refine ⟨g40_, ?_⟩
    replace K := fun i uo z => K i uo ⟨g40_, z⟩
    obtain ⟨Q9, h0, h⟩ := h
    refine ⟨_, ruX11_nameEntry h0, ?_⟩
    intro r131 S132 q41_ y42_ y43_
    replace h := h r131 S132 q41_.1 y42_ y43_
    replace K := fun i uo z => K i uo ⟨r131, S132, q41_.2, y42_, y43_, z⟩
    exact ru_X11_begin_J232 i0 hk155 K h
set_option maxRecDepth 100000 in
theorem ru_X11_begin_L155 {ι : Type} {P Q : MS → Prop} : ∀ (n : Nat) {U155 : MS} {v155_4 : Int32} {v155_5 : Int32} (i0 : ι), (∀ (i : ι) (uo : MS), (∃ n8, v_X11_begin_L155 uo n8 U155 v155_4 v155_5) → P uo) → w_X11_begin_L155 Q n U155 v155_4 v155_5 → w_X11_begin_L155 (fun u => Q u ∧ P u) n U155 v155_4 v155_5 := by
  intro n
  induction n with
  | zero => intro U155 v155_4 v155_5 i0 K h; unfold w_X11_begin_L155 at h; exact h.elim
  | succ n ih =>
    intro U155 v155_4 v155_5 i0 K h
    unfold w_X11_begin_L155 at h ⊢
    replace K := fun (i : ι × Nat) uo (z : v_X11_begin_L155 uo (i.2 + 1) U155 v155_4 v155_5) => K i.1 uo ⟨i.2 + 1, z⟩
    have i00 := i0
    replace i0 : ι × Nat := (i0, 0)
    intro y44_
    replace h := h y44_
    replace K := fun i uo z => K i uo ⟨y44_, z⟩
    refine ⟨fun c => ?_, fun c => ?_⟩
    · replace h := h.1 c
      replace K := fun i uo z => K i uo (Or.inl ⟨c, z⟩)
      exact ru_X11_begin_J293 i0 K h
    · replace h := h.2 c
      replace K := fun i uo z => K i uo (Or.inr ⟨c, z⟩)
      refine ⟨fun c => ?_, fun c => ?_⟩
      · replace h := h.1 c
        replace K := fun i uo z => K i uo (Or.inl ⟨c, z⟩)
        exact ru_X11_begin_J293 i0 K h
      · replace h := h.2 c
        replace K := fun i uo z => K i uo (Or.inr ⟨c, z⟩)
        obtain ⟨g45_, h⟩ := h
        refine ⟨g45_, ?_⟩
        replace K := fun i uo z => K i uo ⟨g45_, z⟩
        obtain ⟨g46_, h⟩ := h
        refine ⟨g46_, ?_⟩
        replace K := fun i uo z => K i uo ⟨g46_, z⟩
        refine ⟨fun c => ?_, fun c => ?_⟩
        · replace h := h.1 c
          replace K := fun i uo z => K i uo (Or.inl ⟨c, z⟩)
          exact ru_X11_begin_J187 i0 (fun _ _ _ h K => ih i00 (fun i uo ⟨n8, z⟩ => K (i, n8) uo z) h) K h
        · replace h := h.2 c
          replace K := fun i uo z => K i uo (Or.inr ⟨c, z⟩)
          exact ru_X11_begin_J187 i0 (fun _ _ _ h K => ih i00 (fun i uo ⟨n8, z⟩ => K (i, n8) uo z) h) K h
set_option maxRecDepth 100000 in
theorem ruX11_begin {S : MS} {p1 : Nat} {x2 : Int32} {Q : MS → Prop} (h : wX11_begin S p1 x2 Q) : wX11_begin S p1 x2 (fun u => Q u ∧ vX11_begin S p1 x2 u) := by
  have i0 : Unit := ()
  have K : ∀ (i : Unit) (uo : MS), vX11_begin S p1 x2 uo → vX11_begin S p1 x2 uo := fun _ _ z => z
  unfold wX11_begin at h ⊢
  intro S1 eS1 y47_ y48_
  replace h := h S1 eS1 y47_ y48_
  replace K := fun i uo z => K i uo ⟨S1, eS1, y47_, y48_, z⟩
  intro S2 eS2 y49_ y50_
  replace h := h S2 eS2 y49_ y50_
  replace K := fun i uo z => K i uo ⟨S2, eS2, y49_, y50_, z⟩
  intro S3 eS3 y51_ y52_
  replace h := h S3 eS3 y51_ y52_
  replace K := fun i uo z => K i uo ⟨S3, eS3, y51_, y52_, z⟩
  intro S4 eS4 y53_ y54_
  replace h := h S4 eS4 y53_ y54_
  replace K := fun i uo z => K i uo ⟨S4, eS4, y53_, y54_, z⟩
  intro S5 eS5 y55_ y56_
  replace h := h S5 eS5 y55_ y56_
  replace K := fun i uo z => K i uo ⟨S5, eS5, y55_, y56_, z⟩
  intro y57_
  replace h := h y57_
  replace K := fun i uo z => K i uo ⟨y57_, z⟩
  obtain ⟨Q9, h0, h⟩ := h
  refine ⟨_, ruJ7_fill_53178 h0, ?_⟩
  intro S7 q58_ y59_ y60_
  replace h := h S7 q58_.1 y59_ y60_
  replace K := fun i uo z => K i uo ⟨S7, q58_.2, y59_, y60_, z⟩
  intro y61_
  replace h := h y61_
  replace K := fun i uo z => K i uo ⟨y61_, z⟩
  obtain ⟨Q9, h0, h⟩ := h
  refine ⟨_, ruJ7_fill_53178 h0, ?_⟩
  intro S10 q62_ y63_ y64_
  replace h := h S10 q62_.1 y63_ y64_
  replace K := fun i uo z => K i uo ⟨S10, q62_.2, y63_, y64_, z⟩
  intro y65_
  replace h := h y65_
  replace K := fun i uo z => K i uo ⟨y65_, z⟩
  obtain ⟨Q9, h0, h⟩ := h
  refine ⟨_, ruX11_textEntry h0, ?_⟩
  intro r14 S15 q66_ y67_ y68_
  replace h := h r14 S15 q66_.1 y67_ y68_
  replace K := fun i uo z => K i uo ⟨r14, S15, q66_.2, y67_, y68_, z⟩
  intro S18 eS18 y69_ y70_
  replace h := h S18 eS18 y69_ y70_
  replace K := fun i uo z => K i uo ⟨S18, eS18, y69_, y70_, z⟩
  obtain ⟨g71_, h⟩ := h
  refine ⟨g71_, ?_⟩
  replace K := fun i uo z => K i uo ⟨g71_, z⟩
  obtain ⟨Q9, h0, h⟩ := h
  refine ⟨_, ruX11_nameEntry h0, ?_⟩
  intro r22 S23 q72_ y73_ y74_
  replace h := h r22 S23 q72_.1 y73_ y74_
  replace K := fun i uo z => K i uo ⟨r22, S23, q72_.2, y73_, y74_, z⟩
  obtain ⟨Q9, h0, h⟩ := h
  refine ⟨_, ruX11_pointerEntry h0, ?_⟩
  intro r27 S28 q75_ y76_ y77_
  replace h := h r27 S28 q75_.1 y76_ y77_
  replace K := fun i uo z => K i uo ⟨r27, S28, q75_.2, y76_, y77_, z⟩
  intro S31 eS31 y78_ y79_
  replace h := h S31 eS31 y78_ y79_
  replace K := fun i uo z => K i uo ⟨S31, eS31, y78_, y79_, z⟩
  obtain ⟨g80_, h⟩ := h
  refine ⟨g80_, ?_⟩
  replace K := fun i uo z => K i uo ⟨g80_, z⟩
  obtain ⟨Q9, h0, h⟩ := h
  refine ⟨_, ruX11_nameEntry h0, ?_⟩
  intro r35 S36 q81_ y82_ y83_
  replace h := h r35 S36 q81_.1 y82_ y83_
  replace K := fun i uo z => K i uo ⟨r35, S36, q81_.2, y82_, y83_, z⟩
  obtain ⟨Q9, h0, h⟩ := h
  refine ⟨_, ruX11_pointerEntry h0, ?_⟩
  intro r40 S41 q84_ y85_ y86_
  replace h := h r40 S41 q84_.1 y85_ y86_
  replace K := fun i uo z => K i uo ⟨r40, S41, q84_.2, y85_, y86_, z⟩
  intro y87_
  replace h := h y87_
  replace K := fun i uo z => K i uo ⟨y87_, z⟩
  obtain ⟨Q9, h0, h⟩ := h
  refine ⟨_, ruX0_put2 h0, ?_⟩
  intro S45 q88_ y89_ y90_
  replace h := h S45 q88_.1 y89_ y90_
  replace K := fun i uo z => K i uo ⟨S45, q88_.2, y89_, y90_, z⟩
  intro y91_
  replace h := h y91_
  replace K := fun i uo z => K i uo ⟨y91_, z⟩
  obtain ⟨Q9, h0, h⟩ := h
  refine ⟨_, ruX0_put2 h0, ?_⟩
  intro S49 q92_ y93_ y94_
  replace h := h S49 q92_.1 y93_ y94_
  replace K := fun i uo z => K i uo ⟨S49, q92_.2, y93_, y94_, z⟩
  intro y95_
  replace h := h y95_
  replace K := fun i uo z => K i uo ⟨y95_, z⟩
  obtain ⟨Q9, h0, h⟩ := h
  refine ⟨_, ruX0_put2 h0, ?_⟩
  intro S53 q96_ y97_ y98_
  replace h := h S53 q96_.1 y97_ y98_
  replace K := fun i uo z => K i uo ⟨S53, q96_.2, y97_, y98_, z⟩
  intro y99_
  replace h := h y99_
  replace K := fun i uo z => K i uo ⟨y99_, z⟩
  obtain ⟨Q9, h0, h⟩ := h
  refine ⟨_, ruX0_put2 h0, ?_⟩
  intro S57 q100_ y101_ y102_
  replace h := h S57 q100_.1 y101_ y102_
  replace K := fun i uo z => K i uo ⟨S57, q100_.2, y101_, y102_, z⟩
  obtain ⟨g103_, h⟩ := h
  refine ⟨g103_, ?_⟩
  replace K := fun i uo z => K i uo ⟨g103_, z⟩
  intro a63 ea63 
  replace h := h a63 ea63 
  replace K := fun i uo z => K i uo ⟨a63, ea63, z⟩
  intro y104_
  replace h := h y104_
  replace K := fun i uo z => K i uo ⟨y104_, z⟩
  obtain ⟨Q9, h0, h⟩ := h
  refine ⟨_, ruX0_put2 h0, ?_⟩
  intro S65 q105_ y106_ y107_
  replace h := h S65 q105_.1 y106_ y107_
  replace K := fun i uo z => K i uo ⟨S65, q105_.2, y106_, y107_, z⟩
  obtain ⟨n9, h⟩ := h
  exact ⟨n9, ru_X11_begin_L155 n9 i0 K h⟩
set_option maxRecDepth 100000 in
theorem vw_X11_begin_J293 {uo : MS} {U293 : MS} (h : v_X11_begin_J293 uo U293) : w_X11_begin_J293 (fun u => u = uo) U293 := by
  unfold v_X11_begin_J293 at h
  unfold w_X11_begin_J293
  intro _
  replace h := h.2
  obtain ⟨g9, h⟩ := h
  refine ⟨g9, ?_⟩
  intro _
  replace h := h.2
  obtain ⟨q9, z9, h⟩ := h
  refine ⟨_, vwX0_put2 z9, ?_⟩
  intro q8 d9 _ _
  subst d9
  replace h := h.2.2
  exact h.symm
set_option maxRecDepth 100000 in
theorem vp_X11_begin_J293 {uo : MS} {P : MS → Prop} {U293 : MS} (h : v_X11_begin_J293 uo U293) (w : w_X11_begin_J293 P U293) : P uo := by
  unfold v_X11_begin_J293 at h
  unfold w_X11_begin_J293 at w
  obtain ⟨y1_, h⟩ := h
  replace w := w y1_
  replace h := h.2
  replace w := w.2
  obtain ⟨y2_, h⟩ := h
  replace w := w y2_
  obtain ⟨q9, z9, y3_, y4_, h⟩ := h
  obtain ⟨Q9, w0, w⟩ := w
  replace w := w q9 (vpX0_put2 z9 w0) y3_ y4_
  rw [h]
  exact w
set_option maxRecDepth 100000 in
theorem vw_X11_begin_J267 {uo : MS} {k155 k155v : MS → Int32 → Int32 → Prop} {U267 : MS} {t267_0 : Int32} {t267_1 : Int32} {v267_4 : Int32} {v267_5 : Int32} (hk155 : ∀ (u : MS) (z0 : Int32) (z1 : Int32), k155v u z0 z1 → k155 u z0 z1) (h : v_X11_begin_J267 uo k155v U267 t267_0 t267_1 v267_4 v267_5) : w_X11_begin_J267 (fun u => u = uo) k155 U267 t267_0 t267_1 v267_4 v267_5 := by
  unfold v_X11_begin_J267 at h
  unfold w_X11_begin_J267
  intro _
  replace h := h.2
  obtain ⟨g9, h⟩ := h
  refine ⟨g9, ?_⟩
  obtain ⟨v9, e9, h⟩ := h
  intro x9 d9 _ _
  have c9 : v9 = x9 := e9.trans d9.symm
  subst c9
  replace h := h.2.2
  obtain ⟨g9, h⟩ := h
  refine ⟨g9, ?_⟩
  obtain ⟨g9, h⟩ := h
  refine ⟨g9, ?_⟩
  obtain ⟨q9, z9, h⟩ := h
  refine ⟨_, vwX11_putMember z9, ?_⟩
  intro q8 d9 _ _
  subst d9
  replace h := h.2.2
  obtain ⟨v9, e9, h⟩ := h
  intro x9 d9 
  have c9 : v9 = x9 := e9.trans d9.symm
  subst c9
  exact hk155 _ _ _ h
set_option maxRecDepth 100000 in
theorem vp_X11_begin_J267 {uo : MS} {P : MS → Prop} {k155 k155v : MS → Int32 → Int32 → Prop} {U267 : MS} {t267_0 : Int32} {t267_1 : Int32} {v267_4 : Int32} {v267_5 : Int32} (hk155 : ∀ (u : MS) (z0 : Int32) (z1 : Int32), k155v u z0 z1 → k155 u z0 z1 → P uo) (h : v_X11_begin_J267 uo k155v U267 t267_0 t267_1 v267_4 v267_5) (w : w_X11_begin_J267 P k155 U267 t267_0 t267_1 v267_4 v267_5) : P uo := by
  unfold v_X11_begin_J267 at h
  unfold w_X11_begin_J267 at w
  obtain ⟨y5_, h⟩ := h
  replace w := w y5_
  replace h := h.2
  replace w := w.2
  obtain ⟨v9, e9, y6_, y7_, h⟩ := h
  replace w := w v9 e9 y6_ y7_
  replace h := h.2
  replace w := w.2
  replace h := h.2
  replace w := w.2
  obtain ⟨q9, z9, y8_, y9_, h⟩ := h
  obtain ⟨Q9, w0, w⟩ := w
  replace w := w q9 (vpX11_putMember z9 w0) y8_ y9_
  obtain ⟨v9, e9, h⟩ := h
  replace w := w v9 e9 
  exact hk155 _ _ _ h w
set_option maxRecDepth 100000 in
theorem vw_X11_begin_J232 {uo : MS} {k155 k155v : MS → Int32 → Int32 → Prop} {U232 : MS} {t232_0 : Int32} {t232_1 : Int32} {v232_4 : Int32} {v232_5 : Int32} {v232_6 : Int32} (hk155 : ∀ (u : MS) (z0 : Int32) (z1 : Int32), k155v u z0 z1 → k155 u z0 z1) (h : v_X11_begin_J232 uo k155v U232 t232_0 t232_1 v232_4 v232_5 v232_6) : w_X11_begin_J232 (fun u => u = uo) k155 U232 t232_0 t232_1 v232_4 v232_5 v232_6 := by
  unfold v_X11_begin_J232 at h
  unfold w_X11_begin_J232
  intro _ _
  replace h := h.2.2
  obtain ⟨g9, h⟩ := h
  refine ⟨g9, ?_⟩
  obtain ⟨v9, e9, h⟩ := h
  intro x9 d9 _ _
  have c9 : v9 = x9 := e9.trans d9.symm
  subst c9
  replace h := h.2.2
  rcases h with ⟨c, h⟩ | ⟨c, h⟩
  · refine ⟨fun _ => ?_, fun c2 => absurd c c2⟩
    intro _
    replace h := h.2
    obtain ⟨p9, q9, z9, h⟩ := h
    refine ⟨_, vwX11_textEntry z9, ?_⟩
    rintro p8 q8 ⟨d8, d9⟩ _ _
    subst d8
    subst d9
    replace h := h.2.2
    exact vw_X11_begin_J267 hk155 h
  · refine ⟨fun c2 => absurd c2 c, fun _ => ?_⟩
    obtain ⟨g9, h⟩ := h
    refine ⟨g9, ?_⟩
    obtain ⟨g9, h⟩ := h
    refine ⟨g9, ?_⟩
    obtain ⟨g9, h⟩ := h
    refine ⟨g9, ?_⟩
    obtain ⟨p9, q9, z9, h⟩ := h
    refine ⟨_, vwX11_nameEntry z9, ?_⟩
    rintro p8 q8 ⟨d8, d9⟩ _ _
    subst d8
    subst d9
    replace h := h.2.2
    exact vw_X11_begin_J267 hk155 h
set_option maxRecDepth 100000 in
theorem vp_X11_begin_J232 {uo : MS} {P : MS → Prop} {k155 k155v : MS → Int32 → Int32 → Prop} {U232 : MS} {t232_0 : Int32} {t232_1 : Int32} {v232_4 : Int32} {v232_5 : Int32} {v232_6 : Int32} (hk155 : ∀ (u : MS) (z0 : Int32) (z1 : Int32), k155v u z0 z1 → k155 u z0 z1 → P uo) (h : v_X11_begin_J232 uo k155v U232 t232_0 t232_1 v232_4 v232_5 v232_6) (w : w_X11_begin_J232 P k155 U232 t232_0 t232_1 v232_4 v232_5 v232_6) : P uo := by
  unfold v_X11_begin_J232 at h
  unfold w_X11_begin_J232 at w
  obtain ⟨y10_, y11_, h⟩ := h
  replace w := w y10_ y11_
  replace h := h.2
  replace w := w.2
  obtain ⟨v9, e9, y12_, y13_, h⟩ := h
  replace w := w v9 e9 y12_ y13_
  rcases h with ⟨c, h⟩ | ⟨c, h⟩
  · replace w := w.1 c
    obtain ⟨y14_, h⟩ := h
    replace w := w y14_
    obtain ⟨p9, q9, z9, y15_, y16_, h⟩ := h
    obtain ⟨Q9, w0, w⟩ := w
    replace w := w p9 q9 (vpX11_textEntry z9 w0) y15_ y16_
    exact vp_X11_begin_J267 hk155 h w
  · replace w := w.2 c
    replace h := h.2
    replace w := w.2
    replace h := h.2
    replace w := w.2
    replace h := h.2
    replace w := w.2
    obtain ⟨p9, q9, z9, y17_, y18_, h⟩ := h
    obtain ⟨Q9, w0, w⟩ := w
    replace w := w p9 q9 (vpX11_nameEntry z9 w0) y17_ y18_
    exact vp_X11_begin_J267 hk155 h w
set_option maxRecDepth 100000 in
theorem vw_X11_begin_J187 {uo : MS} {k155 k155v : MS → Int32 → Int32 → Prop} {U187 : MS} {t187_0 : Int32} {v187_4 : Int32} {v187_5 : Int32} (hk155 : ∀ (u : MS) (z0 : Int32) (z1 : Int32), k155v u z0 z1 → k155 u z0 z1) (h : v_X11_begin_J187 uo k155v U187 t187_0 v187_4 v187_5) : w_X11_begin_J187 (fun u => u = uo) k155 U187 t187_0 v187_4 v187_5 := by
  unfold v_X11_begin_J187 at h
  unfold w_X11_begin_J187
  intro _ _
  replace h := h.2.2
  rcases h with ⟨c, h⟩ | ⟨c, h⟩
  · refine ⟨fun _ => ?_, fun c2 => absurd c c2⟩
    obtain ⟨g9, h⟩ := h
    refine ⟨g9, ?_⟩
    obtain ⟨g9, h⟩ := h
    refine ⟨g9, ?_⟩
    obtain ⟨p9, q9, z9, h⟩ := h
    refine ⟨_, vwX11_counterEntry z9, ?_⟩
    rintro p8 q8 ⟨d8, d9⟩ _ _
    subst d8
    subst d9
    replace h := h.2.2
    exact vw_X11_begin_J232 hk155 h
  · refine ⟨fun c2 => absurd c2 c, fun _ => ?_⟩
    obtain ⟨g9, h⟩ := h
    refine ⟨g9, ?_⟩
    obtain ⟨g9, h⟩ := h
    refine ⟨g9, ?_⟩
    obtain ⟨g9, h⟩ := h
    refine ⟨g9, ?_⟩
    obtain ⟨p9, q9, z9, h⟩ := h
    refine ⟨_, vwX11_nameEntry z9, ?_⟩
    rintro p8 q8 ⟨d8, d9⟩ _ _
    subst d8
    subst d9
    replace h := h.2.2
    exact vw_X11_begin_J232 hk155 h
set_option maxRecDepth 100000 in
theorem vp_X11_begin_J187 {uo : MS} {P : MS → Prop} {k155 k155v : MS → Int32 → Int32 → Prop} {U187 : MS} {t187_0 : Int32} {v187_4 : Int32} {v187_5 : Int32} (hk155 : ∀ (u : MS) (z0 : Int32) (z1 : Int32), k155v u z0 z1 → k155 u z0 z1 → P uo) (h : v_X11_begin_J187 uo k155v U187 t187_0 v187_4 v187_5) (w : w_X11_begin_J187 P k155 U187 t187_0 v187_4 v187_5) : P uo := by
  unfold v_X11_begin_J187 at h
  unfold w_X11_begin_J187 at w
  obtain ⟨y19_, y20_, h⟩ := h
  replace w := w y19_ y20_
  rcases h with ⟨c, h⟩ | ⟨c, h⟩
  · replace w := w.1 c
    replace h := h.2
    replace w := w.2
    replace h := h.2
    replace w := w.2
    obtain ⟨p9, q9, z9, y21_, y22_, h⟩ := h
    obtain ⟨Q9, w0, w⟩ := w
    replace w := w p9 q9 (vpX11_counterEntry z9 w0) y21_ y22_
    exact vp_X11_begin_J232 hk155 h w
  · replace w := w.2 c
    replace h := h.2
    replace w := w.2
    replace h := h.2
    replace w := w.2
    replace h := h.2
    replace w := w.2
    obtain ⟨p9, q9, z9, y23_, y24_, h⟩ := h
    obtain ⟨Q9, w0, w⟩ := w
    replace w := w p9 q9 (vpX11_nameEntry z9 w0) y23_ y24_
    exact vp_X11_begin_J232 hk155 h w
set_option maxRecDepth 100000 in
theorem vw_X11_begin_L155 {uo : MS} : ∀ (n : Nat) {U155 : MS} {v155_4 : Int32} {v155_5 : Int32}, v_X11_begin_L155 uo n U155 v155_4 v155_5 → w_X11_begin_L155 (fun u => u = uo) n U155 v155_4 v155_5 := by
  intro n
  induction n with
  | zero => intro U155 v155_4 v155_5 h; unfold v_X11_begin_L155 at h; exact h.elim
  | succ n ih =>
    intro U155 v155_4 v155_5 h
    unfold v_X11_begin_L155 at h
    unfold w_X11_begin_L155
    intro _
    replace h := h.2
    rcases h with ⟨c, h⟩ | ⟨c, h⟩
    · refine ⟨fun _ => ?_, fun c2 => absurd c c2⟩
      exact vw_X11_begin_J293 h
    · refine ⟨fun c2 => absurd c2 c, fun _ => ?_⟩
      rcases h with ⟨c, h⟩ | ⟨c, h⟩
      · refine ⟨fun _ => ?_, fun c2 => absurd c c2⟩
        exact vw_X11_begin_J293 h
      · refine ⟨fun c2 => absurd c2 c, fun _ => ?_⟩
        obtain ⟨g9, h⟩ := h
        refine ⟨g9, ?_⟩
        obtain ⟨g9, h⟩ := h
        refine ⟨g9, ?_⟩
        rcases h with ⟨c, h⟩ | ⟨c, h⟩
        · refine ⟨fun _ => ?_, fun c2 => absurd c c2⟩
          exact vw_X11_begin_J187 (fun _ _ _ h => ih h) h
        · refine ⟨fun c2 => absurd c2 c, fun _ => ?_⟩
          exact vw_X11_begin_J187 (fun _ _ _ h => ih h) h
set_option maxRecDepth 100000 in
theorem vp_X11_begin_L155 {uo : MS} {P : MS → Prop} : ∀ (n m : Nat) {U155 : MS} {v155_4 : Int32} {v155_5 : Int32}, v_X11_begin_L155 uo n U155 v155_4 v155_5 → w_X11_begin_L155 P m U155 v155_4 v155_5 → P uo := by
  intro n
  induction n with
  | zero => intro m U155 v155_4 v155_5 h; unfold v_X11_begin_L155 at h; exact h.elim
  | succ n ih =>
    intro m U155 v155_4 v155_5 h w
    cases m with
    | zero => unfold w_X11_begin_L155 at w; exact w.elim
    | succ m =>
      unfold v_X11_begin_L155 at h
      unfold w_X11_begin_L155 at w
      obtain ⟨y25_, h⟩ := h
      replace w := w y25_
      rcases h with ⟨c, h⟩ | ⟨c, h⟩
      · replace w := w.1 c
        exact vp_X11_begin_J293 h w
      · replace w := w.2 c
        rcases h with ⟨c, h⟩ | ⟨c, h⟩
        · replace w := w.1 c
          exact vp_X11_begin_J293 h w
        · replace w := w.2 c
          replace h := h.2
          replace w := w.2
          replace h := h.2
          replace w := w.2
          rcases h with ⟨c, h⟩ | ⟨c, h⟩
          · replace w := w.1 c
            exact vp_X11_begin_J187 (fun _ _ _ h w => ih m h w) h w
          · replace w := w.2 c
            exact vp_X11_begin_J187 (fun _ _ _ h w => ih m h w) h w
set_option maxRecDepth 100000 in
theorem vwX11_begin {S : MS} {p1 : Nat} {x2 : Int32} {uo : MS} (h : vX11_begin S p1 x2 uo) : wX11_begin S p1 x2 (fun u => u = uo) := by
  unfold vX11_begin at h
  unfold wX11_begin
  obtain ⟨v9, e9, h⟩ := h
  intro x9 d9 _ _
  have c9 : v9 = x9 := e9.trans d9.symm
  subst c9
  replace h := h.2.2
  obtain ⟨v9, e9, h⟩ := h
  intro x9 d9 _ _
  have c9 : v9 = x9 := e9.trans d9.symm
  subst c9
  replace h := h.2.2
  obtain ⟨v9, e9, h⟩ := h
  intro x9 d9 _ _
  have c9 : v9 = x9 := e9.trans d9.symm
  subst c9
  replace h := h.2.2
  obtain ⟨v9, e9, h⟩ := h
  intro x9 d9 _ _
  have c9 : v9 = x9 := e9.trans d9.symm
  subst c9
  replace h := h.2.2
  obtain ⟨v9, e9, h⟩ := h
  intro x9 d9 _ _
  have c9 : v9 = x9 := e9.trans d9.symm
  subst c9
  replace h := h.2.2
  intro _
  replace h := h.2
  obtain ⟨q9, z9, h⟩ := h
  refine ⟨_, vwJ7_fill_53178 z9, ?_⟩
  intro q8 d9 _ _
  subst d9
  replace h := h.2.2
  intro _
  replace h := h.2
  obtain ⟨q9, z9, h⟩ := h
  refine ⟨_, vwJ7_fill_53178 z9, ?_⟩
  intro q8 d9 _ _
  subst d9
  replace h := h.2.2
  intro _
  replace h := h.2
  obtain ⟨p9, q9, z9, h⟩ := h
  refine ⟨_, vwX11_textEntry z9, ?_⟩
  rintro p8 q8 ⟨d8, d9⟩ _ _
  subst d8
  subst d9
  replace h := h.2.2
  obtain ⟨v9, e9, h⟩ := h
  intro x9 d9 _ _
  have c9 : v9 = x9 := e9.trans d9.symm
  subst c9
  replace h := h.2.2
  obtain ⟨g9, h⟩ := h
  refine ⟨g9, ?_⟩
  obtain ⟨p9, q9, z9, h⟩ := h
  refine ⟨_, vwX11_nameEntry z9, ?_⟩
  rintro p8 q8 ⟨d8, d9⟩ _ _
  subst d8
  subst d9
  replace h := h.2.2
  obtain ⟨p9, q9, z9, h⟩ := h
  refine ⟨_, vwX11_pointerEntry z9, ?_⟩
  rintro p8 q8 ⟨d8, d9⟩ _ _
  subst d8
  subst d9
  replace h := h.2.2
  obtain ⟨v9, e9, h⟩ := h
  intro x9 d9 _ _
  have c9 : v9 = x9 := e9.trans d9.symm
  subst c9
  replace h := h.2.2
  obtain ⟨g9, h⟩ := h
  refine ⟨g9, ?_⟩
  obtain ⟨p9, q9, z9, h⟩ := h
  refine ⟨_, vwX11_nameEntry z9, ?_⟩
  rintro p8 q8 ⟨d8, d9⟩ _ _
  subst d8
  subst d9
  replace h := h.2.2
  obtain ⟨p9, q9, z9, h⟩ := h
  refine ⟨_, vwX11_pointerEntry z9, ?_⟩
  rintro p8 q8 ⟨d8, d9⟩ _ _
  subst d8
  subst d9
  replace h := h.2.2
  intro _
  replace h := h.2
  obtain ⟨q9, z9, h⟩ := h
  refine ⟨_, vwX0_put2 z9, ?_⟩
  intro q8 d9 _ _
  subst d9
  replace h := h.2.2
  intro _
  replace h := h.2
  obtain ⟨q9, z9, h⟩ := h
  refine ⟨_, vwX0_put2 z9, ?_⟩
  intro q8 d9 _ _
  subst d9
  replace h := h.2.2
  intro _
  replace h := h.2
  obtain ⟨q9, z9, h⟩ := h
  refine ⟨_, vwX0_put2 z9, ?_⟩
  intro q8 d9 _ _
  subst d9
  replace h := h.2.2
  intro _
  replace h := h.2
  obtain ⟨q9, z9, h⟩ := h
  refine ⟨_, vwX0_put2 z9, ?_⟩
  intro q8 d9 _ _
  subst d9
  replace h := h.2.2
  obtain ⟨g9, h⟩ := h
  refine ⟨g9, ?_⟩
  obtain ⟨v9, e9, h⟩ := h
  intro x9 d9 
  have c9 : v9 = x9 := e9.trans d9.symm
  subst c9
  intro _
  replace h := h.2
  obtain ⟨q9, z9, h⟩ := h
  refine ⟨_, vwX0_put2 z9, ?_⟩
  intro q8 d9 _ _
  subst d9
  replace h := h.2.2
  obtain ⟨n9, h⟩ := h
  exact ⟨n9, vw_X11_begin_L155 n9 h⟩
set_option maxRecDepth 100000 in
theorem vpX11_begin {S : MS} {p1 : Nat} {x2 : Int32} {uo : MS} {P : MS → Prop} (h : vX11_begin S p1 x2 uo) (w : wX11_begin S p1 x2 P) : P uo := by
  unfold vX11_begin at h
  unfold wX11_begin at w
  obtain ⟨v9, e9, y26_, y27_, h⟩ := h
  replace w := w v9 e9 y26_ y27_
  obtain ⟨v9, e9, y28_, y29_, h⟩ := h
  replace w := w v9 e9 y28_ y29_
  obtain ⟨v9, e9, y30_, y31_, h⟩ := h
  replace w := w v9 e9 y30_ y31_
  obtain ⟨v9, e9, y32_, y33_, h⟩ := h
  replace w := w v9 e9 y32_ y33_
  obtain ⟨v9, e9, y34_, y35_, h⟩ := h
  replace w := w v9 e9 y34_ y35_
  obtain ⟨y36_, h⟩ := h
  replace w := w y36_
  obtain ⟨q9, z9, y37_, y38_, h⟩ := h
  obtain ⟨Q9, w0, w⟩ := w
  replace w := w q9 (vpJ7_fill_53178 z9 w0) y37_ y38_
  obtain ⟨y39_, h⟩ := h
  replace w := w y39_
  obtain ⟨q9, z9, y40_, y41_, h⟩ := h
  obtain ⟨Q9, w0, w⟩ := w
  replace w := w q9 (vpJ7_fill_53178 z9 w0) y40_ y41_
  obtain ⟨y42_, h⟩ := h
  replace w := w y42_
  obtain ⟨p9, q9, z9, y43_, y44_, h⟩ := h
  obtain ⟨Q9, w0, w⟩ := w
  replace w := w p9 q9 (vpX11_textEntry z9 w0) y43_ y44_
  obtain ⟨v9, e9, y45_, y46_, h⟩ := h
  replace w := w v9 e9 y45_ y46_
  replace h := h.2
  replace w := w.2
  obtain ⟨p9, q9, z9, y47_, y48_, h⟩ := h
  obtain ⟨Q9, w0, w⟩ := w
  replace w := w p9 q9 (vpX11_nameEntry z9 w0) y47_ y48_
  obtain ⟨p9, q9, z9, y49_, y50_, h⟩ := h
  obtain ⟨Q9, w0, w⟩ := w
  replace w := w p9 q9 (vpX11_pointerEntry z9 w0) y49_ y50_
  obtain ⟨v9, e9, y51_, y52_, h⟩ := h
  replace w := w v9 e9 y51_ y52_
  replace h := h.2
  replace w := w.2
  obtain ⟨p9, q9, z9, y53_, y54_, h⟩ := h
  obtain ⟨Q9, w0, w⟩ := w
  replace w := w p9 q9 (vpX11_nameEntry z9 w0) y53_ y54_
  obtain ⟨p9, q9, z9, y55_, y56_, h⟩ := h
  obtain ⟨Q9, w0, w⟩ := w
  replace w := w p9 q9 (vpX11_pointerEntry z9 w0) y55_ y56_
  obtain ⟨y57_, h⟩ := h
  replace w := w y57_
  obtain ⟨q9, z9, y58_, y59_, h⟩ := h
  obtain ⟨Q9, w0, w⟩ := w
  replace w := w q9 (vpX0_put2 z9 w0) y58_ y59_
  obtain ⟨y60_, h⟩ := h
  replace w := w y60_
  obtain ⟨q9, z9, y61_, y62_, h⟩ := h
  obtain ⟨Q9, w0, w⟩ := w
  replace w := w q9 (vpX0_put2 z9 w0) y61_ y62_
  obtain ⟨y63_, h⟩ := h
  replace w := w y63_
  obtain ⟨q9, z9, y64_, y65_, h⟩ := h
  obtain ⟨Q9, w0, w⟩ := w
  replace w := w q9 (vpX0_put2 z9 w0) y64_ y65_
  obtain ⟨y66_, h⟩ := h
  replace w := w y66_
  obtain ⟨q9, z9, y67_, y68_, h⟩ := h
  obtain ⟨Q9, w0, w⟩ := w
  replace w := w q9 (vpX0_put2 z9 w0) y67_ y68_
  replace h := h.2
  replace w := w.2
  obtain ⟨v9, e9, h⟩ := h
  replace w := w v9 e9 
  obtain ⟨y69_, h⟩ := h
  replace w := w y69_
  obtain ⟨q9, z9, y70_, y71_, h⟩ := h
  obtain ⟨Q9, w0, w⟩ := w
  replace w := w q9 (vpX0_put2 z9 w0) y70_ y71_
  obtain ⟨n9, h⟩ := h
  obtain ⟨n8, w⟩ := w
  exact vp_X11_begin_L155 n9 n8 h w
def v_X11_layOut_L53 (ro : Int32) (uo : MS) : Nat → MS → Int32 → Int32 → Prop
  | 0, _, _, _ => False
  | n53 + 1, U53, v53_1, v53_2 => (wfC U53 ∧ ((qR U53 25 15 = some (qO U53 25 15)) ∧ (((qI U53 (qO U53 25 15) 2).toInt ≤ v53_2.toInt ∧ ((qR U53 25 15 = some (qO U53 25 15)) ∧ (((0 : Int) ≤ (qI U53 (qO U53 25 15) 2).toInt ∧ (qI U53 (qO U53 25 15) 2).toInt < (qN U53 (qO U53 25 17) : Int)) ∧ (∃ S12 : MS, S12 = wI U53 (qO U53 25 17) (((qI U53 (qO U53 25 15) 2).toInt).toNat) v53_1 ∧ qT U53 (qO U53 25 17) = 245 ∧ wfC S12 ∧ (ro = v53_1 ∧ uo = S12))))) ∨ (¬ (qI U53 (qO U53 25 15) 2).toInt ≤ v53_2.toInt ∧ (((0 : Int) ≤ v53_2.toInt ∧ v53_2.toInt < (qN U53 (qO U53 25 17) : Int)) ∧ (∃ S15 : MS, S15 = wI U53 (qO U53 25 17) v53_2.toInt.toNat v53_1 ∧ qT U53 (qO U53 25 17) = 245 ∧ wfC S15 ∧ (∃ (r18 : Int32) (S19 : MS), vX11_needOf S15 v53_2 r18 S19 ∧ wfC S19 ∧ shx S15 S19 ∧ (((0 : Int) ≤ v53_2.toInt ∧ v53_2.toInt < (qN S19 (qO S15 25 16) : Int)) ∧ (∃ S23 : MS, S23 = wI S19 (qO S15 25 16) v53_2.toInt.toNat r18 ∧ qT S19 (qO S15 25 16) = 244 ∧ wfC S23 ∧ (d_X11_lengthOf S23 v53_2 v53_1 ∧ (∃ a28 : Int32, a28 = (v53_1 + (fX11_lengthOf S23 v53_2 v53_1)) ∧ (∃ a29 : Int32, a29 = (v53_2 + Int32.ofInt 1) ∧ ((v_X11_layOut_L53 ro uo n53) S23 a28 a29)))))))))))))
def v_X11_layOut_J49 (ro : Int32) (uo : MS) (U49 : MS) : Prop := (wfC U49 ∧ (∃ n, v_X11_layOut_L53 ro uo n U49 0 0))
def vX11_layOut (S : MS) (ro : Int32) (uo : MS) : Prop := ((qR S 25 15 = some (qO S 25 15)) ∧ (((qI S (qO S 25 15) 2).toInt < (qN S (qO S 25 17) : Int) ∧ (v_X11_layOut_J49 ro uo S)) ∨ (¬ (qI S (qO S 25 15) 2).toInt < (qN S (qO S 25 17) : Int) ∧ ((qR S 25 15 = some (qO S 25 15)) ∧ (((0 : Int) ≤ (((2 : Int32) * (qI S (qO S 25 15) 2)) + (2 : Int32)).toInt ∧ (qn S + 1 ≤ KCC ∧ qu S + (((2 : Int32) * (qI S (qO S 25 15) 2)) + (2 : Int32)).toInt.toNat ≤ KSC)) ∧ (∃ S38 : MS, S38 = wN S 245 ((((2 : Int32) * (qI S (qO S 25 15) 2)) + (2 : Int32)).toInt.toNat) ((((2 : Int32) * (qI S (qO S 25 15) 2)) + (2 : Int32)).toInt.toNat) ∧ wfC S38 ∧ (∃ S40 : MS, S40 = wR S38 25 17 (some (qn S)) ∧ qT S38 25 = 50 ∧ wfC S40 ∧ ((qR S40 25 15 = some (qO S40 25 15)) ∧ (((0 : Int) ≤ (((2 : Int32) * (qI S40 (qO S40 25 15) 2)) + (2 : Int32)).toInt ∧ (qn S40 + 1 ≤ KCC ∧ qu S40 + (((2 : Int32) * (qI S40 (qO S40 25 15) 2)) + (2 : Int32)).toInt.toNat ≤ KSC)) ∧ (∃ S48 : MS, S48 = wN S40 244 ((((2 : Int32) * (qI S40 (qO S40 25 15) 2)) + (2 : Int32)).toInt.toNat) ((((2 : Int32) * (qI S40 (qO S40 25 15) 2)) + (2 : Int32)).toInt.toNat) ∧ wfC S48 ∧ (∃ S50 : MS, S50 = wR S48 25 16 (some (qn S40)) ∧ qT S48 25 = 50 ∧ wfC S50 ∧ (v_X11_layOut_J49 ro uo S50))))))))))))
set_option maxRecDepth 100000 in
theorem ru_X11_layOut_L53 {ι : Type} {P Q : Int32 → MS → Prop} : ∀ (n : Nat) {U53 : MS} {v53_1 : Int32} {v53_2 : Int32} (i0 : ι), (∀ (i : ι) (ro : Int32) (uo : MS), (∃ n8, v_X11_layOut_L53 ro uo n8 U53 v53_1 v53_2) → P ro uo) → w_X11_layOut_L53 Q n U53 v53_1 v53_2 → w_X11_layOut_L53 (fun r u => Q r u ∧ P r u) n U53 v53_1 v53_2 := by
  intro n
  induction n with
  | zero => intro U53 v53_1 v53_2 i0 K h; unfold w_X11_layOut_L53 at h; exact h.elim
  | succ n ih =>
    intro U53 v53_1 v53_2 i0 K h
    unfold w_X11_layOut_L53 at h ⊢
    replace K := fun (i : ι × Nat) ro uo (z : v_X11_layOut_L53 ro uo (i.2 + 1) U53 v53_1 v53_2) => K i.1 ro uo ⟨i.2 + 1, z⟩
    have i00 := i0
    replace i0 : ι × Nat := (i0, 0)
    intro y1_
    replace h := h y1_
    replace K := fun i ro uo z => K i ro uo ⟨y1_, z⟩
    obtain ⟨g2_, h⟩ := h
    refine ⟨g2_, ?_⟩
    replace K := fun i ro uo z => K i ro uo ⟨g2_, z⟩
    refine ⟨fun c => ?_, fun c => ?_⟩
    · replace h := h.1 c
      replace K := fun i ro uo z => K i ro uo (Or.inl ⟨c, z⟩)
      obtain ⟨g3_, h⟩ := h
      refine ⟨g3_, ?_⟩
      replace K := fun i ro uo z => K i ro uo ⟨g3_, z⟩
      obtain ⟨g4_, h⟩ := h
      refine ⟨g4_, ?_⟩
      replace K := fun i ro uo z => K i ro uo ⟨g4_, z⟩
      intro S12 eS12 y5_ y6_
      replace h := h S12 eS12 y5_ y6_
      replace K := fun i ro uo z => K i ro uo ⟨S12, eS12, y5_, y6_, z⟩
      exact ⟨h, K i0 _ _ ⟨rfl, rfl⟩⟩
    · replace h := h.2 c
      replace K := fun i ro uo z => K i ro uo (Or.inr ⟨c, z⟩)
      obtain ⟨g7_, h⟩ := h
      refine ⟨g7_, ?_⟩
      replace K := fun i ro uo z => K i ro uo ⟨g7_, z⟩
      intro S15 eS15 y8_ y9_
      replace h := h S15 eS15 y8_ y9_
      replace K := fun i ro uo z => K i ro uo ⟨S15, eS15, y8_, y9_, z⟩
      obtain ⟨Q9, h0, h⟩ := h
      refine ⟨_, ruX11_needOf h0, ?_⟩
      intro r18 S19 q10_ y11_ y12_
      replace h := h r18 S19 q10_.1 y11_ y12_
      replace K := fun i ro uo z => K i ro uo ⟨r18, S19, q10_.2, y11_, y12_, z⟩
      obtain ⟨g13_, h⟩ := h
      refine ⟨g13_, ?_⟩
      replace K := fun i ro uo z => K i ro uo ⟨g13_, z⟩
      intro S23 eS23 y14_ y15_
      replace h := h S23 eS23 y14_ y15_
      replace K := fun i ro uo z => K i ro uo ⟨S23, eS23, y14_, y15_, z⟩
      obtain ⟨g16_, h⟩ := h
      refine ⟨g16_, ?_⟩
      replace K := fun i ro uo z => K i ro uo ⟨g16_, z⟩
      intro a28 ea28 
      replace h := h a28 ea28 
      replace K := fun i ro uo z => K i ro uo ⟨a28, ea28, z⟩
      intro a29 ea29 
      replace h := h a29 ea29 
      replace K := fun i ro uo z => K i ro uo ⟨a29, ea29, z⟩
      exact ih i00 (fun i ro uo ⟨n8, z⟩ => K (i, n8) ro uo z) h
set_option maxRecDepth 100000 in
theorem ru_X11_layOut_J49 {ι : Type} {P Q : Int32 → MS → Prop} {U49 : MS} (i0 : ι) (K : ∀ (i : ι) (ro : Int32) (uo : MS), v_X11_layOut_J49 ro uo U49 → P ro uo) (h : w_X11_layOut_J49 Q U49) : w_X11_layOut_J49 (fun r u => Q r u ∧ P r u) U49 := by
  unfold w_X11_layOut_J49 at h ⊢
  intro y17_
  replace h := h y17_
  replace K := fun i ro uo z => K i ro uo ⟨y17_, z⟩
  obtain ⟨n9, h⟩ := h
  exact ⟨n9, ru_X11_layOut_L53 n9 i0 K h⟩
set_option maxRecDepth 100000 in
theorem ruX11_layOut {S : MS} {Q : Int32 → MS → Prop} (h : wX11_layOut S Q) : wX11_layOut S (fun r u => Q r u ∧ vX11_layOut S r u) := by
  have i0 : Unit := ()
  have K : ∀ (i : Unit) (ro : Int32) (uo : MS), vX11_layOut S ro uo → vX11_layOut S ro uo := fun _ _ _ z => z
  unfold wX11_layOut at h ⊢
  obtain ⟨g18_, h⟩ := h
  refine ⟨g18_, ?_⟩
  replace K := fun i ro uo z => K i ro uo ⟨g18_, z⟩
  refine ⟨fun c => ?_, fun c => ?_⟩
  · replace h := h.1 c
    replace K := fun i ro uo z => K i ro uo (Or.inl ⟨c, z⟩)
    exact ru_X11_layOut_J49 i0 K h
  · replace h := h.2 c
    replace K := fun i ro uo z => K i ro uo (Or.inr ⟨c, z⟩)
    obtain ⟨g19_, h⟩ := h
    refine ⟨g19_, ?_⟩
    replace K := fun i ro uo z => K i ro uo ⟨g19_, z⟩
    obtain ⟨g20_, h⟩ := h
    refine ⟨g20_, ?_⟩
    replace K := fun i ro uo z => K i ro uo ⟨g20_, z⟩
    intro S38 eS38 y21_
    replace h := h S38 eS38 y21_
    replace K := fun i ro uo z => K i ro uo ⟨S38, eS38, y21_, z⟩
    intro S40 eS40 y22_ y23_
    replace h := h S40 eS40 y22_ y23_
    replace K := fun i ro uo z => K i ro uo ⟨S40, eS40, y22_, y23_, z⟩
    obtain ⟨g24_, h⟩ := h
    refine ⟨g24_, ?_⟩
    replace K := fun i ro uo z => K i ro uo ⟨g24_, z⟩
    obtain ⟨g25_, h⟩ := h
    refine ⟨g25_, ?_⟩
    replace K := fun i ro uo z => K i ro uo ⟨g25_, z⟩
    intro S48 eS48 y26_
    replace h := h S48 eS48 y26_
    replace K := fun i ro uo z => K i ro uo ⟨S48, eS48, y26_, z⟩
    intro S50 eS50 y27_ y28_
    replace h := h S50 eS50 y27_ y28_
    replace K := fun i ro uo z => K i ro uo ⟨S50, eS50, y27_, y28_, z⟩
    exact ru_X11_layOut_J49 i0 K h
set_option maxRecDepth 100000 in
theorem vw_X11_layOut_L53 {ro : Int32} {uo : MS} : ∀ (n : Nat) {U53 : MS} {v53_1 : Int32} {v53_2 : Int32}, v_X11_layOut_L53 ro uo n U53 v53_1 v53_2 → w_X11_layOut_L53 (fun r u => r = ro ∧ u = uo) n U53 v53_1 v53_2 := by
  intro n
  induction n with
  | zero => intro U53 v53_1 v53_2 h; unfold v_X11_layOut_L53 at h; exact h.elim
  | succ n ih =>
    intro U53 v53_1 v53_2 h
    unfold v_X11_layOut_L53 at h
    unfold w_X11_layOut_L53
    intro _
    replace h := h.2
    obtain ⟨g9, h⟩ := h
    refine ⟨g9, ?_⟩
    rcases h with ⟨c, h⟩ | ⟨c, h⟩
    · refine ⟨fun _ => ?_, fun c2 => absurd c c2⟩
      obtain ⟨g9, h⟩ := h
      refine ⟨g9, ?_⟩
      obtain ⟨g9, h⟩ := h
      refine ⟨g9, ?_⟩
      obtain ⟨v9, e9, h⟩ := h
      intro x9 d9 _ _
      have c9 : v9 = x9 := e9.trans d9.symm
      subst c9
      replace h := h.2.2
      exact ⟨h.1.symm, h.2.symm⟩
    · refine ⟨fun c2 => absurd c2 c, fun _ => ?_⟩
      obtain ⟨g9, h⟩ := h
      refine ⟨g9, ?_⟩
      obtain ⟨v9, e9, h⟩ := h
      intro x9 d9 _ _
      have c9 : v9 = x9 := e9.trans d9.symm
      subst c9
      replace h := h.2.2
      obtain ⟨p9, q9, z9, h⟩ := h
      refine ⟨_, vwX11_needOf z9, ?_⟩
      rintro p8 q8 ⟨d8, d9⟩ _ _
      subst d8
      subst d9
      replace h := h.2.2
      obtain ⟨g9, h⟩ := h
      refine ⟨g9, ?_⟩
      obtain ⟨v9, e9, h⟩ := h
      intro x9 d9 _ _
      have c9 : v9 = x9 := e9.trans d9.symm
      subst c9
      replace h := h.2.2
      obtain ⟨g9, h⟩ := h
      refine ⟨g9, ?_⟩
      obtain ⟨v9, e9, h⟩ := h
      intro x9 d9 
      have c9 : v9 = x9 := e9.trans d9.symm
      subst c9
      obtain ⟨v9, e9, h⟩ := h
      intro x9 d9 
      have c9 : v9 = x9 := e9.trans d9.symm
      subst c9
      exact ih h
set_option maxRecDepth 100000 in
theorem vp_X11_layOut_L53 {ro : Int32} {uo : MS} {P : Int32 → MS → Prop} : ∀ (n m : Nat) {U53 : MS} {v53_1 : Int32} {v53_2 : Int32}, v_X11_layOut_L53 ro uo n U53 v53_1 v53_2 → w_X11_layOut_L53 P m U53 v53_1 v53_2 → P ro uo := by
  intro n
  induction n with
  | zero => intro m U53 v53_1 v53_2 h; unfold v_X11_layOut_L53 at h; exact h.elim
  | succ n ih =>
    intro m U53 v53_1 v53_2 h w
    cases m with
    | zero => unfold w_X11_layOut_L53 at w; exact w.elim
    | succ m =>
      unfold v_X11_layOut_L53 at h
      unfold w_X11_layOut_L53 at w
      obtain ⟨y1_, h⟩ := h
      replace w := w y1_
      replace h := h.2
      replace w := w.2
      rcases h with ⟨c, h⟩ | ⟨c, h⟩
      · replace w := w.1 c
        replace h := h.2
        replace w := w.2
        replace h := h.2
        replace w := w.2
        obtain ⟨v9, e9, y2_, y3_, h⟩ := h
        replace w := w v9 e9 y2_ y3_
        rw [h.1, h.2]
        exact w
      · replace w := w.2 c
        replace h := h.2
        replace w := w.2
        obtain ⟨v9, e9, y4_, y5_, h⟩ := h
        replace w := w v9 e9 y4_ y5_
        obtain ⟨p9, q9, z9, y6_, y7_, h⟩ := h
        obtain ⟨Q9, w0, w⟩ := w
        replace w := w p9 q9 (vpX11_needOf z9 w0) y6_ y7_
        replace h := h.2
        replace w := w.2
        obtain ⟨v9, e9, y8_, y9_, h⟩ := h
        replace w := w v9 e9 y8_ y9_
        replace h := h.2
        replace w := w.2
        obtain ⟨v9, e9, h⟩ := h
        replace w := w v9 e9 
        obtain ⟨v9, e9, h⟩ := h
        replace w := w v9 e9 
        exact ih m h w
set_option maxRecDepth 100000 in
theorem vw_X11_layOut_J49 {ro : Int32} {uo : MS} {U49 : MS} (h : v_X11_layOut_J49 ro uo U49) : w_X11_layOut_J49 (fun r u => r = ro ∧ u = uo) U49 := by
  unfold v_X11_layOut_J49 at h
  unfold w_X11_layOut_J49
  intro _
  replace h := h.2
  obtain ⟨n9, h⟩ := h
  exact ⟨n9, vw_X11_layOut_L53 n9 h⟩
set_option maxRecDepth 100000 in
theorem vp_X11_layOut_J49 {ro : Int32} {uo : MS} {P : Int32 → MS → Prop} {U49 : MS} (h : v_X11_layOut_J49 ro uo U49) (w : w_X11_layOut_J49 P U49) : P ro uo := by
  unfold v_X11_layOut_J49 at h
  unfold w_X11_layOut_J49 at w
  obtain ⟨y10_, h⟩ := h
  replace w := w y10_
  obtain ⟨n9, h⟩ := h
  obtain ⟨n8, w⟩ := w
  exact vp_X11_layOut_L53 n9 n8 h w
set_option maxRecDepth 100000 in
theorem vwX11_layOut {S : MS} {ro : Int32} {uo : MS} (h : vX11_layOut S ro uo) : wX11_layOut S (fun r u => r = ro ∧ u = uo) := by
  unfold vX11_layOut at h
  unfold wX11_layOut
  obtain ⟨g9, h⟩ := h
  refine ⟨g9, ?_⟩
  rcases h with ⟨c, h⟩ | ⟨c, h⟩
  · refine ⟨fun _ => ?_, fun c2 => absurd c c2⟩
    exact vw_X11_layOut_J49 h
  · refine ⟨fun c2 => absurd c2 c, fun _ => ?_⟩
    obtain ⟨g9, h⟩ := h
    refine ⟨g9, ?_⟩
    obtain ⟨g9, h⟩ := h
    refine ⟨g9, ?_⟩
    obtain ⟨v9, e9, h⟩ := h
    intro x9 d9 _
    have c9 : v9 = x9 := e9.trans d9.symm
    subst c9
    replace h := h.2
    obtain ⟨v9, e9, h⟩ := h
    intro x9 d9 _ _
    have c9 : v9 = x9 := e9.trans d9.symm
    subst c9
    replace h := h.2.2
    obtain ⟨g9, h⟩ := h
    refine ⟨g9, ?_⟩
    obtain ⟨g9, h⟩ := h
    refine ⟨g9, ?_⟩
    obtain ⟨v9, e9, h⟩ := h
    intro x9 d9 _
    have c9 : v9 = x9 := e9.trans d9.symm
    subst c9
    replace h := h.2
    obtain ⟨v9, e9, h⟩ := h
    intro x9 d9 _ _
    have c9 : v9 = x9 := e9.trans d9.symm
    subst c9
    replace h := h.2.2
    exact vw_X11_layOut_J49 h
set_option maxRecDepth 100000 in
theorem vpX11_layOut {S : MS} {ro : Int32} {uo : MS} {P : Int32 → MS → Prop} (h : vX11_layOut S ro uo) (w : wX11_layOut S P) : P ro uo := by
  unfold vX11_layOut at h
  unfold wX11_layOut at w
  replace h := h.2
  replace w := w.2
  rcases h with ⟨c, h⟩ | ⟨c, h⟩
  · replace w := w.1 c
    exact vp_X11_layOut_J49 h w
  · replace w := w.2 c
    replace h := h.2
    replace w := w.2
    replace h := h.2
    replace w := w.2
    obtain ⟨v9, e9, y11_, h⟩ := h
    replace w := w v9 e9 y11_
    obtain ⟨v9, e9, y12_, y13_, h⟩ := h
    replace w := w v9 e9 y12_ y13_
    replace h := h.2
    replace w := w.2
    replace h := h.2
    replace w := w.2
    obtain ⟨v9, e9, y14_, h⟩ := h
    replace w := w v9 e9 y14_
    obtain ⟨v9, e9, y15_, y16_, h⟩ := h
    replace w := w v9 e9 y15_ y16_
    exact vp_X11_layOut_J49 h w
def v_X1_flowFrom_L114 (uo : MS) : Nat → MS → Int32 → Int32 → Int32 → Prop
  | 0, _, _, _, _ => False
  | n114 + 1, U114, v114_1, v114_2, v114_3 => (wfC U114 ∧ ((v114_2.toInt ≤ v114_3.toInt ∧ (uo = U114)) ∨ (¬ v114_2.toInt ≤ v114_3.toInt ∧ ((qR U114 16 9 = some (qO U114 16 9)) ∧ (d_X8_targetAt U114 (qO U114 16 9) v114_1 v114_3 ∧ (∃ a35 : Int32, a35 = (fX8_targetAt U114 (qO U114 16 9) v114_1 v114_3) ∧ (∃ (S37 : MS), vX1_comeTo U114 a35 S37 ∧ wfC S37 ∧ shy U114 S37 ∧ (∃ a39 : Int32, a39 = (v114_3 + Int32.ofInt 1) ∧ ((v_X1_flowFrom_L114 uo n114) S37 v114_1 v114_2 a39)))))))))
def v_X1_flowFrom_J103 (uo : MS) (U103 : MS) (v103_1 : Int32) : Prop := (wfC U103 ∧ ((qR U103 16 9 = some (qO U103 16 9)) ∧ (d_X8_targetCount U103 (qO U103 16 9) v103_1 ∧ (∃ a28 : Int32, a28 = (fX8_targetCount U103 (qO U103 16 9) v103_1) ∧ (∃ n, v_X1_flowFrom_L114 uo n U103 v103_1 a28 0)))))
def v_X1_flowFrom_J72 (uo : MS) (U72 : MS) (v72_1 : Int32) : Prop := (wfC U72 ∧ (∃ (S8 : MS), vX1_takeUp U72 v72_1 S8 ∧ wfC S8 ∧ shy U72 S8 ∧ (∃ (S11 : MS), vX1_goThrough S8 v72_1 S11 ∧ wfC S11 ∧ shy S8 S11 ∧ ((qR S11 16 9 = some (qO S11 16 9)) ∧ (d_X8_opAt S11 (qO S11 16 9) v72_1 ∧ (∃ a18 : Int32, a18 = (fX8_opAt S11 (qO S11 16 9) v72_1) ∧ (d_X6_goesOn S11 a18 ∧ (∃ a22 : Int32, a22 = (fX6_goesOn S11 a18) ∧ ((a22.toInt = 0 ∧ (v_X1_flowFrom_J103 uo S11 v72_1)) ∨ (¬ a22.toInt = 0 ∧ (∃ (S43 : MS), vX1_comeTo S11 (v72_1 + (1 : Int32)) S43 ∧ wfC S43 ∧ shy S11 S43 ∧ (v_X1_flowFrom_J103 uo S43 v72_1))))))))))))
def v_X1_flowFrom_J66 (uo : MS) (k30 : MS → Int32 → Int32 → Prop) (U66 : MS) (v66_1 : Int32) (v66_2 : Int32) : Prop := (wfC U66 ∧ (∃ a62 : Int32, a62 = (v66_2 + Int32.ofInt 1) ∧ (k30 U66 v66_1 a62)))
def v_X1_flowFrom_L30 (uo : MS) : Nat → MS → Int32 → Int32 → Prop
  | 0, _, _, _ => False
  | n30 + 1, U30, v30_1, v30_2 => (wfC U30 ∧ ((qR U30 16 9 = some (qO U30 16 9)) ∧ (((qI U30 (qO U30 16 9) 9).toInt ≤ v30_2.toInt ∧ (v_X1_flowFrom_J72 uo U30 v30_1)) ∨ (¬ (qI U30 (qO U30 16 9) 9).toInt ≤ v30_2.toInt ∧ ((qR U30 16 9 = some (qO U30 16 9)) ∧ (d_X8_catchHas U30 (qO U30 16 9) v30_2 v30_1 ∧ (∃ a61 : Int32, a61 = (fX8_catchHas U30 (qO U30 16 9) v30_2 v30_1) ∧ ((a61.toInt = 0 ∧ (v_X1_flowFrom_J66 uo (v_X1_flowFrom_L30 uo n30) U30 v30_1 v30_2)) ∨ (¬ a61.toInt = 0 ∧ ((qR U30 16 9 = some (qO U30 16 9)) ∧ ((qR U30 (qO U30 16 9) 7 = some (qO U30 (qO U30 16 9) 7)) ∧ (((0 : Int) ≤ v30_2.toInt ∧ v30_2.toInt < (qN U30 (qO U30 (qO U30 16 9) 7) : Int)) ∧ (∃ (S71 : MS), vX1_comeTo U30 (qI U30 (qO U30 (qO U30 16 9) 7) v30_2.toInt.toNat) S71 ∧ wfC S71 ∧ shy U30 S71 ∧ (v_X1_flowFrom_J66 uo (v_X1_flowFrom_L30 uo n30) S71 v30_1 v30_2))))))))))))))
def vX1_flowFrom (S : MS) (x1 : Int32) (uo : MS) : Prop := ((qR S 16 9 = some (qO S 16 9)) ∧ (qT S (qO S 16 9) = 47 ∧ (∃ (r4 : Int32) (S5 : MS), vX8_isCaught S (qO S 16 9) x1 r4 S5 ∧ wfC S5 ∧ shy S S5 ∧ ((r4.toInt = 0 ∧ (v_X1_flowFrom_J72 uo S5 x1)) ∨ (¬ r4.toInt = 0 ∧ (∃ (S47 : MS), vX1_takeUp S5 x1 S47 ∧ wfC S47 ∧ shy S5 S47 ∧ (∃ S49 : MS, S49 = wI S47 16 5 (1 : Int32) ∧ qT S47 16 = 41 ∧ wfC S49 ∧ (∃ (S51 : MS), vX1_setPlace S49 (24 : Int32) (5 : Int32) S51 ∧ wfC S51 ∧ shy S49 S51 ∧ (∃ n, v_X1_flowFrom_L30 uo n S51 x1 0)))))))))
set_option maxRecDepth 100000 in
theorem ru_X1_flowFrom_L114 {ι : Type} {P Q : MS → Prop} : ∀ (n : Nat) {U114 : MS} {v114_1 : Int32} {v114_2 : Int32} {v114_3 : Int32} (i0 : ι), (∀ (i : ι) (uo : MS), (∃ n8, v_X1_flowFrom_L114 uo n8 U114 v114_1 v114_2 v114_3) → P uo) → w_X1_flowFrom_L114 Q n U114 v114_1 v114_2 v114_3 → w_X1_flowFrom_L114 (fun u => Q u ∧ P u) n U114 v114_1 v114_2 v114_3 := by
  intro n
  induction n with
  | zero => intro U114 v114_1 v114_2 v114_3 i0 K h; unfold w_X1_flowFrom_L114 at h; exact h.elim
  | succ n ih =>
    intro U114 v114_1 v114_2 v114_3 i0 K h
    unfold w_X1_flowFrom_L114 at h ⊢
    replace K := fun (i : ι × Nat) uo (z : v_X1_flowFrom_L114 uo (i.2 + 1) U114 v114_1 v114_2 v114_3) => K i.1 uo ⟨i.2 + 1, z⟩
    have i00 := i0
    replace i0 : ι × Nat := (i0, 0)
    intro y1_
    replace h := h y1_
    replace K := fun i uo z => K i uo ⟨y1_, z⟩
    refine ⟨fun c => ?_, fun c => ?_⟩
    · replace h := h.1 c
      replace K := fun i uo z => K i uo (Or.inl ⟨c, z⟩)
      exact ⟨h, K i0 _ rfl⟩
    · replace h := h.2 c
      replace K := fun i uo z => K i uo (Or.inr ⟨c, z⟩)
      obtain ⟨g2_, h⟩ := h
      refine ⟨g2_, ?_⟩
      replace K := fun i uo z => K i uo ⟨g2_, z⟩
      obtain ⟨g3_, h⟩ := h
      refine ⟨g3_, ?_⟩
      replace K := fun i uo z => K i uo ⟨g3_, z⟩
      intro a35 ea35 
      replace h := h a35 ea35 
      replace K := fun i uo z => K i uo ⟨a35, ea35, z⟩
      obtain ⟨Q9, h0, h⟩ := h
      refine ⟨_, ruX1_comeTo h0, ?_⟩
      intro S37 q4_ y5_ y6_
      replace h := h S37 q4_.1 y5_ y6_
      replace K := fun i uo z => K i uo ⟨S37, q4_.2, y5_, y6_, z⟩
      intro a39 ea39 
      replace h := h a39 ea39 
      replace K := fun i uo z => K i uo ⟨a39, ea39, z⟩
      exact ih i00 (fun i uo ⟨n8, z⟩ => K (i, n8) uo z) h
set_option maxRecDepth 100000 in
theorem ru_X1_flowFrom_J103 {ι : Type} {P Q : MS → Prop} {U103 : MS} {v103_1 : Int32} (i0 : ι) (K : ∀ (i : ι) (uo : MS), v_X1_flowFrom_J103 uo U103 v103_1 → P uo) (h : w_X1_flowFrom_J103 Q U103 v103_1) : w_X1_flowFrom_J103 (fun u => Q u ∧ P u) U103 v103_1 := by
  unfold w_X1_flowFrom_J103 at h ⊢
  intro y7_
  replace h := h y7_
  replace K := fun i uo z => K i uo ⟨y7_, z⟩
  obtain ⟨g8_, h⟩ := h
  refine ⟨g8_, ?_⟩
  replace K := fun i uo z => K i uo ⟨g8_, z⟩
  obtain ⟨g9_, h⟩ := h
  refine ⟨g9_, ?_⟩
  replace K := fun i uo z => K i uo ⟨g9_, z⟩
  intro a28 ea28 
  replace h := h a28 ea28 
  replace K := fun i uo z => K i uo ⟨a28, ea28, z⟩
  obtain ⟨n9, h⟩ := h
  exact ⟨n9, ru_X1_flowFrom_L114 n9 i0 K h⟩
set_option maxRecDepth 100000 in
theorem ru_X1_flowFrom_J72 {ι : Type} {P Q : MS → Prop} {U72 : MS} {v72_1 : Int32} (i0 : ι) (K : ∀ (i : ι) (uo : MS), v_X1_flowFrom_J72 uo U72 v72_1 → P uo) (h : w_X1_flowFrom_J72 Q U72 v72_1) : w_X1_flowFrom_J72 (fun u => Q u ∧ P u) U72 v72_1 := by
  unfold w_X1_flowFrom_J72 at h ⊢
  intro y10_
  replace h := h y10_
  replace K := fun i uo z => K i uo ⟨y10_, z⟩
  obtain ⟨Q9, h0, h⟩ := h
  refine ⟨_, ruX1_takeUp h0, ?_⟩
  intro S8 q11_ y12_ y13_
  replace h := h S8 q11_.1 y12_ y13_
  replace K := fun i uo z => K i uo ⟨S8, q11_.2, y12_, y13_, z⟩
  obtain ⟨Q9, h0, h⟩ := h
  refine ⟨_, ruX1_goThrough h0, ?_⟩
  intro S11 q14_ y15_ y16_
  replace h := h S11 q14_.1 y15_ y16_
  replace K := fun i uo z => K i uo ⟨S11, q14_.2, y15_, y16_, z⟩
  obtain ⟨g17_, h⟩ := h
  refine ⟨g17_, ?_⟩
  replace K := fun i uo z => K i uo ⟨g17_, z⟩
  obtain ⟨g18_, h⟩ := h
  refine ⟨g18_, ?_⟩
  replace K := fun i uo z => K i uo ⟨g18_, z⟩
  intro a18 ea18 
  replace h := h a18 ea18 
  replace K := fun i uo z => K i uo ⟨a18, ea18, z⟩
  obtain ⟨g19_, h⟩ := h
  refine ⟨g19_, ?_⟩
  replace K := fun i uo z => K i uo ⟨g19_, z⟩
  intro a22 ea22 
  replace h := h a22 ea22 
  replace K := fun i uo z => K i uo ⟨a22, ea22, z⟩
  refine ⟨fun c => ?_, fun c => ?_⟩
  · replace h := h.1 c
    replace K := fun i uo z => K i uo (Or.inl ⟨c, z⟩)
    exact ru_X1_flowFrom_J103 i0 K h
  · replace h := h.2 c
    replace K := fun i uo z => K i uo (Or.inr ⟨c, z⟩)
    obtain ⟨Q9, h0, h⟩ := h
    refine ⟨_, ruX1_comeTo h0, ?_⟩
    intro S43 q20_ y21_ y22_
    replace h := h S43 q20_.1 y21_ y22_
    replace K := fun i uo z => K i uo ⟨S43, q20_.2, y21_, y22_, z⟩
    exact ru_X1_flowFrom_J103 i0 K h
set_option maxRecDepth 100000 in
theorem ru_X1_flowFrom_J66 {ι : Type} {P Q : MS → Prop} {k30 k30' : MS → Int32 → Int32 → Prop} {k30v : ι → MS → MS → Int32 → Int32 → Prop} {U66 : MS} {v66_1 : Int32} {v66_2 : Int32} (i0 : ι) (hk30 : ∀ (u : MS) (z0 : Int32) (z1 : Int32), k30 u z0 z1 → (∀ (i : ι) (uo : MS), k30v i uo u z0 z1 → P uo) → k30' u z0 z1) (K : ∀ (i : ι) (uo : MS), v_X1_flowFrom_J66 uo (k30v i uo) U66 v66_1 v66_2 → P uo) (h : w_X1_flowFrom_J66 Q k30 U66 v66_1 v66_2) : w_X1_flowFrom_J66 (fun u => Q u ∧ P u) k30' U66 v66_1 v66_2 := by
  unfold w_X1_flowFrom_J66 at h ⊢
  intro y23_
  replace h := h y23_
  replace K := fun i uo z => K i uo ⟨y23_, z⟩
  intro a62 ea62 
  replace h := h a62 ea62 
  replace K := fun i uo z => K i uo ⟨a62, ea62, z⟩
  exact hk30 _ _ _ h K
set_option maxRecDepth 100000 in
theorem ru_X1_flowFrom_L30 {ι : Type} {P Q : MS → Prop} : ∀ (n : Nat) {U30 : MS} {v30_1 : Int32} {v30_2 : Int32} (i0 : ι), (∀ (i : ι) (uo : MS), (∃ n8, v_X1_flowFrom_L30 uo n8 U30 v30_1 v30_2) → P uo) → w_X1_flowFrom_L30 Q n U30 v30_1 v30_2 → w_X1_flowFrom_L30 (fun u => Q u ∧ P u) n U30 v30_1 v30_2 := by
  intro n
  induction n with
  | zero => intro U30 v30_1 v30_2 i0 K h; unfold w_X1_flowFrom_L30 at h; exact h.elim
  | succ n ih =>
    intro U30 v30_1 v30_2 i0 K h
    unfold w_X1_flowFrom_L30 at h ⊢
    replace K := fun (i : ι × Nat) uo (z : v_X1_flowFrom_L30 uo (i.2 + 1) U30 v30_1 v30_2) => K i.1 uo ⟨i.2 + 1, z⟩
    have i00 := i0
    replace i0 : ι × Nat := (i0, 0)
    intro y24_
    replace h := h y24_
    replace K := fun i uo z => K i uo ⟨y24_, z⟩
    obtain ⟨g25_, h⟩ := h
    refine ⟨g25_, ?_⟩
    replace K := fun i uo z => K i uo ⟨g25_, z⟩
    refine ⟨fun c => ?_, fun c => ?_⟩
    · replace h := h.1 c
      replace K := fun i uo z => K i uo (Or.inl ⟨c, z⟩)
      exact ru_X1_flowFrom_J72 i0 K h
    · replace h := h.2 c
      replace K := fun i uo z => K i uo (Or.inr ⟨c, z⟩)
      obtain ⟨g26_, h⟩ := h
      refine ⟨g26_, ?_⟩
      replace K := fun i uo z => K i uo ⟨g26_, z⟩
      obtain ⟨g27_, h⟩ := h
      refine ⟨g27_, ?_⟩
      replace K := fun i uo z => K i uo ⟨g27_, z⟩
      intro a61 ea61 
      replace h := h a61 ea61 
      replace K := fun i uo z => K i uo ⟨a61, ea61, z⟩
      refine ⟨fun c => ?_, fun c => ?_⟩
      · replace h := h.1 c
        replace K := fun i uo z => K i uo (Or.inl ⟨c, z⟩)
        exact ru_X1_flowFrom_J66 i0 (fun _ _ _ h K => ih i00 (fun i uo ⟨n8, z⟩ => K (i, n8) uo z) h) K h
      · replace h := h.2 c
        replace K := fun i uo z => K i uo (Or.inr ⟨c, z⟩)
        obtain ⟨g28_, h⟩ := h
        refine ⟨g28_, ?_⟩
        replace K := fun i uo z => K i uo ⟨g28_, z⟩
        obtain ⟨g29_, h⟩ := h
        refine ⟨g29_, ?_⟩
        replace K := fun i uo z => K i uo ⟨g29_, z⟩
        obtain ⟨g30_, h⟩ := h
        refine ⟨g30_, ?_⟩
        replace K := fun i uo z => K i uo ⟨g30_, z⟩
        obtain ⟨Q9, h0, h⟩ := h
        refine ⟨_, ruX1_comeTo h0, ?_⟩
        intro S71 q31_ y32_ y33_
        replace h := h S71 q31_.1 y32_ y33_
        replace K := fun i uo z => K i uo ⟨S71, q31_.2, y32_, y33_, z⟩
        exact ru_X1_flowFrom_J66 i0 (fun _ _ _ h K => ih i00 (fun i uo ⟨n8, z⟩ => K (i, n8) uo z) h) K h
set_option maxRecDepth 100000 in
theorem ruX1_flowFrom {S : MS} {x1 : Int32} {Q : MS → Prop} (h : wX1_flowFrom S x1 Q) : wX1_flowFrom S x1 (fun u => Q u ∧ vX1_flowFrom S x1 u) := by
  have i0 : Unit := ()
  have K : ∀ (i : Unit) (uo : MS), vX1_flowFrom S x1 uo → vX1_flowFrom S x1 uo := fun _ _ z => z
  unfold wX1_flowFrom at h ⊢
  obtain ⟨g34_, h⟩ := h
  refine ⟨g34_, ?_⟩
  replace K := fun i uo z => K i uo ⟨g34_, z⟩
  intro y35_
  replace h := h y35_
  replace K := fun i uo z => K i uo ⟨y35_, z⟩
  obtain ⟨Q9, h0, h⟩ := h
  refine ⟨_, ruX8_isCaught h0, ?_⟩
  intro r4 S5 q36_ y37_ y38_
  replace h := h r4 S5 q36_.1 y37_ y38_
  replace K := fun i uo z => K i uo ⟨r4, S5, q36_.2, y37_, y38_, z⟩
  refine ⟨fun c => ?_, fun c => ?_⟩
  · replace h := h.1 c
    replace K := fun i uo z => K i uo (Or.inl ⟨c, z⟩)
    exact ru_X1_flowFrom_J72 i0 K h
  · replace h := h.2 c
    replace K := fun i uo z => K i uo (Or.inr ⟨c, z⟩)
    obtain ⟨Q9, h0, h⟩ := h
    refine ⟨_, ruX1_takeUp h0, ?_⟩
    intro S47 q39_ y40_ y41_
    replace h := h S47 q39_.1 y40_ y41_
    replace K := fun i uo z => K i uo ⟨S47, q39_.2, y40_, y41_, z⟩
    intro S49 eS49 y42_ y43_
    replace h := h S49 eS49 y42_ y43_
    replace K := fun i uo z => K i uo ⟨S49, eS49, y42_, y43_, z⟩
    obtain ⟨Q9, h0, h⟩ := h
    refine ⟨_, ruX1_setPlace h0, ?_⟩
    intro S51 q44_ y45_ y46_
    replace h := h S51 q44_.1 y45_ y46_
    replace K := fun i uo z => K i uo ⟨S51, q44_.2, y45_, y46_, z⟩
    obtain ⟨n9, h⟩ := h
    exact ⟨n9, ru_X1_flowFrom_L30 n9 i0 K h⟩
set_option maxRecDepth 100000 in
theorem vw_X1_flowFrom_L114 {uo : MS} : ∀ (n : Nat) {U114 : MS} {v114_1 : Int32} {v114_2 : Int32} {v114_3 : Int32}, v_X1_flowFrom_L114 uo n U114 v114_1 v114_2 v114_3 → w_X1_flowFrom_L114 (fun u => u = uo) n U114 v114_1 v114_2 v114_3 := by
  intro n
  induction n with
  | zero => intro U114 v114_1 v114_2 v114_3 h; unfold v_X1_flowFrom_L114 at h; exact h.elim
  | succ n ih =>
    intro U114 v114_1 v114_2 v114_3 h
    unfold v_X1_flowFrom_L114 at h
    unfold w_X1_flowFrom_L114
    intro _
    replace h := h.2
    rcases h with ⟨c, h⟩ | ⟨c, h⟩
    · refine ⟨fun _ => ?_, fun c2 => absurd c c2⟩
      exact h.symm
    · refine ⟨fun c2 => absurd c2 c, fun _ => ?_⟩
      obtain ⟨g9, h⟩ := h
      refine ⟨g9, ?_⟩
      obtain ⟨g9, h⟩ := h
      refine ⟨g9, ?_⟩
      obtain ⟨v9, e9, h⟩ := h
      intro x9 d9 
      have c9 : v9 = x9 := e9.trans d9.symm
      subst c9
      obtain ⟨q9, z9, h⟩ := h
      refine ⟨_, vwX1_comeTo z9, ?_⟩
      intro q8 d9 _ _
      subst d9
      replace h := h.2.2
      obtain ⟨v9, e9, h⟩ := h
      intro x9 d9 
      have c9 : v9 = x9 := e9.trans d9.symm
      subst c9
      exact ih h
set_option maxRecDepth 100000 in
theorem vp_X1_flowFrom_L114 {uo : MS} {P : MS → Prop} : ∀ (n m : Nat) {U114 : MS} {v114_1 : Int32} {v114_2 : Int32} {v114_3 : Int32}, v_X1_flowFrom_L114 uo n U114 v114_1 v114_2 v114_3 → w_X1_flowFrom_L114 P m U114 v114_1 v114_2 v114_3 → P uo := by
  intro n
  induction n with
  | zero => intro m U114 v114_1 v114_2 v114_3 h; unfold v_X1_flowFrom_L114 at h; exact h.elim
  | succ n ih =>
    intro m U114 v114_1 v114_2 v114_3 h w
    cases m with
    | zero => unfold w_X1_flowFrom_L114 at w; exact w.elim
    | succ m =>
      unfold v_X1_flowFrom_L114 at h
      unfold w_X1_flowFrom_L114 at w
      obtain ⟨y1_, h⟩ := h
      replace w := w y1_
      rcases h with ⟨c, h⟩ | ⟨c, h⟩
      · replace w := w.1 c
        rw [h]
        exact w
      · replace w := w.2 c
        replace h := h.2
        replace w := w.2
        replace h := h.2
        replace w := w.2
        obtain ⟨v9, e9, h⟩ := h
        replace w := w v9 e9 
        obtain ⟨q9, z9, y2_, y3_, h⟩ := h
        obtain ⟨Q9, w0, w⟩ := w
        replace w := w q9 (vpX1_comeTo z9 w0) y2_ y3_
        obtain ⟨v9, e9, h⟩ := h
        replace w := w v9 e9 
        exact ih m h w
set_option maxRecDepth 100000 in
theorem vw_X1_flowFrom_J103 {uo : MS} {U103 : MS} {v103_1 : Int32} (h : v_X1_flowFrom_J103 uo U103 v103_1) : w_X1_flowFrom_J103 (fun u => u = uo) U103 v103_1 := by
  unfold v_X1_flowFrom_J103 at h
  unfold w_X1_flowFrom_J103
  intro _
  replace h := h.2
  obtain ⟨g9, h⟩ := h
  refine ⟨g9, ?_⟩
  obtain ⟨g9, h⟩ := h
  refine ⟨g9, ?_⟩
  obtain ⟨v9, e9, h⟩ := h
  intro x9 d9 
  have c9 : v9 = x9 := e9.trans d9.symm
  subst c9
  obtain ⟨n9, h⟩ := h
  exact ⟨n9, vw_X1_flowFrom_L114 n9 h⟩
set_option maxRecDepth 100000 in
theorem vp_X1_flowFrom_J103 {uo : MS} {P : MS → Prop} {U103 : MS} {v103_1 : Int32} (h : v_X1_flowFrom_J103 uo U103 v103_1) (w : w_X1_flowFrom_J103 P U103 v103_1) : P uo := by
  unfold v_X1_flowFrom_J103 at h
  unfold w_X1_flowFrom_J103 at w
  obtain ⟨y4_, h⟩ := h
  replace w := w y4_
  replace h := h.2
  replace w := w.2
  replace h := h.2
  replace w := w.2
  obtain ⟨v9, e9, h⟩ := h
  replace w := w v9 e9 
  obtain ⟨n9, h⟩ := h
  obtain ⟨n8, w⟩ := w
  exact vp_X1_flowFrom_L114 n9 n8 h w
set_option maxRecDepth 100000 in
theorem vw_X1_flowFrom_J72 {uo : MS} {U72 : MS} {v72_1 : Int32} (h : v_X1_flowFrom_J72 uo U72 v72_1) : w_X1_flowFrom_J72 (fun u => u = uo) U72 v72_1 := by
  unfold v_X1_flowFrom_J72 at h
  unfold w_X1_flowFrom_J72
  intro _
  replace h := h.2
  obtain ⟨q9, z9, h⟩ := h
  refine ⟨_, vwX1_takeUp z9, ?_⟩
  intro q8 d9 _ _
  subst d9
  replace h := h.2.2
  obtain ⟨q9, z9, h⟩ := h
  refine ⟨_, vwX1_goThrough z9, ?_⟩
  intro q8 d9 _ _
  subst d9
  replace h := h.2.2
  obtain ⟨g9, h⟩ := h
  refine ⟨g9, ?_⟩
  obtain ⟨g9, h⟩ := h
  refine ⟨g9, ?_⟩
  obtain ⟨v9, e9, h⟩ := h
  intro x9 d9 
  have c9 : v9 = x9 := e9.trans d9.symm
  subst c9
  obtain ⟨g9, h⟩ := h
  refine ⟨g9, ?_⟩
  obtain ⟨v9, e9, h⟩ := h
  intro x9 d9 
  have c9 : v9 = x9 := e9.trans d9.symm
  subst c9
  rcases h with ⟨c, h⟩ | ⟨c, h⟩
  · refine ⟨fun _ => ?_, fun c2 => absurd c c2⟩
    exact vw_X1_flowFrom_J103 h
  · refine ⟨fun c2 => absurd c2 c, fun _ => ?_⟩
    obtain ⟨q9, z9, h⟩ := h
    refine ⟨_, vwX1_comeTo z9, ?_⟩
    intro q8 d9 _ _
    subst d9
    replace h := h.2.2
    exact vw_X1_flowFrom_J103 h
set_option maxRecDepth 100000 in
theorem vp_X1_flowFrom_J72 {uo : MS} {P : MS → Prop} {U72 : MS} {v72_1 : Int32} (h : v_X1_flowFrom_J72 uo U72 v72_1) (w : w_X1_flowFrom_J72 P U72 v72_1) : P uo := by
  unfold v_X1_flowFrom_J72 at h
  unfold w_X1_flowFrom_J72 at w
  obtain ⟨y5_, h⟩ := h
  replace w := w y5_
  obtain ⟨q9, z9, y6_, y7_, h⟩ := h
  obtain ⟨Q9, w0, w⟩ := w
  replace w := w q9 (vpX1_takeUp z9 w0) y6_ y7_
  obtain ⟨q9, z9, y8_, y9_, h⟩ := h
  obtain ⟨Q9, w0, w⟩ := w
  replace w := w q9 (vpX1_goThrough z9 w0) y8_ y9_
  replace h := h.2
  replace w := w.2
  replace h := h.2
  replace w := w.2
  obtain ⟨v9, e9, h⟩ := h
  replace w := w v9 e9 
  replace h := h.2
  replace w := w.2
  obtain ⟨v9, e9, h⟩ := h
  replace w := w v9 e9 
  rcases h with ⟨c, h⟩ | ⟨c, h⟩
  · replace w := w.1 c
    exact vp_X1_flowFrom_J103 h w
  · replace w := w.2 c
    obtain ⟨q9, z9, y10_, y11_, h⟩ := h
    obtain ⟨Q9, w0, w⟩ := w
    replace w := w q9 (vpX1_comeTo z9 w0) y10_ y11_
    exact vp_X1_flowFrom_J103 h w
set_option maxRecDepth 100000 in
theorem vw_X1_flowFrom_J66 {uo : MS} {k30 k30v : MS → Int32 → Int32 → Prop} {U66 : MS} {v66_1 : Int32} {v66_2 : Int32} (hk30 : ∀ (u : MS) (z0 : Int32) (z1 : Int32), k30v u z0 z1 → k30 u z0 z1) (h : v_X1_flowFrom_J66 uo k30v U66 v66_1 v66_2) : w_X1_flowFrom_J66 (fun u => u = uo) k30 U66 v66_1 v66_2 := by
  unfold v_X1_flowFrom_J66 at h
  unfold w_X1_flowFrom_J66
  intro _
  replace h := h.2
  obtain ⟨v9, e9, h⟩ := h
  intro x9 d9 
  have c9 : v9 = x9 := e9.trans d9.symm
  subst c9
  exact hk30 _ _ _ h
set_option maxRecDepth 100000 in
theorem vp_X1_flowFrom_J66 {uo : MS} {P : MS → Prop} {k30 k30v : MS → Int32 → Int32 → Prop} {U66 : MS} {v66_1 : Int32} {v66_2 : Int32} (hk30 : ∀ (u : MS) (z0 : Int32) (z1 : Int32), k30v u z0 z1 → k30 u z0 z1 → P uo) (h : v_X1_flowFrom_J66 uo k30v U66 v66_1 v66_2) (w : w_X1_flowFrom_J66 P k30 U66 v66_1 v66_2) : P uo := by
  unfold v_X1_flowFrom_J66 at h
  unfold w_X1_flowFrom_J66 at w
  obtain ⟨y12_, h⟩ := h
  replace w := w y12_
  obtain ⟨v9, e9, h⟩ := h
  replace w := w v9 e9 
  exact hk30 _ _ _ h w
set_option maxRecDepth 100000 in
theorem vw_X1_flowFrom_L30 {uo : MS} : ∀ (n : Nat) {U30 : MS} {v30_1 : Int32} {v30_2 : Int32}, v_X1_flowFrom_L30 uo n U30 v30_1 v30_2 → w_X1_flowFrom_L30 (fun u => u = uo) n U30 v30_1 v30_2 := by
  intro n
  induction n with
  | zero => intro U30 v30_1 v30_2 h; unfold v_X1_flowFrom_L30 at h; exact h.elim
  | succ n ih =>
    intro U30 v30_1 v30_2 h
    unfold v_X1_flowFrom_L30 at h
    unfold w_X1_flowFrom_L30
    intro _
    replace h := h.2
    obtain ⟨g9, h⟩ := h
    refine ⟨g9, ?_⟩
    rcases h with ⟨c, h⟩ | ⟨c, h⟩
    · refine ⟨fun _ => ?_, fun c2 => absurd c c2⟩
      exact vw_X1_flowFrom_J72 h
    · refine ⟨fun c2 => absurd c2 c, fun _ => ?_⟩
      obtain ⟨g9, h⟩ := h
      refine ⟨g9, ?_⟩
      obtain ⟨g9, h⟩ := h
      refine ⟨g9, ?_⟩
      obtain ⟨v9, e9, h⟩ := h
      intro x9 d9 
      have c9 : v9 = x9 := e9.trans d9.symm
      subst c9
      rcases h with ⟨c, h⟩ | ⟨c, h⟩
      · refine ⟨fun _ => ?_, fun c2 => absurd c c2⟩
        exact vw_X1_flowFrom_J66 (fun _ _ _ h => ih h) h
      · refine ⟨fun c2 => absurd c2 c, fun _ => ?_⟩
        obtain ⟨g9, h⟩ := h
        refine ⟨g9, ?_⟩
        obtain ⟨g9, h⟩ := h
        refine ⟨g9, ?_⟩
        obtain ⟨g9, h⟩ := h
        refine ⟨g9, ?_⟩
        obtain ⟨q9, z9, h⟩ := h
        refine ⟨_, vwX1_comeTo z9, ?_⟩
        intro q8 d9 _ _
        subst d9
        replace h := h.2.2
        exact vw_X1_flowFrom_J66 (fun _ _ _ h => ih h) h
set_option maxRecDepth 100000 in
theorem vp_X1_flowFrom_L30 {uo : MS} {P : MS → Prop} : ∀ (n m : Nat) {U30 : MS} {v30_1 : Int32} {v30_2 : Int32}, v_X1_flowFrom_L30 uo n U30 v30_1 v30_2 → w_X1_flowFrom_L30 P m U30 v30_1 v30_2 → P uo := by
  intro n
  induction n with
  | zero => intro m U30 v30_1 v30_2 h; unfold v_X1_flowFrom_L30 at h; exact h.elim
  | succ n ih =>
    intro m U30 v30_1 v30_2 h w
    cases m with
    | zero => unfold w_X1_flowFrom_L30 at w; exact w.elim
    | succ m =>
      unfold v_X1_flowFrom_L30 at h
      unfold w_X1_flowFrom_L30 at w
      obtain ⟨y13_, h⟩ := h
      replace w := w y13_
      replace h := h.2
      replace w := w.2
      rcases h with ⟨c, h⟩ | ⟨c, h⟩
      · replace w := w.1 c
        exact vp_X1_flowFrom_J72 h w
      · replace w := w.2 c
        replace h := h.2
        replace w := w.2
        replace h := h.2
        replace w := w.2
        obtain ⟨v9, e9, h⟩ := h
        replace w := w v9 e9 
        rcases h with ⟨c, h⟩ | ⟨c, h⟩
        · replace w := w.1 c
          exact vp_X1_flowFrom_J66 (fun _ _ _ h w => ih m h w) h w
        · replace w := w.2 c
          replace h := h.2
          replace w := w.2
          replace h := h.2
          replace w := w.2
          replace h := h.2
          replace w := w.2
          obtain ⟨q9, z9, y14_, y15_, h⟩ := h
          obtain ⟨Q9, w0, w⟩ := w
          replace w := w q9 (vpX1_comeTo z9 w0) y14_ y15_
          exact vp_X1_flowFrom_J66 (fun _ _ _ h w => ih m h w) h w
set_option maxRecDepth 100000 in
theorem vwX1_flowFrom {S : MS} {x1 : Int32} {uo : MS} (h : vX1_flowFrom S x1 uo) : wX1_flowFrom S x1 (fun u => u = uo) := by
  unfold vX1_flowFrom at h
  unfold wX1_flowFrom
  obtain ⟨g9, h⟩ := h
  refine ⟨g9, ?_⟩
  intro _
  replace h := h.2
  obtain ⟨p9, q9, z9, h⟩ := h
  refine ⟨_, vwX8_isCaught z9, ?_⟩
  rintro p8 q8 ⟨d8, d9⟩ _ _
  subst d8
  subst d9
  replace h := h.2.2
  rcases h with ⟨c, h⟩ | ⟨c, h⟩
  · refine ⟨fun _ => ?_, fun c2 => absurd c c2⟩
    exact vw_X1_flowFrom_J72 h
  · refine ⟨fun c2 => absurd c2 c, fun _ => ?_⟩
    obtain ⟨q9, z9, h⟩ := h
    refine ⟨_, vwX1_takeUp z9, ?_⟩
    intro q8 d9 _ _
    subst d9
    replace h := h.2.2
    obtain ⟨v9, e9, h⟩ := h
    intro x9 d9 _ _
    have c9 : v9 = x9 := e9.trans d9.symm
    subst c9
    replace h := h.2.2
    obtain ⟨q9, z9, h⟩ := h
    refine ⟨_, vwX1_setPlace z9, ?_⟩
    intro q8 d9 _ _
    subst d9
    replace h := h.2.2
    obtain ⟨n9, h⟩ := h
    exact ⟨n9, vw_X1_flowFrom_L30 n9 h⟩
set_option maxRecDepth 100000 in
theorem vpX1_flowFrom {S : MS} {x1 : Int32} {uo : MS} {P : MS → Prop} (h : vX1_flowFrom S x1 uo) (w : wX1_flowFrom S x1 P) : P uo := by
  unfold vX1_flowFrom at h
  unfold wX1_flowFrom at w
  replace h := h.2
  replace w := w.2
  obtain ⟨y16_, h⟩ := h
  replace w := w y16_
  obtain ⟨p9, q9, z9, y17_, y18_, h⟩ := h
  obtain ⟨Q9, w0, w⟩ := w
  replace w := w p9 q9 (vpX8_isCaught z9 w0) y17_ y18_
  rcases h with ⟨c, h⟩ | ⟨c, h⟩
  · replace w := w.1 c
    exact vp_X1_flowFrom_J72 h w
  · replace w := w.2 c
    obtain ⟨q9, z9, y19_, y20_, h⟩ := h
    obtain ⟨Q9, w0, w⟩ := w
    replace w := w q9 (vpX1_takeUp z9 w0) y19_ y20_
    obtain ⟨v9, e9, y21_, y22_, h⟩ := h
    replace w := w v9 e9 y21_ y22_
    obtain ⟨q9, z9, y23_, y24_, h⟩ := h
    obtain ⟨Q9, w0, w⟩ := w
    replace w := w q9 (vpX1_setPlace z9 w0) y23_ y24_
    obtain ⟨n9, h⟩ := h
    obtain ⟨n8, w⟩ := w
    exact vp_X1_flowFrom_L30 n9 n8 h w
def vX1_hasBadTypes (S : MS) (x1 : Int32) (ro : Int32) (uo : MS) : Prop := (((0 : Int) ≤ x1.toInt ∧ x1.toInt < (qN S (qO S 16 2) : Int)) ∧ (((qI S (qO S 16 2) x1.toInt.toNat).toInt = 0 ∧ (ro = (0 : Int32) ∧ uo = S)) ∨ (¬ (qI S (qO S 16 2) x1.toInt.toNat).toInt = 0 ∧ (∃ (S7 : MS), vX1_takeUp S x1 S7 ∧ wfC S7 ∧ shy S S7 ∧ (∃ S9 : MS, S9 = wI S7 16 6 (0 : Int32) ∧ qT S7 16 = 41 ∧ wfC S9 ∧ (∃ (S11 : MS), vX1_goThrough S9 x1 S11 ∧ wfC S11 ∧ shy S9 S11 ∧ (ro = (qI S11 16 6) ∧ uo = S11)))))))
set_option maxRecDepth 100000 in
theorem ruX1_hasBadTypes {S : MS} {x1 : Int32} {Q : Int32 → MS → Prop} (h : wX1_hasBadTypes S x1 Q) : wX1_hasBadTypes S x1 (fun r u => Q r u ∧ vX1_hasBadTypes S x1 r u) := by
  have i0 : Unit := ()
  have K : ∀ (i : Unit) (ro : Int32) (uo : MS), vX1_hasBadTypes S x1 ro uo → vX1_hasBadTypes S x1 ro uo := fun _ _ _ z => z
  unfold wX1_hasBadTypes at h ⊢
  obtain ⟨g1_, h⟩ := h
  refine ⟨g1_, ?_⟩
  replace K := fun i ro uo z => K i ro uo ⟨g1_, z⟩
  refine ⟨fun c => ?_, fun c => ?_⟩
  · replace h := h.1 c
    replace K := fun i ro uo z => K i ro uo (Or.inl ⟨c, z⟩)
    exact ⟨h, K i0 _ _ ⟨rfl, rfl⟩⟩
  · replace h := h.2 c
    replace K := fun i ro uo z => K i ro uo (Or.inr ⟨c, z⟩)
    obtain ⟨Q9, h0, h⟩ := h
    refine ⟨_, ruX1_takeUp h0, ?_⟩
    intro S7 q2_ y3_ y4_
    replace h := h S7 q2_.1 y3_ y4_
    replace K := fun i ro uo z => K i ro uo ⟨S7, q2_.2, y3_, y4_, z⟩
    intro S9 eS9 y5_ y6_
    replace h := h S9 eS9 y5_ y6_
    replace K := fun i ro uo z => K i ro uo ⟨S9, eS9, y5_, y6_, z⟩
    obtain ⟨Q9, h0, h⟩ := h
    refine ⟨_, ruX1_goThrough h0, ?_⟩
    intro S11 q7_ y8_ y9_
    replace h := h S11 q7_.1 y8_ y9_
    replace K := fun i ro uo z => K i ro uo ⟨S11, q7_.2, y8_, y9_, z⟩
    exact ⟨h, K i0 _ _ ⟨rfl, rfl⟩⟩
set_option maxRecDepth 100000 in
theorem vwX1_hasBadTypes {S : MS} {x1 : Int32} {ro : Int32} {uo : MS} (h : vX1_hasBadTypes S x1 ro uo) : wX1_hasBadTypes S x1 (fun r u => r = ro ∧ u = uo) := by
  unfold vX1_hasBadTypes at h
  unfold wX1_hasBadTypes
  obtain ⟨g9, h⟩ := h
  refine ⟨g9, ?_⟩
  rcases h with ⟨c, h⟩ | ⟨c, h⟩
  · refine ⟨fun _ => ?_, fun c2 => absurd c c2⟩
    exact ⟨h.1.symm, h.2.symm⟩
  · refine ⟨fun c2 => absurd c2 c, fun _ => ?_⟩
    obtain ⟨q9, z9, h⟩ := h
    refine ⟨_, vwX1_takeUp z9, ?_⟩
    intro q8 d9 _ _
    subst d9
    replace h := h.2.2
    obtain ⟨v9, e9, h⟩ := h
    intro x9 d9 _ _
    have c9 : v9 = x9 := e9.trans d9.symm
    subst c9
    replace h := h.2.2
    obtain ⟨q9, z9, h⟩ := h
    refine ⟨_, vwX1_goThrough z9, ?_⟩
    intro q8 d9 _ _
    subst d9
    replace h := h.2.2
    exact ⟨h.1.symm, h.2.symm⟩
set_option maxRecDepth 100000 in
theorem vpX1_hasBadTypes {S : MS} {x1 : Int32} {ro : Int32} {uo : MS} {P : Int32 → MS → Prop} (h : vX1_hasBadTypes S x1 ro uo) (w : wX1_hasBadTypes S x1 P) : P ro uo := by
  unfold vX1_hasBadTypes at h
  unfold wX1_hasBadTypes at w
  replace h := h.2
  replace w := w.2
  rcases h with ⟨c, h⟩ | ⟨c, h⟩
  · replace w := w.1 c
    rw [h.1, h.2]
    exact w
  · replace w := w.2 c
    obtain ⟨q9, z9, y1_, y2_, h⟩ := h
    obtain ⟨Q9, w0, w⟩ := w
    replace w := w q9 (vpX1_takeUp z9 w0) y1_ y2_
    obtain ⟨v9, e9, y3_, y4_, h⟩ := h
    replace w := w v9 e9 y3_ y4_
    obtain ⟨q9, z9, y5_, y6_, h⟩ := h
    obtain ⟨Q9, w0, w⟩ := w
    replace w := w q9 (vpX1_goThrough z9 w0) y5_ y6_
    rw [h.1, h.2]
    exact w
def v_X2_limitsHold_L2 (ro : Int32) (uo : MS) : Nat → MS → Int32 → Prop
  | 0, _, _ => False
  | n2 + 1, U2, v2_1 => (wfC U2 ∧ (((qI U2 9 8).toInt ≤ v2_1.toInt ∧ (ro = (1 : Int32) ∧ uo = U2)) ∨ (¬ (qI U2 9 8).toInt ≤ v2_1.toInt ∧ ((24 ≤ v2_1.toInt ∧ (ro = (1 : Int32) ∧ uo = U2)) ∨ (¬ 24 ≤ v2_1.toInt ∧ (d_X7_typeOf U2 ((qI U2 9 7) + v2_1) ∧ (∃ a7 : Int32, a7 = (fX7_typeOf U2 ((qI U2 9 7) + v2_1)) ∧ (∃ (r9 : Int32) (S10 : MS), vX7_isMethodType U2 a7 r9 S10 ∧ wfC S10 ∧ shy U2 S10 ∧ (((0 : Int) ≤ v2_1.toInt ∧ v2_1.toInt < 24) ∧ (((0 : Int) ≤ v2_1.toInt ∧ v2_1.toInt < 24) ∧ (∃ (r17 : Int32) (S18 : MS), vX2_headHolds S10 (qI S10 13 v2_1.toInt.toNat) (qI S10 14 v2_1.toInt.toNat) (qI S10 9 13) r17 S18 ∧ wfC S18 ∧ shy S10 S18 ∧ ((r17.toInt = 0 ∧ (ro = (0 : Int32) ∧ uo = S18)) ∨ (¬ r17.toInt = 0 ∧ (∃ a21 : Int32, a21 = (v2_1 + Int32.ofInt 1) ∧ ((v_X2_limitsHold_L2 ro uo n2) S18 a21)))))))))))))))
def vX2_limitsHold (S : MS) (ro : Int32) (uo : MS) : Prop := (∃ n, v_X2_limitsHold_L2 ro uo n S 0)
set_option maxRecDepth 100000 in
theorem ru_X2_limitsHold_L2 {ι : Type} {P Q : Int32 → MS → Prop} : ∀ (n : Nat) {U2 : MS} {v2_1 : Int32} (i0 : ι), (∀ (i : ι) (ro : Int32) (uo : MS), (∃ n8, v_X2_limitsHold_L2 ro uo n8 U2 v2_1) → P ro uo) → w_X2_limitsHold_L2 Q n U2 v2_1 → w_X2_limitsHold_L2 (fun r u => Q r u ∧ P r u) n U2 v2_1 := by
  intro n
  induction n with
  | zero => intro U2 v2_1 i0 K h; unfold w_X2_limitsHold_L2 at h; exact h.elim
  | succ n ih =>
    intro U2 v2_1 i0 K h
    unfold w_X2_limitsHold_L2 at h ⊢
    replace K := fun (i : ι × Nat) ro uo (z : v_X2_limitsHold_L2 ro uo (i.2 + 1) U2 v2_1) => K i.1 ro uo ⟨i.2 + 1, z⟩
    have i00 := i0
    replace i0 : ι × Nat := (i0, 0)
    intro y1_
    replace h := h y1_
    replace K := fun i ro uo z => K i ro uo ⟨y1_, z⟩
    refine ⟨fun c => ?_, fun c => ?_⟩
    · replace h := h.1 c
      replace K := fun i ro uo z => K i ro uo (Or.inl ⟨c, z⟩)
      exact ⟨h, K i0 _ _ ⟨rfl, rfl⟩⟩
    · replace h := h.2 c
      replace K := fun i ro uo z => K i ro uo (Or.inr ⟨c, z⟩)
      refine ⟨fun c => ?_, fun c => ?_⟩
      · replace h := h.1 c
        replace K := fun i ro uo z => K i ro uo (Or.inl ⟨c, z⟩)
        exact ⟨h, K i0 _ _ ⟨rfl, rfl⟩⟩
      · replace h := h.2 c
        replace K := fun i ro uo z => K i ro uo (Or.inr ⟨c, z⟩)
        obtain ⟨g2_, h⟩ := h
        refine ⟨g2_, ?_⟩
        replace K := fun i ro uo z => K i ro uo ⟨g2_, z⟩
        intro a7 ea7 
        replace h := h a7 ea7 
        replace K := fun i ro uo z => K i ro uo ⟨a7, ea7, z⟩
        obtain ⟨Q9, h0, h⟩ := h
        refine ⟨_, ruX7_isMethodType h0, ?_⟩
        intro r9 S10 q3_ y4_ y5_
        replace h := h r9 S10 q3_.1 y4_ y5_
        replace K := fun i ro uo z => K i ro uo ⟨r9, S10, q3_.2, y4_, y5_, z⟩
        obtain ⟨g6_, h⟩ := h
        refine ⟨g6_, ?_⟩
        replace K := fun i ro uo z => K i ro uo ⟨g6_, z⟩
        obtain ⟨g7_, h⟩ := h
        refine ⟨g7_, ?_⟩
        replace K := fun i ro uo z => K i ro uo ⟨g7_, z⟩
        obtain ⟨Q9, h0, h⟩ := h
        refine ⟨_, ruX2_headHolds h0, ?_⟩
        intro r17 S18 q8_ y9_ y10_
        replace h := h r17 S18 q8_.1 y9_ y10_
        replace K := fun i ro uo z => K i ro uo ⟨r17, S18, q8_.2, y9_, y10_, z⟩
        refine ⟨fun c => ?_, fun c => ?_⟩
        · replace h := h.1 c
          replace K := fun i ro uo z => K i ro uo (Or.inl ⟨c, z⟩)
          exact ⟨h, K i0 _ _ ⟨rfl, rfl⟩⟩
        · replace h := h.2 c
          replace K := fun i ro uo z => K i ro uo (Or.inr ⟨c, z⟩)
          intro a21 ea21 
          replace h := h a21 ea21 
          replace K := fun i ro uo z => K i ro uo ⟨a21, ea21, z⟩
          exact ih i00 (fun i ro uo ⟨n8, z⟩ => K (i, n8) ro uo z) h
set_option maxRecDepth 100000 in
theorem ruX2_limitsHold {S : MS} {Q : Int32 → MS → Prop} (h : wX2_limitsHold S Q) : wX2_limitsHold S (fun r u => Q r u ∧ vX2_limitsHold S r u) := by
  have i0 : Unit := ()
  have K : ∀ (i : Unit) (ro : Int32) (uo : MS), vX2_limitsHold S ro uo → vX2_limitsHold S ro uo := fun _ _ _ z => z
  unfold wX2_limitsHold at h ⊢
  obtain ⟨n9, h⟩ := h
  exact ⟨n9, ru_X2_limitsHold_L2 n9 i0 K h⟩
set_option maxRecDepth 100000 in
theorem vw_X2_limitsHold_L2 {ro : Int32} {uo : MS} : ∀ (n : Nat) {U2 : MS} {v2_1 : Int32}, v_X2_limitsHold_L2 ro uo n U2 v2_1 → w_X2_limitsHold_L2 (fun r u => r = ro ∧ u = uo) n U2 v2_1 := by
  intro n
  induction n with
  | zero => intro U2 v2_1 h; unfold v_X2_limitsHold_L2 at h; exact h.elim
  | succ n ih =>
    intro U2 v2_1 h
    unfold v_X2_limitsHold_L2 at h
    unfold w_X2_limitsHold_L2
    intro _
    replace h := h.2
    rcases h with ⟨c, h⟩ | ⟨c, h⟩
    · refine ⟨fun _ => ?_, fun c2 => absurd c c2⟩
      exact ⟨h.1.symm, h.2.symm⟩
    · refine ⟨fun c2 => absurd c2 c, fun _ => ?_⟩
      rcases h with ⟨c, h⟩ | ⟨c, h⟩
      · refine ⟨fun _ => ?_, fun c2 => absurd c c2⟩
        exact ⟨h.1.symm, h.2.symm⟩
      · refine ⟨fun c2 => absurd c2 c, fun _ => ?_⟩
        obtain ⟨g9, h⟩ := h
        refine ⟨g9, ?_⟩
        obtain ⟨v9, e9, h⟩ := h
        intro x9 d9 
        have c9 : v9 = x9 := e9.trans d9.symm
        subst c9
        obtain ⟨p9, q9, z9, h⟩ := h
        refine ⟨_, vwX7_isMethodType z9, ?_⟩
        rintro p8 q8 ⟨d8, d9⟩ _ _
        subst d8
        subst d9
        replace h := h.2.2
        obtain ⟨g9, h⟩ := h
        refine ⟨g9, ?_⟩
        obtain ⟨g9, h⟩ := h
        refine ⟨g9, ?_⟩
        obtain ⟨p9, q9, z9, h⟩ := h
        refine ⟨_, vwX2_headHolds z9, ?_⟩
        rintro p8 q8 ⟨d8, d9⟩ _ _
        subst d8
        subst d9
        replace h := h.2.2
        rcases h with ⟨c, h⟩ | ⟨c, h⟩
        · refine ⟨fun _ => ?_, fun c2 => absurd c c2⟩
          exact ⟨h.1.symm, h.2.symm⟩
        · refine ⟨fun c2 => absurd c2 c, fun _ => ?_⟩
          obtain ⟨v9, e9, h⟩ := h
          intro x9 d9 
          have c9 : v9 = x9 := e9.trans d9.symm
          subst c9
          exact ih h
set_option maxRecDepth 100000 in
theorem vp_X2_limitsHold_L2 {ro : Int32} {uo : MS} {P : Int32 → MS → Prop} : ∀ (n m : Nat) {U2 : MS} {v2_1 : Int32}, v_X2_limitsHold_L2 ro uo n U2 v2_1 → w_X2_limitsHold_L2 P m U2 v2_1 → P ro uo := by
  intro n
  induction n with
  | zero => intro m U2 v2_1 h; unfold v_X2_limitsHold_L2 at h; exact h.elim
  | succ n ih =>
    intro m U2 v2_1 h w
    cases m with
    | zero => unfold w_X2_limitsHold_L2 at w; exact w.elim
    | succ m =>
      unfold v_X2_limitsHold_L2 at h
      unfold w_X2_limitsHold_L2 at w
      obtain ⟨y1_, h⟩ := h
      replace w := w y1_
      rcases h with ⟨c, h⟩ | ⟨c, h⟩
      · replace w := w.1 c
        rw [h.1, h.2]
        exact w
      · replace w := w.2 c
        rcases h with ⟨c, h⟩ | ⟨c, h⟩
        · replace w := w.1 c
          rw [h.1, h.2]
          exact w
        · replace w := w.2 c
          replace h := h.2
          replace w := w.2
          obtain ⟨v9, e9, h⟩ := h
          replace w := w v9 e9 
          obtain ⟨p9, q9, z9, y2_, y3_, h⟩ := h
          obtain ⟨Q9, w0, w⟩ := w
          replace w := w p9 q9 (vpX7_isMethodType z9 w0) y2_ y3_
          replace h := h.2
          replace w := w.2
          replace h := h.2
          replace w := w.2
          obtain ⟨p9, q9, z9, y4_, y5_, h⟩ := h
          obtain ⟨Q9, w0, w⟩ := w
          replace w := w p9 q9 (vpX2_headHolds z9 w0) y4_ y5_
          rcases h with ⟨c, h⟩ | ⟨c, h⟩
          · replace w := w.1 c
            rw [h.1, h.2]
            exact w
          · replace w := w.2 c
            obtain ⟨v9, e9, h⟩ := h
            replace w := w v9 e9 
            exact ih m h w
set_option maxRecDepth 100000 in
theorem vwX2_limitsHold {S : MS} {ro : Int32} {uo : MS} (h : vX2_limitsHold S ro uo) : wX2_limitsHold S (fun r u => r = ro ∧ u = uo) := by
  unfold vX2_limitsHold at h
  unfold wX2_limitsHold
  obtain ⟨n9, h⟩ := h
  exact ⟨n9, vw_X2_limitsHold_L2 n9 h⟩
set_option maxRecDepth 100000 in
theorem vpX2_limitsHold {S : MS} {ro : Int32} {uo : MS} {P : Int32 → MS → Prop} (h : vX2_limitsHold S ro uo) (w : wX2_limitsHold S P) : P ro uo := by
  unfold vX2_limitsHold at h
  unfold wX2_limitsHold at w
  obtain ⟨n9, h⟩ := h
  obtain ⟨n8, w⟩ := w
  exact vp_X2_limitsHold_L2 n9 n8 h w
def v_X2_instructionsHold_L20 (ro : Int32) (uo : MS) (k2 : MS → Int32 → Prop) : Nat → MS → Int32 → Int32 → Prop
  | 0, _, _, _ => False
  | n20 + 1, U20, v20_1, v20_2 => (wfC U20 ∧ (((qI U20 8 2).toInt ≤ v20_2.toInt ∧ (∃ a6 : Int32, a6 = (v20_1 + Int32.ofInt 1) ∧ (k2 U20 a6))) ∨ (¬ (qI U20 8 2).toInt ≤ v20_2.toInt ∧ (∃ (r8 : Int32) (S9 : MS), vX2_lengthAt U20 v20_2 r8 S9 ∧ wfC S9 ∧ shy U20 S9 ∧ ((0 < r8.toInt ∧ (∃ (r13 : Int32) (S14 : MS), vX2_lengthAt S9 v20_2 r13 S14 ∧ wfC S14 ∧ shy S9 S14 ∧ (∃ a17 : Int32, a17 = (v20_2 + r13) ∧ ((v_X2_instructionsHold_L20 ro uo k2 n20) S14 v20_1 a17)))) ∨ (¬ 0 < r8.toInt ∧ (∃ (r20 : Int32) (S21 : MS), vX7_breaks S9 (15 : Int32) ((qI S9 8 1) + v20_2) r20 S21 ∧ wfC S21 ∧ shy S9 S21 ∧ (ro = r20 ∧ uo = S21))))))))
def v_X2_instructionsHold_L2 (ro : Int32) (uo : MS) : Nat → MS → Int32 → Prop
  | 0, _, _ => False
  | n2 + 1, U2, v2_1 => (wfC U2 ∧ (((qI U2 9 8).toInt ≤ v2_1.toInt ∧ (ro = (1 : Int32) ∧ uo = U2)) ∨ (¬ (qI U2 9 8).toInt ≤ v2_1.toInt ∧ (∃ (S3 : MS), vX2_lookAt U2 v2_1 S3 ∧ wfC S3 ∧ shy U2 S3 ∧ (∃ n, v_X2_instructionsHold_L20 ro uo (v_X2_instructionsHold_L2 ro uo n2) n S3 v2_1 0)))))
def vX2_instructionsHold (S : MS) (ro : Int32) (uo : MS) : Prop := (∃ n, v_X2_instructionsHold_L2 ro uo n S 0)
set_option maxRecDepth 100000 in
theorem ru_X2_instructionsHold_L20 {ι : Type} {P Q : Int32 → MS → Prop} {k2 k2' : MS → Int32 → Prop} {k2v : ι → Int32 → MS → MS → Int32 → Prop} : ∀ (n : Nat) {U20 : MS} {v20_1 : Int32} {v20_2 : Int32} (i0 : ι) (hk2 : ∀ (u : MS) (z0 : Int32), k2 u z0 → (∀ (i : ι) (ro : Int32) (uo : MS), k2v i ro uo u z0 → P ro uo) → k2' u z0), (∀ (i : ι) (ro : Int32) (uo : MS), (∃ n8, v_X2_instructionsHold_L20 ro uo (k2v i ro uo) n8 U20 v20_1 v20_2) → P ro uo) → w_X2_instructionsHold_L20 Q k2 n U20 v20_1 v20_2 → w_X2_instructionsHold_L20 (fun r u => Q r u ∧ P r u) k2' n U20 v20_1 v20_2 := by
  intro n
  induction n with
  | zero => intro U20 v20_1 v20_2 i0 hk2 K h; unfold w_X2_instructionsHold_L20 at h; exact h.elim
  | succ n ih =>
    intro U20 v20_1 v20_2 i0 hk2 K h
    unfold w_X2_instructionsHold_L20 at h ⊢
    replace K := fun (i : ι × Nat) ro uo (z : v_X2_instructionsHold_L20 ro uo (k2v i.1 ro uo) (i.2 + 1) U20 v20_1 v20_2) => K i.1 ro uo ⟨i.2 + 1, z⟩
    have i00 := i0
    replace i0 : ι × Nat := (i0, 0)
    intro y1_
    replace h := h y1_
    replace K := fun i ro uo z => K i ro uo ⟨y1_, z⟩
    refine ⟨fun c => ?_, fun c => ?_⟩
    · replace h := h.1 c
      replace K := fun i ro uo z => K i ro uo (Or.inl ⟨c, z⟩)
      intro a6 ea6 
      replace h := h a6 ea6 
      replace K := fun i ro uo z => K i ro uo ⟨a6, ea6, z⟩
      exact hk2 _ _ h (fun i ro uo z => K (i, 0) ro uo z)
    · replace h := h.2 c
      replace K := fun i ro uo z => K i ro uo (Or.inr ⟨c, z⟩)
      obtain ⟨Q9, h0, h⟩ := h
      refine ⟨_, ruX2_lengthAt h0, ?_⟩
      intro r8 S9 q2_ y3_ y4_
      replace h := h r8 S9 q2_.1 y3_ y4_
      replace K := fun i ro uo z => K i ro uo ⟨r8, S9, q2_.2, y3_, y4_, z⟩
      refine ⟨fun c => ?_, fun c => ?_⟩
      · replace h := h.1 c
        replace K := fun i ro uo z => K i ro uo (Or.inl ⟨c, z⟩)
        obtain ⟨Q9, h0, h⟩ := h
        refine ⟨_, ruX2_lengthAt h0, ?_⟩
        intro r13 S14 q5_ y6_ y7_
        replace h := h r13 S14 q5_.1 y6_ y7_
        replace K := fun i ro uo z => K i ro uo ⟨r13, S14, q5_.2, y6_, y7_, z⟩
        intro a17 ea17 
        replace h := h a17 ea17 
        replace K := fun i ro uo z => K i ro uo ⟨a17, ea17, z⟩
        exact ih i00 hk2 (fun i ro uo ⟨n8, z⟩ => K (i, n8) ro uo z) h
      · replace h := h.2 c
        replace K := fun i ro uo z => K i ro uo (Or.inr ⟨c, z⟩)
        obtain ⟨Q9, h0, h⟩ := h
        refine ⟨_, ruX7_breaks h0, ?_⟩
        intro r20 S21 q8_ y9_ y10_
        replace h := h r20 S21 q8_.1 y9_ y10_
        replace K := fun i ro uo z => K i ro uo ⟨r20, S21, q8_.2, y9_, y10_, z⟩
        exact ⟨h, K i0 _ _ ⟨rfl, rfl⟩⟩
set_option maxRecDepth 100000 in
theorem ru_X2_instructionsHold_L2 {ι : Type} {P Q : Int32 → MS → Prop} : ∀ (n : Nat) {U2 : MS} {v2_1 : Int32} (i0 : ι), (∀ (i : ι) (ro : Int32) (uo : MS), (∃ n8, v_X2_instructionsHold_L2 ro uo n8 U2 v2_1) → P ro uo) → w_X2_instructionsHold_L2 Q n U2 v2_1 → w_X2_instructionsHold_L2 (fun r u => Q r u ∧ P r u) n U2 v2_1 := by
  intro n
  induction n with
  | zero => intro U2 v2_1 i0 K h; unfold w_X2_instructionsHold_L2 at h; exact h.elim
  | succ n ih =>
    intro U2 v2_1 i0 K h
    unfold w_X2_instructionsHold_L2 at h ⊢
    replace K := fun (i : ι × Nat) ro uo (z : v_X2_instructionsHold_L2 ro uo (i.2 + 1) U2 v2_1) => K i.1 ro uo ⟨i.2 + 1, z⟩
    have i00 := i0
    replace i0 : ι × Nat := (i0, 0)
    intro y11_
    replace h := h y11_
    replace K := fun i ro uo z => K i ro uo ⟨y11_, z⟩
    refine ⟨fun c => ?_, fun c => ?_⟩
    · replace h := h.1 c
      replace K := fun i ro uo z => K i ro uo (Or.inl ⟨c, z⟩)
      exact ⟨h, K i0 _ _ ⟨rfl, rfl⟩⟩
    · replace h := h.2 c
      replace K := fun i ro uo z => K i ro uo (Or.inr ⟨c, z⟩)
      obtain ⟨Q9, h0, h⟩ := h
      refine ⟨_, ruX2_lookAt h0, ?_⟩
      intro S3 q12_ y13_ y14_
      replace h := h S3 q12_.1 y13_ y14_
      replace K := fun i ro uo z => K i ro uo ⟨S3, q12_.2, y13_, y14_, z⟩
      obtain ⟨n9, h⟩ := h
      exact ⟨n9, ru_X2_instructionsHold_L20 n9 i0 (fun _ _ h K => ih i00 (fun i ro uo ⟨n8, z⟩ => K (i, n8) ro uo z) h) K h⟩
set_option maxRecDepth 100000 in
theorem ruX2_instructionsHold {S : MS} {Q : Int32 → MS → Prop} (h : wX2_instructionsHold S Q) : wX2_instructionsHold S (fun r u => Q r u ∧ vX2_instructionsHold S r u) := by
  have i0 : Unit := ()
  have K : ∀ (i : Unit) (ro : Int32) (uo : MS), vX2_instructionsHold S ro uo → vX2_instructionsHold S ro uo := fun _ _ _ z => z
  unfold wX2_instructionsHold at h ⊢
  obtain ⟨n9, h⟩ := h
  exact ⟨n9, ru_X2_instructionsHold_L2 n9 i0 K h⟩
set_option maxRecDepth 100000 in
theorem vw_X2_instructionsHold_L20 {ro : Int32} {uo : MS} {k2 k2v : MS → Int32 → Prop} : ∀ (n : Nat) {U20 : MS} {v20_1 : Int32} {v20_2 : Int32} (hk2 : ∀ (u : MS) (z0 : Int32), k2v u z0 → k2 u z0), v_X2_instructionsHold_L20 ro uo k2v n U20 v20_1 v20_2 → w_X2_instructionsHold_L20 (fun r u => r = ro ∧ u = uo) k2 n U20 v20_1 v20_2 := by
  intro n
  induction n with
  | zero => intro U20 v20_1 v20_2 hk2 h; unfold v_X2_instructionsHold_L20 at h; exact h.elim
  | succ n ih =>
    intro U20 v20_1 v20_2 hk2 h
    unfold v_X2_instructionsHold_L20 at h
    unfold w_X2_instructionsHold_L20
    intro _
    replace h := h.2
    rcases h with ⟨c, h⟩ | ⟨c, h⟩
    · refine ⟨fun _ => ?_, fun c2 => absurd c c2⟩
      obtain ⟨v9, e9, h⟩ := h
      intro x9 d9 
      have c9 : v9 = x9 := e9.trans d9.symm
      subst c9
      exact hk2 _ _ h
    · refine ⟨fun c2 => absurd c2 c, fun _ => ?_⟩
      obtain ⟨p9, q9, z9, h⟩ := h
      refine ⟨_, vwX2_lengthAt z9, ?_⟩
      rintro p8 q8 ⟨d8, d9⟩ _ _
      subst d8
      subst d9
      replace h := h.2.2
      rcases h with ⟨c, h⟩ | ⟨c, h⟩
      · refine ⟨fun _ => ?_, fun c2 => absurd c c2⟩
        obtain ⟨p9, q9, z9, h⟩ := h
        refine ⟨_, vwX2_lengthAt z9, ?_⟩
        rintro p8 q8 ⟨d8, d9⟩ _ _
        subst d8
        subst d9
        replace h := h.2.2
        obtain ⟨v9, e9, h⟩ := h
        intro x9 d9 
        have c9 : v9 = x9 := e9.trans d9.symm
        subst c9
        exact ih hk2 h
      · refine ⟨fun c2 => absurd c2 c, fun _ => ?_⟩
        obtain ⟨p9, q9, z9, h⟩ := h
        refine ⟨_, vwX7_breaks z9, ?_⟩
        rintro p8 q8 ⟨d8, d9⟩ _ _
        subst d8
        subst d9
        replace h := h.2.2
        exact ⟨h.1.symm, h.2.symm⟩
set_option maxRecDepth 100000 in
theorem vp_X2_instructionsHold_L20 {ro : Int32} {uo : MS} {P : Int32 → MS → Prop} {k2 k2v : MS → Int32 → Prop} : ∀ (n m : Nat) {U20 : MS} {v20_1 : Int32} {v20_2 : Int32} (hk2 : ∀ (u : MS) (z0 : Int32), k2v u z0 → k2 u z0 → P ro uo), v_X2_instructionsHold_L20 ro uo k2v n U20 v20_1 v20_2 → w_X2_instructionsHold_L20 P k2 m U20 v20_1 v20_2 → P ro uo := by
  intro n
  induction n with
  | zero => intro m U20 v20_1 v20_2 hk2 h; unfold v_X2_instructionsHold_L20 at h; exact h.elim
  | succ n ih =>
    intro m U20 v20_1 v20_2 hk2 h w
    cases m with
    | zero => unfold w_X2_instructionsHold_L20 at w; exact w.elim
    | succ m =>
      unfold v_X2_instructionsHold_L20 at h
      unfold w_X2_instructionsHold_L20 at w
      obtain ⟨y1_, h⟩ := h
      replace w := w y1_
      rcases h with ⟨c, h⟩ | ⟨c, h⟩
      · replace w := w.1 c
        obtain ⟨v9, e9, h⟩ := h
        replace w := w v9 e9 
        exact hk2 _ _ h w
      · replace w := w.2 c
        obtain ⟨p9, q9, z9, y2_, y3_, h⟩ := h
        obtain ⟨Q9, w0, w⟩ := w
        replace w := w p9 q9 (vpX2_lengthAt z9 w0) y2_ y3_
        rcases h with ⟨c, h⟩ | ⟨c, h⟩
        · replace w := w.1 c
          obtain ⟨p9, q9, z9, y4_, y5_, h⟩ := h
          obtain ⟨Q9, w0, w⟩ := w
          replace w := w p9 q9 (vpX2_lengthAt z9 w0) y4_ y5_
          obtain ⟨v9, e9, h⟩ := h
          replace w := w v9 e9 
          exact ih m hk2 h w
        · replace w := w.2 c
          obtain ⟨p9, q9, z9, y6_, y7_, h⟩ := h
          obtain ⟨Q9, w0, w⟩ := w
          replace w := w p9 q9 (vpX7_breaks z9 w0) y6_ y7_
          rw [h.1, h.2]
          exact w
set_option maxRecDepth 100000 in
theorem vw_X2_instructionsHold_L2 {ro : Int32} {uo : MS} : ∀ (n : Nat) {U2 : MS} {v2_1 : Int32}, v_X2_instructionsHold_L2 ro uo n U2 v2_1 → w_X2_instructionsHold_L2 (fun r u => r = ro ∧ u = uo) n U2 v2_1 := by
  intro n
  induction n with
  | zero => intro U2 v2_1 h; unfold v_X2_instructionsHold_L2 at h; exact h.elim
  | succ n ih =>
    intro U2 v2_1 h
    unfold v_X2_instructionsHold_L2 at h
    unfold w_X2_instructionsHold_L2
    intro _
    replace h := h.2
    rcases h with ⟨c, h⟩ | ⟨c, h⟩
    · refine ⟨fun _ => ?_, fun c2 => absurd c c2⟩
      exact ⟨h.1.symm, h.2.symm⟩
    · refine ⟨fun c2 => absurd c2 c, fun _ => ?_⟩
      obtain ⟨q9, z9, h⟩ := h
      refine ⟨_, vwX2_lookAt z9, ?_⟩
      intro q8 d9 _ _
      subst d9
      replace h := h.2.2
      obtain ⟨n9, h⟩ := h
      exact ⟨n9, vw_X2_instructionsHold_L20 n9 (fun _ _ h => ih h) h⟩
set_option maxRecDepth 100000 in
theorem vp_X2_instructionsHold_L2 {ro : Int32} {uo : MS} {P : Int32 → MS → Prop} : ∀ (n m : Nat) {U2 : MS} {v2_1 : Int32}, v_X2_instructionsHold_L2 ro uo n U2 v2_1 → w_X2_instructionsHold_L2 P m U2 v2_1 → P ro uo := by
  intro n
  induction n with
  | zero => intro m U2 v2_1 h; unfold v_X2_instructionsHold_L2 at h; exact h.elim
  | succ n ih =>
    intro m U2 v2_1 h w
    cases m with
    | zero => unfold w_X2_instructionsHold_L2 at w; exact w.elim
    | succ m =>
      unfold v_X2_instructionsHold_L2 at h
      unfold w_X2_instructionsHold_L2 at w
      obtain ⟨y8_, h⟩ := h
      replace w := w y8_
      rcases h with ⟨c, h⟩ | ⟨c, h⟩
      · replace w := w.1 c
        rw [h.1, h.2]
        exact w
      · replace w := w.2 c
        obtain ⟨q9, z9, y9_, y10_, h⟩ := h
        obtain ⟨Q9, w0, w⟩ := w
        replace w := w q9 (vpX2_lookAt z9 w0) y9_ y10_
        obtain ⟨n9, h⟩ := h
        obtain ⟨n8, w⟩ := w
        exact vp_X2_instructionsHold_L20 n9 n8 (fun _ _ h w => ih m h w) h w
set_option maxRecDepth 100000 in
theorem vwX2_instructionsHold {S : MS} {ro : Int32} {uo : MS} (h : vX2_instructionsHold S ro uo) : wX2_instructionsHold S (fun r u => r = ro ∧ u = uo) := by
  unfold vX2_instructionsHold at h
  unfold wX2_instructionsHold
  obtain ⟨n9, h⟩ := h
  exact ⟨n9, vw_X2_instructionsHold_L2 n9 h⟩
set_option maxRecDepth 100000 in
theorem vpX2_instructionsHold {S : MS} {ro : Int32} {uo : MS} {P : Int32 → MS → Prop} (h : vX2_instructionsHold S ro uo) (w : wX2_instructionsHold S P) : P ro uo := by
  unfold vX2_instructionsHold at h
  unfold wX2_instructionsHold at w
  obtain ⟨n9, h⟩ := h
  obtain ⟨n8, w⟩ := w
  exact vp_X2_instructionsHold_L2 n9 n8 h w
def v_X2_pointersHold_L77 (ro : Int32) (uo : MS) (k2 : MS → Int32 → Prop) : Nat → MS → Int32 → Int32 → Prop
  | 0, _, _, _ => False
  | n77 + 1, U77, v77_1, v77_2 => (wfC U77 ∧ (((qI U77 8 6).toInt ≤ v77_2.toInt ∧ (∃ a10 : Int32, a10 = (v77_1 + Int32.ofInt 1) ∧ (k2 U77 a10))) ∨ (¬ (qI U77 8 6).toInt ≤ v77_2.toInt ∧ (∃ (r14 : Int32) (S15 : MS), vX2_catchHolds U77 ((qI U77 8 5) + ((8 : Int32) * v77_2)) r14 S15 ∧ wfC S15 ∧ shy U77 S15 ∧ ((r14.toInt = 0 ∧ (∃ (r22 : Int32) (S23 : MS), vX7_breaks S15 (16 : Int32) ((qI S15 8 5) + ((8 : Int32) * v77_2)) r22 S23 ∧ wfC S23 ∧ shy S15 S23 ∧ (ro = r22 ∧ uo = S23))) ∨ (¬ r14.toInt = 0 ∧ (∃ a18 : Int32, a18 = (v77_2 + Int32.ofInt 1) ∧ ((v_X2_pointersHold_L77 ro uo k2 n77) S15 v77_1 a18))))))))
def v_X2_pointersHold_L24 (ro : Int32) (uo : MS) (k2 : MS → Int32 → Prop) : Nat → MS → Int32 → Int32 → Prop
  | 0, _, _, _ => False
  | n24 + 1, U24, v24_1, v24_2 => (wfC U24 ∧ (((qI U24 8 2).toInt ≤ v24_2.toInt ∧ (∃ n, v_X2_pointersHold_L77 ro uo k2 n U24 v24_1 0)) ∨ (¬ (qI U24 8 2).toInt ≤ v24_2.toInt ∧ (∃ (S26 : MS), vX2_decode U24 v24_2 S26 ∧ wfC S26 ∧ shy U24 S26 ∧ (∃ (r29 : Int32) (S30 : MS), vX2_pointsWell S26 r29 S30 ∧ wfC S30 ∧ shy S26 S30 ∧ ((r29.toInt = 0 ∧ (∃ (r42 : Int32) (S43 : MS), vX7_breaks S30 (16 : Int32) ((qI S30 8 1) + v24_2) r42 S43 ∧ wfC S43 ∧ shy S30 S43 ∧ (ro = r42 ∧ uo = S43))) ∨ (¬ r29.toInt = 0 ∧ (∃ (r34 : Int32) (S35 : MS), vX2_lengthAt S30 v24_2 r34 S35 ∧ wfC S35 ∧ shy S30 S35 ∧ (∃ a39 : Int32, a39 = (v24_2 + (if (1 : Int32) < r34 then r34 else (1 : Int32))) ∧ ((v_X2_pointersHold_L24 ro uo k2 n24) S35 v24_1 a39))))))))))
def v_X2_pointersHold_L2 (ro : Int32) (uo : MS) : Nat → MS → Int32 → Prop
  | 0, _, _ => False
  | n2 + 1, U2, v2_1 => (wfC U2 ∧ (((qI U2 9 8).toInt ≤ v2_1.toInt ∧ (ro = (1 : Int32) ∧ uo = U2)) ∨ (¬ (qI U2 9 8).toInt ≤ v2_1.toInt ∧ (∃ (S3 : MS), vX2_lookAt U2 v2_1 S3 ∧ wfC S3 ∧ shy U2 S3 ∧ (∃ (S6 : MS), vX2_numberInstructions S3 S6 ∧ wfC S6 ∧ shy S3 S6 ∧ (∃ n, v_X2_pointersHold_L24 ro uo (v_X2_pointersHold_L2 ro uo n2) n S6 v2_1 0))))))
def vX2_pointersHold (S : MS) (ro : Int32) (uo : MS) : Prop := (∃ n, v_X2_pointersHold_L2 ro uo n S 0)
set_option maxRecDepth 100000 in
theorem ru_X2_pointersHold_L77 {ι : Type} {P Q : Int32 → MS → Prop} {k2 k2' : MS → Int32 → Prop} {k2v : ι → Int32 → MS → MS → Int32 → Prop} : ∀ (n : Nat) {U77 : MS} {v77_1 : Int32} {v77_2 : Int32} (i0 : ι) (hk2 : ∀ (u : MS) (z0 : Int32), k2 u z0 → (∀ (i : ι) (ro : Int32) (uo : MS), k2v i ro uo u z0 → P ro uo) → k2' u z0), (∀ (i : ι) (ro : Int32) (uo : MS), (∃ n8, v_X2_pointersHold_L77 ro uo (k2v i ro uo) n8 U77 v77_1 v77_2) → P ro uo) → w_X2_pointersHold_L77 Q k2 n U77 v77_1 v77_2 → w_X2_pointersHold_L77 (fun r u => Q r u ∧ P r u) k2' n U77 v77_1 v77_2 := by
  intro n
  induction n with
  | zero => intro U77 v77_1 v77_2 i0 hk2 K h; unfold w_X2_pointersHold_L77 at h; exact h.elim
  | succ n ih =>
    intro U77 v77_1 v77_2 i0 hk2 K h
    unfold w_X2_pointersHold_L77 at h ⊢
    replace K := fun (i : ι × Nat) ro uo (z : v_X2_pointersHold_L77 ro uo (k2v i.1 ro uo) (i.2 + 1) U77 v77_1 v77_2) => K i.1 ro uo ⟨i.2 + 1, z⟩
    have i00 := i0
    replace i0 : ι × Nat := (i0, 0)
    intro y1_
    replace h := h y1_
    replace K := fun i ro uo z => K i ro uo ⟨y1_, z⟩
    refine ⟨fun c => ?_, fun c => ?_⟩
    · replace h := h.1 c
      replace K := fun i ro uo z => K i ro uo (Or.inl ⟨c, z⟩)
      intro a10 ea10 
      replace h := h a10 ea10 
      replace K := fun i ro uo z => K i ro uo ⟨a10, ea10, z⟩
      exact hk2 _ _ h (fun i ro uo z => K (i, 0) ro uo z)
    · replace h := h.2 c
      replace K := fun i ro uo z => K i ro uo (Or.inr ⟨c, z⟩)
      obtain ⟨Q9, h0, h⟩ := h
      refine ⟨_, ruX2_catchHolds h0, ?_⟩
      intro r14 S15 q2_ y3_ y4_
      replace h := h r14 S15 q2_.1 y3_ y4_
      replace K := fun i ro uo z => K i ro uo ⟨r14, S15, q2_.2, y3_, y4_, z⟩
      refine ⟨fun c => ?_, fun c => ?_⟩
      · replace h := h.1 c
        replace K := fun i ro uo z => K i ro uo (Or.inl ⟨c, z⟩)
        obtain ⟨Q9, h0, h⟩ := h
        refine ⟨_, ruX7_breaks h0, ?_⟩
        intro r22 S23 q5_ y6_ y7_
        replace h := h r22 S23 q5_.1 y6_ y7_
        replace K := fun i ro uo z => K i ro uo ⟨r22, S23, q5_.2, y6_, y7_, z⟩
        exact ⟨h, K i0 _ _ ⟨rfl, rfl⟩⟩
      · replace h := h.2 c
        replace K := fun i ro uo z => K i ro uo (Or.inr ⟨c, z⟩)
        intro a18 ea18 
        replace h := h a18 ea18 
        replace K := fun i ro uo z => K i ro uo ⟨a18, ea18, z⟩
        exact ih i00 hk2 (fun i ro uo ⟨n8, z⟩ => K (i, n8) ro uo z) h
set_option maxRecDepth 100000 in
theorem ru_X2_pointersHold_L24 {ι : Type} {P Q : Int32 → MS → Prop} {k2 k2' : MS → Int32 → Prop} {k2v : ι → Int32 → MS → MS → Int32 → Prop} : ∀ (n : Nat) {U24 : MS} {v24_1 : Int32} {v24_2 : Int32} (i0 : ι) (hk2 : ∀ (u : MS) (z0 : Int32), k2 u z0 → (∀ (i : ι) (ro : Int32) (uo : MS), k2v i ro uo u z0 → P ro uo) → k2' u z0), (∀ (i : ι) (ro : Int32) (uo : MS), (∃ n8, v_X2_pointersHold_L24 ro uo (k2v i ro uo) n8 U24 v24_1 v24_2) → P ro uo) → w_X2_pointersHold_L24 Q k2 n U24 v24_1 v24_2 → w_X2_pointersHold_L24 (fun r u => Q r u ∧ P r u) k2' n U24 v24_1 v24_2 := by
  intro n
  induction n with
  | zero => intro U24 v24_1 v24_2 i0 hk2 K h; unfold w_X2_pointersHold_L24 at h; exact h.elim
  | succ n ih =>
    intro U24 v24_1 v24_2 i0 hk2 K h
    unfold w_X2_pointersHold_L24 at h ⊢
    replace K := fun (i : ι × Nat) ro uo (z : v_X2_pointersHold_L24 ro uo (k2v i.1 ro uo) (i.2 + 1) U24 v24_1 v24_2) => K i.1 ro uo ⟨i.2 + 1, z⟩
    have i00 := i0
    replace i0 : ι × Nat := (i0, 0)
    intro y8_
    replace h := h y8_
    replace K := fun i ro uo z => K i ro uo ⟨y8_, z⟩
    refine ⟨fun c => ?_, fun c => ?_⟩
    · replace h := h.1 c
      replace K := fun i ro uo z => K i ro uo (Or.inl ⟨c, z⟩)
      obtain ⟨n9, h⟩ := h
      exact ⟨n9, ru_X2_pointersHold_L77 n9 i0 (fun _ _ h K => hk2 _ _ h (fun i ro uo z => K (i, 0) ro uo z)) K h⟩
    · replace h := h.2 c
      replace K := fun i ro uo z => K i ro uo (Or.inr ⟨c, z⟩)
      obtain ⟨Q9, h0, h⟩ := h
      refine ⟨_, ruX2_decode h0, ?_⟩
      intro S26 q9_ y10_ y11_
      replace h := h S26 q9_.1 y10_ y11_
      replace K := fun i ro uo z => K i ro uo ⟨S26, q9_.2, y10_, y11_, z⟩
      obtain ⟨Q9, h0, h⟩ := h
      refine ⟨_, ruX2_pointsWell h0, ?_⟩
      intro r29 S30 q12_ y13_ y14_
      replace h := h r29 S30 q12_.1 y13_ y14_
      replace K := fun i ro uo z => K i ro uo ⟨r29, S30, q12_.2, y13_, y14_, z⟩
      refine ⟨fun c => ?_, fun c => ?_⟩
      · replace h := h.1 c
        replace K := fun i ro uo z => K i ro uo (Or.inl ⟨c, z⟩)
        obtain ⟨Q9, h0, h⟩ := h
        refine ⟨_, ruX7_breaks h0, ?_⟩
        intro r42 S43 q15_ y16_ y17_
        replace h := h r42 S43 q15_.1 y16_ y17_
        replace K := fun i ro uo z => K i ro uo ⟨r42, S43, q15_.2, y16_, y17_, z⟩
        exact ⟨h, K i0 _ _ ⟨rfl, rfl⟩⟩
      · replace h := h.2 c
        replace K := fun i ro uo z => K i ro uo (Or.inr ⟨c, z⟩)
        obtain ⟨Q9, h0, h⟩ := h
        refine ⟨_, ruX2_lengthAt h0, ?_⟩
        intro r34 S35 q18_ y19_ y20_
        replace h := h r34 S35 q18_.1 y19_ y20_
        replace K := fun i ro uo z => K i ro uo ⟨r34, S35, q18_.2, y19_, y20_, z⟩
        intro a39 ea39 
        replace h := h a39 ea39 
        replace K := fun i ro uo z => K i ro uo ⟨a39, ea39, z⟩
        exact ih i00 hk2 (fun i ro uo ⟨n8, z⟩ => K (i, n8) ro uo z) h
set_option maxRecDepth 100000 in
theorem ru_X2_pointersHold_L2 {ι : Type} {P Q : Int32 → MS → Prop} : ∀ (n : Nat) {U2 : MS} {v2_1 : Int32} (i0 : ι), (∀ (i : ι) (ro : Int32) (uo : MS), (∃ n8, v_X2_pointersHold_L2 ro uo n8 U2 v2_1) → P ro uo) → w_X2_pointersHold_L2 Q n U2 v2_1 → w_X2_pointersHold_L2 (fun r u => Q r u ∧ P r u) n U2 v2_1 := by
  intro n
  induction n with
  | zero => intro U2 v2_1 i0 K h; unfold w_X2_pointersHold_L2 at h; exact h.elim
  | succ n ih =>
    intro U2 v2_1 i0 K h
    unfold w_X2_pointersHold_L2 at h ⊢
    replace K := fun (i : ι × Nat) ro uo (z : v_X2_pointersHold_L2 ro uo (i.2 + 1) U2 v2_1) => K i.1 ro uo ⟨i.2 + 1, z⟩
    have i00 := i0
    replace i0 : ι × Nat := (i0, 0)
    intro y21_
    replace h := h y21_
    replace K := fun i ro uo z => K i ro uo ⟨y21_, z⟩
    refine ⟨fun c => ?_, fun c => ?_⟩
    · replace h := h.1 c
      replace K := fun i ro uo z => K i ro uo (Or.inl ⟨c, z⟩)
      exact ⟨h, K i0 _ _ ⟨rfl, rfl⟩⟩
    · replace h := h.2 c
      replace K := fun i ro uo z => K i ro uo (Or.inr ⟨c, z⟩)
      obtain ⟨Q9, h0, h⟩ := h
      refine ⟨_, ruX2_lookAt h0, ?_⟩
      intro S3 q22_ y23_ y24_
      replace h := h S3 q22_.1 y23_ y24_
      replace K := fun i ro uo z => K i ro uo ⟨S3, q22_.2, y23_, y24_, z⟩
      obtain ⟨Q9, h0, h⟩ := h
      refine ⟨_, ruX2_numberInstructions h0, ?_⟩
      intro S6 q25_ y26_ y27_
      replace h := h S6 q25_.1 y26_ y27_
      replace K := fun i ro uo z => K i ro uo ⟨S6, q25_.2, y26_, y27_, z⟩
      obtain ⟨n9, h⟩ := h
      exact ⟨n9, ru_X2_pointersHold_L24 n9 i0 (fun _ _ h K => ih i00 (fun i ro uo ⟨n8, z⟩ => K (i, n8) ro uo z) h) K h⟩
set_option maxRecDepth 100000 in
theorem ruX2_pointersHold {S : MS} {Q : Int32 → MS → Prop} (h : wX2_pointersHold S Q) : wX2_pointersHold S (fun r u => Q r u ∧ vX2_pointersHold S r u) := by
  have i0 : Unit := ()
  have K : ∀ (i : Unit) (ro : Int32) (uo : MS), vX2_pointersHold S ro uo → vX2_pointersHold S ro uo := fun _ _ _ z => z
  unfold wX2_pointersHold at h ⊢
  obtain ⟨n9, h⟩ := h
  exact ⟨n9, ru_X2_pointersHold_L2 n9 i0 K h⟩
set_option maxRecDepth 100000 in
theorem vw_X2_pointersHold_L77 {ro : Int32} {uo : MS} {k2 k2v : MS → Int32 → Prop} : ∀ (n : Nat) {U77 : MS} {v77_1 : Int32} {v77_2 : Int32} (hk2 : ∀ (u : MS) (z0 : Int32), k2v u z0 → k2 u z0), v_X2_pointersHold_L77 ro uo k2v n U77 v77_1 v77_2 → w_X2_pointersHold_L77 (fun r u => r = ro ∧ u = uo) k2 n U77 v77_1 v77_2 := by
  intro n
  induction n with
  | zero => intro U77 v77_1 v77_2 hk2 h; unfold v_X2_pointersHold_L77 at h; exact h.elim
  | succ n ih =>
    intro U77 v77_1 v77_2 hk2 h
    unfold v_X2_pointersHold_L77 at h
    unfold w_X2_pointersHold_L77
    intro _
    replace h := h.2
    rcases h with ⟨c, h⟩ | ⟨c, h⟩
    · refine ⟨fun _ => ?_, fun c2 => absurd c c2⟩
      obtain ⟨v9, e9, h⟩ := h
      intro x9 d9 
      have c9 : v9 = x9 := e9.trans d9.symm
      subst c9
      exact hk2 _ _ h
    · refine ⟨fun c2 => absurd c2 c, fun _ => ?_⟩
      obtain ⟨p9, q9, z9, h⟩ := h
      refine ⟨_, vwX2_catchHolds z9, ?_⟩
      rintro p8 q8 ⟨d8, d9⟩ _ _
      subst d8
      subst d9
      replace h := h.2.2
      rcases h with ⟨c, h⟩ | ⟨c, h⟩
      · refine ⟨fun _ => ?_, fun c2 => absurd c c2⟩
        obtain ⟨p9, q9, z9, h⟩ := h
        refine ⟨_, vwX7_breaks z9, ?_⟩
        rintro p8 q8 ⟨d8, d9⟩ _ _
        subst d8
        subst d9
        replace h := h.2.2
        exact ⟨h.1.symm, h.2.symm⟩
      · refine ⟨fun c2 => absurd c2 c, fun _ => ?_⟩
        obtain ⟨v9, e9, h⟩ := h
        intro x9 d9 
        have c9 : v9 = x9 := e9.trans d9.symm
        subst c9
        exact ih hk2 h
set_option maxRecDepth 100000 in
theorem vp_X2_pointersHold_L77 {ro : Int32} {uo : MS} {P : Int32 → MS → Prop} {k2 k2v : MS → Int32 → Prop} : ∀ (n m : Nat) {U77 : MS} {v77_1 : Int32} {v77_2 : Int32} (hk2 : ∀ (u : MS) (z0 : Int32), k2v u z0 → k2 u z0 → P ro uo), v_X2_pointersHold_L77 ro uo k2v n U77 v77_1 v77_2 → w_X2_pointersHold_L77 P k2 m U77 v77_1 v77_2 → P ro uo := by
  intro n
  induction n with
  | zero => intro m U77 v77_1 v77_2 hk2 h; unfold v_X2_pointersHold_L77 at h; exact h.elim
  | succ n ih =>
    intro m U77 v77_1 v77_2 hk2 h w
    cases m with
    | zero => unfold w_X2_pointersHold_L77 at w; exact w.elim
    | succ m =>
      unfold v_X2_pointersHold_L77 at h
      unfold w_X2_pointersHold_L77 at w
      obtain ⟨y1_, h⟩ := h
      replace w := w y1_
      rcases h with ⟨c, h⟩ | ⟨c, h⟩
      · replace w := w.1 c
        obtain ⟨v9, e9, h⟩ := h
        replace w := w v9 e9 
        exact hk2 _ _ h w
      · replace w := w.2 c
        obtain ⟨p9, q9, z9, y2_, y3_, h⟩ := h
        obtain ⟨Q9, w0, w⟩ := w
        replace w := w p9 q9 (vpX2_catchHolds z9 w0) y2_ y3_
        rcases h with ⟨c, h⟩ | ⟨c, h⟩
        · replace w := w.1 c
          obtain ⟨p9, q9, z9, y4_, y5_, h⟩ := h
          obtain ⟨Q9, w0, w⟩ := w
          replace w := w p9 q9 (vpX7_breaks z9 w0) y4_ y5_
          rw [h.1, h.2]
          exact w
        · replace w := w.2 c
          obtain ⟨v9, e9, h⟩ := h
          replace w := w v9 e9 
          exact ih m hk2 h w
set_option maxRecDepth 100000 in
theorem vw_X2_pointersHold_L24 {ro : Int32} {uo : MS} {k2 k2v : MS → Int32 → Prop} : ∀ (n : Nat) {U24 : MS} {v24_1 : Int32} {v24_2 : Int32} (hk2 : ∀ (u : MS) (z0 : Int32), k2v u z0 → k2 u z0), v_X2_pointersHold_L24 ro uo k2v n U24 v24_1 v24_2 → w_X2_pointersHold_L24 (fun r u => r = ro ∧ u = uo) k2 n U24 v24_1 v24_2 := by
  intro n
  induction n with
  | zero => intro U24 v24_1 v24_2 hk2 h; unfold v_X2_pointersHold_L24 at h; exact h.elim
  | succ n ih =>
    intro U24 v24_1 v24_2 hk2 h
    unfold v_X2_pointersHold_L24 at h
    unfold w_X2_pointersHold_L24
    intro _
    replace h := h.2
    rcases h with ⟨c, h⟩ | ⟨c, h⟩
    · refine ⟨fun _ => ?_, fun c2 => absurd c c2⟩
      obtain ⟨n9, h⟩ := h
      exact ⟨n9, vw_X2_pointersHold_L77 n9 hk2 h⟩
    · refine ⟨fun c2 => absurd c2 c, fun _ => ?_⟩
      obtain ⟨q9, z9, h⟩ := h
      refine ⟨_, vwX2_decode z9, ?_⟩
      intro q8 d9 _ _
      subst d9
      replace h := h.2.2
      obtain ⟨p9, q9, z9, h⟩ := h
      refine ⟨_, vwX2_pointsWell z9, ?_⟩
      rintro p8 q8 ⟨d8, d9⟩ _ _
      subst d8
      subst d9
      replace h := h.2.2
      rcases h with ⟨c, h⟩ | ⟨c, h⟩
      · refine ⟨fun _ => ?_, fun c2 => absurd c c2⟩
        obtain ⟨p9, q9, z9, h⟩ := h
        refine ⟨_, vwX7_breaks z9, ?_⟩
        rintro p8 q8 ⟨d8, d9⟩ _ _
        subst d8
        subst d9
        replace h := h.2.2
        exact ⟨h.1.symm, h.2.symm⟩
      · refine ⟨fun c2 => absurd c2 c, fun _ => ?_⟩
        obtain ⟨p9, q9, z9, h⟩ := h
        refine ⟨_, vwX2_lengthAt z9, ?_⟩
        rintro p8 q8 ⟨d8, d9⟩ _ _
        subst d8
        subst d9
        replace h := h.2.2
        obtain ⟨v9, e9, h⟩ := h
        intro x9 d9 
        have c9 : v9 = x9 := e9.trans d9.symm
        subst c9
        exact ih hk2 h
set_option maxRecDepth 100000 in
theorem vp_X2_pointersHold_L24 {ro : Int32} {uo : MS} {P : Int32 → MS → Prop} {k2 k2v : MS → Int32 → Prop} : ∀ (n m : Nat) {U24 : MS} {v24_1 : Int32} {v24_2 : Int32} (hk2 : ∀ (u : MS) (z0 : Int32), k2v u z0 → k2 u z0 → P ro uo), v_X2_pointersHold_L24 ro uo k2v n U24 v24_1 v24_2 → w_X2_pointersHold_L24 P k2 m U24 v24_1 v24_2 → P ro uo := by
  intro n
  induction n with
  | zero => intro m U24 v24_1 v24_2 hk2 h; unfold v_X2_pointersHold_L24 at h; exact h.elim
  | succ n ih =>
    intro m U24 v24_1 v24_2 hk2 h w
    cases m with
    | zero => unfold w_X2_pointersHold_L24 at w; exact w.elim
    | succ m =>
      unfold v_X2_pointersHold_L24 at h
      unfold w_X2_pointersHold_L24 at w
      obtain ⟨y6_, h⟩ := h
      replace w := w y6_
      rcases h with ⟨c, h⟩ | ⟨c, h⟩
      · replace w := w.1 c
        obtain ⟨n9, h⟩ := h
        obtain ⟨n8, w⟩ := w
        exact vp_X2_pointersHold_L77 n9 n8 hk2 h w
      · replace w := w.2 c
        obtain ⟨q9, z9, y7_, y8_, h⟩ := h
        obtain ⟨Q9, w0, w⟩ := w
        replace w := w q9 (vpX2_decode z9 w0) y7_ y8_
        obtain ⟨p9, q9, z9, y9_, y10_, h⟩ := h
        obtain ⟨Q9, w0, w⟩ := w
        replace w := w p9 q9 (vpX2_pointsWell z9 w0) y9_ y10_
        rcases h with ⟨c, h⟩ | ⟨c, h⟩
        · replace w := w.1 c
          obtain ⟨p9, q9, z9, y11_, y12_, h⟩ := h
          obtain ⟨Q9, w0, w⟩ := w
          replace w := w p9 q9 (vpX7_breaks z9 w0) y11_ y12_
          rw [h.1, h.2]
          exact w
        · replace w := w.2 c
          obtain ⟨p9, q9, z9, y13_, y14_, h⟩ := h
          obtain ⟨Q9, w0, w⟩ := w
          replace w := w p9 q9 (vpX2_lengthAt z9 w0) y13_ y14_
          obtain ⟨v9, e9, h⟩ := h
          replace w := w v9 e9 
          exact ih m hk2 h w
set_option maxRecDepth 100000 in
theorem vw_X2_pointersHold_L2 {ro : Int32} {uo : MS} : ∀ (n : Nat) {U2 : MS} {v2_1 : Int32}, v_X2_pointersHold_L2 ro uo n U2 v2_1 → w_X2_pointersHold_L2 (fun r u => r = ro ∧ u = uo) n U2 v2_1 := by
  intro n
  induction n with
  | zero => intro U2 v2_1 h; unfold v_X2_pointersHold_L2 at h; exact h.elim
  | succ n ih =>
    intro U2 v2_1 h
    unfold v_X2_pointersHold_L2 at h
    unfold w_X2_pointersHold_L2
    intro _
    replace h := h.2
    rcases h with ⟨c, h⟩ | ⟨c, h⟩
    · refine ⟨fun _ => ?_, fun c2 => absurd c c2⟩
      exact ⟨h.1.symm, h.2.symm⟩
    · refine ⟨fun c2 => absurd c2 c, fun _ => ?_⟩
      obtain ⟨q9, z9, h⟩ := h
      refine ⟨_, vwX2_lookAt z9, ?_⟩
      intro q8 d9 _ _
      subst d9
      replace h := h.2.2
      obtain ⟨q9, z9, h⟩ := h
      refine ⟨_, vwX2_numberInstructions z9, ?_⟩
      intro q8 d9 _ _
      subst d9
      replace h := h.2.2
      obtain ⟨n9, h⟩ := h
      exact ⟨n9, vw_X2_pointersHold_L24 n9 (fun _ _ h => ih h) h⟩
set_option maxRecDepth 100000 in
theorem vp_X2_pointersHold_L2 {ro : Int32} {uo : MS} {P : Int32 → MS → Prop} : ∀ (n m : Nat) {U2 : MS} {v2_1 : Int32}, v_X2_pointersHold_L2 ro uo n U2 v2_1 → w_X2_pointersHold_L2 P m U2 v2_1 → P ro uo := by
  intro n
  induction n with
  | zero => intro m U2 v2_1 h; unfold v_X2_pointersHold_L2 at h; exact h.elim
  | succ n ih =>
    intro m U2 v2_1 h w
    cases m with
    | zero => unfold w_X2_pointersHold_L2 at w; exact w.elim
    | succ m =>
      unfold v_X2_pointersHold_L2 at h
      unfold w_X2_pointersHold_L2 at w
      obtain ⟨y15_, h⟩ := h
      replace w := w y15_
      rcases h with ⟨c, h⟩ | ⟨c, h⟩
      · replace w := w.1 c
        rw [h.1, h.2]
        exact w
      · replace w := w.2 c
        obtain ⟨q9, z9, y16_, y17_, h⟩ := h
        obtain ⟨Q9, w0, w⟩ := w
        replace w := w q9 (vpX2_lookAt z9 w0) y16_ y17_
        obtain ⟨q9, z9, y18_, y19_, h⟩ := h
        obtain ⟨Q9, w0, w⟩ := w
        replace w := w q9 (vpX2_numberInstructions z9 w0) y18_ y19_
        obtain ⟨n9, h⟩ := h
        obtain ⟨n8, w⟩ := w
        exact vp_X2_pointersHold_L24 n9 n8 (fun _ _ h w => ih m h w) h w
set_option maxRecDepth 100000 in
theorem vwX2_pointersHold {S : MS} {ro : Int32} {uo : MS} (h : vX2_pointersHold S ro uo) : wX2_pointersHold S (fun r u => r = ro ∧ u = uo) := by
  unfold vX2_pointersHold at h
  unfold wX2_pointersHold
  obtain ⟨n9, h⟩ := h
  exact ⟨n9, vw_X2_pointersHold_L2 n9 h⟩
set_option maxRecDepth 100000 in
theorem vpX2_pointersHold {S : MS} {ro : Int32} {uo : MS} {P : Int32 → MS → Prop} (h : vX2_pointersHold S ro uo) (w : wX2_pointersHold S P) : P ro uo := by
  unfold vX2_pointersHold at h
  unfold wX2_pointersHold at w
  obtain ⟨n9, h⟩ := h
  obtain ⟨n8, w⟩ := w
  exact vp_X2_pointersHold_L2 n9 n8 h w
