set_option maxRecDepth 100000 in
theorem fr_X3_nearestDominator_J43 {S0 : MS} {Q : Int32 → MS → Prop} {k10 k10' : MS → Int32 → Int32 → Int32 → Prop} {U43 : MS} {v43_1 : Int32} {v43_2 : Int32} {v43_3 : Int32} (hk10 : ∀ (u : MS) (z0) (z1) (z2), cfr [] [] S0 u → k10 u z0 z1 z2 → k10' u z0 z1 z2) (f : cfr [] [] S0 U43) (h : w_X3_nearestDominator_J43 Q k10 U43 v43_1 v43_2 v43_3) : w_X3_nearestDominator_J43 (fun r u => Q r u ∧ cfr [] [] S0 u) k10' U43 v43_1 v43_2 v43_3 := by
  unfold w_X3_nearestDominator_J43 at h ⊢
  intro y1_
  replace h := h y1_
  intro a8 ea8 
  replace h := h a8 ea8 
  exact hk10 _ _ _ _ f h
set_option maxRecDepth 100000 in
theorem fr_X3_nearestDominator_L10 {S0 : MS} {Q : Int32 → MS → Prop} : ∀ (n : Nat) {U10 : MS} {v10_1 : Int32} {v10_2 : Int32} {v10_3 : Int32}, cfr [] [] S0 U10 → w_X3_nearestDominator_L10 Q n U10 v10_1 v10_2 v10_3 → w_X3_nearestDominator_L10 (fun r u => Q r u ∧ cfr [] [] S0 u) n U10 v10_1 v10_2 v10_3 := by
  intro n
  induction n with
  | zero => intro U10 v10_1 v10_2 v10_3 f h; unfold w_X3_nearestDominator_L10 at h; exact h.elim
  | succ n ih =>
    intro U10 v10_1 v10_2 v10_3 f h
    unfold w_X3_nearestDominator_L10 at h ⊢
    intro y2_
    replace h := h y2_
    refine ⟨fun c => ?_, fun c => ?_⟩
    · replace h := h.1 c
      exact ⟨h, f⟩
    · replace h := h.2 c
      refine ⟨fun c => ?_, fun c => ?_⟩
      · replace h := h.1 c
        exact fr_X3_nearestDominator_J43 (fun _ _ _ _ f h => ih f h) f h
      · replace h := h.2 c
        refine ⟨h.1, ?_⟩
        replace h := h.2
        refine ⟨fun c => ?_, fun c => ?_⟩
        · replace h := h.1 c
          exact fr_X3_nearestDominator_J43 (fun _ _ _ _ f h => ih f h) f h
        · replace h := h.2 c
          obtain ⟨Q9, h0, h⟩ := h
          refine ⟨_, frX3_dominatorCount y2_ h0, ?_⟩
          intro r15 S16 q3_ y4_ y5_
          replace h := h r15 S16 q3_.1 y4_ y5_
          replace f := f.tr (q3_.2.mo (by decide) (by decide))
          refine ⟨fun c => ?_, fun c => ?_⟩
          · replace h := h.1 c
            exact ⟨h, f⟩
          · replace h := h.2 c
            exact fr_X3_nearestDominator_J43 (fun _ _ _ _ f h => ih f h) f h
set_option maxRecDepth 100000 in
theorem frX3_nearestDominator {S : MS} {x1 : Int32} {Q : Int32 → MS → Prop} (hw : wfC S) (h : wX3_nearestDominator S x1 Q) : wX3_nearestDominator S x1 (fun r u => Q r u ∧ cfr [] [] S u) := by
  have f : cfr [] [] S S := cfr.rf
  unfold wX3_nearestDominator at h ⊢
  obtain ⟨Q9, h0, h⟩ := h
  refine ⟨_, frX3_dominatorCount hw h0, ?_⟩
  intro r2 S3 q6_ y7_ y8_
  replace h := h r2 S3 q6_.1 y7_ y8_
  replace f := f.tr (q6_.2.mo (by decide) (by decide))
  intro a6 ea6 
  replace h := h a6 ea6 
  obtain ⟨n9, h⟩ := h
  exact ⟨n9, fr_X3_nearestDominator_L10 n9 f h⟩
set_option maxRecDepth 100000 in
theorem frX3_addToLoop {S : MS} {x1 : Int32} {x2 : Int32} {x3 : Int32} {Q : Int32 → MS → Prop} (hw : wfC S) (h : wX3_addToLoop S x1 x2 x3 Q) : wX3_addToLoop S x1 x2 x3 (fun r u => Q r u ∧ cfr [210, 211, 212] [] S u) := by
  have f : cfr [210, 211, 212] [] S S := cfr.rf
  unfold wX3_addToLoop at h ⊢
  refine ⟨h.1, ?_⟩
  replace h := h.2
  refine ⟨fun c => ?_, fun c => ?_⟩
  · replace h := h.1 c
    exact ⟨h, f⟩
  · replace h := h.2 c
    refine ⟨h.1, ?_⟩
    replace h := h.2
    refine ⟨fun c => ?_, fun c => ?_⟩
    · replace h := h.1 c
      exact ⟨h, f⟩
    · replace h := h.2 c
      refine ⟨fun c => ?_, fun c => ?_⟩
      · replace h := h.1 c
        refine ⟨h.1, ?_⟩
        replace h := h.2
        intro S15 eS15 y1_ y2_
        replace h := h S15 eS15 y1_ y2_
        replace f := f.tr (show cfr [210, 211, 212] [] S S15 by rw [eS15]; exact cfr.aI y1_ (by decide))
        refine ⟨h.1, ?_⟩
        replace h := h.2
        refine ⟨h.1, ?_⟩
        replace h := h.2
        intro S21 eS21 y3_ y4_
        replace h := h S21 eS21 y3_ y4_
        replace f := f.tr (show cfr [210, 211, 212] [] S15 S21 by rw [eS21]; exact cfr.aI y3_ (by decide))
        refine ⟨h.1, ?_⟩
        replace h := h.2
        intro S24 eS24 y5_ y6_
        replace h := h S24 eS24 y5_ y6_
        replace f := f.tr (show cfr [210, 211, 212] [] S21 S24 by rw [eS24]; exact cfr.aI y5_ (by decide))
        exact ⟨h, f⟩
      · replace h := h.2 c
        exact ⟨h, f⟩
set_option maxRecDepth 100000 in
theorem fr_X4_makeRoom_L54 {S0 : MS} {Q : MS → Prop} : ∀ (n : Nat) {U54 : MS} {v54_0 : Nat} {v54_2 : Int32}, cfr [213, 214, 304] [(44, 0), (44, 1), (44, 2)] S0 U54 → w_X4_makeRoom_L54 Q n U54 v54_0 v54_2 → w_X4_makeRoom_L54 (fun u => Q u ∧ cfr [213, 214, 304] [(44, 0), (44, 1), (44, 2)] S0 u) n U54 v54_0 v54_2 := by
  intro n
  induction n with
  | zero => intro U54 v54_0 v54_2 f h; unfold w_X4_makeRoom_L54 at h; exact h.elim
  | succ n ih =>
    intro U54 v54_0 v54_2 f h
    unfold w_X4_makeRoom_L54 at h ⊢
    intro y1_ y2_
    replace h := h y1_ y2_
    refine ⟨h.1, ?_⟩
    replace h := h.2
    refine ⟨fun c => ?_, fun c => ?_⟩
    · replace h := h.1 c
      exact ⟨h, f⟩
    · replace h := h.2 c
      refine ⟨h.1, ?_⟩
      replace h := h.2
      refine ⟨h.1, ?_⟩
      replace h := h.2
      intro S21 eS21 y3_ y4_
      replace h := h S21 eS21 y3_ y4_
      replace f := f.tr (show cfr [213, 214, 304] [(44, 0), (44, 1), (44, 2)] U54 S21 by rw [eS21]; exact cfr.aI y3_ (by decide))
      intro a22 ea22 
      replace h := h a22 ea22 
      exact ih f h
set_option maxRecDepth 100000 in
theorem fr_X4_makeRoom_J36 {S0 : MS} {Q : MS → Prop} {U36 : MS} {v36_0 : Nat} (f : cfr [213, 214, 304] [(44, 0), (44, 1), (44, 2)] S0 U36) (h : w_X4_makeRoom_J36 Q U36 v36_0) : w_X4_makeRoom_J36 (fun u => Q u ∧ cfr [213, 214, 304] [(44, 0), (44, 1), (44, 2)] S0 u) U36 v36_0 := by
  unfold w_X4_makeRoom_J36 at h ⊢
  intro y5_ y6_
  replace h := h y5_ y6_
  refine ⟨h.1, ?_⟩
  replace h := h.2
  intro y7_
  replace h := h y7_
  obtain ⟨Q9, h0, h⟩ := h
  refine ⟨_, frJ7_fill_53178 y7_ (by decide) h0, ?_⟩
  intro S7 q8_ y9_ y10_
  replace h := h S7 q8_.1 y9_ y10_
  replace f := f.tr (q8_.2.mo (by decide) (by decide))
  refine ⟨h.1, ?_⟩
  replace h := h.2
  intro y11_
  replace h := h y11_
  obtain ⟨Q9, h0, h⟩ := h
  refine ⟨_, frJ7_fill_53178 y11_ (by decide) h0, ?_⟩
  intro S12 q12_ y13_ y14_
  replace h := h S12 q12_.1 y13_ y14_
  replace f := f.tr (q12_.2.mo (by decide) (by decide))
  obtain ⟨n9, h⟩ := h
  exact ⟨n9, fr_X4_makeRoom_L54 n9 f h⟩
set_option maxRecDepth 100000 in
theorem frX4_makeRoom {S : MS} {p0 : Nat} {x1 : Int32} {Q : MS → Prop} (hw : wfC S) (h : wX4_makeRoom S p0 x1 Q) : wX4_makeRoom S p0 x1 (fun u => Q u ∧ cfr [213, 214, 304] [(44, 0), (44, 1), (44, 2)] S u) := by
  have f : cfr [213, 214, 304] [(44, 0), (44, 1), (44, 2)] S S := cfr.rf
  unfold wX4_makeRoom at h ⊢
  refine ⟨h.1, ?_⟩
  replace h := h.2
  refine ⟨fun c => ?_, fun c => ?_⟩
  · replace h := h.1 c
    exact fr_X4_makeRoom_J36 f h
  · replace h := h.2 c
    refine ⟨h.1, ?_⟩
    replace h := h.2
    intro S28 eS28 y15_
    replace h := h S28 eS28 y15_
    replace f := f.tr (show cfr [213, 214, 304] [(44, 0), (44, 1), (44, 2)] S S28 by rw [eS28]; exact cfr.new hw (eS28 ▸ y15_))
    intro S30 eS30 y16_ y17_
    replace h := h S30 eS30 y16_ y17_
    replace f := f.tr (show cfr [213, 214, 304] [(44, 0), (44, 1), (44, 2)] S28 S30 by rw [eS30]; exact cfr.oR y16_ (by decide))
    refine ⟨h.1, ?_⟩
    replace h := h.2
    intro S35 eS35 y18_
    replace h := h S35 eS35 y18_
    replace f := f.tr (show cfr [213, 214, 304] [(44, 0), (44, 1), (44, 2)] S30 S35 by rw [eS35]; exact cfr.new y17_ (eS35 ▸ y18_))
    intro S37 eS37 y19_ y20_
    replace h := h S37 eS37 y19_ y20_
    replace f := f.tr (show cfr [213, 214, 304] [(44, 0), (44, 1), (44, 2)] S35 S37 by rw [eS37]; exact cfr.oR y19_ (by decide))
    refine ⟨h.1, ?_⟩
    replace h := h.2
    intro S42 eS42 y21_
    replace h := h S42 eS42 y21_
    replace f := f.tr (show cfr [213, 214, 304] [(44, 0), (44, 1), (44, 2)] S37 S42 by rw [eS42]; exact cfr.new y20_ (eS42 ▸ y21_))
    intro S44 eS44 y22_ y23_
    replace h := h S44 eS44 y22_ y23_
    replace f := f.tr (show cfr [213, 214, 304] [(44, 0), (44, 1), (44, 2)] S42 S44 by rw [eS44]; exact cfr.oR y22_ (by decide))
    exact fr_X4_makeRoom_J36 f h
set_option maxRecDepth 100000 in
theorem frX4_comeTo {S : MS} {p0 : Nat} {x1 : Int32} {x2 : Int32} {Q : MS → Prop} (hw : wfC S) (h : wX4_comeTo S p0 x1 x2 Q) : wX4_comeTo S p0 x1 x2 (fun u => Q u ∧ cfr [213, 214] [(44, 6)] S u) := by
  have f : cfr [213, 214] [(44, 6)] S S := cfr.rf
  unfold wX4_comeTo at h ⊢
  refine ⟨fun c => ?_, fun c => ?_⟩
  · replace h := h.1 c
    exact ⟨h, f⟩
  · replace h := h.2 c
    refine ⟨h.1, ?_⟩
    replace h := h.2
    refine ⟨fun c => ?_, fun c => ?_⟩
    · replace h := h.1 c
      exact ⟨h, f⟩
    · replace h := h.2 c
      refine ⟨h.1, ?_⟩
      replace h := h.2
      refine ⟨fun c => ?_, fun c => ?_⟩
      · replace h := h.1 c
        exact ⟨h, f⟩
      · replace h := h.2 c
        refine ⟨fun c => ?_, fun c => ?_⟩
        · replace h := h.1 c
          exact ⟨h, f⟩
        · replace h := h.2 c
          refine ⟨fun c => ?_, fun c => ?_⟩
          · replace h := h.1 c
            exact ⟨h, f⟩
          · replace h := h.2 c
            refine ⟨h.1, ?_⟩
            replace h := h.2
            refine ⟨h.1, ?_⟩
            replace h := h.2
            refine ⟨fun c => ?_, fun c => ?_⟩
            · replace h := h.1 c
              refine ⟨h.1, ?_⟩
              replace h := h.2
              refine ⟨h.1, ?_⟩
              replace h := h.2
              refine ⟨h.1, ?_⟩
              replace h := h.2
              intro S25 eS25 y1_ y2_
              replace h := h S25 eS25 y1_ y2_
              replace f := f.tr (show cfr [213, 214] [(44, 6)] S S25 by rw [eS25]; exact cfr.aI y1_ (by decide))
              refine ⟨h.1, ?_⟩
              replace h := h.2
              refine ⟨h.1, ?_⟩
              replace h := h.2
              refine ⟨h.1, ?_⟩
              replace h := h.2
              intro S33 eS33 y3_ y4_
              replace h := h S33 eS33 y3_ y4_
              replace f := f.tr (show cfr [213, 214] [(44, 6)] S25 S33 by rw [eS33]; exact cfr.aI y3_ (by decide))
              intro S34 eS34 y5_ y6_
              replace h := h S34 eS34 y5_ y6_
              replace f := f.tr (show cfr [213, 214] [(44, 6)] S33 S34 by rw [eS34]; exact cfr.oI y5_ (by decide))
              exact ⟨h, f⟩
            · replace h := h.2 c
              exact ⟨h, f⟩
set_option maxRecDepth 100000 in
theorem frX5_setStage {S : MS} {p1 : Nat} {Q : MS → Prop} (hw : wfC S) (h : wX5_setStage S p1 Q) : wX5_setStage S p1 (fun u => Q u ∧ cfr [402] [(45, 0), (45, 3), (45, 5)] S u) := by
  have f : cfr [402] [(45, 0), (45, 3), (45, 5)] S S := cfr.rf
  unfold wX5_setStage at h ⊢
  intro S1 eS1 y1_ y2_
  replace h := h S1 eS1 y1_ y2_
  replace f := f.tr (show cfr [402] [(45, 0), (45, 3), (45, 5)] S S1 by rw [eS1]; exact cfr.oR y1_ (by decide))
  intro y3_
  replace h := h y3_
  obtain ⟨Q9, h0, h⟩ := h
  refine ⟨_, frJ7_fill_d0a16 y3_ (by decide) h0, ?_⟩
  intro S3 q4_ y5_ y6_
  replace h := h S3 q4_.1 y5_ y6_
  replace f := f.tr (q4_.2.mo (by decide) (by decide))
  intro S5 eS5 y7_ y8_
  replace h := h S5 eS5 y7_ y8_
  replace f := f.tr (show cfr [402] [(45, 0), (45, 3), (45, 5)] S3 S5 by rw [eS5]; exact cfr.oI y7_ (by decide))
  intro S6 eS6 y9_ y10_
  replace h := h S6 eS6 y9_ y10_
  replace f := f.tr (show cfr [402] [(45, 0), (45, 3), (45, 5)] S5 S6 by rw [eS6]; exact cfr.oI y9_ (by decide))
  exact ⟨h, f⟩
set_option maxRecDepth 100000 in
theorem frX5_addArgument {S : MS} {y1 : Int64} {Q : Int32 → MS → Prop} (hw : wfC S) (h : wX5_addArgument S y1 Q) : wX5_addArgument S y1 (fun r u => Q r u ∧ cfr [403] [(45, 7)] S u) := by
  have f : cfr [403] [(45, 7)] S S := cfr.rf
  unfold wX5_addArgument at h ⊢
  refine ⟨fun c => ?_, fun c => ?_⟩
  · replace h := h.1 c
    refine ⟨h.1, ?_⟩
    replace h := h.2
    intro S3 eS3 y1_ y2_
    replace h := h S3 eS3 y1_ y2_
    replace f := f.tr (show cfr [403] [(45, 7)] S S3 by rw [eS3]; exact cfr.aJ y1_ (by decide))
    intro S5 eS5 y3_ y4_
    replace h := h S5 eS5 y3_ y4_
    replace f := f.tr (show cfr [403] [(45, 7)] S3 S5 by rw [eS5]; exact cfr.oI y3_ (by decide))
    exact ⟨h, f⟩
  · replace h := h.2 c
    exact ⟨h, f⟩
set_option maxRecDepth 100000 in
theorem fr_X5_heapAt_J21 {S0 : MS} {Q : Int32 → MS → Prop} {U21 : MS} (f : cfr [] [(45, 19)] S0 U21) (h : w_X5_heapAt_J21 Q U21) : w_X5_heapAt_J21 (fun r u => Q r u ∧ cfr [] [(45, 19)] S0 u) U21 := by
  unfold w_X5_heapAt_J21 at h ⊢
  intro y1_
  replace h := h y1_
  intro S2 eS2 y2_ y3_
  replace h := h S2 eS2 y2_ y3_
  replace f := f.tr (show cfr [] [(45, 19)] U21 S2 by rw [eS2]; exact cfr.oI y2_ (by decide))
  exact ⟨h, f⟩
set_option maxRecDepth 100000 in
theorem frX5_heapAt {S : MS} {x1 : Int32} {Q : Int32 → MS → Prop} (hw : wfC S) (h : wX5_heapAt S x1 Q) : wX5_heapAt S x1 (fun r u => Q r u ∧ cfr [] [(45, 19)] S u) := by
  have f : cfr [] [(45, 19)] S S := cfr.rf
  unfold wX5_heapAt at h ⊢
  refine ⟨fun c => ?_, fun c => ?_⟩
  · replace h := h.1 c
    exact fr_X5_heapAt_J21 f h
  · replace h := h.2 c
    refine ⟨fun c => ?_, fun c => ?_⟩
    · replace h := h.1 c
      exact fr_X5_heapAt_J21 f h
    · replace h := h.2 c
      refine ⟨fun c => ?_, fun c => ?_⟩
      · replace h := h.1 c
        refine ⟨h.1, ?_⟩
        replace h := h.2
        exact ⟨h, f⟩
      · replace h := h.2 c
        exact fr_X5_heapAt_J21 f h
set_option maxRecDepth 100000 in
theorem frX5_setFrame {S : MS} {x1 : Int32} {x2 : Int32} {Q : MS → Prop} (hw : wfC S) (h : wX5_setFrame S x1 x2 Q) : wX5_setFrame S x1 x2 (fun u => Q u ∧ cfr [217] [] S u) := by
  have f : cfr [217] [] S S := cfr.rf
  unfold wX5_setFrame at h ⊢
  refine ⟨fun c => ?_, fun c => ?_⟩
  · replace h := h.1 c
    exact ⟨h, f⟩
  · replace h := h.2 c
    refine ⟨fun c => ?_, fun c => ?_⟩
    · replace h := h.1 c
      exact ⟨h, f⟩
    · replace h := h.2 c
      refine ⟨h.1, ?_⟩
      replace h := h.2
      intro S6 eS6 y1_ y2_
      replace h := h S6 eS6 y1_ y2_
      replace f := f.tr (show cfr [217] [] S S6 by rw [eS6]; exact cfr.aI y1_ (by decide))
      exact ⟨h, f⟩
set_option maxRecDepth 100000 in
theorem fr_X5_setLocal_J36 {S0 : MS} {Q : MS → Prop} {U36 : MS} (f : cfr [404] [(45, 19)] S0 U36) (h : w_X5_setLocal_J36 Q U36) : w_X5_setLocal_J36 (fun u => Q u ∧ cfr [404] [(45, 19)] S0 u) U36 := by
  unfold w_X5_setLocal_J36 at h ⊢
  intro y1_
  replace h := h y1_
  intro S5 eS5 y2_ y3_
  replace h := h S5 eS5 y2_ y3_
  replace f := f.tr (show cfr [404] [(45, 19)] U36 S5 by rw [eS5]; exact cfr.oI y2_ (by decide))
  exact ⟨h, f⟩
set_option maxRecDepth 100000 in
theorem frX5_setLocal {S : MS} {x1 : Int32} {y2 : Int64} {Q : MS → Prop} (hw : wfC S) (h : wX5_setLocal S x1 y2 Q) : wX5_setLocal S x1 y2 (fun u => Q u ∧ cfr [404] [(45, 19)] S u) := by
  have f : cfr [404] [(45, 19)] S S := cfr.rf
  unfold wX5_setLocal at h ⊢
  intro a3 ea3 
  replace h := h a3 ea3 
  refine ⟨fun c => ?_, fun c => ?_⟩
  · replace h := h.1 c
    exact fr_X5_setLocal_J36 f h
  · replace h := h.2 c
    refine ⟨fun c => ?_, fun c => ?_⟩
    · replace h := h.1 c
      exact fr_X5_setLocal_J36 f h
    · replace h := h.2 c
      refine ⟨fun c => ?_, fun c => ?_⟩
      · replace h := h.1 c
        exact fr_X5_setLocal_J36 f h
      · replace h := h.2 c
        refine ⟨fun c => ?_, fun c => ?_⟩
        · replace h := h.1 c
          refine ⟨h.1, ?_⟩
          replace h := h.2
          intro S14 eS14 y4_ y5_
          replace h := h S14 eS14 y4_ y5_
          replace f := f.tr (show cfr [404] [(45, 19)] S S14 by rw [eS14]; exact cfr.aJ y4_ (by decide))
          exact ⟨h, f⟩
        · replace h := h.2 c
          exact fr_X5_setLocal_J36 f h
set_option maxRecDepth 100000 in
theorem fr_X5_localAt_J33 {S0 : MS} {Q : Int64 → MS → Prop} {U33 : MS} (f : cfr [] [(45, 19)] S0 U33) (h : w_X5_localAt_J33 Q U33) : w_X5_localAt_J33 (fun r u => Q r u ∧ cfr [] [(45, 19)] S0 u) U33 := by
  unfold w_X5_localAt_J33 at h ⊢
  intro y1_
  replace h := h y1_
  intro S5 eS5 y2_ y3_
  replace h := h S5 eS5 y2_ y3_
  replace f := f.tr (show cfr [] [(45, 19)] U33 S5 by rw [eS5]; exact cfr.oI y2_ (by decide))
  exact ⟨h, f⟩
set_option maxRecDepth 100000 in
theorem frX5_localAt {S : MS} {x1 : Int32} {Q : Int64 → MS → Prop} (hw : wfC S) (h : wX5_localAt S x1 Q) : wX5_localAt S x1 (fun r u => Q r u ∧ cfr [] [(45, 19)] S u) := by
  have f : cfr [] [(45, 19)] S S := cfr.rf
  unfold wX5_localAt at h ⊢
  intro a3 ea3 
  replace h := h a3 ea3 
  refine ⟨fun c => ?_, fun c => ?_⟩
  · replace h := h.1 c
    exact fr_X5_localAt_J33 f h
  · replace h := h.2 c
    refine ⟨fun c => ?_, fun c => ?_⟩
    · replace h := h.1 c
      exact fr_X5_localAt_J33 f h
    · replace h := h.2 c
      refine ⟨fun c => ?_, fun c => ?_⟩
      · replace h := h.1 c
        exact fr_X5_localAt_J33 f h
      · replace h := h.2 c
        refine ⟨fun c => ?_, fun c => ?_⟩
        · replace h := h.1 c
          refine ⟨h.1, ?_⟩
          replace h := h.2
          exact ⟨h, f⟩
        · replace h := h.2 c
          exact fr_X5_localAt_J33 f h
set_option maxRecDepth 100000 in
theorem fr_X5_push_J42 {S0 : MS} {Q : MS → Prop} {U42 : MS} (f : cfr [405] [(45, 14), (45, 19)] S0 U42) (h : w_X5_push_J42 Q U42) : w_X5_push_J42 (fun u => Q u ∧ cfr [405] [(45, 14), (45, 19)] S0 u) U42 := by
  unfold w_X5_push_J42 at h ⊢
  intro y1_
  replace h := h y1_
  intro S5 eS5 y2_ y3_
  replace h := h S5 eS5 y2_ y3_
  replace f := f.tr (show cfr [405] [(45, 14), (45, 19)] U42 S5 by rw [eS5]; exact cfr.oI y2_ (by decide))
  exact ⟨h, f⟩
set_option maxRecDepth 100000 in
theorem frX5_push {S : MS} {y1 : Int64} {Q : MS → Prop} (hw : wfC S) (h : wX5_push S y1 Q) : wX5_push S y1 (fun u => Q u ∧ cfr [405] [(45, 14), (45, 19)] S u) := by
  have f : cfr [405] [(45, 14), (45, 19)] S S := cfr.rf
  unfold wX5_push at h ⊢
  intro a3 ea3 
  replace h := h a3 ea3 
  refine ⟨fun c => ?_, fun c => ?_⟩
  · replace h := h.1 c
    exact fr_X5_push_J42 f h
  · replace h := h.2 c
    refine ⟨fun c => ?_, fun c => ?_⟩
    · replace h := h.1 c
      exact fr_X5_push_J42 f h
    · replace h := h.2 c
      refine ⟨fun c => ?_, fun c => ?_⟩
      · replace h := h.1 c
        exact fr_X5_push_J42 f h
      · replace h := h.2 c
        refine ⟨fun c => ?_, fun c => ?_⟩
        · replace h := h.1 c
          refine ⟨h.1, ?_⟩
          replace h := h.2
          intro S14 eS14 y4_ y5_
          replace h := h S14 eS14 y4_ y5_
          replace f := f.tr (show cfr [405] [(45, 14), (45, 19)] S S14 by rw [eS14]; exact cfr.aJ y4_ (by decide))
          intro S16 eS16 y6_ y7_
          replace h := h S16 eS16 y6_ y7_
          replace f := f.tr (show cfr [405] [(45, 14), (45, 19)] S14 S16 by rw [eS16]; exact cfr.oI y6_ (by decide))
          exact ⟨h, f⟩
        · replace h := h.2 c
          exact fr_X5_push_J42 f h
set_option maxRecDepth 100000 in
theorem fr_X5_pop_J45 {S0 : MS} {Q : Int64 → MS → Prop} {U45 : MS} (f : cfr [] [(45, 14), (45, 19)] S0 U45) (h : w_X5_pop_J45 Q U45) : w_X5_pop_J45 (fun r u => Q r u ∧ cfr [] [(45, 14), (45, 19)] S0 u) U45 := by
  unfold w_X5_pop_J45 at h ⊢
  intro y1_
  replace h := h y1_
  intro S6 eS6 y2_ y3_
  replace h := h S6 eS6 y2_ y3_
  replace f := f.tr (show cfr [] [(45, 14), (45, 19)] U45 S6 by rw [eS6]; exact cfr.oI y2_ (by decide))
  exact ⟨h, f⟩
set_option maxRecDepth 100000 in
theorem frX5_pop {S : MS} {Q : Int64 → MS → Prop} (hw : wfC S) (h : wX5_pop S Q) : wX5_pop S (fun r u => Q r u ∧ cfr [] [(45, 14), (45, 19)] S u) := by
  have f : cfr [] [(45, 14), (45, 19)] S S := cfr.rf
  unfold wX5_pop at h ⊢
  intro a4 ea4 
  replace h := h a4 ea4 
  refine ⟨fun c => ?_, fun c => ?_⟩
  · replace h := h.1 c
    exact fr_X5_pop_J45 f h
  · replace h := h.2 c
    refine ⟨fun c => ?_, fun c => ?_⟩
    · replace h := h.1 c
      exact fr_X5_pop_J45 f h
    · replace h := h.2 c
      refine ⟨fun c => ?_, fun c => ?_⟩
      · replace h := h.1 c
        exact fr_X5_pop_J45 f h
      · replace h := h.2 c
        refine ⟨fun c => ?_, fun c => ?_⟩
        · replace h := h.1 c
          intro S14 eS14 y4_ y5_
          replace h := h S14 eS14 y4_ y5_
          replace f := f.tr (show cfr [] [(45, 14), (45, 19)] S S14 by rw [eS14]; exact cfr.oI y4_ (by decide))
          refine ⟨h.1, ?_⟩
          replace h := h.2
          exact ⟨h, f⟩
        · replace h := h.2 c
          exact fr_X5_pop_J45 f h
set_option maxRecDepth 100000 in
theorem fr_X5_push__J9 {S0 : MS} {Q : MS → Prop} {U9 : MS} {v9_1 : Int32} (f : cfr [405] [(45, 14), (45, 19)] S0 U9) (h : w_X5_push__J9 Q U9 v9_1) : w_X5_push__J9 (fun u => Q u ∧ cfr [405] [(45, 14), (45, 19)] S0 u) U9 v9_1 := by
  unfold w_X5_push__J9 at h ⊢
  intro y1_
  replace h := h y1_
  refine ⟨fun c => ?_, fun c => ?_⟩
  · replace h := h.1 c
    obtain ⟨Q9, h0, h⟩ := h
    refine ⟨_, frX5_push y1_ h0, ?_⟩
    intro S3 q2_ y3_ y4_
    replace h := h S3 q2_.1 y3_ y4_
    replace f := f.tr (q2_.2.mo (by decide) (by decide))
    exact ⟨h, f⟩
  · replace h := h.2 c
    exact ⟨h, f⟩
set_option maxRecDepth 100000 in
theorem frX5_push_ {S : MS} {x1 : Int32} {y2 : Int64} {Q : MS → Prop} (hw : wfC S) (h : wX5_push_ S x1 y2 Q) : wX5_push_ S x1 y2 (fun u => Q u ∧ cfr [405] [(45, 14), (45, 19)] S u) := by
  have f : cfr [405] [(45, 14), (45, 19)] S S := cfr.rf
  unfold wX5_push_ at h ⊢
  refine ⟨fun c => ?_, fun c => ?_⟩
  · replace h := h.1 c
    exact fr_X5_push__J9 f h
  · replace h := h.2 c
    obtain ⟨Q9, h0, h⟩ := h
    refine ⟨_, frX5_push hw h0, ?_⟩
    intro S7 q5_ y6_ y7_
    replace h := h S7 q5_.1 y6_ y7_
    replace f := f.tr (q5_.2.mo (by decide) (by decide))
    exact fr_X5_push__J9 f h
set_option maxRecDepth 100000 in
theorem fr_X5_pop__J10 {S0 : MS} {Q : Int64 → MS → Prop} {U10 : MS} {v10_1 : Int32} (f : cfr [] [(45, 14), (45, 19)] S0 U10) (h : w_X5_pop__J10 Q U10 v10_1) : w_X5_pop__J10 (fun r u => Q r u ∧ cfr [] [(45, 14), (45, 19)] S0 u) U10 v10_1 := by
  unfold w_X5_pop__J10 at h ⊢
  intro y1_
  replace h := h y1_
  refine ⟨fun c => ?_, fun c => ?_⟩
  · replace h := h.1 c
    exact ⟨h, f⟩
  · replace h := h.2 c
    obtain ⟨Q9, h0, h⟩ := h
    refine ⟨_, frX5_pop y1_ h0, ?_⟩
    intro r3 S4 q2_ y3_ y4_
    replace h := h r3 S4 q2_.1 y3_ y4_
    replace f := f.tr (q2_.2.mo (by decide) (by decide))
    exact ⟨h, f⟩
set_option maxRecDepth 100000 in
theorem frX5_pop_ {S : MS} {x1 : Int32} {Q : Int64 → MS → Prop} (hw : wfC S) (h : wX5_pop_ S x1 Q) : wX5_pop_ S x1 (fun r u => Q r u ∧ cfr [] [(45, 14), (45, 19)] S u) := by
  have f : cfr [] [(45, 14), (45, 19)] S S := cfr.rf
  unfold wX5_pop_ at h ⊢
  refine ⟨fun c => ?_, fun c => ?_⟩
  · replace h := h.1 c
    obtain ⟨Q9, h0, h⟩ := h
    refine ⟨_, frX5_pop hw h0, ?_⟩
    intro r8 S9 q5_ y6_ y7_
    replace h := h r8 S9 q5_.1 y6_ y7_
    replace f := f.tr (q5_.2.mo (by decide) (by decide))
    exact fr_X5_pop__J10 f h
  · replace h := h.2 c
    exact fr_X5_pop__J10 f h
set_option maxRecDepth 100000 in
theorem fr_X5_shuffle_J25 {S0 : MS} {Q : MS → Prop} {U25 : MS} {t25_0 : Int64} {v25_1 : Int32} {v25_2 : Int64} (f : cfr [405] [(45, 14), (45, 19)] S0 U25) (h : w_X5_shuffle_J25 Q U25 t25_0 v25_1 v25_2) : w_X5_shuffle_J25 (fun u => Q u ∧ cfr [405] [(45, 14), (45, 19)] S0 u) U25 t25_0 v25_1 v25_2 := by
  unfold w_X5_shuffle_J25 at h ⊢
  intro y1_
  replace h := h y1_
  refine ⟨fun c => ?_, fun c => ?_⟩
  · replace h := h.1 c
    obtain ⟨Q9, h0, h⟩ := h
    refine ⟨_, frX5_push y1_ h0, ?_⟩
    intro S6 q2_ y3_ y4_
    replace h := h S6 q2_.1 y3_ y4_
    replace f := f.tr (q2_.2.mo (by decide) (by decide))
    obtain ⟨Q9, h0, h⟩ := h
    refine ⟨_, frX5_push y3_ h0, ?_⟩
    intro S9 q5_ y6_ y7_
    replace h := h S9 q5_.1 y6_ y7_
    replace f := f.tr (q5_.2.mo (by decide) (by decide))
    exact ⟨h, f⟩
  · replace h := h.2 c
    refine ⟨fun c => ?_, fun c => ?_⟩
    · replace h := h.1 c
      obtain ⟨Q9, h0, h⟩ := h
      refine ⟨_, frX5_push y1_ h0, ?_⟩
      intro S12 q8_ y9_ y10_
      replace h := h S12 q8_.1 y9_ y10_
      replace f := f.tr (q8_.2.mo (by decide) (by decide))
      obtain ⟨Q9, h0, h⟩ := h
      refine ⟨_, frX5_push y9_ h0, ?_⟩
      intro S15 q11_ y12_ y13_
      replace h := h S15 q11_.1 y12_ y13_
      replace f := f.tr (q11_.2.mo (by decide) (by decide))
      obtain ⟨Q9, h0, h⟩ := h
      refine ⟨_, frX5_push y12_ h0, ?_⟩
      intro S18 q14_ y15_ y16_
      replace h := h S18 q14_.1 y15_ y16_
      replace f := f.tr (q14_.2.mo (by decide) (by decide))
      exact ⟨h, f⟩
    · replace h := h.2 c
      refine ⟨fun c => ?_, fun c => ?_⟩
      · replace h := h.1 c
        exact ⟨h, f⟩
      · replace h := h.2 c
        refine ⟨fun c => ?_, fun c => ?_⟩
        · replace h := h.1 c
          obtain ⟨Q9, h0, h⟩ := h
          refine ⟨_, frX5_push y1_ h0, ?_⟩
          intro S21 q17_ y18_ y19_
          replace h := h S21 q17_.1 y18_ y19_
          replace f := f.tr (q17_.2.mo (by decide) (by decide))
          obtain ⟨Q9, h0, h⟩ := h
          refine ⟨_, frX5_push y18_ h0, ?_⟩
          intro S24 q20_ y21_ y22_
          replace h := h S24 q20_.1 y21_ y22_
          replace f := f.tr (q20_.2.mo (by decide) (by decide))
          obtain ⟨Q9, h0, h⟩ := h
          refine ⟨_, frX5_push y21_ h0, ?_⟩
          intro S27 q23_ y24_ y25_
          replace h := h S27 q23_.1 y24_ y25_
          replace f := f.tr (q23_.2.mo (by decide) (by decide))
          obtain ⟨Q9, h0, h⟩ := h
          refine ⟨_, frX5_push y24_ h0, ?_⟩
          intro S30 q26_ y27_ y28_
          replace h := h S30 q26_.1 y27_ y28_
          replace f := f.tr (q26_.2.mo (by decide) (by decide))
          exact ⟨h, f⟩
        · replace h := h.2 c
          refine ⟨fun c => ?_, fun c => ?_⟩
          · replace h := h.1 c
            exact ⟨h, f⟩
          · replace h := h.2 c
            refine ⟨fun c => ?_, fun c => ?_⟩
            · replace h := h.1 c
              exact ⟨h, f⟩
            · replace h := h.2 c
              refine ⟨fun c => ?_, fun c => ?_⟩
              · replace h := h.1 c
                obtain ⟨Q9, h0, h⟩ := h
                refine ⟨_, frX5_push y1_ h0, ?_⟩
                intro S33 q29_ y30_ y31_
                replace h := h S33 q29_.1 y30_ y31_
                replace f := f.tr (q29_.2.mo (by decide) (by decide))
                obtain ⟨Q9, h0, h⟩ := h
                refine ⟨_, frX5_push y30_ h0, ?_⟩
                intro S36 q32_ y33_ y34_
                replace h := h S36 q32_.1 y33_ y34_
                replace f := f.tr (q32_.2.mo (by decide) (by decide))
                exact ⟨h, f⟩
              · replace h := h.2 c
                exact ⟨h, f⟩
set_option maxRecDepth 100000 in
theorem fr_X5_shuffle_J17 {S0 : MS} {Q : MS → Prop} {U17 : MS} {v17_1 : Int32} {v17_2 : Int64} (f : cfr [405] [(45, 14), (45, 19)] S0 U17) (h : w_X5_shuffle_J17 Q U17 v17_1 v17_2) : w_X5_shuffle_J17 (fun u => Q u ∧ cfr [405] [(45, 14), (45, 19)] S0 u) U17 v17_1 v17_2 := by
  unfold w_X5_shuffle_J17 at h ⊢
  intro y35_
  replace h := h y35_
  exact fr_X5_shuffle_J25 f h
set_option maxRecDepth 100000 in
theorem frX5_shuffle {S : MS} {x1 : Int32} {Q : MS → Prop} (hw : wfC S) (h : wX5_shuffle S x1 Q) : wX5_shuffle S x1 (fun u => Q u ∧ cfr [405] [(45, 14), (45, 19)] S u) := by
  have f : cfr [405] [(45, 14), (45, 19)] S S := cfr.rf
  unfold wX5_shuffle at h ⊢
  obtain ⟨Q9, h0, h⟩ := h
  refine ⟨_, frX5_pop hw h0, ?_⟩
  intro r2 S3 q36_ y37_ y38_
  replace h := h r2 S3 q36_.1 y37_ y38_
  replace f := f.tr (q36_.2.mo (by decide) (by decide))
  refine ⟨fun c => ?_, fun c => ?_⟩
  · replace h := h.1 c
    exact fr_X5_shuffle_J17 f h
  · replace h := h.2 c
    refine ⟨fun c => ?_, fun c => ?_⟩
    · replace h := h.1 c
      exact fr_X5_shuffle_J17 f h
    · replace h := h.2 c
      obtain ⟨Q9, h0, h⟩ := h
      refine ⟨_, frX5_pop y37_ h0, ?_⟩
      intro r41 S42 q39_ y40_ y41_
      replace h := h r41 S42 q39_.1 y40_ y41_
      replace f := f.tr (q39_.2.mo (by decide) (by decide))
      exact fr_X5_shuffle_J25 f h
set_option maxRecDepth 100000 in
theorem fr_X5_setField_J10 {S0 : MS} {Q : MS → Prop} {U10 : MS} (f : cfr [402] [(45, 19)] S0 U10) (h : w_X5_setField_J10 Q U10) : w_X5_setField_J10 (fun u => Q u ∧ cfr [402] [(45, 19)] S0 u) U10 := by
  unfold w_X5_setField_J10 at h ⊢
  intro y1_
  replace h := h y1_
  intro S2 eS2 y2_ y3_
  replace h := h S2 eS2 y2_ y3_
  replace f := f.tr (show cfr [402] [(45, 19)] U10 S2 by rw [eS2]; exact cfr.oI y2_ (by decide))
  exact ⟨h, f⟩
set_option maxRecDepth 100000 in
theorem frX5_setField {S : MS} {x1 : Int32} {y2 : Int64} {Q : MS → Prop} (hw : wfC S) (h : wX5_setField S x1 y2 Q) : wX5_setField S x1 y2 (fun u => Q u ∧ cfr [402] [(45, 19)] S u) := by
  have f : cfr [402] [(45, 19)] S S := cfr.rf
  unfold wX5_setField at h ⊢
  refine ⟨fun c => ?_, fun c => ?_⟩
  · replace h := h.1 c
    exact fr_X5_setField_J10 f h
  · replace h := h.2 c
    refine ⟨fun c => ?_, fun c => ?_⟩
    · replace h := h.1 c
      refine ⟨h.1, ?_⟩
      replace h := h.2
      intro S6 eS6 y4_ y5_
      replace h := h S6 eS6 y4_ y5_
      replace f := f.tr (show cfr [402] [(45, 19)] S S6 by rw [eS6]; exact cfr.aJ y4_ (by decide))
      exact ⟨h, f⟩
    · replace h := h.2 c
      exact fr_X5_setField_J10 f h
set_option maxRecDepth 100000 in
theorem fr_X6_placesOf_J22 {S0 : MS} {Q : Int32 → MS → Prop} {k4 k4' : MS → Int32 → Int32 → Prop} {U22 : MS} {t22_0 : Int32} {t22_1 : Int32} {v22_2 : Int32} (hk4 : ∀ (u : MS) (z0) (z1), cfr [] [] S0 u → k4 u z0 z1 → k4' u z0 z1) (f : cfr [] [] S0 U22) (h : w_X6_placesOf_J22 Q k4 U22 t22_0 t22_1 v22_2) : w_X6_placesOf_J22 (fun r u => Q r u ∧ cfr [] [] S0 u) k4' U22 t22_0 t22_1 v22_2 := by
  unfold w_X6_placesOf_J22 at h ⊢
  intro y1_
  replace h := h y1_
  intro a4 ea4 
  replace h := h a4 ea4 
  intro a6 ea6 
  replace h := h a6 ea6 
  exact hk4 _ _ _ f h
set_option maxRecDepth 100000 in
theorem fr_X6_placesOf_L4 {S0 : MS} {Q : Int32 → MS → Prop} : ∀ (n : Nat) {U4 : MS} {v4_1 : Int32} {v4_2 : Int32}, cfr [] [] S0 U4 → w_X6_placesOf_L4 Q n U4 v4_1 v4_2 → w_X6_placesOf_L4 (fun r u => Q r u ∧ cfr [] [] S0 u) n U4 v4_1 v4_2 := by
  intro n
  induction n with
  | zero => intro U4 v4_1 v4_2 f h; unfold w_X6_placesOf_L4 at h; exact h.elim
  | succ n ih =>
    intro U4 v4_1 v4_2 f h
    unfold w_X6_placesOf_L4 at h ⊢
    intro y2_
    replace h := h y2_
    refine ⟨fun c => ?_, fun c => ?_⟩
    · replace h := h.1 c
      exact ⟨h, f⟩
    · replace h := h.2 c
      refine ⟨fun c => ?_, fun c => ?_⟩
      · replace h := h.1 c
        exact fr_X6_placesOf_J22 (fun _ _ _ f h => ih f h) f h
      · replace h := h.2 c
        exact fr_X6_placesOf_J22 (fun _ _ _ f h => ih f h) f h
set_option maxRecDepth 100000 in
theorem frX6_placesOf {S : MS} {x0 : Int32} {Q : Int32 → MS → Prop} (hw : wfC S) (h : wX6_placesOf S x0 Q) : wX6_placesOf S x0 (fun r u => Q r u ∧ cfr [] [] S u) := by
  have f : cfr [] [] S S := cfr.rf
  unfold wX6_placesOf at h ⊢
  obtain ⟨n9, h⟩ := h
  exact ⟨n9, fr_X6_placesOf_L4 n9 f h⟩
set_option maxRecDepth 100000 in
theorem fr_X6_kindCount_L4 {S0 : MS} {Q : Int32 → MS → Prop} : ∀ (n : Nat) {U4 : MS} {v4_1 : Int32} {v4_2 : Int32}, cfr [] [] S0 U4 → w_X6_kindCount_L4 Q n U4 v4_1 v4_2 → w_X6_kindCount_L4 (fun r u => Q r u ∧ cfr [] [] S0 u) n U4 v4_1 v4_2 := by
  intro n
  induction n with
  | zero => intro U4 v4_1 v4_2 f h; unfold w_X6_kindCount_L4 at h; exact h.elim
  | succ n ih =>
    intro U4 v4_1 v4_2 f h
    unfold w_X6_kindCount_L4 at h ⊢
    intro y1_
    replace h := h y1_
    refine ⟨fun c => ?_, fun c => ?_⟩
    · replace h := h.1 c
      exact ⟨h, f⟩
    · replace h := h.2 c
      intro a2 ea2 
      replace h := h a2 ea2 
      intro a4 ea4 
      replace h := h a4 ea4 
      exact ih f h
set_option maxRecDepth 100000 in
theorem frX6_kindCount {S : MS} {x0 : Int32} {Q : Int32 → MS → Prop} (hw : wfC S) (h : wX6_kindCount S x0 Q) : wX6_kindCount S x0 (fun r u => Q r u ∧ cfr [] [] S u) := by
  have f : cfr [] [] S S := cfr.rf
  unfold wX6_kindCount at h ⊢
  obtain ⟨n9, h⟩ := h
  exact ⟨n9, fr_X6_kindCount_L4 n9 f h⟩
set_option maxRecDepth 100000 in
theorem frX6_kindAt {S : MS} {x0 : Int32} {x1 : Int32} {Q : Int32 → MS → Prop} (hw : wfC S) (h : wX6_kindAt S x0 x1 Q) : wX6_kindAt S x0 x1 (fun r u => Q r u ∧ cfr [] [] S u) := by
  have f : cfr [] [] S S := cfr.rf
  unfold wX6_kindAt at h ⊢
  obtain ⟨Q9, h0, h⟩ := h
  refine ⟨_, frX6_kindCount hw h0, ?_⟩
  intro r2 S3 q1_ y2_ y3_
  replace h := h r2 S3 q1_.1 y2_ y3_
  replace f := f.tr (q1_.2.mo (by decide) (by decide))
  exact ⟨h, f⟩
set_option maxRecDepth 100000 in
theorem frX7_breaks {S : MS} {x1 : Int32} {x2 : Int32} {Q : Int32 → MS → Prop} (hw : wfC S) (h : wX7_breaks S x1 x2 Q) : wX7_breaks S x1 x2 (fun r u => Q r u ∧ cfr [] [(46, 2), (46, 3)] S u) := by
  have f : cfr [] [(46, 2), (46, 3)] S S := cfr.rf
  unfold wX7_breaks at h ⊢
  intro S1 eS1 y1_ y2_
  replace h := h S1 eS1 y1_ y2_
  replace f := f.tr (show cfr [] [(46, 2), (46, 3)] S S1 by rw [eS1]; exact cfr.oI y1_ (by decide))
  intro S2 eS2 y3_ y4_
  replace h := h S2 eS2 y3_ y4_
  replace f := f.tr (show cfr [] [(46, 2), (46, 3)] S1 S2 by rw [eS2]; exact cfr.oI y3_ (by decide))
  exact ⟨h, f⟩
set_option maxRecDepth 100000 in
theorem fr_X7_isThere_J25 {S0 : MS} {Q : Int32 → MS → Prop} {U25 : MS} (f : cfr [] [(46, 2), (46, 3)] S0 U25) (h : w_X7_isThere_J25 Q U25) : w_X7_isThere_J25 (fun r u => Q r u ∧ cfr [] [(46, 2), (46, 3)] S0 u) U25 := by
  unfold w_X7_isThere_J25 at h ⊢
  intro y1_
  replace h := h y1_
  exact ⟨h, f⟩
set_option maxRecDepth 100000 in
theorem frX7_isThere {S : MS} {x1 : Int32} {Q : Int32 → MS → Prop} (hw : wfC S) (h : wX7_isThere S x1 Q) : wX7_isThere S x1 (fun r u => Q r u ∧ cfr [] [(46, 2), (46, 3)] S u) := by
  have f : cfr [] [(46, 2), (46, 3)] S S := cfr.rf
  unfold wX7_isThere at h ⊢
  refine ⟨fun c => ?_, fun c => ?_⟩
  · replace h := h.1 c
    exact fr_X7_isThere_J25 f h
  · replace h := h.2 c
    obtain ⟨Q9, h0, h⟩ := h
    refine ⟨_, frX7_breaks hw h0, ?_⟩
    intro r4 S5 q2_ y3_ y4_
    replace h := h r4 S5 q2_.1 y3_ y4_
    replace f := f.tr (q2_.2.mo (by decide) (by decide))
    refine ⟨fun c => ?_, fun c => ?_⟩
    · replace h := h.1 c
      exact ⟨h, f⟩
    · replace h := h.2 c
      exact fr_X7_isThere_J25 f h
set_option maxRecDepth 100000 in
theorem fr_X7_magicHolds_L2 {S0 : MS} {Q : Int32 → MS → Prop} : ∀ (n : Nat) {U2 : MS} {v2_1 : Int32}, cfr [] [(46, 2), (46, 3), (46, 15)] S0 U2 → w_X7_magicHolds_L2 Q n U2 v2_1 → w_X7_magicHolds_L2 (fun r u => Q r u ∧ cfr [] [(46, 2), (46, 3), (46, 15)] S0 u) n U2 v2_1 := by
  intro n
  induction n with
  | zero => intro U2 v2_1 f h; unfold w_X7_magicHolds_L2 at h; exact h.elim
  | succ n ih =>
    intro U2 v2_1 f h
    unfold w_X7_magicHolds_L2 at h ⊢
    intro y1_
    replace h := h y1_
    refine ⟨fun c => ?_, fun c => ?_⟩
    · replace h := h.1 c
      intro S4 eS4 y2_ y3_
      replace h := h S4 eS4 y2_ y3_
      replace f := f.tr (show cfr [] [(46, 2), (46, 3), (46, 15)] U2 S4 by rw [eS4]; exact cfr.oI y2_ (by decide))
      exact ⟨h, f⟩
    · replace h := h.2 c
      refine ⟨fun c => ?_, fun c => ?_⟩
      · replace h := h.1 c
        refine ⟨h.1, ?_⟩
        replace h := h.2
        refine ⟨h.1, ?_⟩
        replace h := h.2
        refine ⟨fun c => ?_, fun c => ?_⟩
        · replace h := h.1 c
          intro a12 ea12 
          replace h := h a12 ea12 
          exact ih f h
        · replace h := h.2 c
          obtain ⟨Q9, h0, h⟩ := h
          refine ⟨_, frX7_breaks y1_ h0, ?_⟩
          intro r14 S15 q4_ y5_ y6_
          replace h := h r14 S15 q4_.1 y5_ y6_
          replace f := f.tr (q4_.2.mo (by decide) (by decide))
          exact ⟨h, f⟩
      · replace h := h.2 c
        obtain ⟨Q9, h0, h⟩ := h
        refine ⟨_, frX7_breaks y1_ h0, ?_⟩
        intro r18 S19 q7_ y8_ y9_
        replace h := h r18 S19 q7_.1 y8_ y9_
        replace f := f.tr (q7_.2.mo (by decide) (by decide))
        exact ⟨h, f⟩
set_option maxRecDepth 100000 in
theorem frX7_magicHolds {S : MS} {Q : Int32 → MS → Prop} (hw : wfC S) (h : wX7_magicHolds S Q) : wX7_magicHolds S (fun r u => Q r u ∧ cfr [] [(46, 2), (46, 3), (46, 15)] S u) := by
  have f : cfr [] [(46, 2), (46, 3), (46, 15)] S S := cfr.rf
  unfold wX7_magicHolds at h ⊢
  obtain ⟨n9, h⟩ := h
  exact ⟨n9, fr_X7_magicHolds_L2 n9 f h⟩
set_option maxRecDepth 100000 in
theorem fr_X7_nameFits_J32 {S0 : MS} {Q : Int32 → MS → Prop} {U32 : MS} (f : cfr [] [(46, 2), (46, 3)] S0 U32) (h : w_X7_nameFits_J32 Q U32) : w_X7_nameFits_J32 (fun r u => Q r u ∧ cfr [] [(46, 2), (46, 3)] S0 u) U32 := by
  unfold w_X7_nameFits_J32 at h ⊢
  intro y1_
  replace h := h y1_
  obtain ⟨Q9, h0, h⟩ := h
  refine ⟨_, frX7_breaks y1_ h0, ?_⟩
  intro r12 S13 q2_ y3_ y4_
  replace h := h r12 S13 q2_.1 y3_ y4_
  replace f := f.tr (q2_.2.mo (by decide) (by decide))
  exact ⟨h, f⟩
set_option maxRecDepth 100000 in
theorem fr_X7_nameFits_J105 {S0 : MS} {Q : Int32 → MS → Prop} {U105 : MS} {v105_1 : Int32} (f : cfr [] [(46, 2), (46, 3)] S0 U105) (h : w_X7_nameFits_J105 Q U105 v105_1) : w_X7_nameFits_J105 (fun r u => Q r u ∧ cfr [] [(46, 2), (46, 3)] S0 u) U105 v105_1 := by
  unfold w_X7_nameFits_J105 at h ⊢
  intro y5_
  replace h := h y5_
  obtain ⟨Q9, h0, h⟩ := h
  refine ⟨_, frX7_isThere y5_ h0, ?_⟩
  intro r23 S24 q6_ y7_ y8_
  replace h := h r23 S24 q6_.1 y7_ y8_
  replace f := f.tr (q6_.2.mo (by decide) (by decide))
  exact ⟨h, f⟩
set_option maxRecDepth 100000 in
theorem fr_X7_nameFits_J89 {S0 : MS} {Q : Int32 → MS → Prop} {U89 : MS} (f : cfr [] [(46, 2), (46, 3)] S0 U89) (h : w_X7_nameFits_J89 Q U89) : w_X7_nameFits_J89 (fun r u => Q r u ∧ cfr [] [(46, 2), (46, 3)] S0 u) U89 := by
  unfold w_X7_nameFits_J89 at h ⊢
  intro y9_
  replace h := h y9_
  obtain ⟨Q9, h0, h⟩ := h
  refine ⟨_, frX7_breaks y9_ h0, ?_⟩
  intro r32 S33 q10_ y11_ y12_
  replace h := h r32 S33 q10_.1 y11_ y12_
  replace f := f.tr (q10_.2.mo (by decide) (by decide))
  exact ⟨h, f⟩
set_option maxRecDepth 100000 in
theorem fr_X7_nameFits_L49 {S0 : MS} {Q : Int32 → MS → Prop} : ∀ (n : Nat) {U49 : MS} {v49_1 : Int32} {v49_2 : Int32}, cfr [] [(46, 2), (46, 3)] S0 U49 → w_X7_nameFits_L49 Q n U49 v49_1 v49_2 → w_X7_nameFits_L49 (fun r u => Q r u ∧ cfr [] [(46, 2), (46, 3)] S0 u) n U49 v49_1 v49_2 := by
  intro n
  induction n with
  | zero => intro U49 v49_1 v49_2 f h; unfold w_X7_nameFits_L49 at h; exact h.elim
  | succ n ih =>
    intro U49 v49_1 v49_2 f h
    unfold w_X7_nameFits_L49 at h ⊢
    intro y13_
    replace h := h y13_
    refine ⟨fun c => ?_, fun c => ?_⟩
    · replace h := h.1 c
      exact fr_X7_nameFits_J105 f h
    · replace h := h.2 c
      refine ⟨fun c => ?_, fun c => ?_⟩
      · replace h := h.1 c
        exact fr_X7_nameFits_J105 f h
      · replace h := h.2 c
        refine ⟨h.1, ?_⟩
        replace h := h.2
        refine ⟨fun c => ?_, fun c => ?_⟩
        · replace h := h.1 c
          exact fr_X7_nameFits_J89 f h
        · replace h := h.2 c
          refine ⟨h.1, ?_⟩
          replace h := h.2
          refine ⟨fun c => ?_, fun c => ?_⟩
          · replace h := h.1 c
            intro a40 ea40 
            replace h := h a40 ea40 
            exact ih f h
          · replace h := h.2 c
            exact fr_X7_nameFits_J89 f h
set_option maxRecDepth 100000 in
theorem frX7_nameFits {S : MS} {Q : Int32 → MS → Prop} (hw : wfC S) (h : wX7_nameFits S Q) : wX7_nameFits S (fun r u => Q r u ∧ cfr [] [(46, 2), (46, 3)] S u) := by
  have f : cfr [] [(46, 2), (46, 3)] S S := cfr.rf
  unfold wX7_nameFits at h ⊢
  obtain ⟨Q9, h0, h⟩ := h
  refine ⟨_, frX7_isThere hw h0, ?_⟩
  intro r2 S3 q14_ y15_ y16_
  replace h := h r2 S3 q14_.1 y15_ y16_
  replace f := f.tr (q14_.2.mo (by decide) (by decide))
  refine ⟨fun c => ?_, fun c => ?_⟩
  · replace h := h.1 c
    exact ⟨h, f⟩
  · replace h := h.2 c
    refine ⟨h.1, ?_⟩
    replace h := h.2
    intro a10 ea10 
    replace h := h a10 ea10 
    refine ⟨fun c => ?_, fun c => ?_⟩
    · replace h := h.1 c
      exact fr_X7_nameFits_J32 f h
    · replace h := h.2 c
      refine ⟨fun c => ?_, fun c => ?_⟩
      · replace h := h.1 c
        intro a18 ea18 
        replace h := h a18 ea18 
        obtain ⟨n9, h⟩ := h
        exact ⟨n9, fr_X7_nameFits_L49 n9 f h⟩
      · replace h := h.2 c
        exact fr_X7_nameFits_J32 f h
set_option maxRecDepth 100000 in
theorem frX7_headFits {S : MS} {Q : Int32 → MS → Prop} (hw : wfC S) (h : wX7_headFits S Q) : wX7_headFits S (fun r u => Q r u ∧ cfr [] [(46, 2), (46, 3), (46, 6), (46, 15)] S u) := by
  have f : cfr [] [(46, 2), (46, 3), (46, 6), (46, 15)] S S := cfr.rf
  unfold wX7_headFits at h ⊢
  intro S1 eS1 y1_ y2_
  replace h := h S1 eS1 y1_ y2_
  replace f := f.tr (show cfr [] [(46, 2), (46, 3), (46, 6), (46, 15)] S S1 by rw [eS1]; exact cfr.oI y1_ (by decide))
  obtain ⟨Q9, h0, h⟩ := h
  refine ⟨_, frX7_isThere y2_ h0, ?_⟩
  intro r3 S4 q3_ y4_ y5_
  replace h := h r3 S4 q3_.1 y4_ y5_
  replace f := f.tr (q3_.2.mo (by decide) (by decide))
  refine ⟨fun c => ?_, fun c => ?_⟩
  · replace h := h.1 c
    exact ⟨h, f⟩
  · replace h := h.2 c
    intro S8 eS8 y6_ y7_
    replace h := h S8 eS8 y6_ y7_
    replace f := f.tr (show cfr [] [(46, 2), (46, 3), (46, 6), (46, 15)] S4 S8 by rw [eS8]; exact cfr.oI y6_ (by decide))
    exact ⟨h, f⟩
set_option maxRecDepth 100000 in
theorem fr_X7_attributesFit_L31 {S0 : MS} {Q : Int32 → MS → Prop} : ∀ (n : Nat) {U31 : MS} {v31_1 : Int32} {v31_2 : Int32}, cfr [] [(46, 2), (46, 3), (46, 15)] S0 U31 → w_X7_attributesFit_L31 Q n U31 v31_1 v31_2 → w_X7_attributesFit_L31 (fun r u => Q r u ∧ cfr [] [(46, 2), (46, 3), (46, 15)] S0 u) n U31 v31_1 v31_2 := by
  intro n
  induction n with
  | zero => intro U31 v31_1 v31_2 f h; unfold w_X7_attributesFit_L31 at h; exact h.elim
  | succ n ih =>
    intro U31 v31_1 v31_2 f h
    unfold w_X7_attributesFit_L31 at h ⊢
    intro y1_
    replace h := h y1_
    refine ⟨fun c => ?_, fun c => ?_⟩
    · replace h := h.1 c
      exact ⟨h, f⟩
    · replace h := h.2 c
      obtain ⟨Q9, h0, h⟩ := h
      refine ⟨_, frX7_isThere y1_ h0, ?_⟩
      intro r14 S15 q2_ y3_ y4_
      replace h := h r14 S15 q2_.1 y3_ y4_
      replace f := f.tr (q2_.2.mo (by decide) (by decide))
      refine ⟨fun c => ?_, fun c => ?_⟩
      · replace h := h.1 c
        exact ⟨h, f⟩
      · replace h := h.2 c
        refine ⟨h.1, ?_⟩
        replace h := h.2
        intro a22 ea22 
        replace h := h a22 ea22 
        intro S24 eS24 y5_ y6_
        replace h := h S24 eS24 y5_ y6_
        replace f := f.tr (show cfr [] [(46, 2), (46, 3), (46, 15)] S15 S24 by rw [eS24]; exact cfr.oI y5_ (by decide))
        refine ⟨fun c => ?_, fun c => ?_⟩
        · replace h := h.1 c
          intro S29 eS29 y7_ y8_
          replace h := h S29 eS29 y7_ y8_
          replace f := f.tr (show cfr [] [(46, 2), (46, 3), (46, 15)] S24 S29 by rw [eS29]; exact cfr.oI y7_ (by decide))
          intro a30 ea30 
          replace h := h a30 ea30 
          exact ih f h
        · replace h := h.2 c
          obtain ⟨Q9, h0, h⟩ := h
          refine ⟨_, frX7_breaks y6_ h0, ?_⟩
          intro r32 S33 q9_ y10_ y11_
          replace h := h r32 S33 q9_.1 y10_ y11_
          replace f := f.tr (q9_.2.mo (by decide) (by decide))
          exact ⟨h, f⟩
set_option maxRecDepth 100000 in
theorem frX7_attributesFit {S : MS} {Q : Int32 → MS → Prop} (hw : wfC S) (h : wX7_attributesFit S Q) : wX7_attributesFit S (fun r u => Q r u ∧ cfr [] [(46, 2), (46, 3), (46, 15)] S u) := by
  have f : cfr [] [(46, 2), (46, 3), (46, 15)] S S := cfr.rf
  unfold wX7_attributesFit at h ⊢
  obtain ⟨Q9, h0, h⟩ := h
  refine ⟨_, frX7_isThere hw h0, ?_⟩
  intro r2 S3 q12_ y13_ y14_
  replace h := h r2 S3 q12_.1 y13_ y14_
  replace f := f.tr (q12_.2.mo (by decide) (by decide))
  refine ⟨fun c => ?_, fun c => ?_⟩
  · replace h := h.1 c
    exact ⟨h, f⟩
  · replace h := h.2 c
    refine ⟨h.1, ?_⟩
    replace h := h.2
    intro a9 ea9 
    replace h := h a9 ea9 
    intro S11 eS11 y15_ y16_
    replace h := h S11 eS11 y15_ y16_
    replace f := f.tr (show cfr [] [(46, 2), (46, 3), (46, 15)] S3 S11 by rw [eS11]; exact cfr.oI y15_ (by decide))
    obtain ⟨n9, h⟩ := h
    exact ⟨n9, fr_X7_attributesFit_L31 n9 f h⟩
set_option maxRecDepth 100000 in
theorem fr_X7_entryPoints_J127 {S0 : MS} {Q : Int32 → MS → Prop} {U127 : MS} (f : cfr [] [] S0 U127) (h : w_X7_entryPoints_J127 Q U127) : w_X7_entryPoints_J127 (fun r u => Q r u ∧ cfr [] [] S0 u) U127 := by
  unfold w_X7_entryPoints_J127 at h ⊢
  intro y1_
  replace h := h y1_
  exact ⟨h, f⟩
set_option maxRecDepth 100000 in
theorem fr_X7_entryPoints_J95 {S0 : MS} {Q : Int32 → MS → Prop} {U95 : MS} {v95_1 : Int32} (f : cfr [] [] S0 U95) (h : w_X7_entryPoints_J95 Q U95 v95_1) : w_X7_entryPoints_J95 (fun r u => Q r u ∧ cfr [] [] S0 u) U95 v95_1 := by
  unfold w_X7_entryPoints_J95 at h ⊢
  intro y2_
  replace h := h y2_
  refine ⟨h.1, ?_⟩
  replace h := h.2
  intro a8 ea8 
  replace h := h a8 ea8 
  refine ⟨h.1, ?_⟩
  replace h := h.2
  intro a12 ea12 
  replace h := h a12 ea12 
  refine ⟨fun c => ?_, fun c => ?_⟩
  · replace h := h.1 c
    refine ⟨h.1, ?_⟩
    replace h := h.2
    intro a17 ea17 
    replace h := h a17 ea17 
    refine ⟨h.1, ?_⟩
    replace h := h.2
    intro a21 ea21 
    replace h := h a21 ea21 
    refine ⟨fun c => ?_, fun c => ?_⟩
    · replace h := h.1 c
      exact ⟨h, f⟩
    · replace h := h.2 c
      exact fr_X7_entryPoints_J127 f h
  · replace h := h.2 c
    exact fr_X7_entryPoints_J127 f h
set_option maxRecDepth 100000 in
theorem fr_X7_entryPoints_J93 {S0 : MS} {Q : Int32 → MS → Prop} {U93 : MS} (f : cfr [] [] S0 U93) (h : w_X7_entryPoints_J93 Q U93) : w_X7_entryPoints_J93 (fun r u => Q r u ∧ cfr [] [] S0 u) U93 := by
  unfold w_X7_entryPoints_J93 at h ⊢
  intro y3_
  replace h := h y3_
  exact ⟨h, f⟩
set_option maxRecDepth 100000 in
theorem frX7_entryPoints {S : MS} {x1 : Int32} {Q : Int32 → MS → Prop} (hw : wfC S) (h : wX7_entryPoints S x1 Q) : wX7_entryPoints S x1 (fun r u => Q r u ∧ cfr [] [] S u) := by
  have f : cfr [] [] S S := cfr.rf
  unfold wX7_entryPoints at h ⊢
  refine ⟨h.1, ?_⟩
  replace h := h.2
  intro a4 ea4 
  replace h := h a4 ea4 
  refine ⟨fun c => ?_, fun c => ?_⟩
  · replace h := h.1 c
    refine ⟨h.1, ?_⟩
    replace h := h.2
    intro a26 ea26 
    replace h := h a26 ea26 
    refine ⟨h.1, ?_⟩
    replace h := h.2
    intro a30 ea30 
    replace h := h a30 ea30 
    refine ⟨fun c => ?_, fun c => ?_⟩
    · replace h := h.1 c
      exact ⟨h, f⟩
    · replace h := h.2 c
      exact ⟨h, f⟩
  · replace h := h.2 c
    refine ⟨fun c => ?_, fun c => ?_⟩
    · replace h := h.1 c
      exact ⟨h, f⟩
    · replace h := h.2 c
      refine ⟨fun c => ?_, fun c => ?_⟩
      · replace h := h.1 c
        exact fr_X7_entryPoints_J95 f h
      · replace h := h.2 c
        refine ⟨fun c => ?_, fun c => ?_⟩
        · replace h := h.1 c
          exact fr_X7_entryPoints_J95 f h
        · replace h := h.2 c
          refine ⟨fun c => ?_, fun c => ?_⟩
          · replace h := h.1 c
            exact ⟨h, f⟩
          · replace h := h.2 c
            refine ⟨fun c => ?_, fun c => ?_⟩
            · replace h := h.1 c
              refine ⟨h.1, ?_⟩
              replace h := h.2
              intro a35 ea35 
              replace h := h a35 ea35 
              refine ⟨h.1, ?_⟩
              replace h := h.2
              intro a39 ea39 
              replace h := h a39 ea39 
              refine ⟨fun c => ?_, fun c => ?_⟩
              · replace h := h.1 c
                refine ⟨h.1, ?_⟩
                replace h := h.2
                intro a44 ea44 
                replace h := h a44 ea44 
                refine ⟨h.1, ?_⟩
                replace h := h.2
                intro a48 ea48 
                replace h := h a48 ea48 
                refine ⟨fun c => ?_, fun c => ?_⟩
                · replace h := h.1 c
                  exact ⟨h, f⟩
                · replace h := h.2 c
                  exact fr_X7_entryPoints_J93 f h
              · replace h := h.2 c
                exact fr_X7_entryPoints_J93 f h
            · replace h := h.2 c
              exact ⟨h, f⟩
set_option maxRecDepth 100000 in
theorem fr_X7_flagsHold_L26 {S0 : MS} {Q : Int32 → MS → Prop} : ∀ (n : Nat) {U26 : MS} {v26_1 : Int32}, cfr [] [(46, 2), (46, 3)] S0 U26 → w_X7_flagsHold_L26 Q n U26 v26_1 → w_X7_flagsHold_L26 (fun r u => Q r u ∧ cfr [] [(46, 2), (46, 3)] S0 u) n U26 v26_1 := by
  intro n
  induction n with
  | zero => intro U26 v26_1 f h; unfold w_X7_flagsHold_L26 at h; exact h.elim
  | succ n ih =>
    intro U26 v26_1 f h
    unfold w_X7_flagsHold_L26 at h ⊢
    intro y1_
    replace h := h y1_
    refine ⟨fun c => ?_, fun c => ?_⟩
    · replace h := h.1 c
      exact ⟨h, f⟩
    · replace h := h.2 c
      refine ⟨h.1, ?_⟩
      replace h := h.2
      intro a11 ea11 
      replace h := h a11 ea11 
      refine ⟨h.1, ?_⟩
      replace h := h.2
      intro a15 ea15 
      replace h := h a15 ea15 
      refine ⟨fun c => ?_, fun c => ?_⟩
      · replace h := h.1 c
        intro a17 ea17 
        replace h := h a17 ea17 
        exact ih f h
      · replace h := h.2 c
        refine ⟨h.1, ?_⟩
        replace h := h.2
        intro a21 ea21 
        replace h := h a21 ea21 
        obtain ⟨Q9, h0, h⟩ := h
        refine ⟨_, frX7_breaks y1_ h0, ?_⟩
        intro r23 S24 q2_ y3_ y4_
        replace h := h r23 S24 q2_.1 y3_ y4_
        replace f := f.tr (q2_.2.mo (by decide) (by decide))
        exact ⟨h, f⟩
set_option maxRecDepth 100000 in
theorem frX7_flagsHold {S : MS} {Q : Int32 → MS → Prop} (hw : wfC S) (h : wX7_flagsHold S Q) : wX7_flagsHold S (fun r u => Q r u ∧ cfr [] [(46, 2), (46, 3)] S u) := by
  have f : cfr [] [(46, 2), (46, 3)] S S := cfr.rf
  unfold wX7_flagsHold at h ⊢
  refine ⟨h.1, ?_⟩
  replace h := h.2
  intro a4 ea4 
  replace h := h a4 ea4 
  refine ⟨fun c => ?_, fun c => ?_⟩
  · replace h := h.1 c
    obtain ⟨n9, h⟩ := h
    exact ⟨n9, fr_X7_flagsHold_L26 n9 f h⟩
  · replace h := h.2 c
    obtain ⟨Q9, h0, h⟩ := h
    refine ⟨_, frX7_breaks hw h0, ?_⟩
    intro r27 S28 q5_ y6_ y7_
    replace h := h r27 S28 q5_.1 y6_ y7_
    replace f := f.tr (q5_.2.mo (by decide) (by decide))
    exact ⟨h, f⟩
set_option maxRecDepth 100000 in
theorem fr_X7_headHolds_J94 {S0 : MS} {Q : Int32 → MS → Prop} {U94 : MS} (f : cfr [] [(46, 2), (46, 3)] S0 U94) (h : w_X7_headHolds_J94 Q U94) : w_X7_headHolds_J94 (fun r u => Q r u ∧ cfr [] [(46, 2), (46, 3)] S0 u) U94 := by
  unfold w_X7_headHolds_J94 at h ⊢
  intro y1_
  replace h := h y1_
  exact ⟨h, f⟩
set_option maxRecDepth 100000 in
theorem frX7_headHolds {S : MS} {Q : Int32 → MS → Prop} (hw : wfC S) (h : wX7_headHolds S Q) : wX7_headHolds S (fun r u => Q r u ∧ cfr [] [(46, 2), (46, 3)] S u) := by
  have f : cfr [] [(46, 2), (46, 3)] S S := cfr.rf
  unfold wX7_headHolds at h ⊢
  refine ⟨h.1, ?_⟩
  replace h := h.2
  intro a5 ea5 
  replace h := h a5 ea5 
  refine ⟨h.1, ?_⟩
  replace h := h.2
  intro a9 ea9 
  replace h := h a9 ea9 
  refine ⟨fun c => ?_, fun c => ?_⟩
  · replace h := h.1 c
    refine ⟨h.1, ?_⟩
    replace h := h.2
    intro a15 ea15 
    replace h := h a15 ea15 
    refine ⟨h.1, ?_⟩
    replace h := h.2
    intro a19 ea19 
    replace h := h a19 ea19 
    refine ⟨fun c => ?_, fun c => ?_⟩
    · replace h := h.1 c
      refine ⟨h.1, ?_⟩
      replace h := h.2
      intro a25 ea25 
      replace h := h a25 ea25 
      refine ⟨fun c => ?_, fun c => ?_⟩
      · replace h := h.1 c
        exact fr_X7_headHolds_J94 f h
      · replace h := h.2 c
        obtain ⟨Q9, h0, h⟩ := h
        refine ⟨_, frX7_breaks hw h0, ?_⟩
        intro r29 S30 q2_ y3_ y4_
        replace h := h r29 S30 q2_.1 y3_ y4_
        replace f := f.tr (q2_.2.mo (by decide) (by decide))
        refine ⟨fun c => ?_, fun c => ?_⟩
        · replace h := h.1 c
          exact ⟨h, f⟩
        · replace h := h.2 c
          exact fr_X7_headHolds_J94 f h
    · replace h := h.2 c
      obtain ⟨Q9, h0, h⟩ := h
      refine ⟨_, frX7_breaks hw h0, ?_⟩
      intro r35 S36 q5_ y6_ y7_
      replace h := h r35 S36 q5_.1 y6_ y7_
      replace f := f.tr (q5_.2.mo (by decide) (by decide))
      exact ⟨h, f⟩
  · replace h := h.2 c
    obtain ⟨Q9, h0, h⟩ := h
    refine ⟨_, frX7_breaks hw h0, ?_⟩
    intro r40 S41 q8_ y9_ y10_
    replace h := h r40 S41 q8_.1 y9_ y10_
    replace f := f.tr (q8_.2.mo (by decide) (by decide))
    exact ⟨h, f⟩
set_option maxRecDepth 100000 in
theorem fr_X7_isNameAt_J23 {S0 : MS} {Q : Int32 → MS → Prop} {U23 : MS} (f : cfr [] [(46, 2), (46, 3)] S0 U23) (h : w_X7_isNameAt_J23 Q U23) : w_X7_isNameAt_J23 (fun r u => Q r u ∧ cfr [] [(46, 2), (46, 3)] S0 u) U23 := by
  unfold w_X7_isNameAt_J23 at h ⊢
  intro y1_
  replace h := h y1_
  exact ⟨h, f⟩
set_option maxRecDepth 100000 in
theorem frX7_isNameAt {S : MS} {x1 : Int32} {Q : Int32 → MS → Prop} (hw : wfC S) (h : wX7_isNameAt S x1 Q) : wX7_isNameAt S x1 (fun r u => Q r u ∧ cfr [] [(46, 2), (46, 3)] S u) := by
  have f : cfr [] [(46, 2), (46, 3)] S S := cfr.rf
  unfold wX7_isNameAt at h ⊢
  refine ⟨h.1, ?_⟩
  replace h := h.2
  intro a4 ea4 
  replace h := h a4 ea4 
  refine ⟨h.1, ?_⟩
  replace h := h.2
  intro a8 ea8 
  replace h := h a8 ea8 
  refine ⟨fun c => ?_, fun c => ?_⟩
  · replace h := h.1 c
    exact fr_X7_isNameAt_J23 f h
  · replace h := h.2 c
    obtain ⟨Q9, h0, h⟩ := h
    refine ⟨_, frX7_breaks hw h0, ?_⟩
    intro r11 S12 q2_ y3_ y4_
    replace h := h r11 S12 q2_.1 y3_ y4_
    replace f := f.tr (q2_.2.mo (by decide) (by decide))
    refine ⟨fun c => ?_, fun c => ?_⟩
    · replace h := h.1 c
      exact ⟨h, f⟩
    · replace h := h.2 c
      exact fr_X7_isNameAt_J23 f h
