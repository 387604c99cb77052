set_option maxRecDepth 100000 in
theorem fr_X9_findReached_J78 {S0 : MS} {Q : MS → Prop} {k50 k50' : MS → Int32 → Int32 → Int32 → Prop} {U78 : MS} {v78_1 : Int32} {v78_2 : Int32} {v78_3 : Int32} (hk50 : ∀ (u : MS) (z0) (z1) (z2), cfr [306] [] S0 u → k50 u z0 z1 z2 → k50' u z0 z1 z2) (f : cfr [306] [] S0 U78) (h : w_X9_findReached_J78 Q k50 U78 v78_1 v78_2 v78_3) : w_X9_findReached_J78 (fun u => Q u ∧ cfr [306] [] S0 u) k50' U78 v78_1 v78_2 v78_3 := by
  unfold w_X9_findReached_J78 at h ⊢
  intro y1_
  replace h := h y1_
  intro a13 ea13 
  replace h := h a13 ea13 
  exact hk50 _ _ _ _ f h
set_option maxRecDepth 100000 in
theorem fr_X9_findReached_J25 {S0 : MS} {Q : MS → Prop} {k2 k2' : MS → Int32 → Prop} {U25 : MS} {t25_0 : Int32} {t25_1 : Int32} {t25_2 : Nat} {v25_1 : Int32} (hk2 : ∀ (u : MS) (z0), cfr [306] [] S0 u → k2 u z0 → k2' u z0) (f : cfr [306] [] S0 U25) (h : w_X9_findReached_J25 Q k2 U25 t25_0 t25_1 t25_2 v25_1) : w_X9_findReached_J25 (fun u => Q u ∧ cfr [306] [] S0 u) k2' U25 t25_0 t25_1 t25_2 v25_1 := by
  unfold w_X9_findReached_J25 at h ⊢
  intro y2_ y3_ y4_
  replace h := h y2_ y3_ y4_
  refine ⟨h.1, ?_⟩
  replace h := h.2
  intro S23 eS23 y5_ y6_
  replace h := h S23 eS23 y5_ y6_
  replace f := f.tr (show cfr [306] [] U25 S23 by rw [eS23]; exact cfr.aI y5_ (by decide))
  intro a24 ea24 
  replace h := h a24 ea24 
  exact hk2 _ _ f h
set_option maxRecDepth 100000 in
theorem fr_X9_findReached_L50 {S0 : MS} {Q : MS → Prop} {k36 k36' : MS → Int32 → Int32 → Prop} (hk36 : ∀ (u : MS) (z0) (z1), cfr [306] [] S0 u → k36 u z0 z1 → k36' u z0 z1) : ∀ (n : Nat) {U50 : MS} {v50_1 : Int32} {v50_2 : Int32} {v50_3 : Int32}, cfr [306] [] S0 U50 → w_X9_findReached_L50 Q k36 n U50 v50_1 v50_2 v50_3 → w_X9_findReached_L50 (fun u => Q u ∧ cfr [306] [] S0 u) k36' n U50 v50_1 v50_2 v50_3 := by
  intro n
  induction n with
  | zero => intro U50 v50_1 v50_2 v50_3 f h; unfold w_X9_findReached_L50 at h; exact h.elim
  | succ n ih =>
    intro U50 v50_1 v50_2 v50_3 f h
    unfold w_X9_findReached_L50 at h ⊢
    intro y7_
    replace h := h y7_
    refine ⟨fun c => ?_, fun c => ?_⟩
    · replace h := h.1 c
      intro a8 ea8 
      replace h := h a8 ea8 
      exact hk36 _ _ _ f h
    · replace h := h.2 c
      refine ⟨h.1, ?_⟩
      replace h := h.2
      refine ⟨fun c => ?_, fun c => ?_⟩
      · replace h := h.1 c
        exact fr_X9_findReached_J78 (fun _ _ _ _ f h => ih f h) f h
      · replace h := h.2 c
        obtain ⟨Q9, h0, h⟩ := h
        refine ⟨_, frX9_reachFrom y7_ h0, ?_⟩
        intro r16 S17 q8_ y9_ y10_
        replace h := h r16 S17 q8_.1 y9_ y10_
        replace f := f.tr (q8_.2.mo (by decide) (by decide))
        intro a20 ea20 
        replace h := h a20 ea20 
        exact fr_X9_findReached_J78 (fun _ _ _ _ f h => ih f h) f h
set_option maxRecDepth 100000 in
theorem fr_X9_findReached_L36 {S0 : MS} {Q : MS → Prop} : ∀ (n : Nat) {U36 : MS} {v36_1 : Int32} {v36_2 : Int32}, cfr [306] [] S0 U36 → w_X9_findReached_L36 Q n U36 v36_1 v36_2 → w_X9_findReached_L36 (fun u => Q u ∧ cfr [306] [] S0 u) n U36 v36_1 v36_2 := by
  intro n
  induction n with
  | zero => intro U36 v36_1 v36_2 f h; unfold w_X9_findReached_L36 at h; exact h.elim
  | succ n ih =>
    intro U36 v36_1 v36_2 f h
    unfold w_X9_findReached_L36 at h ⊢
    intro y11_
    replace h := h y11_
    refine ⟨fun c => ?_, fun c => ?_⟩
    · replace h := h.1 c
      exact ⟨h, f⟩
    · replace h := h.2 c
      refine ⟨fun c => ?_, fun c => ?_⟩
      · replace h := h.1 c
        exact ⟨h, f⟩
      · replace h := h.2 c
        obtain ⟨n9, h⟩ := h
        exact ⟨n9, fr_X9_findReached_L50 (fun _ _ _ f h => ih f h) n9 f h⟩
set_option maxRecDepth 100000 in
theorem fr_X9_findReached_L2 {S0 : MS} {Q : MS → Prop} : ∀ (n : Nat) {U2 : MS} {v2_1 : Int32}, cfr [306] [] S0 U2 → w_X9_findReached_L2 Q n U2 v2_1 → w_X9_findReached_L2 (fun u => Q u ∧ cfr [306] [] S0 u) n U2 v2_1 := by
  intro n
  induction n with
  | zero => intro U2 v2_1 f h; unfold w_X9_findReached_L2 at h; exact h.elim
  | succ n ih =>
    intro U2 v2_1 f h
    unfold w_X9_findReached_L2 at h ⊢
    intro y12_
    replace h := h y12_
    refine ⟨fun c => ?_, fun c => ?_⟩
    · replace h := h.1 c
      obtain ⟨n9, h⟩ := h
      exact ⟨n9, fr_X9_findReached_L36 n9 f h⟩
    · replace h := h.2 c
      refine ⟨fun c => ?_, fun c => ?_⟩
      · replace h := h.1 c
        exact fr_X9_findReached_J25 (fun _ _ f h => ih f h) f h
      · replace h := h.2 c
        exact fr_X9_findReached_J25 (fun _ _ f h => ih f h) f h
set_option maxRecDepth 100000 in
theorem frX9_findReached {S : MS} {Q : MS → Prop} (hw : wfC S) (h : wX9_findReached S Q) : wX9_findReached S (fun u => Q u ∧ cfr [306] [] S u) := by
  have f : cfr [306] [] S S := cfr.rf
  unfold wX9_findReached at h ⊢
  obtain ⟨n9, h⟩ := h
  exact ⟨n9, fr_X9_findReached_L2 n9 f h⟩
set_option maxRecDepth 100000 in
theorem fr_X9_isPassedOn_J109 {S0 : MS} {Q : Int32 → MS → Prop} {U109 : MS} (f : cfr [] [] S0 U109) (h : w_X9_isPassedOn_J109 Q U109) : w_X9_isPassedOn_J109 (fun r u => Q r u ∧ cfr [] [] S0 u) U109 := by
  unfold w_X9_isPassedOn_J109 at h ⊢
  intro y1_
  replace h := h y1_
  exact ⟨h, f⟩
set_option maxRecDepth 100000 in
theorem fr_X9_isPassedOn_J61 {S0 : MS} {Q : Int32 → MS → Prop} {U61 : MS} {t61_0 : Int32} {v61_1 : Int32} (f : cfr [] [] S0 U61) (h : w_X9_isPassedOn_J61 Q U61 t61_0 v61_1) : w_X9_isPassedOn_J61 (fun r u => Q r u ∧ cfr [] [] S0 u) U61 t61_0 v61_1 := by
  unfold w_X9_isPassedOn_J61 at h ⊢
  intro y2_ y3_
  replace h := h y2_ y3_
  refine ⟨fun c => ?_, fun c => ?_⟩
  · replace h := h.1 c
    exact fr_X9_isPassedOn_J109 f h
  · replace h := h.2 c
    refine ⟨h.1, ?_⟩
    replace h := h.2
    refine ⟨h.1, ?_⟩
    replace h := h.2
    refine ⟨fun c => ?_, fun c => ?_⟩
    · replace h := h.1 c
      obtain ⟨Q9, h0, h⟩ := h
      refine ⟨_, frX9_liveBehind y2_ h0, ?_⟩
      intro r25 S26 q4_ y5_ y6_
      replace h := h r25 S26 q4_.1 y5_ y6_
      replace f := f.tr (q4_.2.mo (by decide) (by decide))
      refine ⟨h.1, ?_⟩
      replace h := h.2
      refine ⟨fun c => ?_, fun c => ?_⟩
      · replace h := h.1 c
        exact ⟨h, f⟩
      · replace h := h.2 c
        exact fr_X9_isPassedOn_J109 f h
    · replace h := h.2 c
      exact fr_X9_isPassedOn_J109 f h
set_option maxRecDepth 100000 in
theorem fr_X9_isPassedOn_J56 {S0 : MS} {Q : Int32 → MS → Prop} {U56 : MS} {v56_1 : Int32} (f : cfr [] [] S0 U56) (h : w_X9_isPassedOn_J56 Q U56 v56_1) : w_X9_isPassedOn_J56 (fun r u => Q r u ∧ cfr [] [] S0 u) U56 v56_1 := by
  unfold w_X9_isPassedOn_J56 at h ⊢
  intro y7_
  replace h := h y7_
  exact fr_X9_isPassedOn_J61 f h
set_option maxRecDepth 100000 in
theorem fr_X9_isPassedOn_J60 {S0 : MS} {Q : Int32 → MS → Prop} {U60 : MS} {v60_1 : Int32} (f : cfr [] [] S0 U60) (h : w_X9_isPassedOn_J60 Q U60 v60_1) : w_X9_isPassedOn_J60 (fun r u => Q r u ∧ cfr [] [] S0 u) U60 v60_1 := by
  unfold w_X9_isPassedOn_J60 at h ⊢
  intro y8_
  replace h := h y8_
  exact fr_X9_isPassedOn_J61 f h
set_option maxRecDepth 100000 in
theorem fr_X9_isPassedOn_J44 {S0 : MS} {Q : Int32 → MS → Prop} {U44 : MS} {v44_1 : Int32} {v44_2 : Int32} {v44_3 : Int32} (f : cfr [] [] S0 U44) (h : w_X9_isPassedOn_J44 Q U44 v44_1 v44_2 v44_3) : w_X9_isPassedOn_J44 (fun r u => Q r u ∧ cfr [] [] S0 u) U44 v44_1 v44_2 v44_3 := by
  unfold w_X9_isPassedOn_J44 at h ⊢
  intro y9_
  replace h := h y9_
  refine ⟨fun c => ?_, fun c => ?_⟩
  · replace h := h.1 c
    refine ⟨fun c => ?_, fun c => ?_⟩
    · replace h := h.1 c
      exact fr_X9_isPassedOn_J56 f h
    · replace h := h.2 c
      exact fr_X9_isPassedOn_J60 f h
  · replace h := h.2 c
    exact fr_X9_isPassedOn_J60 f h
set_option maxRecDepth 100000 in
theorem fr_X9_isPassedOn_J32 {S0 : MS} {Q : Int32 → MS → Prop} {U32 : MS} {v32_1 : Int32} {v32_2 : Int32} {v32_3 : Int32} (f : cfr [] [] S0 U32) (h : w_X9_isPassedOn_J32 Q U32 v32_1 v32_2 v32_3) : w_X9_isPassedOn_J32 (fun r u => Q r u ∧ cfr [] [] S0 u) U32 v32_1 v32_2 v32_3 := by
  unfold w_X9_isPassedOn_J32 at h ⊢
  intro y10_
  replace h := h y10_
  refine ⟨fun c => ?_, fun c => ?_⟩
  · replace h := h.1 c
    refine ⟨fun c => ?_, fun c => ?_⟩
    · replace h := h.1 c
      exact fr_X9_isPassedOn_J56 f h
    · replace h := h.2 c
      exact fr_X9_isPassedOn_J44 f h
  · replace h := h.2 c
    exact fr_X9_isPassedOn_J44 f h
set_option maxRecDepth 100000 in
theorem frX9_isPassedOn {S : MS} {x1 : Int32} {Q : Int32 → MS → Prop} (hw : wfC S) (h : wX9_isPassedOn S x1 Q) : wX9_isPassedOn S x1 (fun r u => Q r u ∧ cfr [] [] S u) := by
  have f : cfr [] [] S S := cfr.rf
  unfold wX9_isPassedOn at h ⊢
  refine ⟨h.1, ?_⟩
  replace h := h.2
  intro a5 ea5 
  replace h := h a5 ea5 
  refine ⟨h.1, ?_⟩
  replace h := h.2
  intro a11 ea11 
  replace h := h a11 ea11 
  refine ⟨fun c => ?_, fun c => ?_⟩
  · replace h := h.1 c
    refine ⟨fun c => ?_, fun c => ?_⟩
    · replace h := h.1 c
      exact fr_X9_isPassedOn_J56 f h
    · replace h := h.2 c
      exact fr_X9_isPassedOn_J32 f h
  · replace h := h.2 c
    exact fr_X9_isPassedOn_J32 f h
set_option maxRecDepth 100000 in
theorem fr_X9_isDeadStoreDone_J76 {S0 : MS} {Q : Int32 → MS → Prop} {U76 : MS} {t76_0 : Int32} {t76_1 : Int32} {t76_2 : Nat} (f : cfr [222, 223, 224, 225, 226, 227, 406] [(47, 2), (47, 9)] S0 U76) (h : w_X9_isDeadStoreDone_J76 Q U76 t76_0 t76_1 t76_2) : w_X9_isDeadStoreDone_J76 (fun r u => Q r u ∧ cfr [222, 223, 224, 225, 226, 227, 406] [(47, 2), (47, 9)] S0 u) U76 t76_0 t76_1 t76_2 := by
  unfold w_X9_isDeadStoreDone_J76 at h ⊢
  intro y1_ y2_
  replace h := h y1_ y2_
  intro y3_
  replace h := h y3_
  obtain ⟨Q9, h0, h⟩ := h
  refine ⟨_, frX8_set y1_ h0, ?_⟩
  intro S18 q4_ y5_ y6_
  replace h := h S18 q4_.1 y5_ y6_
  replace f := f.tr (q4_.2.mo (by decide) (by decide))
  exact ⟨h, f⟩
set_option maxRecDepth 100000 in
theorem fr_X9_isDeadStoreDone_J23 {S0 : MS} {Q : Int32 → MS → Prop} {U23 : MS} {v23_1 : Int32} {v23_2 : Int32} (f : cfr [222, 223, 224, 225, 226, 227, 406] [(47, 2), (47, 9)] S0 U23) (h : w_X9_isDeadStoreDone_J23 Q U23 v23_1 v23_2) : w_X9_isDeadStoreDone_J23 (fun r u => Q r u ∧ cfr [222, 223, 224, 225, 226, 227, 406] [(47, 2), (47, 9)] S0 u) U23 v23_1 v23_2 := by
  unfold w_X9_isDeadStoreDone_J23 at h ⊢
  intro y7_
  replace h := h y7_
  obtain ⟨Q9, h0, h⟩ := h
  refine ⟨_, frX9_liveBehind y7_ h0, ?_⟩
  intro r7 S8 q8_ y9_ y10_
  replace h := h r7 S8 q8_.1 y9_ y10_
  replace f := f.tr (q8_.2.mo (by decide) (by decide))
  refine ⟨h.1, ?_⟩
  replace h := h.2
  refine ⟨fun c => ?_, fun c => ?_⟩
  · replace h := h.1 c
    refine ⟨fun c => ?_, fun c => ?_⟩
    · replace h := h.1 c
      intro y11_
      replace h := h y11_
      obtain ⟨Q9, h0, h⟩ := h
      refine ⟨_, frX8_remove y9_ h0, ?_⟩
      intro S23 q12_ y13_ y14_
      replace h := h S23 q12_.1 y13_ y14_
      replace f := f.tr (q12_.2.mo (by decide) (by decide))
      exact ⟨h, f⟩
    · replace h := h.2 c
      refine ⟨fun c => ?_, fun c => ?_⟩
      · replace h := h.1 c
        exact fr_X9_isDeadStoreDone_J76 f h
      · replace h := h.2 c
        exact fr_X9_isDeadStoreDone_J76 f h
  · replace h := h.2 c
    exact ⟨h, f⟩
set_option maxRecDepth 100000 in
theorem frX9_isDeadStoreDone {S : MS} {x1 : Int32} {Q : Int32 → MS → Prop} (hw : wfC S) (h : wX9_isDeadStoreDone S x1 Q) : wX9_isDeadStoreDone S x1 (fun r u => Q r u ∧ cfr [222, 223, 224, 225, 226, 227, 406] [(47, 2), (47, 9)] S u) := by
  have f : cfr [222, 223, 224, 225, 226, 227, 406] [(47, 2), (47, 9)] S S := cfr.rf
  unfold wX9_isDeadStoreDone at h ⊢
  refine ⟨h.1, ?_⟩
  replace h := h.2
  intro a5 ea5 
  replace h := h a5 ea5 
  refine ⟨fun c => ?_, fun c => ?_⟩
  · replace h := h.1 c
    exact fr_X9_isDeadStoreDone_J23 f h
  · replace h := h.2 c
    refine ⟨h.1, ?_⟩
    replace h := h.2
    refine ⟨fun c => ?_, fun c => ?_⟩
    · replace h := h.1 c
      exact ⟨h, f⟩
    · replace h := h.2 c
      exact fr_X9_isDeadStoreDone_J23 f h
set_option maxRecDepth 100000 in
theorem fr_X9_liveBefore_J95 {S0 : MS} {Q : Int32 → MS → Prop} {k53 k53' : MS → Int32 → Int32 → Int32 → Prop} {U95 : MS} {v95_1 : Int32} {v95_3 : Int32} {v95_4 : Int32} (hk53 : ∀ (u : MS) (z0) (z1) (z2), cfr [] [] S0 u → k53 u z0 z1 z2 → k53' u z0 z1 z2) (f : cfr [] [] S0 U95) (h : w_X9_liveBefore_J95 Q k53 U95 v95_1 v95_3 v95_4) : w_X9_liveBefore_J95 (fun r u => Q r u ∧ cfr [] [] S0 u) k53' U95 v95_1 v95_3 v95_4 := by
  unfold w_X9_liveBefore_J95 at h ⊢
  intro y1_
  replace h := h y1_
  intro a19 ea19 
  replace h := h a19 ea19 
  exact hk53 _ _ _ _ f h
set_option maxRecDepth 100000 in
theorem fr_X9_liveBefore_L53 {S0 : MS} {Q : Int32 → MS → Prop} : ∀ (n : Nat) {U53 : MS} {v53_1 : Int32} {v53_3 : Int32} {v53_4 : Int32}, cfr [] [] S0 U53 → w_X9_liveBefore_L53 Q n U53 v53_1 v53_3 v53_4 → w_X9_liveBefore_L53 (fun r u => Q r u ∧ cfr [] [] S0 u) n U53 v53_1 v53_3 v53_4 := by
  intro n
  induction n with
  | zero => intro U53 v53_1 v53_3 v53_4 f h; unfold w_X9_liveBefore_L53 at h; exact h.elim
  | succ n ih =>
    intro U53 v53_1 v53_3 v53_4 f h
    unfold w_X9_liveBefore_L53 at h ⊢
    intro y2_
    replace h := h y2_
    refine ⟨fun c => ?_, fun c => ?_⟩
    · replace h := h.1 c
      exact ⟨h, f⟩
    · replace h := h.2 c
      refine ⟨h.1, ?_⟩
      replace h := h.2
      refine ⟨fun c => ?_, fun c => ?_⟩
      · replace h := h.1 c
        exact fr_X9_liveBefore_J95 (fun _ _ _ _ f h => ih f h) f h
      · replace h := h.2 c
        refine ⟨h.1, ?_⟩
        replace h := h.2
        refine ⟨h.1, ?_⟩
        replace h := h.2
        refine ⟨h.1, ?_⟩
        replace h := h.2
        intro a30 ea30 
        replace h := h a30 ea30 
        exact fr_X9_liveBefore_J95 (fun _ _ _ _ f h => ih f h) f h
set_option maxRecDepth 100000 in
theorem fr_X9_liveBefore_J50 {S0 : MS} {Q : Int32 → MS → Prop} {U50 : MS} {v50_1 : Int32} {v50_3 : Int32} (f : cfr [] [] S0 U50) (h : w_X9_liveBefore_J50 Q U50 v50_1 v50_3) : w_X9_liveBefore_J50 (fun r u => Q r u ∧ cfr [] [] S0 u) U50 v50_1 v50_3 := by
  unfold w_X9_liveBefore_J50 at h ⊢
  intro y3_
  replace h := h y3_
  obtain ⟨n9, h⟩ := h
  exact ⟨n9, fr_X9_liveBefore_L53 n9 f h⟩
set_option maxRecDepth 100000 in
theorem frX9_liveBefore {S : MS} {x1 : Int32} {Q : Int32 → MS → Prop} (hw : wfC S) (h : wX9_liveBefore S x1 Q) : wX9_liveBefore S x1 (fun r u => Q r u ∧ cfr [] [] S u) := by
  have f : cfr [] [] S S := cfr.rf
  unfold wX9_liveBefore at h ⊢
  refine ⟨h.1, ?_⟩
  replace h := h.2
  intro a5 ea5 
  replace h := h a5 ea5 
  obtain ⟨Q9, h0, h⟩ := h
  refine ⟨_, frX9_liveBehind hw h0, ?_⟩
  intro r7 S8 q4_ y5_ y6_
  replace h := h r7 S8 q4_.1 y5_ y6_
  replace f := f.tr (q4_.2.mo (by decide) (by decide))
  refine ⟨h.1, ?_⟩
  replace h := h.2
  refine ⟨fun c => ?_, fun c => ?_⟩
  · replace h := h.1 c
    refine ⟨h.1, ?_⟩
    replace h := h.2
    refine ⟨fun c => ?_, fun c => ?_⟩
    · replace h := h.1 c
      exact fr_X9_liveBefore_J50 f h
    · replace h := h.2 c
      refine ⟨h.1, ?_⟩
      replace h := h.2
      intro a40 ea40 
      replace h := h a40 ea40 
      exact fr_X9_liveBefore_J50 f h
  · replace h := h.2 c
    refine ⟨h.1, ?_⟩
    replace h := h.2
    intro a46 ea46 
    replace h := h a46 ea46 
    exact fr_X9_liveBefore_J50 f h
set_option maxRecDepth 100000 in
theorem fr_X11_begin_J293 {S0 : MS} {Q : MS → Prop} {U293 : MS} (f : cfr [101, 238, 239, 240, 241, 242, 243] [(40, 0), (40, 1), (50, 5), (50, 6), (50, 7), (50, 8), (50, 9)] S0 U293) (h : w_X11_begin_J293 Q U293) : w_X11_begin_J293 (fun u => Q u ∧ cfr [101, 238, 239, 240, 241, 242, 243] [(40, 0), (40, 1), (50, 5), (50, 6), (50, 7), (50, 8), (50, 9)] S0 u) U293 := by
  unfold w_X11_begin_J293 at h ⊢
  intro y1_
  replace h := h y1_
  refine ⟨h.1, ?_⟩
  replace h := h.2
  intro y2_
  replace h := h y2_
  obtain ⟨Q9, h0, h⟩ := h
  refine ⟨_, frX0_put2 y1_ h0, ?_⟩
  intro S71 q3_ y4_ y5_
  replace h := h S71 q3_.1 y4_ y5_
  replace f := f.tr (q3_.2.mo (by decide) (by decide))
  exact ⟨h, f⟩
set_option maxRecDepth 100000 in
theorem fr_X11_begin_J267 {S0 : MS} {Q : MS → Prop} {k155 k155' : MS → Int32 → Int32 → Prop} {U267 : MS} {t267_0 : Int32} {t267_1 : Int32} {v267_4 : Int32} {v267_5 : Int32} (hk155 : ∀ (u : MS) (z0) (z1), cfr [101, 238, 239, 240, 241, 242, 243] [(40, 0), (40, 1), (50, 5), (50, 6), (50, 7), (50, 8), (50, 9)] S0 u → k155 u z0 z1 → k155' u z0 z1) (f : cfr [101, 238, 239, 240, 241, 242, 243] [(40, 0), (40, 1), (50, 5), (50, 6), (50, 7), (50, 8), (50, 9)] S0 U267) (h : w_X11_begin_J267 Q k155 U267 t267_0 t267_1 v267_4 v267_5) : w_X11_begin_J267 (fun u => Q u ∧ cfr [101, 238, 239, 240, 241, 242, 243] [(40, 0), (40, 1), (50, 5), (50, 6), (50, 7), (50, 8), (50, 9)] S0 u) k155' U267 t267_0 t267_1 v267_4 v267_5 := by
  unfold w_X11_begin_J267 at h ⊢
  intro y6_
  replace h := h y6_
  refine ⟨h.1, ?_⟩
  replace h := h.2
  intro S84 eS84 y7_ y8_
  replace h := h S84 eS84 y7_ y8_
  replace f := f.tr (show cfr [101, 238, 239, 240, 241, 242, 243] [(40, 0), (40, 1), (50, 5), (50, 6), (50, 7), (50, 8), (50, 9)] U267 S84 by rw [eS84]; exact cfr.aI y7_ (by decide))
  refine ⟨h.1, ?_⟩
  replace h := h.2
  refine ⟨h.1, ?_⟩
  replace h := h.2
  obtain ⟨Q9, h0, h⟩ := h
  refine ⟨_, frX11_putMember y8_ h0, ?_⟩
  intro S90 q9_ y10_ y11_
  replace h := h S90 q9_.1 y10_ y11_
  replace f := f.tr (q9_.2.mo (by decide) (by decide))
  intro a93 ea93 
  replace h := h a93 ea93 
  exact hk155 _ _ _ f h
set_option maxRecDepth 100000 in
theorem fr_X11_begin_J232 {S0 : MS} {Q : MS → Prop} {k155 k155' : MS → Int32 → Int32 → Prop} {U232 : MS} {t232_0 : Int32} {t232_1 : Int32} {v232_4 : Int32} {v232_5 : Int32} {v232_6 : Int32} (hk155 : ∀ (u : MS) (z0) (z1), cfr [101, 238, 239, 240, 241, 242, 243] [(40, 0), (40, 1), (50, 5), (50, 6), (50, 7), (50, 8), (50, 9)] S0 u → k155 u z0 z1 → k155' u z0 z1) (f : cfr [101, 238, 239, 240, 241, 242, 243] [(40, 0), (40, 1), (50, 5), (50, 6), (50, 7), (50, 8), (50, 9)] S0 U232) (h : w_X11_begin_J232 Q k155 U232 t232_0 t232_1 v232_4 v232_5 v232_6) : w_X11_begin_J232 (fun u => Q u ∧ cfr [101, 238, 239, 240, 241, 242, 243] [(40, 0), (40, 1), (50, 5), (50, 6), (50, 7), (50, 8), (50, 9)] S0 u) k155' U232 t232_0 t232_1 v232_4 v232_5 v232_6 := by
  unfold w_X11_begin_J232 at h ⊢
  intro y12_ y13_
  replace h := h y12_ y13_
  refine ⟨h.1, ?_⟩
  replace h := h.2
  intro S82 eS82 y14_ y15_
  replace h := h S82 eS82 y14_ y15_
  replace f := f.tr (show cfr [101, 238, 239, 240, 241, 242, 243] [(40, 0), (40, 1), (50, 5), (50, 6), (50, 7), (50, 8), (50, 9)] U232 S82 by rw [eS82]; exact cfr.aI y14_ (by decide))
  refine ⟨fun c => ?_, fun c => ?_⟩
  · replace h := h.1 c
    intro y16_
    replace h := h y16_
    obtain ⟨Q9, h0, h⟩ := h
    refine ⟨_, frX11_textEntry y15_ h0, ?_⟩
    intro r97 S98 q17_ y18_ y19_
    replace h := h r97 S98 q17_.1 y18_ y19_
    replace f := f.tr (q17_.2.mo (by decide) (by decide))
    exact fr_X11_begin_J267 hk155 f h
  · replace h := h.2 c
    refine ⟨h.1, ?_⟩
    replace h := h.2
    refine ⟨h.1, ?_⟩
    replace h := h.2
    refine ⟨h.1, ?_⟩
    replace h := h.2
    obtain ⟨Q9, h0, h⟩ := h
    refine ⟨_, frX11_nameEntry y15_ h0, ?_⟩
    intro r108 S109 q20_ y21_ y22_
    replace h := h r108 S109 q20_.1 y21_ y22_
    replace f := f.tr (q20_.2.mo (by decide) (by decide))
    exact fr_X11_begin_J267 hk155 f h
set_option maxRecDepth 100000 in
theorem fr_X11_begin_J187 {S0 : MS} {Q : MS → Prop} {k155 k155' : MS → Int32 → Int32 → Prop} {U187 : MS} {t187_0 : Int32} {v187_4 : Int32} {v187_5 : Int32} (hk155 : ∀ (u : MS) (z0) (z1), cfr [101, 238, 239, 240, 241, 242, 243] [(40, 0), (40, 1), (50, 5), (50, 6), (50, 7), (50, 8), (50, 9)] S0 u → k155 u z0 z1 → k155' u z0 z1) (f : cfr [101, 238, 239, 240, 241, 242, 243] [(40, 0), (40, 1), (50, 5), (50, 6), (50, 7), (50, 8), (50, 9)] S0 U187) (h : w_X11_begin_J187 Q k155 U187 t187_0 v187_4 v187_5) : w_X11_begin_J187 (fun u => Q u ∧ cfr [101, 238, 239, 240, 241, 242, 243] [(40, 0), (40, 1), (50, 5), (50, 6), (50, 7), (50, 8), (50, 9)] S0 u) k155' U187 t187_0 v187_4 v187_5 := by
  unfold w_X11_begin_J187 at h ⊢
  intro y23_ y24_
  replace h := h y23_ y24_
  refine ⟨fun c => ?_, fun c => ?_⟩
  · replace h := h.1 c
    refine ⟨h.1, ?_⟩
    replace h := h.2
    refine ⟨h.1, ?_⟩
    replace h := h.2
    obtain ⟨Q9, h0, h⟩ := h
    refine ⟨_, frX11_counterEntry y23_ h0, ?_⟩
    intro r120 S121 q25_ y26_ y27_
    replace h := h r120 S121 q25_.1 y26_ y27_
    replace f := f.tr (q25_.2.mo (by decide) (by decide))
    exact fr_X11_begin_J232 hk155 f h
  · replace h := h.2 c
    refine ⟨h.1, ?_⟩
    replace h := h.2
    refine ⟨h.1, ?_⟩
    replace h := h.2
    refine ⟨h.1, ?_⟩
    replace h := h.2
    obtain ⟨Q9, h0, h⟩ := h
    refine ⟨_, frX11_nameEntry y23_ h0, ?_⟩
    intro r131 S132 q28_ y29_ y30_
    replace h := h r131 S132 q28_.1 y29_ y30_
    replace f := f.tr (q28_.2.mo (by decide) (by decide))
    exact fr_X11_begin_J232 hk155 f h
set_option maxRecDepth 100000 in
theorem fr_X11_begin_L155 {S0 : MS} {Q : MS → Prop} : ∀ (n : Nat) {U155 : MS} {v155_4 : Int32} {v155_5 : Int32}, cfr [101, 238, 239, 240, 241, 242, 243] [(40, 0), (40, 1), (50, 5), (50, 6), (50, 7), (50, 8), (50, 9)] S0 U155 → w_X11_begin_L155 Q n U155 v155_4 v155_5 → w_X11_begin_L155 (fun u => Q u ∧ cfr [101, 238, 239, 240, 241, 242, 243] [(40, 0), (40, 1), (50, 5), (50, 6), (50, 7), (50, 8), (50, 9)] S0 u) n U155 v155_4 v155_5 := by
  intro n
  induction n with
  | zero => intro U155 v155_4 v155_5 f h; unfold w_X11_begin_L155 at h; exact h.elim
  | succ n ih =>
    intro U155 v155_4 v155_5 f h
    unfold w_X11_begin_L155 at h ⊢
    intro y31_
    replace h := h y31_
    refine ⟨fun c => ?_, fun c => ?_⟩
    · replace h := h.1 c
      exact fr_X11_begin_J293 f h
    · replace h := h.2 c
      refine ⟨fun c => ?_, fun c => ?_⟩
      · replace h := h.1 c
        exact fr_X11_begin_J293 f h
      · replace h := h.2 c
        refine ⟨h.1, ?_⟩
        replace h := h.2
        refine ⟨h.1, ?_⟩
        replace h := h.2
        refine ⟨fun c => ?_, fun c => ?_⟩
        · replace h := h.1 c
          exact fr_X11_begin_J187 (fun _ _ _ f h => ih f h) f h
        · replace h := h.2 c
          exact fr_X11_begin_J187 (fun _ _ _ f h => ih f h) f h
set_option maxRecDepth 100000 in
theorem frX11_begin {S : MS} {p1 : Nat} {x2 : Int32} {Q : MS → Prop} (hw : wfC S) (h : wX11_begin S p1 x2 Q) : wX11_begin S p1 x2 (fun u => Q u ∧ cfr [101, 238, 239, 240, 241, 242, 243] [(40, 0), (40, 1), (50, 5), (50, 6), (50, 7), (50, 8), (50, 9)] S u) := by
  have f : cfr [101, 238, 239, 240, 241, 242, 243] [(40, 0), (40, 1), (50, 5), (50, 6), (50, 7), (50, 8), (50, 9)] S S := cfr.rf
  unfold wX11_begin at h ⊢
  intro S1 eS1 y32_ y33_
  replace h := h S1 eS1 y32_ y33_
  replace f := f.tr (show cfr [101, 238, 239, 240, 241, 242, 243] [(40, 0), (40, 1), (50, 5), (50, 6), (50, 7), (50, 8), (50, 9)] S S1 by rw [eS1]; exact cfr.oR y32_ (by decide))
  intro S2 eS2 y34_ y35_
  replace h := h S2 eS2 y34_ y35_
  replace f := f.tr (show cfr [101, 238, 239, 240, 241, 242, 243] [(40, 0), (40, 1), (50, 5), (50, 6), (50, 7), (50, 8), (50, 9)] S1 S2 by rw [eS2]; exact cfr.oI y34_ (by decide))
  intro S3 eS3 y36_ y37_
  replace h := h S3 eS3 y36_ y37_
  replace f := f.tr (show cfr [101, 238, 239, 240, 241, 242, 243] [(40, 0), (40, 1), (50, 5), (50, 6), (50, 7), (50, 8), (50, 9)] S2 S3 by rw [eS3]; exact cfr.oI y36_ (by decide))
  intro S4 eS4 y38_ y39_
  replace h := h S4 eS4 y38_ y39_
  replace f := f.tr (show cfr [101, 238, 239, 240, 241, 242, 243] [(40, 0), (40, 1), (50, 5), (50, 6), (50, 7), (50, 8), (50, 9)] S3 S4 by rw [eS4]; exact cfr.oI y38_ (by decide))
  intro S5 eS5 y40_ y41_
  replace h := h S5 eS5 y40_ y41_
  replace f := f.tr (show cfr [101, 238, 239, 240, 241, 242, 243] [(40, 0), (40, 1), (50, 5), (50, 6), (50, 7), (50, 8), (50, 9)] S4 S5 by rw [eS5]; exact cfr.oI y40_ (by decide))
  intro y42_
  replace h := h y42_
  obtain ⟨Q9, h0, h⟩ := h
  refine ⟨_, frJ7_fill_53178 y42_ (by decide) h0, ?_⟩
  intro S7 q43_ y44_ y45_
  replace h := h S7 q43_.1 y44_ y45_
  replace f := f.tr (q43_.2.mo (by decide) (by decide))
  intro y46_
  replace h := h y46_
  obtain ⟨Q9, h0, h⟩ := h
  refine ⟨_, frJ7_fill_53178 y46_ (by decide) h0, ?_⟩
  intro S10 q47_ y48_ y49_
  replace h := h S10 q47_.1 y48_ y49_
  replace f := f.tr (q47_.2.mo (by decide) (by decide))
  intro y50_
  replace h := h y50_
  obtain ⟨Q9, h0, h⟩ := h
  refine ⟨_, frX11_textEntry y48_ h0, ?_⟩
  intro r14 S15 q51_ y52_ y53_
  replace h := h r14 S15 q51_.1 y52_ y53_
  replace f := f.tr (q51_.2.mo (by decide) (by decide))
  intro S18 eS18 y54_ y55_
  replace h := h S18 eS18 y54_ y55_
  replace f := f.tr (show cfr [101, 238, 239, 240, 241, 242, 243] [(40, 0), (40, 1), (50, 5), (50, 6), (50, 7), (50, 8), (50, 9)] S15 S18 by rw [eS18]; exact cfr.oI y54_ (by decide))
  refine ⟨h.1, ?_⟩
  replace h := h.2
  obtain ⟨Q9, h0, h⟩ := h
  refine ⟨_, frX11_nameEntry y55_ h0, ?_⟩
  intro r22 S23 q56_ y57_ y58_
  replace h := h r22 S23 q56_.1 y57_ y58_
  replace f := f.tr (q56_.2.mo (by decide) (by decide))
  obtain ⟨Q9, h0, h⟩ := h
  refine ⟨_, frX11_pointerEntry y57_ h0, ?_⟩
  intro r27 S28 q59_ y60_ y61_
  replace h := h r27 S28 q59_.1 y60_ y61_
  replace f := f.tr (q59_.2.mo (by decide) (by decide))
  intro S31 eS31 y62_ y63_
  replace h := h S31 eS31 y62_ y63_
  replace f := f.tr (show cfr [101, 238, 239, 240, 241, 242, 243] [(40, 0), (40, 1), (50, 5), (50, 6), (50, 7), (50, 8), (50, 9)] S28 S31 by rw [eS31]; exact cfr.oI y62_ (by decide))
  refine ⟨h.1, ?_⟩
  replace h := h.2
  obtain ⟨Q9, h0, h⟩ := h
  refine ⟨_, frX11_nameEntry y63_ h0, ?_⟩
  intro r35 S36 q64_ y65_ y66_
  replace h := h r35 S36 q64_.1 y65_ y66_
  replace f := f.tr (q64_.2.mo (by decide) (by decide))
  obtain ⟨Q9, h0, h⟩ := h
  refine ⟨_, frX11_pointerEntry y65_ h0, ?_⟩
  intro r40 S41 q67_ y68_ y69_
  replace h := h r40 S41 q67_.1 y68_ y69_
  replace f := f.tr (q67_.2.mo (by decide) (by decide))
  intro y70_
  replace h := h y70_
  obtain ⟨Q9, h0, h⟩ := h
  refine ⟨_, frX0_put2 y68_ h0, ?_⟩
  intro S45 q71_ y72_ y73_
  replace h := h S45 q71_.1 y72_ y73_
  replace f := f.tr (q71_.2.mo (by decide) (by decide))
  intro y74_
  replace h := h y74_
  obtain ⟨Q9, h0, h⟩ := h
  refine ⟨_, frX0_put2 y72_ h0, ?_⟩
  intro S49 q75_ y76_ y77_
  replace h := h S49 q75_.1 y76_ y77_
  replace f := f.tr (q75_.2.mo (by decide) (by decide))
  intro y78_
  replace h := h y78_
  obtain ⟨Q9, h0, h⟩ := h
  refine ⟨_, frX0_put2 y76_ h0, ?_⟩
  intro S53 q79_ y80_ y81_
  replace h := h S53 q79_.1 y80_ y81_
  replace f := f.tr (q79_.2.mo (by decide) (by decide))
  intro y82_
  replace h := h y82_
  obtain ⟨Q9, h0, h⟩ := h
  refine ⟨_, frX0_put2 y80_ h0, ?_⟩
  intro S57 q83_ y84_ y85_
  replace h := h S57 q83_.1 y84_ y85_
  replace f := f.tr (q83_.2.mo (by decide) (by decide))
  refine ⟨h.1, ?_⟩
  replace h := h.2
  intro a63 ea63 
  replace h := h a63 ea63 
  intro y86_
  replace h := h y86_
  obtain ⟨Q9, h0, h⟩ := h
  refine ⟨_, frX0_put2 y84_ h0, ?_⟩
  intro S65 q87_ y88_ y89_
  replace h := h S65 q87_.1 y88_ y89_
  replace f := f.tr (q87_.2.mo (by decide) (by decide))
  obtain ⟨n9, h⟩ := h
  exact ⟨n9, fr_X11_begin_L155 n9 f h⟩
set_option maxRecDepth 100000 in
theorem fr_X11_layOut_L53 {S0 : MS} {Q : Int32 → MS → Prop} : ∀ (n : Nat) {U53 : MS} {v53_1 : Int32} {v53_2 : Int32}, cfr [101, 238, 239, 242, 243, 244, 245] [(40, 0), (40, 1), (50, 5), (50, 6), (50, 16), (50, 17)] S0 U53 → w_X11_layOut_L53 Q n U53 v53_1 v53_2 → w_X11_layOut_L53 (fun r u => Q r u ∧ cfr [101, 238, 239, 242, 243, 244, 245] [(40, 0), (40, 1), (50, 5), (50, 6), (50, 16), (50, 17)] S0 u) n U53 v53_1 v53_2 := by
  intro n
  induction n with
  | zero => intro U53 v53_1 v53_2 f h; unfold w_X11_layOut_L53 at h; exact h.elim
  | succ n ih =>
    intro U53 v53_1 v53_2 f h
    unfold w_X11_layOut_L53 at h ⊢
    intro y1_
    replace h := h y1_
    refine ⟨h.1, ?_⟩
    replace h := h.2
    refine ⟨fun c => ?_, fun c => ?_⟩
    · replace h := h.1 c
      refine ⟨h.1, ?_⟩
      replace h := h.2
      refine ⟨h.1, ?_⟩
      replace h := h.2
      intro S12 eS12 y2_ y3_
      replace h := h S12 eS12 y2_ y3_
      replace f := f.tr (show cfr [101, 238, 239, 242, 243, 244, 245] [(40, 0), (40, 1), (50, 5), (50, 6), (50, 16), (50, 17)] U53 S12 by rw [eS12]; exact cfr.aI y2_ (by decide))
      exact ⟨h, f⟩
    · replace h := h.2 c
      refine ⟨h.1, ?_⟩
      replace h := h.2
      intro S15 eS15 y4_ y5_
      replace h := h S15 eS15 y4_ y5_
      replace f := f.tr (show cfr [101, 238, 239, 242, 243, 244, 245] [(40, 0), (40, 1), (50, 5), (50, 6), (50, 16), (50, 17)] U53 S15 by rw [eS15]; exact cfr.aI y4_ (by decide))
      obtain ⟨Q9, h0, h⟩ := h
      refine ⟨_, frX11_needOf y5_ h0, ?_⟩
      intro r18 S19 q6_ y7_ y8_
      replace h := h r18 S19 q6_.1 y7_ y8_
      replace f := f.tr (q6_.2.mo (by decide) (by decide))
      refine ⟨h.1, ?_⟩
      replace h := h.2
      intro S23 eS23 y9_ y10_
      replace h := h S23 eS23 y9_ y10_
      replace f := f.tr (show cfr [101, 238, 239, 242, 243, 244, 245] [(40, 0), (40, 1), (50, 5), (50, 6), (50, 16), (50, 17)] S19 S23 by rw [eS23]; exact cfr.aI y9_ (by decide))
      refine ⟨h.1, ?_⟩
      replace h := h.2
      intro a28 ea28 
      replace h := h a28 ea28 
      intro a29 ea29 
      replace h := h a29 ea29 
      exact ih f h
set_option maxRecDepth 100000 in
theorem fr_X11_layOut_J49 {S0 : MS} {Q : Int32 → MS → Prop} {U49 : MS} (f : cfr [101, 238, 239, 242, 243, 244, 245] [(40, 0), (40, 1), (50, 5), (50, 6), (50, 16), (50, 17)] S0 U49) (h : w_X11_layOut_J49 Q U49) : w_X11_layOut_J49 (fun r u => Q r u ∧ cfr [101, 238, 239, 242, 243, 244, 245] [(40, 0), (40, 1), (50, 5), (50, 6), (50, 16), (50, 17)] S0 u) U49 := by
  unfold w_X11_layOut_J49 at h ⊢
  intro y11_
  replace h := h y11_
  obtain ⟨n9, h⟩ := h
  exact ⟨n9, fr_X11_layOut_L53 n9 f h⟩
set_option maxRecDepth 100000 in
theorem frX11_layOut {S : MS} {Q : Int32 → MS → Prop} (hw : wfC S) (h : wX11_layOut S Q) : wX11_layOut S (fun r u => Q r u ∧ cfr [101, 238, 239, 242, 243, 244, 245] [(40, 0), (40, 1), (50, 5), (50, 6), (50, 16), (50, 17)] S u) := by
  have f : cfr [101, 238, 239, 242, 243, 244, 245] [(40, 0), (40, 1), (50, 5), (50, 6), (50, 16), (50, 17)] S S := cfr.rf
  unfold wX11_layOut at h ⊢
  refine ⟨h.1, ?_⟩
  replace h := h.2
  refine ⟨fun c => ?_, fun c => ?_⟩
  · replace h := h.1 c
    exact fr_X11_layOut_J49 f h
  · replace h := h.2 c
    refine ⟨h.1, ?_⟩
    replace h := h.2
    refine ⟨h.1, ?_⟩
    replace h := h.2
    intro S38 eS38 y12_
    replace h := h S38 eS38 y12_
    replace f := f.tr (show cfr [101, 238, 239, 242, 243, 244, 245] [(40, 0), (40, 1), (50, 5), (50, 6), (50, 16), (50, 17)] S S38 by rw [eS38]; exact cfr.new hw (eS38 ▸ y12_))
    intro S40 eS40 y13_ y14_
    replace h := h S40 eS40 y13_ y14_
    replace f := f.tr (show cfr [101, 238, 239, 242, 243, 244, 245] [(40, 0), (40, 1), (50, 5), (50, 6), (50, 16), (50, 17)] S38 S40 by rw [eS40]; exact cfr.oR y13_ (by decide))
    refine ⟨h.1, ?_⟩
    replace h := h.2
    refine ⟨h.1, ?_⟩
    replace h := h.2
    intro S48 eS48 y15_
    replace h := h S48 eS48 y15_
    replace f := f.tr (show cfr [101, 238, 239, 242, 243, 244, 245] [(40, 0), (40, 1), (50, 5), (50, 6), (50, 16), (50, 17)] S40 S48 by rw [eS48]; exact cfr.new y14_ (eS48 ▸ y15_))
    intro S50 eS50 y16_ y17_
    replace h := h S50 eS50 y16_ y17_
    replace f := f.tr (show cfr [101, 238, 239, 242, 243, 244, 245] [(40, 0), (40, 1), (50, 5), (50, 6), (50, 16), (50, 17)] S48 S50 by rw [eS50]; exact cfr.oR y16_ (by decide))
    exact fr_X11_layOut_J49 f h
set_option maxRecDepth 100000 in
theorem fr_X1_flowFrom_L114 {S0 : MS} {Q : MS → Prop} : ∀ (n : Nat) {U114 : MS} {v114_1 : Int32} {v114_2 : Int32} {v114_3 : Int32}, cfr [102, 103, 301, 302] [(41, 5), (41, 6), (41, 7)] S0 U114 → w_X1_flowFrom_L114 Q n U114 v114_1 v114_2 v114_3 → w_X1_flowFrom_L114 (fun u => Q u ∧ cfr [102, 103, 301, 302] [(41, 5), (41, 6), (41, 7)] S0 u) n U114 v114_1 v114_2 v114_3 := by
  intro n
  induction n with
  | zero => intro U114 v114_1 v114_2 v114_3 f h; unfold w_X1_flowFrom_L114 at h; exact h.elim
  | succ n ih =>
    intro U114 v114_1 v114_2 v114_3 f h
    unfold w_X1_flowFrom_L114 at h ⊢
    intro y1_
    replace h := h y1_
    refine ⟨fun c => ?_, fun c => ?_⟩
    · replace h := h.1 c
      exact ⟨h, f⟩
    · replace h := h.2 c
      refine ⟨h.1, ?_⟩
      replace h := h.2
      refine ⟨h.1, ?_⟩
      replace h := h.2
      intro a35 ea35 
      replace h := h a35 ea35 
      obtain ⟨Q9, h0, h⟩ := h
      refine ⟨_, frX1_comeTo y1_ h0, ?_⟩
      intro S37 q2_ y3_ y4_
      replace h := h S37 q2_.1 y3_ y4_
      replace f := f.tr (q2_.2.mo (by decide) (by decide))
      intro a39 ea39 
      replace h := h a39 ea39 
      exact ih f h
set_option maxRecDepth 100000 in
theorem fr_X1_flowFrom_J103 {S0 : MS} {Q : MS → Prop} {U103 : MS} {v103_1 : Int32} (f : cfr [102, 103, 301, 302] [(41, 5), (41, 6), (41, 7)] S0 U103) (h : w_X1_flowFrom_J103 Q U103 v103_1) : w_X1_flowFrom_J103 (fun u => Q u ∧ cfr [102, 103, 301, 302] [(41, 5), (41, 6), (41, 7)] S0 u) U103 v103_1 := by
  unfold w_X1_flowFrom_J103 at h ⊢
  intro y5_
  replace h := h y5_
  refine ⟨h.1, ?_⟩
  replace h := h.2
  refine ⟨h.1, ?_⟩
  replace h := h.2
  intro a28 ea28 
  replace h := h a28 ea28 
  obtain ⟨n9, h⟩ := h
  exact ⟨n9, fr_X1_flowFrom_L114 n9 f h⟩
set_option maxRecDepth 100000 in
theorem fr_X1_flowFrom_J72 {S0 : MS} {Q : MS → Prop} {U72 : MS} {v72_1 : Int32} (f : cfr [102, 103, 301, 302] [(41, 5), (41, 6), (41, 7)] S0 U72) (h : w_X1_flowFrom_J72 Q U72 v72_1) : w_X1_flowFrom_J72 (fun u => Q u ∧ cfr [102, 103, 301, 302] [(41, 5), (41, 6), (41, 7)] S0 u) U72 v72_1 := by
  unfold w_X1_flowFrom_J72 at h ⊢
  intro y6_
  replace h := h y6_
  obtain ⟨Q9, h0, h⟩ := h
  refine ⟨_, frX1_takeUp y6_ h0, ?_⟩
  intro S8 q7_ y8_ y9_
  replace h := h S8 q7_.1 y8_ y9_
  replace f := f.tr (q7_.2.mo (by decide) (by decide))
  obtain ⟨Q9, h0, h⟩ := h
  refine ⟨_, frX1_goThrough y8_ h0, ?_⟩
  intro S11 q10_ y11_ y12_
  replace h := h S11 q10_.1 y11_ y12_
  replace f := f.tr (q10_.2.mo (by decide) (by decide))
  refine ⟨h.1, ?_⟩
  replace h := h.2
  refine ⟨h.1, ?_⟩
  replace h := h.2
  intro a18 ea18 
  replace h := h a18 ea18 
  refine ⟨h.1, ?_⟩
  replace h := h.2
  intro a22 ea22 
  replace h := h a22 ea22 
  refine ⟨fun c => ?_, fun c => ?_⟩
  · replace h := h.1 c
    exact fr_X1_flowFrom_J103 f h
  · replace h := h.2 c
    obtain ⟨Q9, h0, h⟩ := h
    refine ⟨_, frX1_comeTo y11_ h0, ?_⟩
    intro S43 q13_ y14_ y15_
    replace h := h S43 q13_.1 y14_ y15_
    replace f := f.tr (q13_.2.mo (by decide) (by decide))
    exact fr_X1_flowFrom_J103 f h
set_option maxRecDepth 100000 in
theorem fr_X1_flowFrom_J66 {S0 : MS} {Q : MS → Prop} {k30 k30' : MS → Int32 → Int32 → Prop} {U66 : MS} {v66_1 : Int32} {v66_2 : Int32} (hk30 : ∀ (u : MS) (z0) (z1), cfr [102, 103, 301, 302] [(41, 5), (41, 6), (41, 7)] S0 u → k30 u z0 z1 → k30' u z0 z1) (f : cfr [102, 103, 301, 302] [(41, 5), (41, 6), (41, 7)] S0 U66) (h : w_X1_flowFrom_J66 Q k30 U66 v66_1 v66_2) : w_X1_flowFrom_J66 (fun u => Q u ∧ cfr [102, 103, 301, 302] [(41, 5), (41, 6), (41, 7)] S0 u) k30' U66 v66_1 v66_2 := by
  unfold w_X1_flowFrom_J66 at h ⊢
  intro y16_
  replace h := h y16_
  intro a62 ea62 
  replace h := h a62 ea62 
  exact hk30 _ _ _ f h
set_option maxRecDepth 100000 in
theorem fr_X1_flowFrom_L30 {S0 : MS} {Q : MS → Prop} : ∀ (n : Nat) {U30 : MS} {v30_1 : Int32} {v30_2 : Int32}, cfr [102, 103, 301, 302] [(41, 5), (41, 6), (41, 7)] S0 U30 → w_X1_flowFrom_L30 Q n U30 v30_1 v30_2 → w_X1_flowFrom_L30 (fun u => Q u ∧ cfr [102, 103, 301, 302] [(41, 5), (41, 6), (41, 7)] S0 u) n U30 v30_1 v30_2 := by
  intro n
  induction n with
  | zero => intro U30 v30_1 v30_2 f h; unfold w_X1_flowFrom_L30 at h; exact h.elim
  | succ n ih =>
    intro U30 v30_1 v30_2 f h
    unfold w_X1_flowFrom_L30 at h ⊢
    intro y17_
    replace h := h y17_
    refine ⟨h.1, ?_⟩
    replace h := h.2
    refine ⟨fun c => ?_, fun c => ?_⟩
    · replace h := h.1 c
      exact fr_X1_flowFrom_J72 f h
    · replace h := h.2 c
      refine ⟨h.1, ?_⟩
      replace h := h.2
      refine ⟨h.1, ?_⟩
      replace h := h.2
      intro a61 ea61 
      replace h := h a61 ea61 
      refine ⟨fun c => ?_, fun c => ?_⟩
      · replace h := h.1 c
        exact fr_X1_flowFrom_J66 (fun _ _ _ f h => ih f h) f h
      · replace h := h.2 c
        refine ⟨h.1, ?_⟩
        replace h := h.2
        refine ⟨h.1, ?_⟩
        replace h := h.2
        refine ⟨h.1, ?_⟩
        replace h := h.2
        obtain ⟨Q9, h0, h⟩ := h
        refine ⟨_, frX1_comeTo y17_ h0, ?_⟩
        intro S71 q18_ y19_ y20_
        replace h := h S71 q18_.1 y19_ y20_
        replace f := f.tr (q18_.2.mo (by decide) (by decide))
        exact fr_X1_flowFrom_J66 (fun _ _ _ f h => ih f h) f h
set_option maxRecDepth 100000 in
theorem frX1_flowFrom {S : MS} {x1 : Int32} {Q : MS → Prop} (hw : wfC S) (h : wX1_flowFrom S x1 Q) : wX1_flowFrom S x1 (fun u => Q u ∧ cfr [102, 103, 301, 302] [(41, 5), (41, 6), (41, 7)] S u) := by
  have f : cfr [102, 103, 301, 302] [(41, 5), (41, 6), (41, 7)] S S := cfr.rf
  unfold wX1_flowFrom at h ⊢
  refine ⟨h.1, ?_⟩
  replace h := h.2
  intro y21_
  replace h := h y21_
  obtain ⟨Q9, h0, h⟩ := h
  refine ⟨_, frX8_isCaught hw h0, ?_⟩
  intro r4 S5 q22_ y23_ y24_
  replace h := h r4 S5 q22_.1 y23_ y24_
  replace f := f.tr (q22_.2.mo (by decide) (by decide))
  refine ⟨fun c => ?_, fun c => ?_⟩
  · replace h := h.1 c
    exact fr_X1_flowFrom_J72 f h
  · replace h := h.2 c
    obtain ⟨Q9, h0, h⟩ := h
    refine ⟨_, frX1_takeUp y23_ h0, ?_⟩
    intro S47 q25_ y26_ y27_
    replace h := h S47 q25_.1 y26_ y27_
    replace f := f.tr (q25_.2.mo (by decide) (by decide))
    intro S49 eS49 y28_ y29_
    replace h := h S49 eS49 y28_ y29_
    replace f := f.tr (show cfr [102, 103, 301, 302] [(41, 5), (41, 6), (41, 7)] S47 S49 by rw [eS49]; exact cfr.oI y28_ (by decide))
    obtain ⟨Q9, h0, h⟩ := h
    refine ⟨_, frX1_setPlace y29_ h0, ?_⟩
    intro S51 q30_ y31_ y32_
    replace h := h S51 q30_.1 y31_ y32_
    replace f := f.tr (q30_.2.mo (by decide) (by decide))
    obtain ⟨n9, h⟩ := h
    exact ⟨n9, fr_X1_flowFrom_L30 n9 f h⟩
set_option maxRecDepth 100000 in
theorem frX1_hasBadTypes {S : MS} {x1 : Int32} {Q : Int32 → MS → Prop} (hw : wfC S) (h : wX1_hasBadTypes S x1 Q) : wX1_hasBadTypes S x1 (fun r u => Q r u ∧ cfr [103] [(41, 5), (41, 6)] S u) := by
  have f : cfr [103] [(41, 5), (41, 6)] S S := cfr.rf
  unfold wX1_hasBadTypes at h ⊢
  refine ⟨h.1, ?_⟩
  replace h := h.2
  refine ⟨fun c => ?_, fun c => ?_⟩
  · replace h := h.1 c
    exact ⟨h, f⟩
  · replace h := h.2 c
    obtain ⟨Q9, h0, h⟩ := h
    refine ⟨_, frX1_takeUp hw h0, ?_⟩
    intro S7 q1_ y2_ y3_
    replace h := h S7 q1_.1 y2_ y3_
    replace f := f.tr (q1_.2.mo (by decide) (by decide))
    intro S9 eS9 y4_ y5_
    replace h := h S9 eS9 y4_ y5_
    replace f := f.tr (show cfr [103] [(41, 5), (41, 6)] S7 S9 by rw [eS9]; exact cfr.oI y4_ (by decide))
    obtain ⟨Q9, h0, h⟩ := h
    refine ⟨_, frX1_goThrough y5_ h0, ?_⟩
    intro S11 q6_ y7_ y8_
    replace h := h S11 q6_.1 y7_ y8_
    replace f := f.tr (q6_.2.mo (by decide) (by decide))
    exact ⟨h, f⟩
set_option maxRecDepth 100000 in
theorem fr_X2_limitsHold_L2 {S0 : MS} {Q : Int32 → MS → Prop} : ∀ (n : Nat) {U2 : MS} {v2_1 : Int32}, cfr [] [(46, 2), (46, 3), (46, 12), (46, 13), (46, 14)] S0 U2 → w_X2_limitsHold_L2 Q n U2 v2_1 → w_X2_limitsHold_L2 (fun r u => Q r u ∧ cfr [] [(46, 2), (46, 3), (46, 12), (46, 13), (46, 14)] S0 u) n U2 v2_1 := by
  intro n
  induction n with
  | zero => intro U2 v2_1 f h; unfold w_X2_limitsHold_L2 at h; exact h.elim
  | succ n ih =>
    intro U2 v2_1 f h
    unfold w_X2_limitsHold_L2 at h ⊢
    intro y1_
    replace h := h y1_
    refine ⟨fun c => ?_, fun c => ?_⟩
    · replace h := h.1 c
      exact ⟨h, f⟩
    · replace h := h.2 c
      refine ⟨fun c => ?_, fun c => ?_⟩
      · replace h := h.1 c
        exact ⟨h, f⟩
      · replace h := h.2 c
        refine ⟨h.1, ?_⟩
        replace h := h.2
        intro a7 ea7 
        replace h := h a7 ea7 
        obtain ⟨Q9, h0, h⟩ := h
        refine ⟨_, frX7_isMethodType y1_ h0, ?_⟩
        intro r9 S10 q2_ y3_ y4_
        replace h := h r9 S10 q2_.1 y3_ y4_
        replace f := f.tr (q2_.2.mo (by decide) (by decide))
        refine ⟨h.1, ?_⟩
        replace h := h.2
        refine ⟨h.1, ?_⟩
        replace h := h.2
        obtain ⟨Q9, h0, h⟩ := h
        refine ⟨_, frX2_headHolds y3_ h0, ?_⟩
        intro r17 S18 q5_ y6_ y7_
        replace h := h r17 S18 q5_.1 y6_ y7_
        replace f := f.tr (q5_.2.mo (by decide) (by decide))
        refine ⟨fun c => ?_, fun c => ?_⟩
        · replace h := h.1 c
          exact ⟨h, f⟩
        · replace h := h.2 c
          intro a21 ea21 
          replace h := h a21 ea21 
          exact ih f h
set_option maxRecDepth 100000 in
theorem frX2_limitsHold {S : MS} {Q : Int32 → MS → Prop} (hw : wfC S) (h : wX2_limitsHold S Q) : wX2_limitsHold S (fun r u => Q r u ∧ cfr [] [(46, 2), (46, 3), (46, 12), (46, 13), (46, 14)] S u) := by
  have f : cfr [] [(46, 2), (46, 3), (46, 12), (46, 13), (46, 14)] S S := cfr.rf
  unfold wX2_limitsHold at h ⊢
  obtain ⟨n9, h⟩ := h
  exact ⟨n9, fr_X2_limitsHold_L2 n9 f h⟩
set_option maxRecDepth 100000 in
theorem fr_X2_instructionsHold_L20 {S0 : MS} {Q : Int32 → MS → Prop} {k2 k2' : MS → Int32 → Prop} (hk2 : ∀ (u : MS) (z0), cfr [] [(42, 1), (42, 2), (42, 3), (42, 4), (42, 5), (42, 6), (46, 2), (46, 3)] S0 u → k2 u z0 → k2' u z0) : ∀ (n : Nat) {U20 : MS} {v20_1 : Int32} {v20_2 : Int32}, cfr [] [(42, 1), (42, 2), (42, 3), (42, 4), (42, 5), (42, 6), (46, 2), (46, 3)] S0 U20 → w_X2_instructionsHold_L20 Q k2 n U20 v20_1 v20_2 → w_X2_instructionsHold_L20 (fun r u => Q r u ∧ cfr [] [(42, 1), (42, 2), (42, 3), (42, 4), (42, 5), (42, 6), (46, 2), (46, 3)] S0 u) k2' n U20 v20_1 v20_2 := by
  intro n
  induction n with
  | zero => intro U20 v20_1 v20_2 f h; unfold w_X2_instructionsHold_L20 at h; exact h.elim
  | succ n ih =>
    intro U20 v20_1 v20_2 f h
    unfold w_X2_instructionsHold_L20 at h ⊢
    intro y1_
    replace h := h y1_
    refine ⟨fun c => ?_, fun c => ?_⟩
    · replace h := h.1 c
      intro a6 ea6 
      replace h := h a6 ea6 
      exact hk2 _ _ f h
    · replace h := h.2 c
      obtain ⟨Q9, h0, h⟩ := h
      refine ⟨_, frX2_lengthAt y1_ h0, ?_⟩
      intro r8 S9 q2_ y3_ y4_
      replace h := h r8 S9 q2_.1 y3_ y4_
      replace f := f.tr (q2_.2.mo (by decide) (by decide))
      refine ⟨fun c => ?_, fun c => ?_⟩
      · replace h := h.1 c
        obtain ⟨Q9, h0, h⟩ := h
        refine ⟨_, frX2_lengthAt y3_ h0, ?_⟩
        intro r13 S14 q5_ y6_ y7_
        replace h := h r13 S14 q5_.1 y6_ y7_
        replace f := f.tr (q5_.2.mo (by decide) (by decide))
        intro a17 ea17 
        replace h := h a17 ea17 
        exact ih f h
      · replace h := h.2 c
        obtain ⟨Q9, h0, h⟩ := h
        refine ⟨_, frX7_breaks y3_ h0, ?_⟩
        intro r20 S21 q8_ y9_ y10_
        replace h := h r20 S21 q8_.1 y9_ y10_
        replace f := f.tr (q8_.2.mo (by decide) (by decide))
        exact ⟨h, f⟩
set_option maxRecDepth 100000 in
theorem fr_X2_instructionsHold_L2 {S0 : MS} {Q : Int32 → MS → Prop} : ∀ (n : Nat) {U2 : MS} {v2_1 : Int32}, cfr [] [(42, 1), (42, 2), (42, 3), (42, 4), (42, 5), (42, 6), (46, 2), (46, 3)] S0 U2 → w_X2_instructionsHold_L2 Q n U2 v2_1 → w_X2_instructionsHold_L2 (fun r u => Q r u ∧ cfr [] [(42, 1), (42, 2), (42, 3), (42, 4), (42, 5), (42, 6), (46, 2), (46, 3)] S0 u) n U2 v2_1 := by
  intro n
  induction n with
  | zero => intro U2 v2_1 f h; unfold w_X2_instructionsHold_L2 at h; exact h.elim
  | succ n ih =>
    intro U2 v2_1 f h
    unfold w_X2_instructionsHold_L2 at h ⊢
    intro y11_
    replace h := h y11_
    refine ⟨fun c => ?_, fun c => ?_⟩
    · replace h := h.1 c
      exact ⟨h, f⟩
    · replace h := h.2 c
      obtain ⟨Q9, h0, h⟩ := h
      refine ⟨_, frX2_lookAt y11_ h0, ?_⟩
      intro S3 q12_ y13_ y14_
      replace h := h S3 q12_.1 y13_ y14_
      replace f := f.tr (q12_.2.mo (by decide) (by decide))
      obtain ⟨n9, h⟩ := h
      exact ⟨n9, fr_X2_instructionsHold_L20 (fun _ _ f h => ih f h) n9 f h⟩
set_option maxRecDepth 100000 in
theorem frX2_instructionsHold {S : MS} {Q : Int32 → MS → Prop} (hw : wfC S) (h : wX2_instructionsHold S Q) : wX2_instructionsHold S (fun r u => Q r u ∧ cfr [] [(42, 1), (42, 2), (42, 3), (42, 4), (42, 5), (42, 6), (46, 2), (46, 3)] S u) := by
  have f : cfr [] [(42, 1), (42, 2), (42, 3), (42, 4), (42, 5), (42, 6), (46, 2), (46, 3)] S S := cfr.rf
  unfold wX2_instructionsHold at h ⊢
  obtain ⟨n9, h⟩ := h
  exact ⟨n9, fr_X2_instructionsHold_L2 n9 f h⟩
set_option maxRecDepth 100000 in
theorem fr_X2_pointersHold_L77 {S0 : MS} {Q : Int32 → MS → Prop} {k2 k2' : MS → Int32 → Prop} (hk2 : ∀ (u : MS) (z0), cfr [201] [(42, 1), (42, 2), (42, 3), (42, 4), (42, 5), (42, 6), (42, 8), (42, 9), (42, 10), (42, 11), (46, 2), (46, 3)] S0 u → k2 u z0 → k2' u z0) : ∀ (n : Nat) {U77 : MS} {v77_1 : Int32} {v77_2 : Int32}, cfr [201] [(42, 1), (42, 2), (42, 3), (42, 4), (42, 5), (42, 6), (42, 8), (42, 9), (42, 10), (42, 11), (46, 2), (46, 3)] S0 U77 → w_X2_pointersHold_L77 Q k2 n U77 v77_1 v77_2 → w_X2_pointersHold_L77 (fun r u => Q r u ∧ cfr [201] [(42, 1), (42, 2), (42, 3), (42, 4), (42, 5), (42, 6), (42, 8), (42, 9), (42, 10), (42, 11), (46, 2), (46, 3)] S0 u) k2' n U77 v77_1 v77_2 := by
  intro n
  induction n with
  | zero => intro U77 v77_1 v77_2 f h; unfold w_X2_pointersHold_L77 at h; exact h.elim
  | succ n ih =>
    intro U77 v77_1 v77_2 f h
    unfold w_X2_pointersHold_L77 at h ⊢
    intro y1_
    replace h := h y1_
    refine ⟨fun c => ?_, fun c => ?_⟩
    · replace h := h.1 c
      intro a10 ea10 
      replace h := h a10 ea10 
      exact hk2 _ _ f h
    · replace h := h.2 c
      obtain ⟨Q9, h0, h⟩ := h
      refine ⟨_, frX2_catchHolds y1_ h0, ?_⟩
      intro r14 S15 q2_ y3_ y4_
      replace h := h r14 S15 q2_.1 y3_ y4_
      replace f := f.tr (q2_.2.mo (by decide) (by decide))
      refine ⟨fun c => ?_, fun c => ?_⟩
      · replace h := h.1 c
        obtain ⟨Q9, h0, h⟩ := h
        refine ⟨_, frX7_breaks y3_ h0, ?_⟩
        intro r22 S23 q5_ y6_ y7_
        replace h := h r22 S23 q5_.1 y6_ y7_
        replace f := f.tr (q5_.2.mo (by decide) (by decide))
        exact ⟨h, f⟩
      · replace h := h.2 c
        intro a18 ea18 
        replace h := h a18 ea18 
        exact ih f h
set_option maxRecDepth 100000 in
theorem fr_X2_pointersHold_L24 {S0 : MS} {Q : Int32 → MS → Prop} {k2 k2' : MS → Int32 → Prop} (hk2 : ∀ (u : MS) (z0), cfr [201] [(42, 1), (42, 2), (42, 3), (42, 4), (42, 5), (42, 6), (42, 8), (42, 9), (42, 10), (42, 11), (46, 2), (46, 3)] S0 u → k2 u z0 → k2' u z0) : ∀ (n : Nat) {U24 : MS} {v24_1 : Int32} {v24_2 : Int32}, cfr [201] [(42, 1), (42, 2), (42, 3), (42, 4), (42, 5), (42, 6), (42, 8), (42, 9), (42, 10), (42, 11), (46, 2), (46, 3)] S0 U24 → w_X2_pointersHold_L24 Q k2 n U24 v24_1 v24_2 → w_X2_pointersHold_L24 (fun r u => Q r u ∧ cfr [201] [(42, 1), (42, 2), (42, 3), (42, 4), (42, 5), (42, 6), (42, 8), (42, 9), (42, 10), (42, 11), (46, 2), (46, 3)] S0 u) k2' n U24 v24_1 v24_2 := by
  intro n
  induction n with
  | zero => intro U24 v24_1 v24_2 f h; unfold w_X2_pointersHold_L24 at h; exact h.elim
  | succ n ih =>
    intro U24 v24_1 v24_2 f h
    unfold w_X2_pointersHold_L24 at h ⊢
    intro y8_
    replace h := h y8_
    refine ⟨fun c => ?_, fun c => ?_⟩
    · replace h := h.1 c
      obtain ⟨n9, h⟩ := h
      exact ⟨n9, fr_X2_pointersHold_L77 hk2 n9 f h⟩
    · replace h := h.2 c
      obtain ⟨Q9, h0, h⟩ := h
      refine ⟨_, frX2_decode y8_ h0, ?_⟩
      intro S26 q9_ y10_ y11_
      replace h := h S26 q9_.1 y10_ y11_
      replace f := f.tr (q9_.2.mo (by decide) (by decide))
      obtain ⟨Q9, h0, h⟩ := h
      refine ⟨_, frX2_pointsWell y10_ h0, ?_⟩
      intro r29 S30 q12_ y13_ y14_
      replace h := h r29 S30 q12_.1 y13_ y14_
      replace f := f.tr (q12_.2.mo (by decide) (by decide))
      refine ⟨fun c => ?_, fun c => ?_⟩
      · replace h := h.1 c
        obtain ⟨Q9, h0, h⟩ := h
        refine ⟨_, frX7_breaks y13_ h0, ?_⟩
        intro r42 S43 q15_ y16_ y17_
        replace h := h r42 S43 q15_.1 y16_ y17_
        replace f := f.tr (q15_.2.mo (by decide) (by decide))
        exact ⟨h, f⟩
      · replace h := h.2 c
        obtain ⟨Q9, h0, h⟩ := h
        refine ⟨_, frX2_lengthAt y13_ h0, ?_⟩
        intro r34 S35 q18_ y19_ y20_
        replace h := h r34 S35 q18_.1 y19_ y20_
        replace f := f.tr (q18_.2.mo (by decide) (by decide))
        intro a39 ea39 
        replace h := h a39 ea39 
        exact ih f h
set_option maxRecDepth 100000 in
theorem fr_X2_pointersHold_L2 {S0 : MS} {Q : Int32 → MS → Prop} : ∀ (n : Nat) {U2 : MS} {v2_1 : Int32}, cfr [201] [(42, 1), (42, 2), (42, 3), (42, 4), (42, 5), (42, 6), (42, 8), (42, 9), (42, 10), (42, 11), (46, 2), (46, 3)] S0 U2 → w_X2_pointersHold_L2 Q n U2 v2_1 → w_X2_pointersHold_L2 (fun r u => Q r u ∧ cfr [201] [(42, 1), (42, 2), (42, 3), (42, 4), (42, 5), (42, 6), (42, 8), (42, 9), (42, 10), (42, 11), (46, 2), (46, 3)] S0 u) n U2 v2_1 := by
  intro n
  induction n with
  | zero => intro U2 v2_1 f h; unfold w_X2_pointersHold_L2 at h; exact h.elim
  | succ n ih =>
    intro U2 v2_1 f h
    unfold w_X2_pointersHold_L2 at h ⊢
    intro y21_
    replace h := h y21_
    refine ⟨fun c => ?_, fun c => ?_⟩
    · replace h := h.1 c
      exact ⟨h, f⟩
    · replace h := h.2 c
      obtain ⟨Q9, h0, h⟩ := h
      refine ⟨_, frX2_lookAt y21_ h0, ?_⟩
      intro S3 q22_ y23_ y24_
      replace h := h S3 q22_.1 y23_ y24_
      replace f := f.tr (q22_.2.mo (by decide) (by decide))
      obtain ⟨Q9, h0, h⟩ := h
      refine ⟨_, frX2_numberInstructions y23_ h0, ?_⟩
      intro S6 q25_ y26_ y27_
      replace h := h S6 q25_.1 y26_ y27_
      replace f := f.tr (q25_.2.mo (by decide) (by decide))
      obtain ⟨n9, h⟩ := h
      exact ⟨n9, fr_X2_pointersHold_L24 (fun _ _ f h => ih f h) n9 f h⟩
set_option maxRecDepth 100000 in
theorem frX2_pointersHold {S : MS} {Q : Int32 → MS → Prop} (hw : wfC S) (h : wX2_pointersHold S Q) : wX2_pointersHold S (fun r u => Q r u ∧ cfr [201] [(42, 1), (42, 2), (42, 3), (42, 4), (42, 5), (42, 6), (42, 8), (42, 9), (42, 10), (42, 11), (46, 2), (46, 3)] S u) := by
  have f : cfr [201] [(42, 1), (42, 2), (42, 3), (42, 4), (42, 5), (42, 6), (42, 8), (42, 9), (42, 10), (42, 11), (46, 2), (46, 3)] S S := cfr.rf
  unfold wX2_pointersHold at h ⊢
  obtain ⟨n9, h⟩ := h
  exact ⟨n9, fr_X2_pointersHold_L2 n9 f h⟩
set_option maxRecDepth 100000 in
theorem fr_X2_rowOf_L79 {S0 : MS} {Q : Nat → MS → Prop} : ∀ (n : Nat) {U79 : MS} {v79_2 : Nat} {v79_3 : Int32}, cfr [201, 222, 223, 224, 225, 226, 227, 406] [(42, 1), (42, 2), (42, 3), (42, 4), (42, 5), (42, 6), (42, 8), (42, 9), (42, 10), (42, 11), (47, 0), (47, 1), (47, 2), (47, 3), (47, 4), (47, 5), (47, 6), (47, 7), (47, 8), (47, 9), (47, 10), (47, 11)] S0 U79 → w_X2_rowOf_L79 Q n U79 v79_2 v79_3 → w_X2_rowOf_L79 (fun r u => Q r u ∧ cfr [201, 222, 223, 224, 225, 226, 227, 406] [(42, 1), (42, 2), (42, 3), (42, 4), (42, 5), (42, 6), (42, 8), (42, 9), (42, 10), (42, 11), (47, 0), (47, 1), (47, 2), (47, 3), (47, 4), (47, 5), (47, 6), (47, 7), (47, 8), (47, 9), (47, 10), (47, 11)] S0 u) n U79 v79_2 v79_3 := by
  intro n
  induction n with
  | zero => intro U79 v79_2 v79_3 f h; unfold w_X2_rowOf_L79 at h; exact h.elim
  | succ n ih =>
    intro U79 v79_2 v79_3 f h
    unfold w_X2_rowOf_L79 at h ⊢
    intro y1_ y2_
    replace h := h y1_ y2_
    refine ⟨fun c => ?_, fun c => ?_⟩
    · replace h := h.1 c
      exact ⟨h, f⟩
    · replace h := h.2 c
      intro a26 ea26 
      replace h := h a26 ea26 
      refine ⟨h.1, ?_⟩
      replace h := h.2
      intro a30 ea30 
      replace h := h a30 ea30 
      refine ⟨h.1, ?_⟩
      replace h := h.2
      intro a34 ea34 
      replace h := h a34 ea34 
      refine ⟨h.1, ?_⟩
      replace h := h.2
      intro a39 ea39 
      replace h := h a39 ea39 
      refine ⟨h.1, ?_⟩
      replace h := h.2
      intro a43 ea43 
      replace h := h a43 ea43 
      refine ⟨h.1, ?_⟩
      replace h := h.2
      intro a48 ea48 
      replace h := h a48 ea48 
      refine ⟨h.1, ?_⟩
      replace h := h.2
      intro a52 ea52 
      replace h := h a52 ea52 
      refine ⟨h.1, ?_⟩
      replace h := h.2
      intro a57 ea57 
      replace h := h a57 ea57 
      obtain ⟨Q9, h0, h⟩ := h
      refine ⟨_, frX2_errorOf y1_ h0, ?_⟩
      intro r59 S60 q3_ y4_ y5_
      replace h := h r59 S60 q3_.1 y4_ y5_
      replace f := f.tr (q3_.2.mo (by decide) (by decide))
      intro y6_
      replace h := h y6_
      obtain ⟨Q9, h0, h⟩ := h
      refine ⟨_, frX8_addCatch y4_ h0, ?_⟩
      intro S63 q7_ y8_ y9_
      replace h := h S63 q7_.1 y8_ y9_
      replace f := f.tr (q7_.2.mo (by decide) (by decide))
      intro a65 ea65 
      replace h := h a65 ea65 
      exact ih f h
set_option maxRecDepth 100000 in
theorem fr_X2_rowOf_L44 {S0 : MS} {Q : Nat → MS → Prop} : ∀ (n : Nat) {U44 : MS} {v44_2 : Nat} {v44_3 : Int32}, cfr [201, 222, 223, 224, 225, 226, 227, 406] [(42, 1), (42, 2), (42, 3), (42, 4), (42, 5), (42, 6), (42, 8), (42, 9), (42, 10), (42, 11), (47, 0), (47, 1), (47, 2), (47, 3), (47, 4), (47, 5), (47, 6), (47, 7), (47, 8), (47, 9), (47, 10), (47, 11)] S0 U44 → w_X2_rowOf_L44 Q n U44 v44_2 v44_3 → w_X2_rowOf_L44 (fun r u => Q r u ∧ cfr [201, 222, 223, 224, 225, 226, 227, 406] [(42, 1), (42, 2), (42, 3), (42, 4), (42, 5), (42, 6), (42, 8), (42, 9), (42, 10), (42, 11), (47, 0), (47, 1), (47, 2), (47, 3), (47, 4), (47, 5), (47, 6), (47, 7), (47, 8), (47, 9), (47, 10), (47, 11)] S0 u) n U44 v44_2 v44_3 := by
  intro n
  induction n with
  | zero => intro U44 v44_2 v44_3 f h; unfold w_X2_rowOf_L44 at h; exact h.elim
  | succ n ih =>
    intro U44 v44_2 v44_3 f h
    unfold w_X2_rowOf_L44 at h ⊢
    intro y10_ y11_
    replace h := h y10_ y11_
    refine ⟨fun c => ?_, fun c => ?_⟩
    · replace h := h.1 c
      obtain ⟨n9, h⟩ := h
      exact ⟨n9, fr_X2_rowOf_L79 n9 f h⟩
    · replace h := h.2 c
      obtain ⟨Q9, h0, h⟩ := h
      refine ⟨_, frX2_decode y10_ h0, ?_⟩
      intro S67 q12_ y13_ y14_
      replace h := h S67 q12_.1 y13_ y14_
      replace f := f.tr (q12_.2.mo (by decide) (by decide))
      intro y15_
      replace h := h y15_
      obtain ⟨Q9, h0, h⟩ := h
      refine ⟨_, frX2_addTo y13_ h0, ?_⟩
      intro S70 q16_ y17_ y18_
      replace h := h S70 q16_.1 y17_ y18_
      replace f := f.tr (q16_.2.mo (by decide) (by decide))
      obtain ⟨Q9, h0, h⟩ := h
      refine ⟨_, frX2_lengthAt y17_ h0, ?_⟩
      intro r73 S74 q19_ y20_ y21_
      replace h := h r73 S74 q19_.1 y20_ y21_
      replace f := f.tr (q19_.2.mo (by decide) (by decide))
      intro a78 ea78 
      replace h := h a78 ea78 
      exact ih f h
set_option maxRecDepth 100000 in
theorem frX2_rowOf {S : MS} {x1 : Int32} {Q : Nat → MS → Prop} (hw : wfC S) (h : wX2_rowOf S x1 Q) : wX2_rowOf S x1 (fun r u => Q r u ∧ cfr [201, 222, 223, 224, 225, 226, 227, 406] [(42, 1), (42, 2), (42, 3), (42, 4), (42, 5), (42, 6), (42, 8), (42, 9), (42, 10), (42, 11), (47, 0), (47, 1), (47, 2), (47, 3), (47, 4), (47, 5), (47, 6), (47, 7), (47, 8), (47, 9), (47, 10), (47, 11)] S u) := by
  have f : cfr [201, 222, 223, 224, 225, 226, 227, 406] [(42, 1), (42, 2), (42, 3), (42, 4), (42, 5), (42, 6), (42, 8), (42, 9), (42, 10), (42, 11), (47, 0), (47, 1), (47, 2), (47, 3), (47, 4), (47, 5), (47, 6), (47, 7), (47, 8), (47, 9), (47, 10), (47, 11)] S S := cfr.rf
  unfold wX2_rowOf at h ⊢
  obtain ⟨Q9, h0, h⟩ := h
  refine ⟨_, frX2_lookAt hw h0, ?_⟩
  intro S2 q22_ y23_ y24_
  replace h := h S2 q22_.1 y23_ y24_
  replace f := f.tr (q22_.2.mo (by decide) (by decide))
  obtain ⟨Q9, h0, h⟩ := h
  refine ⟨_, frX2_numberInstructions y23_ h0, ?_⟩
  intro S5 q25_ y26_ y27_
  replace h := h S5 q25_.1 y26_ y27_
  replace f := f.tr (q25_.2.mo (by decide) (by decide))
  refine ⟨h.1, ?_⟩
  replace h := h.2
  intro S10 eS10 y28_
  replace h := h S10 eS10 y28_
  replace f := f.tr (show cfr [201, 222, 223, 224, 225, 226, 227, 406] [(42, 1), (42, 2), (42, 3), (42, 4), (42, 5), (42, 6), (42, 8), (42, 9), (42, 10), (42, 11), (47, 0), (47, 1), (47, 2), (47, 3), (47, 4), (47, 5), (47, 6), (47, 7), (47, 8), (47, 9), (47, 10), (47, 11)] S5 S10 by rw [eS10]; exact cfr.new y26_ (eS10 ▸ y28_))
  obtain ⟨Q9, h0, h⟩ := h
  refine ⟨_, frX2_tableRoom y28_ h0, ?_⟩
  intro r13 S14 q29_ y30_ y31_
  replace h := h r13 S14 q29_.1 y30_ y31_
  replace f := f.tr (q29_.2.mo (by decide) (by decide))
  intro y32_
  replace h := h y32_
  obtain ⟨Q9, h0, h⟩ := h
  refine ⟨_, frX8_init y30_ h0, ?_⟩
  intro S17 q33_ y34_ y35_
  replace h := h S17 q33_.1 y34_ y35_
  replace f := f.tr (q33_.2.mo (by decide) (by decide))
  intro S20 eS20 y36_ y37_
  replace h := h S20 eS20 y36_ y37_
  replace f := f.tr (show cfr [201, 222, 223, 224, 225, 226, 227, 406] [(42, 1), (42, 2), (42, 3), (42, 4), (42, 5), (42, 6), (42, 8), (42, 9), (42, 10), (42, 11), (47, 0), (47, 1), (47, 2), (47, 3), (47, 4), (47, 5), (47, 6), (47, 7), (47, 8), (47, 9), (47, 10), (47, 11)] S17 S20 by rw [eS20]; exact cfr.oI y36_ (by decide))
  intro S21 eS21 y38_ y39_
  replace h := h S21 eS21 y38_ y39_
  replace f := f.tr (show cfr [201, 222, 223, 224, 225, 226, 227, 406] [(42, 1), (42, 2), (42, 3), (42, 4), (42, 5), (42, 6), (42, 8), (42, 9), (42, 10), (42, 11), (47, 0), (47, 1), (47, 2), (47, 3), (47, 4), (47, 5), (47, 6), (47, 7), (47, 8), (47, 9), (47, 10), (47, 11)] S20 S21 by rw [eS21]; exact cfr.oI y38_ (by decide))
  obtain ⟨n9, h⟩ := h
  exact ⟨n9, fr_X2_rowOf_L44 n9 f h⟩
set_option maxRecDepth 100000 in
theorem frX3_draw {S : MS} {p1 : Option Nat} {Q : MS → Prop} (hw : wfC S) (h : wX3_draw S p1 Q) : wX3_draw S p1 (fun u => Q u ∧ cfr [202, 203, 204, 205, 206, 207, 208, 209, 210, 211, 212, 303, 401] [(43, 0), (43, 1), (43, 2), (43, 3), (43, 4), (43, 5), (43, 6), (43, 7), (43, 8), (43, 9), (43, 10), (43, 11), (43, 12), (43, 13), (43, 14), (43, 15)] S u) := by
  have f : cfr [202, 203, 204, 205, 206, 207, 208, 209, 210, 211, 212, 303, 401] [(43, 0), (43, 1), (43, 2), (43, 3), (43, 4), (43, 5), (43, 6), (43, 7), (43, 8), (43, 9), (43, 10), (43, 11), (43, 12), (43, 13), (43, 14), (43, 15)] S S := cfr.rf
  unfold wX3_draw at h ⊢
  refine ⟨fun c => ?_, fun c => ?_⟩
  · replace h := h.1 c
    exact ⟨h, f⟩
  · replace h := h.2 c
    refine ⟨fun c => ?_, fun c => ?_⟩
    · replace h := h.1 c
      exact ⟨h, f⟩
    · replace h := h.2 c
      intro S4 eS4 y1_ y2_
      replace h := h S4 eS4 y1_ y2_
      replace f := f.tr (show cfr [202, 203, 204, 205, 206, 207, 208, 209, 210, 211, 212, 303, 401] [(43, 0), (43, 1), (43, 2), (43, 3), (43, 4), (43, 5), (43, 6), (43, 7), (43, 8), (43, 9), (43, 10), (43, 11), (43, 12), (43, 13), (43, 14), (43, 15)] S S4 by rw [eS4]; exact cfr.oR y1_ (by decide))
      obtain ⟨Q9, h0, h⟩ := h
      refine ⟨_, frX3_findBlocks y2_ h0, ?_⟩
      intro S6 q3_ y4_ y5_
      replace h := h S6 q3_.1 y4_ y5_
      replace f := f.tr (q3_.2.mo (by decide) (by decide))
      obtain ⟨Q9, h0, h⟩ := h
      refine ⟨_, frX3_makeRoom y4_ h0, ?_⟩
      intro S10 q6_ y7_ y8_
      replace h := h S10 q6_.1 y7_ y8_
      replace f := f.tr (q6_.2.mo (by decide) (by decide))
      obtain ⟨Q9, h0, h⟩ := h
      refine ⟨_, frX3_findEdges y7_ h0, ?_⟩
      intro S14 q9_ y10_ y11_
      replace h := h S14 q9_.1 y10_ y11_
      replace f := f.tr (q9_.2.mo (by decide) (by decide))
      obtain ⟨Q9, h0, h⟩ := h
      refine ⟨_, frX3_findBacks y10_ h0, ?_⟩
      intro S18 q12_ y13_ y14_
      replace h := h S18 q12_.1 y13_ y14_
      replace f := f.tr (q12_.2.mo (by decide) (by decide))
      obtain ⟨Q9, h0, h⟩ := h
      refine ⟨_, frX3_findReached y13_ h0, ?_⟩
      intro S22 q15_ y16_ y17_
      replace h := h S22 q15_.1 y16_ y17_
      replace f := f.tr (q15_.2.mo (by decide) (by decide))
      obtain ⟨Q9, h0, h⟩ := h
      refine ⟨_, frX3_findDominators y16_ h0, ?_⟩
      intro S25 q18_ y19_ y20_
      replace h := h S25 q18_.1 y19_ y20_
      replace f := f.tr (q18_.2.mo (by decide) (by decide))
      obtain ⟨Q9, h0, h⟩ := h
      refine ⟨_, frX3_findLoops y19_ h0, ?_⟩
      intro S28 q21_ y22_ y23_
      replace h := h S28 q21_.1 y22_ y23_
      replace f := f.tr (q21_.2.mo (by decide) (by decide))
      exact ⟨h, f⟩
set_option maxRecDepth 100000 in
theorem fr_X5_calculate_J42 {S0 : MS} {Q : MS → Prop} {U42 : MS} {v42_1 : Int32} {v42_3 : Int64} {v42_5 : Int64} (f : cfr [405] [(45, 11), (45, 12), (45, 13), (45, 14), (45, 15), (45, 17), (45, 19)] S0 U42) (h : w_X5_calculate_J42 Q U42 v42_1 v42_3 v42_5) : w_X5_calculate_J42 (fun u => Q u ∧ cfr [405] [(45, 11), (45, 12), (45, 13), (45, 14), (45, 15), (45, 17), (45, 19)] S0 u) U42 v42_1 v42_3 v42_5 := by
  unfold w_X5_calculate_J42 at h ⊢
  intro y1_
  replace h := h y1_
  refine ⟨h.1, ?_⟩
  replace h := h.2
  intro a22 ea22 
  replace h := h a22 ea22 
  refine ⟨h.1, ?_⟩
  replace h := h.2
  intro a26 ea26 
  replace h := h a26 ea26 
  obtain ⟨Q9, h0, h⟩ := h
  refine ⟨_, frX5_push_ y1_ h0, ?_⟩
  intro S28 q2_ y3_ y4_
  replace h := h S28 q2_.1 y3_ y4_
  replace f := f.tr (q2_.2.mo (by decide) (by decide))
  intro S31 eS31 y5_ y6_
  replace h := h S31 eS31 y5_ y6_
  replace f := f.tr (show cfr [405] [(45, 11), (45, 12), (45, 13), (45, 14), (45, 15), (45, 17), (45, 19)] S28 S31 by rw [eS31]; exact cfr.oI y5_ (by decide))
  exact ⟨h, f⟩
set_option maxRecDepth 100000 in
theorem frX5_calculate {S : MS} {x1 : Int32} {Q : MS → Prop} (hw : wfC S) (h : wX5_calculate S x1 Q) : wX5_calculate S x1 (fun u => Q u ∧ cfr [405] [(45, 11), (45, 12), (45, 13), (45, 14), (45, 15), (45, 17), (45, 19)] S u) := by
  have f : cfr [405] [(45, 11), (45, 12), (45, 13), (45, 14), (45, 15), (45, 17), (45, 19)] S S := cfr.rf
  unfold wX5_calculate at h ⊢
  refine ⟨h.1, ?_⟩
  replace h := h.2
  intro a4 ea4 
  replace h := h a4 ea4 
  obtain ⟨Q9, h0, h⟩ := h
  refine ⟨_, frX5_pop_ hw h0, ?_⟩
  intro r7 S8 q7_ y8_ y9_
  replace h := h r7 S8 q7_.1 y8_ y9_
  replace f := f.tr (q7_.2.mo (by decide) (by decide))
  obtain ⟨Q9, h0, h⟩ := h
  refine ⟨_, frX5_pop_ y8_ h0, ?_⟩
  intro r12 S13 q10_ y11_ y12_
  replace h := h r12 S13 q10_.1 y11_ y12_
  replace f := f.tr (q10_.2.mo (by decide) (by decide))
  refine ⟨h.1, ?_⟩
  replace h := h.2
  intro a18 ea18 
  replace h := h a18 ea18 
  refine ⟨fun c => ?_, fun c => ?_⟩
  · replace h := h.1 c
    exact fr_X5_calculate_J42 f h
  · replace h := h.2 c
    refine ⟨fun c => ?_, fun c => ?_⟩
    · replace h := h.1 c
      obtain ⟨Q9, h0, h⟩ := h
      refine ⟨_, frX5_raise y11_ h0, ?_⟩
      intro S36 q13_ y14_ y15_
      replace h := h S36 q13_.1 y14_ y15_
      replace f := f.tr (q13_.2.mo (by decide) (by decide))
      exact ⟨h, f⟩
    · replace h := h.2 c
      exact fr_X5_calculate_J42 f h
