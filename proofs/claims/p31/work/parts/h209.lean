set_option maxRecDepth 100000 in
theorem fr_X2_catchHolds_J84 {S0 : MS} {Q : Int32 → MS → Prop} {U84 : MS} (f : cfr [] [] S0 U84) (h : w_X2_catchHolds_J84 Q U84) : w_X2_catchHolds_J84 (fun r u => Q r u ∧ cfr [] [] S0 u) U84 := by
  unfold w_X2_catchHolds_J84 at h ⊢
  intro y1_
  replace h := h y1_
  exact ⟨h, f⟩
set_option maxRecDepth 100000 in
theorem frX2_catchHolds {S : MS} {x1 : Int32} {Q : Int32 → MS → Prop} (hw : wfC S) (h : wX2_catchHolds S x1 Q) : wX2_catchHolds S x1 (fun r u => Q r u ∧ cfr [] [] S u) := by
  have f : cfr [] [] S S := cfr.rf
  unfold wX2_catchHolds at h ⊢
  refine ⟨h.1, ?_⟩
  replace h := h.2
  intro a4 ea4 
  replace h := h a4 ea4 
  refine ⟨h.1, ?_⟩
  replace h := h.2
  intro a9 ea9 
  replace h := h a9 ea9 
  refine ⟨h.1, ?_⟩
  replace h := h.2
  intro a13 ea13 
  replace h := h a13 ea13 
  refine ⟨fun c => ?_, fun c => ?_⟩
  · replace h := h.1 c
    exact fr_X2_catchHolds_J84 f h
  · replace h := h.2 c
    refine ⟨h.1, ?_⟩
    replace h := h.2
    intro a18 ea18 
    replace h := h a18 ea18 
    refine ⟨fun c => ?_, fun c => ?_⟩
    · replace h := h.1 c
      exact fr_X2_catchHolds_J84 f h
    · replace h := h.2 c
      refine ⟨fun c => ?_, fun c => ?_⟩
      · replace h := h.1 c
        exact fr_X2_catchHolds_J84 f h
      · replace h := h.2 c
        refine ⟨h.1, ?_⟩
        replace h := h.2
        intro a25 ea25 
        replace h := h a25 ea25 
        refine ⟨h.1, ?_⟩
        replace h := h.2
        intro a29 ea29 
        replace h := h a29 ea29 
        refine ⟨fun c => ?_, fun c => ?_⟩
        · replace h := h.1 c
          exact fr_X2_catchHolds_J84 f h
        · replace h := h.2 c
          refine ⟨h.1, ?_⟩
          replace h := h.2
          intro a35 ea35 
          replace h := h a35 ea35 
          obtain ⟨Q9, h0, h⟩ := h
          refine ⟨_, frX2_errorOf hw h0, ?_⟩
          intro r37 S38 q2_ y3_ y4_
          replace h := h r37 S38 q2_.1 y3_ y4_
          replace f := f.tr (q2_.2.mo (by decide) (by decide))
          refine ⟨fun c => ?_, fun c => ?_⟩
          · replace h := h.1 c
            exact fr_X2_catchHolds_J84 f h
          · replace h := h.2 c
            exact ⟨h, f⟩
set_option maxRecDepth 100000 in
theorem fr_X2_build_L200 {S0 : MS} {Q : Nat → MS → Prop} : ∀ (n : Nat) {U200 : MS} {v200_1 : Nat} {v200_2 : Int32}, cfr [231, 232, 233, 234, 235, 236, 237] [(46, 12), (46, 13), (46, 14), (49, 0), (49, 1), (49, 2), (49, 3), (49, 4), (49, 5), (49, 6), (49, 7), (49, 8), (49, 9), (49, 10), (49, 11), (49, 12), (49, 13), (49, 16), (49, 17)] S0 U200 → w_X2_build_L200 Q n U200 v200_1 v200_2 → w_X2_build_L200 (fun r u => Q r u ∧ cfr [231, 232, 233, 234, 235, 236, 237] [(46, 12), (46, 13), (46, 14), (49, 0), (49, 1), (49, 2), (49, 3), (49, 4), (49, 5), (49, 6), (49, 7), (49, 8), (49, 9), (49, 10), (49, 11), (49, 12), (49, 13), (49, 16), (49, 17)] S0 u) n U200 v200_1 v200_2 := by
  intro n
  induction n with
  | zero => intro U200 v200_1 v200_2 f h; unfold w_X2_build_L200 at h; exact h.elim
  | succ n ih =>
    intro U200 v200_1 v200_2 f h
    unfold w_X2_build_L200 at h ⊢
    intro y1_ y2_
    replace h := h y1_ y2_
    refine ⟨h.1, ?_⟩
    replace h := h.2
    refine ⟨fun c => ?_, fun c => ?_⟩
    · replace h := h.1 c
      exact ⟨h, f⟩
    · replace h := h.2 c
      intro a55 ea55 
      replace h := h a55 ea55 
      refine ⟨h.1, ?_⟩
      replace h := h.2
      refine ⟨h.1, ?_⟩
      replace h := h.2
      intro a61 ea61 
      replace h := h a61 ea61 
      refine ⟨h.1, ?_⟩
      replace h := h.2
      intro a65 ea65 
      replace h := h a65 ea65 
      refine ⟨h.1, ?_⟩
      replace h := h.2
      intro S67 eS67 y3_ y4_
      replace h := h S67 eS67 y3_ y4_
      replace f := f.tr (show cfr [231, 232, 233, 234, 235, 236, 237] [(46, 12), (46, 13), (46, 14), (49, 0), (49, 1), (49, 2), (49, 3), (49, 4), (49, 5), (49, 6), (49, 7), (49, 8), (49, 9), (49, 10), (49, 11), (49, 12), (49, 13), (49, 16), (49, 17)] U200 S67 by rw [eS67]; exact cfr.aI y3_ (by decide))
      refine ⟨h.1, ?_⟩
      replace h := h.2
      refine ⟨h.1, ?_⟩
      replace h := h.2
      intro a73 ea73 
      replace h := h a73 ea73 
      refine ⟨h.1, ?_⟩
      replace h := h.2
      intro a77 ea77 
      replace h := h a77 ea77 
      refine ⟨h.1, ?_⟩
      replace h := h.2
      intro S79 eS79 y5_ y6_
      replace h := h S79 eS79 y5_ y6_
      replace f := f.tr (show cfr [231, 232, 233, 234, 235, 236, 237] [(46, 12), (46, 13), (46, 14), (49, 0), (49, 1), (49, 2), (49, 3), (49, 4), (49, 5), (49, 6), (49, 7), (49, 8), (49, 9), (49, 10), (49, 11), (49, 12), (49, 13), (49, 16), (49, 17)] S67 S79 by rw [eS79]; exact cfr.aI y5_ (by decide))
      refine ⟨h.1, ?_⟩
      replace h := h.2
      intro a83 ea83 
      replace h := h a83 ea83 
      obtain ⟨Q9, h0, h⟩ := h
      refine ⟨_, frX7_isMethodType y6_ h0, ?_⟩
      intro r85 S86 q7_ y8_ y9_
      replace h := h r85 S86 q7_.1 y8_ y9_
      replace f := f.tr (q7_.2.mo (by decide) (by decide))
      refine ⟨h.1, ?_⟩
      replace h := h.2
      refine ⟨h.1, ?_⟩
      replace h := h.2
      intro S91 eS91 y10_ y11_
      replace h := h S91 eS91 y10_ y11_
      replace f := f.tr (show cfr [231, 232, 233, 234, 235, 236, 237] [(46, 12), (46, 13), (46, 14), (49, 0), (49, 1), (49, 2), (49, 3), (49, 4), (49, 5), (49, 6), (49, 7), (49, 8), (49, 9), (49, 10), (49, 11), (49, 12), (49, 13), (49, 16), (49, 17)] S86 S91 by rw [eS91]; exact cfr.aI y10_ (by decide))
      refine ⟨h.1, ?_⟩
      replace h := h.2
      refine ⟨h.1, ?_⟩
      replace h := h.2
      intro S95 eS95 y12_ y13_
      replace h := h S95 eS95 y12_ y13_
      replace f := f.tr (show cfr [231, 232, 233, 234, 235, 236, 237] [(46, 12), (46, 13), (46, 14), (49, 0), (49, 1), (49, 2), (49, 3), (49, 4), (49, 5), (49, 6), (49, 7), (49, 8), (49, 9), (49, 10), (49, 11), (49, 12), (49, 13), (49, 16), (49, 17)] S91 S95 by rw [eS95]; exact cfr.aI y12_ (by decide))
      intro a96 ea96 
      replace h := h a96 ea96 
      exact ih f h
set_option maxRecDepth 100000 in
theorem fr_X2_build_L120 {S0 : MS} {Q : Nat → MS → Prop} : ∀ (n : Nat) {U120 : MS} {v120_1 : Nat} {v120_2 : Int32}, cfr [231, 232, 233, 234, 235, 236, 237] [(46, 12), (46, 13), (46, 14), (49, 0), (49, 1), (49, 2), (49, 3), (49, 4), (49, 5), (49, 6), (49, 7), (49, 8), (49, 9), (49, 10), (49, 11), (49, 12), (49, 13), (49, 16), (49, 17)] S0 U120 → w_X2_build_L120 Q n U120 v120_1 v120_2 → w_X2_build_L120 (fun r u => Q r u ∧ cfr [231, 232, 233, 234, 235, 236, 237] [(46, 12), (46, 13), (46, 14), (49, 0), (49, 1), (49, 2), (49, 3), (49, 4), (49, 5), (49, 6), (49, 7), (49, 8), (49, 9), (49, 10), (49, 11), (49, 12), (49, 13), (49, 16), (49, 17)] S0 u) n U120 v120_1 v120_2 := by
  intro n
  induction n with
  | zero => intro U120 v120_1 v120_2 f h; unfold w_X2_build_L120 at h; exact h.elim
  | succ n ih =>
    intro U120 v120_1 v120_2 f h
    unfold w_X2_build_L120 at h ⊢
    intro y14_ y15_
    replace h := h y14_ y15_
    refine ⟨h.1, ?_⟩
    replace h := h.2
    refine ⟨fun c => ?_, fun c => ?_⟩
    · replace h := h.1 c
      obtain ⟨n9, h⟩ := h
      exact ⟨n9, fr_X2_build_L200 n9 f h⟩
    · replace h := h.2 c
      refine ⟨h.1, ?_⟩
      replace h := h.2
      refine ⟨h.1, ?_⟩
      replace h := h.2
      intro a102 ea102 
      replace h := h a102 ea102 
      refine ⟨h.1, ?_⟩
      replace h := h.2
      intro a106 ea106 
      replace h := h a106 ea106 
      refine ⟨h.1, ?_⟩
      replace h := h.2
      intro S108 eS108 y16_ y17_
      replace h := h S108 eS108 y16_ y17_
      replace f := f.tr (show cfr [231, 232, 233, 234, 235, 236, 237] [(46, 12), (46, 13), (46, 14), (49, 0), (49, 1), (49, 2), (49, 3), (49, 4), (49, 5), (49, 6), (49, 7), (49, 8), (49, 9), (49, 10), (49, 11), (49, 12), (49, 13), (49, 16), (49, 17)] U120 S108 by rw [eS108]; exact cfr.aI y16_ (by decide))
      refine ⟨h.1, ?_⟩
      replace h := h.2
      refine ⟨h.1, ?_⟩
      replace h := h.2
      intro a114 ea114 
      replace h := h a114 ea114 
      refine ⟨h.1, ?_⟩
      replace h := h.2
      intro a118 ea118 
      replace h := h a118 ea118 
      refine ⟨h.1, ?_⟩
      replace h := h.2
      intro S120 eS120 y18_ y19_
      replace h := h S120 eS120 y18_ y19_
      replace f := f.tr (show cfr [231, 232, 233, 234, 235, 236, 237] [(46, 12), (46, 13), (46, 14), (49, 0), (49, 1), (49, 2), (49, 3), (49, 4), (49, 5), (49, 6), (49, 7), (49, 8), (49, 9), (49, 10), (49, 11), (49, 12), (49, 13), (49, 16), (49, 17)] S108 S120 by rw [eS120]; exact cfr.aI y18_ (by decide))
      refine ⟨h.1, ?_⟩
      replace h := h.2
      refine ⟨h.1, ?_⟩
      replace h := h.2
      intro a126 ea126 
      replace h := h a126 ea126 
      refine ⟨h.1, ?_⟩
      replace h := h.2
      intro a130 ea130 
      replace h := h a130 ea130 
      refine ⟨h.1, ?_⟩
      replace h := h.2
      intro S132 eS132 y20_ y21_
      replace h := h S132 eS132 y20_ y21_
      replace f := f.tr (show cfr [231, 232, 233, 234, 235, 236, 237] [(46, 12), (46, 13), (46, 14), (49, 0), (49, 1), (49, 2), (49, 3), (49, 4), (49, 5), (49, 6), (49, 7), (49, 8), (49, 9), (49, 10), (49, 11), (49, 12), (49, 13), (49, 16), (49, 17)] S120 S132 by rw [eS132]; exact cfr.aI y20_ (by decide))
      intro a133 ea133 
      replace h := h a133 ea133 
      exact ih f h
set_option maxRecDepth 100000 in
theorem frX2_build {S : MS} {Q : Nat → MS → Prop} (hw : wfC S) (h : wX2_build S Q) : wX2_build S (fun r u => Q r u ∧ cfr [231, 232, 233, 234, 235, 236, 237] [(46, 12), (46, 13), (46, 14), (49, 0), (49, 1), (49, 2), (49, 3), (49, 4), (49, 5), (49, 6), (49, 7), (49, 8), (49, 9), (49, 10), (49, 11), (49, 12), (49, 13), (49, 16), (49, 17)] S u) := by
  have f : cfr [231, 232, 233, 234, 235, 236, 237] [(46, 12), (46, 13), (46, 14), (49, 0), (49, 1), (49, 2), (49, 3), (49, 4), (49, 5), (49, 6), (49, 7), (49, 8), (49, 9), (49, 10), (49, 11), (49, 12), (49, 13), (49, 16), (49, 17)] S S := cfr.rf
  unfold wX2_build at h ⊢
  refine ⟨h.1, ?_⟩
  replace h := h.2
  intro S4 eS4 y22_
  replace h := h S4 eS4 y22_
  replace f := f.tr (show cfr [231, 232, 233, 234, 235, 236, 237] [(46, 12), (46, 13), (46, 14), (49, 0), (49, 1), (49, 2), (49, 3), (49, 4), (49, 5), (49, 6), (49, 7), (49, 8), (49, 9), (49, 10), (49, 11), (49, 12), (49, 13), (49, 16), (49, 17)] S S4 by rw [eS4]; exact cfr.new hw (eS4 ▸ y22_))
  intro y23_
  replace h := h y23_
  obtain ⟨Q9, h0, h⟩ := h
  refine ⟨_, frJ7_copyOf_9075b y22_ h0, ?_⟩
  intro b12 S9 q24_ y25_ y26_ y27_
  replace h := h b12 S9 q24_.1 y25_ y26_ y27_
  replace f := f.tr (q24_.2.mo (by decide) (by decide))
  intro y28_ y29_
  replace h := h y28_ y29_
  obtain ⟨Q9, h0, h⟩ := h
  refine ⟨_, frX10_init y25_ h0, ?_⟩
  intro S14 q30_ y31_ y32_
  replace h := h S14 q30_.1 y31_ y32_
  replace f := f.tr (q30_.2.mo (by decide) (by decide))
  intro S17 eS17 y33_ y34_
  replace h := h S17 eS17 y33_ y34_
  replace f := f.tr (show cfr [231, 232, 233, 234, 235, 236, 237] [(46, 12), (46, 13), (46, 14), (49, 0), (49, 1), (49, 2), (49, 3), (49, 4), (49, 5), (49, 6), (49, 7), (49, 8), (49, 9), (49, 10), (49, 11), (49, 12), (49, 13), (49, 16), (49, 17)] S14 S17 by rw [eS17]; exact cfr.oI y33_ (by decide))
  refine ⟨h.1, ?_⟩
  replace h := h.2
  intro a22 ea22 
  replace h := h a22 ea22 
  refine ⟨h.1, ?_⟩
  replace h := h.2
  intro a26 ea26 
  replace h := h a26 ea26 
  refine ⟨h.1, ?_⟩
  replace h := h.2
  intro a30 ea30 
  replace h := h a30 ea30 
  intro S31 eS31 y35_ y36_
  replace h := h S31 eS31 y35_ y36_
  replace f := f.tr (show cfr [231, 232, 233, 234, 235, 236, 237] [(46, 12), (46, 13), (46, 14), (49, 0), (49, 1), (49, 2), (49, 3), (49, 4), (49, 5), (49, 6), (49, 7), (49, 8), (49, 9), (49, 10), (49, 11), (49, 12), (49, 13), (49, 16), (49, 17)] S17 S31 by rw [eS31]; exact cfr.oI y35_ (by decide))
  refine ⟨h.1, ?_⟩
  replace h := h.2
  intro a36 ea36 
  replace h := h a36 ea36 
  refine ⟨h.1, ?_⟩
  replace h := h.2
  intro a40 ea40 
  replace h := h a40 ea40 
  refine ⟨h.1, ?_⟩
  replace h := h.2
  intro a44 ea44 
  replace h := h a44 ea44 
  intro S45 eS45 y37_ y38_
  replace h := h S45 eS45 y37_ y38_
  replace f := f.tr (show cfr [231, 232, 233, 234, 235, 236, 237] [(46, 12), (46, 13), (46, 14), (49, 0), (49, 1), (49, 2), (49, 3), (49, 4), (49, 5), (49, 6), (49, 7), (49, 8), (49, 9), (49, 10), (49, 11), (49, 12), (49, 13), (49, 16), (49, 17)] S31 S45 by rw [eS45]; exact cfr.oI y37_ (by decide))
  obtain ⟨n9, h⟩ := h
  exact ⟨n9, fr_X2_build_L120 n9 f h⟩
set_option maxRecDepth 100000 in
theorem fr_X2_tableRoom_J59 {S0 : MS} {Q : Int32 → MS → Prop} {k4 k4' : MS → Int32 → Int32 → Prop} {U59 : MS} {v59_1 : Int32} {v59_2 : Int32} (hk4 : ∀ (u : MS) (z0) (z1), cfr [] [(42, 9), (42, 10), (42, 11)] S0 u → k4 u z0 z1 → k4' u z0 z1) (f : cfr [] [(42, 9), (42, 10), (42, 11)] S0 U59) (h : w_X2_tableRoom_J59 Q k4 U59 v59_1 v59_2) : w_X2_tableRoom_J59 (fun r u => Q r u ∧ cfr [] [(42, 9), (42, 10), (42, 11)] S0 u) k4' U59 v59_1 v59_2 := by
  unfold w_X2_tableRoom_J59 at h ⊢
  intro y1_
  replace h := h y1_
  obtain ⟨Q9, h0, h⟩ := h
  refine ⟨_, frX2_lengthAt y1_ h0, ?_⟩
  intro r10 S11 q2_ y3_ y4_
  replace h := h r10 S11 q2_.1 y3_ y4_
  replace f := f.tr (q2_.2.mo (by decide) (by decide))
  intro a15 ea15 
  replace h := h a15 ea15 
  exact hk4 _ _ _ f h
set_option maxRecDepth 100000 in
theorem fr_X2_tableRoom_J56 {S0 : MS} {Q : Int32 → MS → Prop} {k4 k4' : MS → Int32 → Int32 → Prop} {U56 : MS} {t56_0 : Int32} {t56_1 : Int32} {t56_2 : Int32} {v56_2 : Int32} (hk4 : ∀ (u : MS) (z0) (z1), cfr [] [(42, 9), (42, 10), (42, 11)] S0 u → k4 u z0 z1 → k4' u z0 z1) (f : cfr [] [(42, 9), (42, 10), (42, 11)] S0 U56) (h : w_X2_tableRoom_J56 Q k4 U56 t56_0 t56_1 t56_2 v56_2) : w_X2_tableRoom_J56 (fun r u => Q r u ∧ cfr [] [(42, 9), (42, 10), (42, 11)] S0 u) k4' U56 t56_0 t56_1 t56_2 v56_2 := by
  unfold w_X2_tableRoom_J56 at h ⊢
  intro y5_
  replace h := h y5_
  intro a23 ea23 
  replace h := h a23 ea23 
  exact fr_X2_tableRoom_J59 hk4 f h
set_option maxRecDepth 100000 in
theorem fr_X2_tableRoom_L4 {S0 : MS} {Q : Int32 → MS → Prop} : ∀ (n : Nat) {U4 : MS} {v4_1 : Int32} {v4_2 : Int32}, cfr [] [(42, 9), (42, 10), (42, 11)] S0 U4 → w_X2_tableRoom_L4 Q n U4 v4_1 v4_2 → w_X2_tableRoom_L4 (fun r u => Q r u ∧ cfr [] [(42, 9), (42, 10), (42, 11)] S0 u) n U4 v4_1 v4_2 := by
  intro n
  induction n with
  | zero => intro U4 v4_1 v4_2 f h; unfold w_X2_tableRoom_L4 at h; exact h.elim
  | succ n ih =>
    intro U4 v4_1 v4_2 f h
    unfold w_X2_tableRoom_L4 at h ⊢
    intro y6_
    replace h := h y6_
    refine ⟨fun c => ?_, fun c => ?_⟩
    · replace h := h.1 c
      exact ⟨h, f⟩
    · replace h := h.2 c
      obtain ⟨Q9, h0, h⟩ := h
      refine ⟨_, frX2_decode y6_ h0, ?_⟩
      intro S4 q7_ y8_ y9_
      replace h := h S4 q7_.1 y8_ y9_
      replace f := f.tr (q7_.2.mo (by decide) (by decide))
      refine ⟨h.1, ?_⟩
      replace h := h.2
      refine ⟨fun c => ?_, fun c => ?_⟩
      · replace h := h.1 c
        exact fr_X2_tableRoom_J59 (fun _ _ _ f h => ih f h) f h
      · replace h := h.2 c
        refine ⟨h.1, ?_⟩
        replace h := h.2
        intro a20 ea20 
        replace h := h a20 ea20 
        refine ⟨fun c => ?_, fun c => ?_⟩
        · replace h := h.1 c
          exact fr_X2_tableRoom_J56 (fun _ _ _ f h => ih f h) f h
        · replace h := h.2 c
          exact fr_X2_tableRoom_J56 (fun _ _ _ f h => ih f h) f h
set_option maxRecDepth 100000 in
theorem frX2_tableRoom {S : MS} {Q : Int32 → MS → Prop} (hw : wfC S) (h : wX2_tableRoom S Q) : wX2_tableRoom S (fun r u => Q r u ∧ cfr [] [(42, 9), (42, 10), (42, 11)] S u) := by
  have f : cfr [] [(42, 9), (42, 10), (42, 11)] S S := cfr.rf
  unfold wX2_tableRoom at h ⊢
  obtain ⟨n9, h⟩ := h
  exact ⟨n9, fr_X2_tableRoom_L4 n9 f h⟩
set_option maxRecDepth 100000 in
theorem fr_X2_addTo_J179 {S0 : MS} {Q : MS → Prop} {U179 : MS} {v179_1 : Nat} (f : cfr [222, 223, 406] [(47, 2), (47, 4)] S0 U179) (h : w_X2_addTo_J179 Q U179 v179_1) : w_X2_addTo_J179 (fun u => Q u ∧ cfr [222, 223, 406] [(47, 2), (47, 4)] S0 u) U179 v179_1 := by
  unfold w_X2_addTo_J179 at h ⊢
  intro y1_ y2_
  replace h := h y1_ y2_
  obtain ⟨Q9, h0, h⟩ := h
  refine ⟨_, frX2_memberOf y1_ h0, ?_⟩
  intro r10 S11 q3_ y4_ y5_
  replace h := h r10 S11 q3_.1 y4_ y5_
  replace f := f.tr (q3_.2.mo (by decide) (by decide))
  intro y6_
  replace h := h y6_
  obtain ⟨Q9, h0, h⟩ := h
  refine ⟨_, frX8_add y4_ h0, ?_⟩
  intro S14 q7_ y8_ y9_
  replace h := h S14 q7_.1 y8_ y9_
  replace f := f.tr (q7_.2.mo (by decide) (by decide))
  exact ⟨h, f⟩
set_option maxRecDepth 100000 in
theorem frX2_addTo {S : MS} {p1 : Nat} {Q : MS → Prop} (hw : wfC S) (h : wX2_addTo S p1 Q) : wX2_addTo S p1 (fun u => Q u ∧ cfr [222, 223, 406] [(47, 2), (47, 4)] S u) := by
  have f : cfr [222, 223, 406] [(47, 2), (47, 4)] S S := cfr.rf
  unfold wX2_addTo at h ⊢
  refine ⟨h.1, ?_⟩
  replace h := h.2
  refine ⟨fun c => ?_, fun c => ?_⟩
  · replace h := h.1 c
    refine ⟨h.1, ?_⟩
    replace h := h.2
    refine ⟨fun c => ?_, fun c => ?_⟩
    · replace h := h.1 c
      refine ⟨fun c => ?_, fun c => ?_⟩
      · replace h := h.1 c
        intro y10_
        replace h := h y10_
        obtain ⟨Q9, h0, h⟩ := h
        refine ⟨_, frX8_add hw h0, ?_⟩
        intro S17 q11_ y12_ y13_
        replace h := h S17 q11_.1 y12_ y13_
        replace f := f.tr (q11_.2.mo (by decide) (by decide))
        exact ⟨h, f⟩
      · replace h := h.2 c
        refine ⟨fun c => ?_, fun c => ?_⟩
        · replace h := h.1 c
          refine ⟨h.1, ?_⟩
          replace h := h.2
          refine ⟨h.1, ?_⟩
          replace h := h.2
          intro y14_
          replace h := h y14_
          obtain ⟨Q9, h0, h⟩ := h
          refine ⟨_, frX8_add hw h0, ?_⟩
          intro S27 q15_ y16_ y17_
          replace h := h S27 q15_.1 y16_ y17_
          replace f := f.tr (q15_.2.mo (by decide) (by decide))
          exact ⟨h, f⟩
        · replace h := h.2 c
          refine ⟨fun c => ?_, fun c => ?_⟩
          · replace h := h.1 c
            refine ⟨h.1, ?_⟩
            replace h := h.2
            refine ⟨h.1, ?_⟩
            replace h := h.2
            intro y18_
            replace h := h y18_
            obtain ⟨Q9, h0, h⟩ := h
            refine ⟨_, frX8_add hw h0, ?_⟩
            intro S37 q19_ y20_ y21_
            replace h := h S37 q19_.1 y20_ y21_
            replace f := f.tr (q19_.2.mo (by decide) (by decide))
            exact ⟨h, f⟩
          · replace h := h.2 c
            refine ⟨fun c => ?_, fun c => ?_⟩
            · replace h := h.1 c
              exact fr_X2_addTo_J179 f h
            · replace h := h.2 c
              refine ⟨fun c => ?_, fun c => ?_⟩
              · replace h := h.1 c
                exact fr_X2_addTo_J179 f h
              · replace h := h.2 c
                refine ⟨fun c => ?_, fun c => ?_⟩
                · replace h := h.1 c
                  obtain ⟨Q9, h0, h⟩ := h
                  refine ⟨_, frX2_memberOf hw h0, ?_⟩
                  intro r40 S41 q22_ y23_ y24_
                  replace h := h r40 S41 q22_.1 y23_ y24_
                  replace f := f.tr (q22_.2.mo (by decide) (by decide))
                  intro y25_
                  replace h := h y25_
                  obtain ⟨Q9, h0, h⟩ := h
                  refine ⟨_, frX8_add y23_ h0, ?_⟩
                  intro S44 q26_ y27_ y28_
                  replace h := h S44 q26_.1 y27_ y28_
                  replace f := f.tr (q26_.2.mo (by decide) (by decide))
                  exact ⟨h, f⟩
                · replace h := h.2 c
                  intro y29_
                  replace h := h y29_
                  obtain ⟨Q9, h0, h⟩ := h
                  refine ⟨_, frX8_add hw h0, ?_⟩
                  intro S47 q30_ y31_ y32_
                  replace h := h S47 q30_.1 y31_ y32_
                  replace f := f.tr (q30_.2.mo (by decide) (by decide))
                  exact ⟨h, f⟩
    · replace h := h.2 c
      intro y33_
      replace h := h y33_
      obtain ⟨Q9, h0, h⟩ := h
      refine ⟨_, frX2_addSwitch hw h0, ?_⟩
      intro S50 q34_ y35_ y36_
      replace h := h S50 q34_.1 y35_ y36_
      replace f := f.tr (q34_.2.mo (by decide) (by decide))
      exact ⟨h, f⟩
  · replace h := h.2 c
    refine ⟨h.1, ?_⟩
    replace h := h.2
    intro y37_
    replace h := h y37_
    obtain ⟨Q9, h0, h⟩ := h
    refine ⟨_, frX8_add hw h0, ?_⟩
    intro S56 q38_ y39_ y40_
    replace h := h S56 q38_.1 y39_ y40_
    replace f := f.tr (q38_.2.mo (by decide) (by decide))
    exact ⟨h, f⟩
set_option maxRecDepth 100000 in
theorem fr_X3_findLoops_J119 {S0 : MS} {Q : MS → Prop} {k18 k18' : MS → Int32 → Prop} {U119 : MS} {v119_1 : Int32} (hk18 : ∀ (u : MS) (z0), cfr [209, 210, 211, 212] [] S0 u → k18 u z0 → k18' u z0) (f : cfr [209, 210, 211, 212] [] S0 U119) (h : w_X3_findLoops_J119 Q k18 U119 v119_1) : w_X3_findLoops_J119 (fun u => Q u ∧ cfr [209, 210, 211, 212] [] S0 u) k18' U119 v119_1 := by
  unfold w_X3_findLoops_J119 at h ⊢
  intro y1_
  replace h := h y1_
  intro a24 ea24 
  replace h := h a24 ea24 
  exact hk18 _ _ f h
set_option maxRecDepth 100000 in
theorem fr_X3_findLoops_J105 {S0 : MS} {Q : MS → Prop} {k18 k18' : MS → Int32 → Prop} {U105 : MS} {v105_1 : Int32} (hk18 : ∀ (u : MS) (z0), cfr [209, 210, 211, 212] [] S0 u → k18 u z0 → k18' u z0) (f : cfr [209, 210, 211, 212] [] S0 U105) (h : w_X3_findLoops_J105 Q k18 U105 v105_1) : w_X3_findLoops_J105 (fun u => Q u ∧ cfr [209, 210, 211, 212] [] S0 u) k18' U105 v105_1 := by
  unfold w_X3_findLoops_J105 at h ⊢
  intro y2_
  replace h := h y2_
  refine ⟨h.1, ?_⟩
  replace h := h.2
  refine ⟨fun c => ?_, fun c => ?_⟩
  · replace h := h.1 c
    exact fr_X3_findLoops_J119 hk18 f h
  · replace h := h.2 c
    obtain ⟨Q9, h0, h⟩ := h
    refine ⟨_, frX3_addLoop y2_ h0, ?_⟩
    intro S27 q3_ y4_ y5_
    replace h := h S27 q3_.1 y4_ y5_
    replace f := f.tr (q3_.2.mo (by decide) (by decide))
    exact fr_X3_findLoops_J119 hk18 f h
set_option maxRecDepth 100000 in
theorem fr_X3_findLoops_J99 {S0 : MS} {Q : MS → Prop} {k40 k40' : MS → Int32 → Int32 → Prop} {U99 : MS} {v99_1 : Int32} {v99_2 : Int32} (hk40 : ∀ (u : MS) (z0) (z1), cfr [209, 210, 211, 212] [] S0 u → k40 u z0 z1 → k40' u z0 z1) (f : cfr [209, 210, 211, 212] [] S0 U99) (h : w_X3_findLoops_J99 Q k40 U99 v99_1 v99_2) : w_X3_findLoops_J99 (fun u => Q u ∧ cfr [209, 210, 211, 212] [] S0 u) k40' U99 v99_1 v99_2 := by
  unfold w_X3_findLoops_J99 at h ⊢
  intro y6_
  replace h := h y6_
  intro a42 ea42 
  replace h := h a42 ea42 
  exact hk40 _ _ _ f h
set_option maxRecDepth 100000 in
theorem fr_X3_findLoops_L40 {S0 : MS} {Q : MS → Prop} {k18 k18' : MS → Int32 → Prop} (hk18 : ∀ (u : MS) (z0), cfr [209, 210, 211, 212] [] S0 u → k18 u z0 → k18' u z0) : ∀ (n : Nat) {U40 : MS} {v40_1 : Int32} {v40_2 : Int32}, cfr [209, 210, 211, 212] [] S0 U40 → w_X3_findLoops_L40 Q k18 n U40 v40_1 v40_2 → w_X3_findLoops_L40 (fun u => Q u ∧ cfr [209, 210, 211, 212] [] S0 u) k18' n U40 v40_1 v40_2 := by
  intro n
  induction n with
  | zero => intro U40 v40_1 v40_2 f h; unfold w_X3_findLoops_L40 at h; exact h.elim
  | succ n ih =>
    intro U40 v40_1 v40_2 f h
    unfold w_X3_findLoops_L40 at h ⊢
    intro y7_
    replace h := h y7_
    refine ⟨h.1, ?_⟩
    replace h := h.2
    refine ⟨fun c => ?_, fun c => ?_⟩
    · replace h := h.1 c
      exact fr_X3_findLoops_J105 hk18 f h
    · replace h := h.2 c
      refine ⟨h.1, ?_⟩
      replace h := h.2
      refine ⟨fun c => ?_, fun c => ?_⟩
      · replace h := h.1 c
        exact fr_X3_findLoops_J105 hk18 f h
      · replace h := h.2 c
        refine ⟨h.1, ?_⟩
        replace h := h.2
        refine ⟨h.1, ?_⟩
        replace h := h.2
        refine ⟨fun c => ?_, fun c => ?_⟩
        · replace h := h.1 c
          exact fr_X3_findLoops_J99 (fun _ _ _ f h => ih f h) f h
        · replace h := h.2 c
          refine ⟨h.1, ?_⟩
          replace h := h.2
          refine ⟨h.1, ?_⟩
          replace h := h.2
          refine ⟨fun c => ?_, fun c => ?_⟩
          · replace h := h.1 c
            exact fr_X3_findLoops_J99 (fun _ _ _ f h => ih f h) f h
          · replace h := h.2 c
            refine ⟨h.1, ?_⟩
            replace h := h.2
            refine ⟨h.1, ?_⟩
            replace h := h.2
            intro S56 eS56 y8_ y9_
            replace h := h S56 eS56 y8_ y9_
            replace f := f.tr (show cfr [209, 210, 211, 212] [] U40 S56 by rw [eS56]; exact cfr.aI y8_ (by decide))
            exact fr_X3_findLoops_J99 (fun _ _ _ f h => ih f h) f h
set_option maxRecDepth 100000 in
theorem fr_X3_findLoops_L18 {S0 : MS} {Q : MS → Prop} : ∀ (n : Nat) {U18 : MS} {v18_1 : Int32}, cfr [209, 210, 211, 212] [] S0 U18 → w_X3_findLoops_L18 Q n U18 v18_1 → w_X3_findLoops_L18 (fun u => Q u ∧ cfr [209, 210, 211, 212] [] S0 u) n U18 v18_1 := by
  intro n
  induction n with
  | zero => intro U18 v18_1 f h; unfold w_X3_findLoops_L18 at h; exact h.elim
  | succ n ih =>
    intro U18 v18_1 f h
    unfold w_X3_findLoops_L18 at h ⊢
    intro y10_
    replace h := h y10_
    refine ⟨fun c => ?_, fun c => ?_⟩
    · replace h := h.1 c
      exact ⟨h, f⟩
    · replace h := h.2 c
      refine ⟨h.1, ?_⟩
      replace h := h.2
      intro S12 eS12 y11_ y12_
      replace h := h S12 eS12 y11_ y12_
      replace f := f.tr (show cfr [209, 210, 211, 212] [] U18 S12 by rw [eS12]; exact cfr.aI y11_ (by decide))
      refine ⟨h.1, ?_⟩
      replace h := h.2
      intro a16 ea16 
      replace h := h a16 ea16 
      obtain ⟨n9, h⟩ := h
      exact ⟨n9, fr_X3_findLoops_L40 (fun _ _ f h => ih f h) n9 f h⟩
set_option maxRecDepth 100000 in
theorem frX3_findLoops {S : MS} {Q : MS → Prop} (hw : wfC S) (h : wX3_findLoops S Q) : wX3_findLoops S (fun u => Q u ∧ cfr [209, 210, 211, 212] [] S u) := by
  have f : cfr [209, 210, 211, 212] [] S S := cfr.rf
  unfold wX3_findLoops at h ⊢
  intro y13_
  replace h := h y13_
  obtain ⟨Q9, h0, h⟩ := h
  refine ⟨_, frJ7_fill_53178 y13_ (by decide) h0, ?_⟩
  intro S3 q14_ y15_ y16_
  replace h := h S3 q14_.1 y15_ y16_
  replace f := f.tr (q14_.2.mo (by decide) (by decide))
  intro y17_
  replace h := h y17_
  obtain ⟨Q9, h0, h⟩ := h
  refine ⟨_, frJ7_fill_53178 y17_ (by decide) h0, ?_⟩
  intro S7 q18_ y19_ y20_
  replace h := h S7 q18_.1 y19_ y20_
  replace f := f.tr (q18_.2.mo (by decide) (by decide))
  obtain ⟨n9, h⟩ := h
  exact ⟨n9, fr_X3_findLoops_L18 n9 f h⟩
set_option maxRecDepth 100000 in
theorem fr_X4_seek_J154 {S0 : MS} {Q : MS → Prop} {k45 k45' : MS → Nat → Int32 → Prop} {U154 : MS} {v154_0 : Nat} {v154_4 : Int32} (hk45 : ∀ (u : MS) (z0) (z1), cfr [213, 214, 304] [(44, 0), (44, 1), (44, 2), (44, 3), (44, 4), (44, 5), (44, 6), (44, 7)] S0 u → k45 u z0 z1 → k45' u z0 z1) (f : cfr [213, 214, 304] [(44, 0), (44, 1), (44, 2), (44, 3), (44, 4), (44, 5), (44, 6), (44, 7)] S0 U154) (h : w_X4_seek_J154 Q k45 U154 v154_0 v154_4) : w_X4_seek_J154 (fun u => Q u ∧ cfr [213, 214, 304] [(44, 0), (44, 1), (44, 2), (44, 3), (44, 4), (44, 5), (44, 6), (44, 7)] S0 u) k45' U154 v154_0 v154_4 := by
  unfold w_X4_seek_J154 at h ⊢
  intro y1_ y2_
  replace h := h y1_ y2_
  intro a21 ea21 
  replace h := h a21 ea21 
  exact hk45 _ _ _ f h
set_option maxRecDepth 100000 in
theorem fr_X4_seek_J148 {S0 : MS} {Q : MS → Prop} {k67 k67' : MS → Nat → Int32 → Int32 → Prop} {U148 : MS} {v148_0 : Nat} {v148_4 : Int32} {v148_5 : Int32} (hk67 : ∀ (u : MS) (z0) (z1) (z2), cfr [213, 214, 304] [(44, 0), (44, 1), (44, 2), (44, 3), (44, 4), (44, 5), (44, 6), (44, 7)] S0 u → k67 u z0 z1 z2 → k67' u z0 z1 z2) (f : cfr [213, 214, 304] [(44, 0), (44, 1), (44, 2), (44, 3), (44, 4), (44, 5), (44, 6), (44, 7)] S0 U148) (h : w_X4_seek_J148 Q k67 U148 v148_0 v148_4 v148_5) : w_X4_seek_J148 (fun u => Q u ∧ cfr [213, 214, 304] [(44, 0), (44, 1), (44, 2), (44, 3), (44, 4), (44, 5), (44, 6), (44, 7)] S0 u) k67' U148 v148_0 v148_4 v148_5 := by
  unfold w_X4_seek_J148 at h ⊢
  intro y3_ y4_
  replace h := h y3_ y4_
  intro a37 ea37 
  replace h := h a37 ea37 
  exact hk67 _ _ _ _ f h
set_option maxRecDepth 100000 in
theorem fr_X4_seek_J142 {S0 : MS} {Q : MS → Prop} {k109 k109' : MS → Nat → Int32 → Int32 → Int32 → Int32 → Prop} {U142 : MS} {v142_0 : Nat} {v142_4 : Int32} {v142_5 : Int32} {v142_6 : Int32} {v142_7 : Int32} (hk109 : ∀ (u : MS) (z0) (z1) (z2) (z3) (z4), cfr [213, 214, 304] [(44, 0), (44, 1), (44, 2), (44, 3), (44, 4), (44, 5), (44, 6), (44, 7)] S0 u → k109 u z0 z1 z2 z3 z4 → k109' u z0 z1 z2 z3 z4) (f : cfr [213, 214, 304] [(44, 0), (44, 1), (44, 2), (44, 3), (44, 4), (44, 5), (44, 6), (44, 7)] S0 U142) (h : w_X4_seek_J142 Q k109 U142 v142_0 v142_4 v142_5 v142_6 v142_7) : w_X4_seek_J142 (fun u => Q u ∧ cfr [213, 214, 304] [(44, 0), (44, 1), (44, 2), (44, 3), (44, 4), (44, 5), (44, 6), (44, 7)] S0 u) k109' U142 v142_0 v142_4 v142_5 v142_6 v142_7 := by
  unfold w_X4_seek_J142 at h ⊢
  intro y5_ y6_
  replace h := h y5_ y6_
  intro a42 ea42 
  replace h := h a42 ea42 
  exact hk109 _ _ _ _ _ _ f h
set_option maxRecDepth 100000 in
theorem fr_X4_seek_L109 {S0 : MS} {Q : MS → Prop} {k67 k67' : MS → Nat → Int32 → Int32 → Prop} (hk67 : ∀ (u : MS) (z0) (z1) (z2), cfr [213, 214, 304] [(44, 0), (44, 1), (44, 2), (44, 3), (44, 4), (44, 5), (44, 6), (44, 7)] S0 u → k67 u z0 z1 z2 → k67' u z0 z1 z2) : ∀ (n : Nat) {U109 : MS} {v109_0 : Nat} {v109_4 : Int32} {v109_5 : Int32} {v109_6 : Int32} {v109_7 : Int32}, cfr [213, 214, 304] [(44, 0), (44, 1), (44, 2), (44, 3), (44, 4), (44, 5), (44, 6), (44, 7)] S0 U109 → w_X4_seek_L109 Q k67 n U109 v109_0 v109_4 v109_5 v109_6 v109_7 → w_X4_seek_L109 (fun u => Q u ∧ cfr [213, 214, 304] [(44, 0), (44, 1), (44, 2), (44, 3), (44, 4), (44, 5), (44, 6), (44, 7)] S0 u) k67' n U109 v109_0 v109_4 v109_5 v109_6 v109_7 := by
  intro n
  induction n with
  | zero => intro U109 v109_0 v109_4 v109_5 v109_6 v109_7 f h; unfold w_X4_seek_L109 at h; exact h.elim
  | succ n ih =>
    intro U109 v109_0 v109_4 v109_5 v109_6 v109_7 f h
    unfold w_X4_seek_L109 at h ⊢
    intro y7_ y8_
    replace h := h y7_ y8_
    refine ⟨fun c => ?_, fun c => ?_⟩
    · replace h := h.1 c
      exact fr_X4_seek_J148 hk67 f h
    · replace h := h.2 c
      refine ⟨fun c => ?_, fun c => ?_⟩
      · replace h := h.1 c
        exact fr_X4_seek_J148 hk67 f h
      · replace h := h.2 c
        refine ⟨fun c => ?_, fun c => ?_⟩
        · replace h := h.1 c
          exact fr_X4_seek_J142 (fun _ _ _ _ _ _ f h => ih f h) f h
        · replace h := h.2 c
          intro y9_
          replace h := h y9_
          obtain ⟨Q9, h0, h⟩ := h
          refine ⟨_, frX4_spread y7_ h0, ?_⟩
          intro S45 q10_ y11_ y12_
          replace h := h S45 q10_.1 y11_ y12_
          replace f := f.tr (q10_.2.mo (by decide) (by decide))
          exact fr_X4_seek_J142 (fun _ _ _ _ _ _ f h => ih f h) f h
set_option maxRecDepth 100000 in
theorem fr_X4_seek_L67 {S0 : MS} {Q : MS → Prop} {k45 k45' : MS → Nat → Int32 → Prop} (hk45 : ∀ (u : MS) (z0) (z1), cfr [213, 214, 304] [(44, 0), (44, 1), (44, 2), (44, 3), (44, 4), (44, 5), (44, 6), (44, 7)] S0 u → k45 u z0 z1 → k45' u z0 z1) : ∀ (n : Nat) {U67 : MS} {v67_0 : Nat} {v67_4 : Int32} {v67_5 : Int32}, cfr [213, 214, 304] [(44, 0), (44, 1), (44, 2), (44, 3), (44, 4), (44, 5), (44, 6), (44, 7)] S0 U67 → w_X4_seek_L67 Q k45 n U67 v67_0 v67_4 v67_5 → w_X4_seek_L67 (fun u => Q u ∧ cfr [213, 214, 304] [(44, 0), (44, 1), (44, 2), (44, 3), (44, 4), (44, 5), (44, 6), (44, 7)] S0 u) k45' n U67 v67_0 v67_4 v67_5 := by
  intro n
  induction n with
  | zero => intro U67 v67_0 v67_4 v67_5 f h; unfold w_X4_seek_L67 at h; exact h.elim
  | succ n ih =>
    intro U67 v67_0 v67_4 v67_5 f h
    unfold w_X4_seek_L67 at h ⊢
    intro y13_ y14_
    replace h := h y13_ y14_
    refine ⟨h.1, ?_⟩
    replace h := h.2
    refine ⟨fun c => ?_, fun c => ?_⟩
    · replace h := h.1 c
      exact fr_X4_seek_J154 hk45 f h
    · replace h := h.2 c
      refine ⟨h.1, ?_⟩
      replace h := h.2
      refine ⟨fun c => ?_, fun c => ?_⟩
      · replace h := h.1 c
        exact fr_X4_seek_J154 hk45 f h
      · replace h := h.2 c
        refine ⟨h.1, ?_⟩
        replace h := h.2
        refine ⟨h.1, ?_⟩
        replace h := h.2
        intro a31 ea31 
        replace h := h a31 ea31 
        refine ⟨h.1, ?_⟩
        replace h := h.2
        refine ⟨h.1, ?_⟩
        replace h := h.2
        intro S35 eS35 y15_ y16_
        replace h := h S35 eS35 y15_ y16_
        replace f := f.tr (show cfr [213, 214, 304] [(44, 0), (44, 1), (44, 2), (44, 3), (44, 4), (44, 5), (44, 6), (44, 7)] U67 S35 by rw [eS35]; exact cfr.aI y15_ (by decide))
        obtain ⟨n9, h⟩ := h
        exact ⟨n9, fr_X4_seek_L109 (fun _ _ _ _ f h => ih f h) n9 f h⟩
set_option maxRecDepth 100000 in
theorem fr_X4_seek_L45 {S0 : MS} {Q : MS → Prop} : ∀ (n : Nat) {U45 : MS} {v45_0 : Nat} {v45_4 : Int32}, cfr [213, 214, 304] [(44, 0), (44, 1), (44, 2), (44, 3), (44, 4), (44, 5), (44, 6), (44, 7)] S0 U45 → w_X4_seek_L45 Q n U45 v45_0 v45_4 → w_X4_seek_L45 (fun u => Q u ∧ cfr [213, 214, 304] [(44, 0), (44, 1), (44, 2), (44, 3), (44, 4), (44, 5), (44, 6), (44, 7)] S0 u) n U45 v45_0 v45_4 := by
  intro n
  induction n with
  | zero => intro U45 v45_0 v45_4 f h; unfold w_X4_seek_L45 at h; exact h.elim
  | succ n ih =>
    intro U45 v45_0 v45_4 f h
    unfold w_X4_seek_L45 at h ⊢
    intro y17_ y18_
    replace h := h y17_ y18_
    refine ⟨fun c => ?_, fun c => ?_⟩
    · replace h := h.1 c
      exact ⟨h, f⟩
    · replace h := h.2 c
      refine ⟨fun c => ?_, fun c => ?_⟩
      · replace h := h.1 c
        exact ⟨h, f⟩
      · replace h := h.2 c
        intro S18 eS18 y19_ y20_
        replace h := h S18 eS18 y19_ y20_
        replace f := f.tr (show cfr [213, 214, 304] [(44, 0), (44, 1), (44, 2), (44, 3), (44, 4), (44, 5), (44, 6), (44, 7)] U45 S18 by rw [eS18]; exact cfr.oI y19_ (by decide))
        obtain ⟨n9, h⟩ := h
        exact ⟨n9, fr_X4_seek_L67 (fun _ _ _ f h => ih f h) n9 f h⟩
set_option maxRecDepth 100000 in
theorem frX4_seek {S : MS} {p0 : Nat} {p1 : Nat} {p2 : Nat} {x3 : Int32} {Q : MS → Prop} (hw : wfC S) (h : wX4_seek S p0 p1 p2 x3 Q) : wX4_seek S p0 p1 p2 x3 (fun u => Q u ∧ cfr [213, 214, 304] [(44, 0), (44, 1), (44, 2), (44, 3), (44, 4), (44, 5), (44, 6), (44, 7)] S u) := by
  have f : cfr [213, 214, 304] [(44, 0), (44, 1), (44, 2), (44, 3), (44, 4), (44, 5), (44, 6), (44, 7)] S S := cfr.rf
  unfold wX4_seek at h ⊢
  intro S1 eS1 y21_ y22_
  replace h := h S1 eS1 y21_ y22_
  replace f := f.tr (show cfr [213, 214, 304] [(44, 0), (44, 1), (44, 2), (44, 3), (44, 4), (44, 5), (44, 6), (44, 7)] S S1 by rw [eS1]; exact cfr.oR y21_ (by decide))
  intro S2 eS2 y23_ y24_
  replace h := h S2 eS2 y23_ y24_
  replace f := f.tr (show cfr [213, 214, 304] [(44, 0), (44, 1), (44, 2), (44, 3), (44, 4), (44, 5), (44, 6), (44, 7)] S1 S2 by rw [eS2]; exact cfr.oR y23_ (by decide))
  intro S3 eS3 y25_ y26_
  replace h := h S3 eS3 y25_ y26_
  replace f := f.tr (show cfr [213, 214, 304] [(44, 0), (44, 1), (44, 2), (44, 3), (44, 4), (44, 5), (44, 6), (44, 7)] S2 S3 by rw [eS3]; exact cfr.oI y25_ (by decide))
  intro S4 eS4 y27_ y28_
  replace h := h S4 eS4 y27_ y28_
  replace f := f.tr (show cfr [213, 214, 304] [(44, 0), (44, 1), (44, 2), (44, 3), (44, 4), (44, 5), (44, 6), (44, 7)] S3 S4 by rw [eS4]; exact cfr.oI y27_ (by decide))
  refine ⟨h.1, ?_⟩
  replace h := h.2
  intro y29_
  replace h := h y29_
  obtain ⟨Q9, h0, h⟩ := h
  refine ⟨_, frX4_makeRoom y28_ h0, ?_⟩
  intro S8 q30_ y31_ y32_
  replace h := h S8 q30_.1 y31_ y32_
  replace f := f.tr (q30_.2.mo (by decide) (by decide))
  intro y33_
  replace h := h y33_
  obtain ⟨Q9, h0, h⟩ := h
  refine ⟨_, frX4_comeTo y31_ h0, ?_⟩
  intro S12 q34_ y35_ y36_
  replace h := h S12 q34_.1 y35_ y36_
  replace f := f.tr (q34_.2.mo (by decide) (by decide))
  intro S14 eS14 y37_ y38_
  replace h := h S14 eS14 y37_ y38_
  replace f := f.tr (show cfr [213, 214, 304] [(44, 0), (44, 1), (44, 2), (44, 3), (44, 4), (44, 5), (44, 6), (44, 7)] S12 S14 by rw [eS14]; exact cfr.oI y37_ (by decide))
  obtain ⟨n9, h⟩ := h
  exact ⟨n9, fr_X4_seek_L45 n9 f h⟩
set_option maxRecDepth 100000 in
theorem frX5_leave {S : MS} {x1 : Int32} {Q : MS → Prop} (hw : wfC S) (h : wX5_leave S x1 Q) : wX5_leave S x1 (fun u => Q u ∧ cfr [405] [(45, 11), (45, 12), (45, 13), (45, 14), (45, 15), (45, 16), (45, 19)] S u) := by
  have f : cfr [405] [(45, 11), (45, 12), (45, 13), (45, 14), (45, 15), (45, 16), (45, 19)] S S := cfr.rf
  unfold wX5_leave at h ⊢
  refine ⟨h.1, ?_⟩
  replace h := h.2
  intro a4 ea4 
  replace h := h a4 ea4 
  obtain ⟨Q9, h0, h⟩ := h
  refine ⟨_, frX5_pop_ hw h0, ?_⟩
  intro r6 S7 q1_ y2_ y3_
  replace h := h r6 S7 q1_.1 y2_ y3_
  replace f := f.tr (q1_.2.mo (by decide) (by decide))
  refine ⟨fun c => ?_, fun c => ?_⟩
  · replace h := h.1 c
    intro S18 eS18 y4_ y5_
    replace h := h S18 eS18 y4_ y5_
    replace f := f.tr (show cfr [405] [(45, 11), (45, 12), (45, 13), (45, 14), (45, 15), (45, 16), (45, 19)] S7 S18 by rw [eS18]; exact cfr.oI y4_ (by decide))
    intro S19 eS19 y6_ y7_
    replace h := h S19 eS19 y6_ y7_
    replace f := f.tr (show cfr [405] [(45, 11), (45, 12), (45, 13), (45, 14), (45, 15), (45, 16), (45, 19)] S18 S19 by rw [eS19]; exact cfr.oJ y6_ (by decide))
    exact ⟨h, f⟩
  · replace h := h.2 c
    obtain ⟨Q9, h0, h⟩ := h
    refine ⟨_, frX5_closeFrame y2_ h0, ?_⟩
    intro S11 q8_ y9_ y10_
    replace h := h S11 q8_.1 y9_ y10_
    replace f := f.tr (q8_.2.mo (by decide) (by decide))
    obtain ⟨Q9, h0, h⟩ := h
    refine ⟨_, frX5_push_ y9_ h0, ?_⟩
    intro S14 q11_ y12_ y13_
    replace h := h S14 q11_.1 y12_ y13_
    replace f := f.tr (q11_.2.mo (by decide) (by decide))
    intro S17 eS17 y14_ y15_
    replace h := h S17 eS17 y14_ y15_
    replace f := f.tr (show cfr [405] [(45, 11), (45, 12), (45, 13), (45, 14), (45, 15), (45, 16), (45, 19)] S14 S17 by rw [eS17]; exact cfr.oI y14_ (by decide))
    exact ⟨h, f⟩
set_option maxRecDepth 100000 in
theorem fr_X5_raise_J46 {S0 : MS} {Q : MS → Prop} {k5 k5' : MS → Int32 → Int32 → Prop} {U46 : MS} {v46_1 : Int32} {v46_2 : Int32} (hk5 : ∀ (u : MS) (z0) (z1), cfr [405] [(45, 11), (45, 12), (45, 13), (45, 14), (45, 15), (45, 17), (45, 19)] S0 u → k5 u z0 z1 → k5' u z0 z1) (f : cfr [405] [(45, 11), (45, 12), (45, 13), (45, 14), (45, 15), (45, 17), (45, 19)] S0 U46) (h : w_X5_raise_J46 Q k5 U46 v46_1 v46_2) : w_X5_raise_J46 (fun u => Q u ∧ cfr [405] [(45, 11), (45, 12), (45, 13), (45, 14), (45, 15), (45, 17), (45, 19)] S0 u) k5' U46 v46_1 v46_2 := by
  unfold w_X5_raise_J46 at h ⊢
  intro y1_
  replace h := h y1_
  intro a10 ea10 
  replace h := h a10 ea10 
  exact hk5 _ _ _ f h
set_option maxRecDepth 100000 in
theorem fr_X5_raise_L5 {S0 : MS} {Q : MS → Prop} : ∀ (n : Nat) {U5 : MS} {v5_1 : Int32} {v5_2 : Int32}, cfr [405] [(45, 11), (45, 12), (45, 13), (45, 14), (45, 15), (45, 17), (45, 19)] S0 U5 → w_X5_raise_L5 Q n U5 v5_1 v5_2 → w_X5_raise_L5 (fun u => Q u ∧ cfr [405] [(45, 11), (45, 12), (45, 13), (45, 14), (45, 15), (45, 17), (45, 19)] S0 u) n U5 v5_1 v5_2 := by
  intro n
  induction n with
  | zero => intro U5 v5_1 v5_2 f h; unfold w_X5_raise_L5 at h; exact h.elim
  | succ n ih =>
    intro U5 v5_1 v5_2 f h
    unfold w_X5_raise_L5 at h ⊢
    intro y2_
    replace h := h y2_
    refine ⟨fun c => ?_, fun c => ?_⟩
    · replace h := h.1 c
      intro S3 eS3 y3_ y4_
      replace h := h S3 eS3 y3_ y4_
      replace f := f.tr (show cfr [405] [(45, 11), (45, 12), (45, 13), (45, 14), (45, 15), (45, 17), (45, 19)] U5 S3 by rw [eS3]; exact cfr.oI y3_ (by decide))
      intro S4 eS4 y5_ y6_
      replace h := h S4 eS4 y5_ y6_
      replace f := f.tr (show cfr [405] [(45, 11), (45, 12), (45, 13), (45, 14), (45, 15), (45, 17), (45, 19)] S3 S4 by rw [eS4]; exact cfr.oI y5_ (by decide))
      exact ⟨h, f⟩
    · replace h := h.2 c
      obtain ⟨Q9, h0, h⟩ := h
      refine ⟨_, frX5_handlerOf y2_ h0, ?_⟩
      intro r6 S7 q7_ y8_ y9_
      replace h := h r6 S7 q7_.1 y8_ y9_
      replace f := f.tr (q7_.2.mo (by decide) (by decide))
      refine ⟨fun c => ?_, fun c => ?_⟩
      · replace h := h.1 c
        refine ⟨fun c => ?_, fun c => ?_⟩
        · replace h := h.1 c
          exact fr_X5_raise_J46 (fun _ _ _ f h => ih f h) f h
        · replace h := h.2 c
          obtain ⟨Q9, h0, h⟩ := h
          refine ⟨_, frX5_closeFrame y8_ h0, ?_⟩
          intro S13 q10_ y11_ y12_
          replace h := h S13 q10_.1 y11_ y12_
          replace f := f.tr (q10_.2.mo (by decide) (by decide))
          exact fr_X5_raise_J46 (fun _ _ _ f h => ih f h) f h
      · replace h := h.2 c
        intro S15 eS15 y13_ y14_
        replace h := h S15 eS15 y13_ y14_
        replace f := f.tr (show cfr [405] [(45, 11), (45, 12), (45, 13), (45, 14), (45, 15), (45, 17), (45, 19)] S7 S15 by rw [eS15]; exact cfr.oI y13_ (by decide))
        intro S16 eS16 y15_ y16_
        replace h := h S16 eS16 y15_ y16_
        replace f := f.tr (show cfr [405] [(45, 11), (45, 12), (45, 13), (45, 14), (45, 15), (45, 17), (45, 19)] S15 S16 by rw [eS16]; exact cfr.oI y15_ (by decide))
        obtain ⟨Q9, h0, h⟩ := h
        refine ⟨_, frX5_push y16_ h0, ?_⟩
        intro S19 q17_ y18_ y19_
        replace h := h S19 q17_.1 y18_ y19_
        replace f := f.tr (q17_.2.mo (by decide) (by decide))
        exact ⟨h, f⟩
set_option maxRecDepth 100000 in
theorem frX5_raise {S : MS} {x1 : Int32} {Q : MS → Prop} (hw : wfC S) (h : wX5_raise S x1 Q) : wX5_raise S x1 (fun u => Q u ∧ cfr [405] [(45, 11), (45, 12), (45, 13), (45, 14), (45, 15), (45, 17), (45, 19)] S u) := by
  have f : cfr [405] [(45, 11), (45, 12), (45, 13), (45, 14), (45, 15), (45, 17), (45, 19)] S S := cfr.rf
  unfold wX5_raise at h ⊢
  intro a1 ea1 
  replace h := h a1 ea1 
  obtain ⟨n9, h⟩ := h
  exact ⟨n9, fr_X5_raise_L5 n9 f h⟩
set_option maxRecDepth 100000 in
theorem fr_X5_makeArray_J32 {S0 : MS} {Q : MS → Prop} {U32 : MS} (f : cfr [215, 216, 405] [(45, 2), (45, 3), (45, 4), (45, 5), (45, 11), (45, 12), (45, 13), (45, 14), (45, 15), (45, 17), (45, 19)] S0 U32) (h : w_X5_makeArray_J32 Q U32) : w_X5_makeArray_J32 (fun u => Q u ∧ cfr [215, 216, 405] [(45, 2), (45, 3), (45, 4), (45, 5), (45, 11), (45, 12), (45, 13), (45, 14), (45, 15), (45, 17), (45, 19)] S0 u) U32 := by
  unfold w_X5_makeArray_J32 at h ⊢
  intro y1_
  replace h := h y1_
  intro S2 eS2 y2_ y3_
  replace h := h S2 eS2 y2_ y3_
  replace f := f.tr (show cfr [215, 216, 405] [(45, 2), (45, 3), (45, 4), (45, 5), (45, 11), (45, 12), (45, 13), (45, 14), (45, 15), (45, 17), (45, 19)] U32 S2 by rw [eS2]; exact cfr.oI y2_ (by decide))
  exact ⟨h, f⟩
set_option maxRecDepth 100000 in
theorem fr_X5_makeArray_J167 {S0 : MS} {Q : MS → Prop} {U167 : MS} {v167_1 : Int32} (f : cfr [215, 216, 405] [(45, 2), (45, 3), (45, 4), (45, 5), (45, 11), (45, 12), (45, 13), (45, 14), (45, 15), (45, 17), (45, 19)] S0 U167) (h : w_X5_makeArray_J167 Q U167 v167_1) : w_X5_makeArray_J167 (fun u => Q u ∧ cfr [215, 216, 405] [(45, 2), (45, 3), (45, 4), (45, 5), (45, 11), (45, 12), (45, 13), (45, 14), (45, 15), (45, 17), (45, 19)] S0 u) U167 v167_1 := by
  unfold w_X5_makeArray_J167 at h ⊢
  intro y4_
  replace h := h y4_
  intro S19 eS19 y5_ y6_
  replace h := h S19 eS19 y5_ y6_
  replace f := f.tr (show cfr [215, 216, 405] [(45, 2), (45, 3), (45, 4), (45, 5), (45, 11), (45, 12), (45, 13), (45, 14), (45, 15), (45, 17), (45, 19)] U167 S19 by rw [eS19]; exact cfr.oI y5_ (by decide))
  obtain ⟨Q9, h0, h⟩ := h
  refine ⟨_, frX5_push y6_ h0, ?_⟩
  intro S21 q7_ y8_ y9_
  replace h := h S21 q7_.1 y8_ y9_
  replace f := f.tr (q7_.2.mo (by decide) (by decide))
  intro S24 eS24 y10_ y11_
  replace h := h S24 eS24 y10_ y11_
  replace f := f.tr (show cfr [215, 216, 405] [(45, 2), (45, 3), (45, 4), (45, 5), (45, 11), (45, 12), (45, 13), (45, 14), (45, 15), (45, 17), (45, 19)] S21 S24 by rw [eS24]; exact cfr.oI y10_ (by decide))
  exact ⟨h, f⟩
set_option maxRecDepth 100000 in
theorem fr_X5_makeArray_L135 {S0 : MS} {Q : MS → Prop} : ∀ (n : Nat) {U135 : MS} {v135_1 : Int32} {v135_2 : Int32}, cfr [215, 216, 405] [(45, 2), (45, 3), (45, 4), (45, 5), (45, 11), (45, 12), (45, 13), (45, 14), (45, 15), (45, 17), (45, 19)] S0 U135 → w_X5_makeArray_L135 Q n U135 v135_1 v135_2 → w_X5_makeArray_L135 (fun u => Q u ∧ cfr [215, 216, 405] [(45, 2), (45, 3), (45, 4), (45, 5), (45, 11), (45, 12), (45, 13), (45, 14), (45, 15), (45, 17), (45, 19)] S0 u) n U135 v135_1 v135_2 := by
  intro n
  induction n with
  | zero => intro U135 v135_1 v135_2 f h; unfold w_X5_makeArray_L135 at h; exact h.elim
  | succ n ih =>
    intro U135 v135_1 v135_2 f h
    unfold w_X5_makeArray_L135 at h ⊢
    intro y12_
    replace h := h y12_
    refine ⟨fun c => ?_, fun c => ?_⟩
    · replace h := h.1 c
      exact fr_X5_makeArray_J167 f h
    · replace h := h.2 c
      refine ⟨fun c => ?_, fun c => ?_⟩
      · replace h := h.1 c
        exact fr_X5_makeArray_J167 f h
      · replace h := h.2 c
        refine ⟨h.1, ?_⟩
        replace h := h.2
        intro S31 eS31 y13_ y14_
        replace h := h S31 eS31 y13_ y14_
        replace f := f.tr (show cfr [215, 216, 405] [(45, 2), (45, 3), (45, 4), (45, 5), (45, 11), (45, 12), (45, 13), (45, 14), (45, 15), (45, 17), (45, 19)] U135 S31 by rw [eS31]; exact cfr.aI y13_ (by decide))
        intro a32 ea32 
        replace h := h a32 ea32 
        exact ih f h
set_option maxRecDepth 100000 in
theorem fr_X5_makeArray_J117 {S0 : MS} {Q : MS → Prop} {U117 : MS} {v117_1 : Int32} (f : cfr [215, 216, 405] [(45, 2), (45, 3), (45, 4), (45, 5), (45, 11), (45, 12), (45, 13), (45, 14), (45, 15), (45, 17), (45, 19)] S0 U117) (h : w_X5_makeArray_J117 Q U117 v117_1) : w_X5_makeArray_J117 (fun u => Q u ∧ cfr [215, 216, 405] [(45, 2), (45, 3), (45, 4), (45, 5), (45, 11), (45, 12), (45, 13), (45, 14), (45, 15), (45, 17), (45, 19)] S0 u) U117 v117_1 := by
  unfold w_X5_makeArray_J117 at h ⊢
  intro y15_
  replace h := h y15_
  refine ⟨h.1, ?_⟩
  replace h := h.2
  intro S15 eS15 y16_ y17_
  replace h := h S15 eS15 y16_ y17_
  replace f := f.tr (show cfr [215, 216, 405] [(45, 2), (45, 3), (45, 4), (45, 5), (45, 11), (45, 12), (45, 13), (45, 14), (45, 15), (45, 17), (45, 19)] U117 S15 by rw [eS15]; exact cfr.aI y16_ (by decide))
  intro a16 ea16 
  replace h := h a16 ea16 
  obtain ⟨n9, h⟩ := h
  exact ⟨n9, fr_X5_makeArray_L135 n9 f h⟩
set_option maxRecDepth 100000 in
theorem fr_X5_makeArray_J78 {S0 : MS} {Q : MS → Prop} {U78 : MS} {v78_1 : Int32} (f : cfr [215, 216, 405] [(45, 2), (45, 3), (45, 4), (45, 5), (45, 11), (45, 12), (45, 13), (45, 14), (45, 15), (45, 17), (45, 19)] S0 U78) (h : w_X5_makeArray_J78 Q U78 v78_1) : w_X5_makeArray_J78 (fun u => Q u ∧ cfr [215, 216, 405] [(45, 2), (45, 3), (45, 4), (45, 5), (45, 11), (45, 12), (45, 13), (45, 14), (45, 15), (45, 17), (45, 19)] S0 u) U78 v78_1 := by
  unfold w_X5_makeArray_J78 at h ⊢
  intro y18_
  replace h := h y18_
  refine ⟨fun c => ?_, fun c => ?_⟩
  · replace h := h.1 c
    exact fr_X5_makeArray_J117 f h
  · replace h := h.2 c
    intro y19_
    replace h := h y19_
    obtain ⟨Q9, h0, h⟩ := h
    refine ⟨_, frJ7_copyOf_59c91 y18_ h0, ?_⟩
    intro b43 S40 q20_ y21_ y22_ y23_
    replace h := h b43 S40 q20_.1 y21_ y22_ y23_
    replace f := f.tr (q20_.2.mo (by decide) (by decide))
    intro S44 eS44 y24_ y25_
    replace h := h S44 eS44 y24_ y25_
    replace f := f.tr (show cfr [215, 216, 405] [(45, 2), (45, 3), (45, 4), (45, 5), (45, 11), (45, 12), (45, 13), (45, 14), (45, 15), (45, 17), (45, 19)] S40 S44 by rw [eS44]; exact cfr.oR y24_ (by decide))
    exact fr_X5_makeArray_J117 f h
set_option maxRecDepth 100000 in
theorem frX5_makeArray {S : MS} {x1 : Int32} {Q : MS → Prop} (hw : wfC S) (h : wX5_makeArray S x1 Q) : wX5_makeArray S x1 (fun u => Q u ∧ cfr [215, 216, 405] [(45, 2), (45, 3), (45, 4), (45, 5), (45, 11), (45, 12), (45, 13), (45, 14), (45, 15), (45, 17), (45, 19)] S u) := by
  have f : cfr [215, 216, 405] [(45, 2), (45, 3), (45, 4), (45, 5), (45, 11), (45, 12), (45, 13), (45, 14), (45, 15), (45, 17), (45, 19)] S S := cfr.rf
  unfold wX5_makeArray at h ⊢
  refine ⟨fun c => ?_, fun c => ?_⟩
  · replace h := h.1 c
    refine ⟨fun c => ?_, fun c => ?_⟩
    · replace h := h.1 c
      exact fr_X5_makeArray_J32 f h
    · replace h := h.2 c
      refine ⟨fun c => ?_, fun c => ?_⟩
      · replace h := h.1 c
        intro S7 eS7 y26_ y27_
        replace h := h S7 eS7 y26_ y27_
        replace f := f.tr (show cfr [215, 216, 405] [(45, 2), (45, 3), (45, 4), (45, 5), (45, 11), (45, 12), (45, 13), (45, 14), (45, 15), (45, 17), (45, 19)] S S7 by rw [eS7]; exact cfr.oI y26_ (by decide))
        refine ⟨fun c => ?_, fun c => ?_⟩
        · replace h := h.1 c
          exact fr_X5_makeArray_J78 f h
        · replace h := h.2 c
          intro y28_
          replace h := h y28_
          obtain ⟨Q9, h0, h⟩ := h
          refine ⟨_, frJ7_copyOf_59c91 y27_ h0, ?_⟩
          intro b55 S52 q29_ y30_ y31_ y32_
          replace h := h b55 S52 q29_.1 y30_ y31_ y32_
          replace f := f.tr (q29_.2.mo (by decide) (by decide))
          intro S56 eS56 y33_ y34_
          replace h := h S56 eS56 y33_ y34_
          replace f := f.tr (show cfr [215, 216, 405] [(45, 2), (45, 3), (45, 4), (45, 5), (45, 11), (45, 12), (45, 13), (45, 14), (45, 15), (45, 17), (45, 19)] S52 S56 by rw [eS56]; exact cfr.oR y33_ (by decide))
          exact fr_X5_makeArray_J78 f h
      · replace h := h.2 c
        exact fr_X5_makeArray_J32 f h
  · replace h := h.2 c
    obtain ⟨Q9, h0, h⟩ := h
    refine ⟨_, frX5_raise hw h0, ?_⟩
    intro S58 q35_ y36_ y37_
    replace h := h S58 q35_.1 y36_ y37_
    replace f := f.tr (q35_.2.mo (by decide) (by decide))
    exact ⟨h, f⟩
set_option maxRecDepth 100000 in
theorem frX5_tellLength {S : MS} {y1 : Int64} {Q : MS → Prop} (hw : wfC S) (h : wX5_tellLength S y1 Q) : wX5_tellLength S y1 (fun u => Q u ∧ cfr [405] [(45, 11), (45, 12), (45, 13), (45, 14), (45, 15), (45, 17), (45, 19)] S u) := by
  have f : cfr [405] [(45, 11), (45, 12), (45, 13), (45, 14), (45, 15), (45, 17), (45, 19)] S S := cfr.rf
  unfold wX5_tellLength at h ⊢
  refine ⟨fun c => ?_, fun c => ?_⟩
  · replace h := h.1 c
    obtain ⟨Q9, h0, h⟩ := h
    refine ⟨_, frX5_raise hw h0, ?_⟩
    intro S12 q1_ y2_ y3_
    replace h := h S12 q1_.1 y2_ y3_
    replace f := f.tr (q1_.2.mo (by decide) (by decide))
    exact ⟨h, f⟩
  · replace h := h.2 c
    refine ⟨h.1, ?_⟩
    replace h := h.2
    obtain ⟨Q9, h0, h⟩ := h
    refine ⟨_, frX5_push hw h0, ?_⟩
    intro S7 q4_ y5_ y6_
    replace h := h S7 q4_.1 y5_ y6_
    replace f := f.tr (q4_.2.mo (by decide) (by decide))
    intro S10 eS10 y7_ y8_
    replace h := h S10 eS10 y7_ y8_
    replace f := f.tr (show cfr [405] [(45, 11), (45, 12), (45, 13), (45, 14), (45, 15), (45, 17), (45, 19)] S7 S10 by rw [eS10]; exact cfr.oI y7_ (by decide))
    exact ⟨h, f⟩
set_option maxRecDepth 100000 in
theorem fr_X5_useElement_J54 {S0 : MS} {Q : MS → Prop} {U54 : MS} (f : cfr [215, 405] [(45, 11), (45, 12), (45, 13), (45, 14), (45, 15), (45, 17), (45, 19)] S0 U54) (h : w_X5_useElement_J54 Q U54) : w_X5_useElement_J54 (fun u => Q u ∧ cfr [215, 405] [(45, 11), (45, 12), (45, 13), (45, 14), (45, 15), (45, 17), (45, 19)] S0 u) U54 := by
  unfold w_X5_useElement_J54 at h ⊢
  intro y1_
  replace h := h y1_
  obtain ⟨Q9, h0, h⟩ := h
  refine ⟨_, frX5_raise y1_ h0, ?_⟩
  intro S13 q2_ y3_ y4_
  replace h := h S13 q2_.1 y3_ y4_
  replace f := f.tr (q2_.2.mo (by decide) (by decide))
  exact ⟨h, f⟩
set_option maxRecDepth 100000 in
theorem fr_X5_useElement_J113 {S0 : MS} {Q : MS → Prop} {U113 : MS} (f : cfr [215, 405] [(45, 11), (45, 12), (45, 13), (45, 14), (45, 15), (45, 17), (45, 19)] S0 U113) (h : w_X5_useElement_J113 Q U113) : w_X5_useElement_J113 (fun u => Q u ∧ cfr [215, 405] [(45, 11), (45, 12), (45, 13), (45, 14), (45, 15), (45, 17), (45, 19)] S0 u) U113 := by
  unfold w_X5_useElement_J113 at h ⊢
  intro y5_
  replace h := h y5_
  intro S26 eS26 y6_ y7_
  replace h := h S26 eS26 y6_ y7_
  replace f := f.tr (show cfr [215, 405] [(45, 11), (45, 12), (45, 13), (45, 14), (45, 15), (45, 17), (45, 19)] U113 S26 by rw [eS26]; exact cfr.oI y6_ (by decide))
  exact ⟨h, f⟩
set_option maxRecDepth 100000 in
theorem fr_X5_useElement_J15 {S0 : MS} {Q : MS → Prop} {U15 : MS} {t15_0 : Int32} {v15_1 : Int32} (f : cfr [215, 405] [(45, 11), (45, 12), (45, 13), (45, 14), (45, 15), (45, 17), (45, 19)] S0 U15) (h : w_X5_useElement_J15 Q U15 t15_0 v15_1) : w_X5_useElement_J15 (fun u => Q u ∧ cfr [215, 405] [(45, 11), (45, 12), (45, 13), (45, 14), (45, 15), (45, 17), (45, 19)] S0 u) U15 t15_0 v15_1 := by
  unfold w_X5_useElement_J15 at h ⊢
  intro y8_
  replace h := h y8_
  obtain ⟨Q9, h0, h⟩ := h
  refine ⟨_, frX5_pop y8_ h0, ?_⟩
  intro r2 S3 q9_ y10_ y11_
  replace h := h r2 S3 q9_.1 y10_ y11_
  replace f := f.tr (q9_.2.mo (by decide) (by decide))
  intro a5 ea5 
  replace h := h a5 ea5 
  obtain ⟨Q9, h0, h⟩ := h
  refine ⟨_, frX5_pop y10_ h0, ?_⟩
  intro r7 S8 q12_ y13_ y14_
  replace h := h r7 S8 q12_.1 y13_ y14_
  replace f := f.tr (q12_.2.mo (by decide) (by decide))
  intro a10 ea10 
  replace h := h a10 ea10 
  refine ⟨fun c => ?_, fun c => ?_⟩
  · replace h := h.1 c
    obtain ⟨Q9, h0, h⟩ := h
    refine ⟨_, frX5_raise y13_ h0, ?_⟩
    intro S43 q15_ y16_ y17_
    replace h := h S43 q15_.1 y16_ y17_
    replace f := f.tr (q15_.2.mo (by decide) (by decide))
    exact ⟨h, f⟩
  · replace h := h.2 c
    refine ⟨fun c => ?_, fun c => ?_⟩
    · replace h := h.1 c
      exact fr_X5_useElement_J54 f h
    · replace h := h.2 c
      refine ⟨h.1, ?_⟩
      replace h := h.2
      refine ⟨fun c => ?_, fun c => ?_⟩
      · replace h := h.1 c
        refine ⟨h.1, ?_⟩
        replace h := h.2
        intro a24 ea24 
        replace h := h a24 ea24 
        refine ⟨fun c => ?_, fun c => ?_⟩
        · replace h := h.1 c
          obtain ⟨Q9, h0, h⟩ := h
          refine ⟨_, frX5_heapAt y13_ h0, ?_⟩
          intro r36 S37 q18_ y19_ y20_
          replace h := h r36 S37 q18_.1 y19_ y20_
          replace f := f.tr (q18_.2.mo (by decide) (by decide))
          obtain ⟨Q9, h0, h⟩ := h
          refine ⟨_, frX5_push y19_ h0, ?_⟩
          intro S40 q21_ y22_ y23_
          replace h := h S40 q21_.1 y22_ y23_
          replace f := f.tr (q21_.2.mo (by decide) (by decide))
          exact fr_X5_useElement_J113 f h
        · replace h := h.2 c
          refine ⟨fun c => ?_, fun c => ?_⟩
          · replace h := h.1 c
            exact fr_X5_useElement_J113 f h
          · replace h := h.2 c
            refine ⟨fun c => ?_, fun c => ?_⟩
            · replace h := h.1 c
              exact fr_X5_useElement_J113 f h
            · replace h := h.2 c
              refine ⟨h.1, ?_⟩
              replace h := h.2
              intro S34 eS34 y24_ y25_
              replace h := h S34 eS34 y24_ y25_
              replace f := f.tr (show cfr [215, 405] [(45, 11), (45, 12), (45, 13), (45, 14), (45, 15), (45, 17), (45, 19)] S8 S34 by rw [eS34]; exact cfr.aI y24_ (by decide))
              exact fr_X5_useElement_J113 f h
      · replace h := h.2 c
        exact fr_X5_useElement_J54 f h
set_option maxRecDepth 100000 in
theorem frX5_useElement {S : MS} {x1 : Int32} {Q : MS → Prop} (hw : wfC S) (h : wX5_useElement S x1 Q) : wX5_useElement S x1 (fun u => Q u ∧ cfr [215, 405] [(45, 11), (45, 12), (45, 13), (45, 14), (45, 15), (45, 17), (45, 19)] S u) := by
  have f : cfr [215, 405] [(45, 11), (45, 12), (45, 13), (45, 14), (45, 15), (45, 17), (45, 19)] S S := cfr.rf
  unfold wX5_useElement at h ⊢
  refine ⟨fun c => ?_, fun c => ?_⟩
  · replace h := h.1 c
    obtain ⟨Q9, h0, h⟩ := h
    refine ⟨_, frX5_pop hw h0, ?_⟩
    intro r47 S48 q26_ y27_ y28_
    replace h := h r47 S48 q26_.1 y27_ y28_
    replace f := f.tr (q26_.2.mo (by decide) (by decide))
    exact fr_X5_useElement_J15 f h
  · replace h := h.2 c
    exact fr_X5_useElement_J15 f h
set_option maxRecDepth 100000 in
theorem fr_X7_poolFits_J40 {S0 : MS} {Q : Int32 → MS → Prop} {U40 : MS} (f : cfr [218] [(46, 2), (46, 3), (46, 5), (46, 15)] S0 U40) (h : w_X7_poolFits_J40 Q U40) : w_X7_poolFits_J40 (fun r u => Q r u ∧ cfr [218] [(46, 2), (46, 3), (46, 5), (46, 15)] S0 u) U40 := by
  unfold w_X7_poolFits_J40 at h ⊢
  intro y1_
  replace h := h y1_
  obtain ⟨Q9, h0, h⟩ := h
  refine ⟨_, frX7_breaks y1_ h0, ?_⟩
  intro r12 S13 q2_ y3_ y4_
  replace h := h r12 S13 q2_.1 y3_ y4_
  replace f := f.tr (q2_.2.mo (by decide) (by decide))
  exact ⟨h, f⟩
set_option maxRecDepth 100000 in
theorem fr_X7_poolFits_J124 {S0 : MS} {Q : Int32 → MS → Prop} {k70 k70' : MS → Int32 → Prop} {U124 : MS} {t124_0 : Int32} {t124_1 : Int32} (hk70 : ∀ (u : MS) (z0), cfr [218] [(46, 2), (46, 3), (46, 5), (46, 15)] S0 u → k70 u z0 → k70' u z0) (f : cfr [218] [(46, 2), (46, 3), (46, 5), (46, 15)] S0 U124) (h : w_X7_poolFits_J124 Q k70 U124 t124_0 t124_1) : w_X7_poolFits_J124 (fun r u => Q r u ∧ cfr [218] [(46, 2), (46, 3), (46, 5), (46, 15)] S0 u) k70' U124 t124_0 t124_1 := by
  unfold w_X7_poolFits_J124 at h ⊢
  intro y5_ y6_
  replace h := h y5_ y6_
  intro a36 ea36 
  replace h := h a36 ea36 
  refine ⟨h.1, ?_⟩
  replace h := h.2
  intro a40 ea40 
  replace h := h a40 ea40 
  refine ⟨h.1, ?_⟩
  replace h := h.2
  intro a44 ea44 
  replace h := h a44 ea44 
  intro S46 eS46 y7_ y8_
  replace h := h S46 eS46 y7_ y8_
  replace f := f.tr (show cfr [218] [(46, 2), (46, 3), (46, 5), (46, 15)] U124 S46 by rw [eS46]; exact cfr.oI y7_ (by decide))
  intro a47 ea47 
  replace h := h a47 ea47 
  exact hk70 _ _ f h
set_option maxRecDepth 100000 in
theorem fr_X7_poolFits_L70 {S0 : MS} {Q : Int32 → MS → Prop} : ∀ (n : Nat) {U70 : MS} {v70_1 : Int32}, cfr [218] [(46, 2), (46, 3), (46, 5), (46, 15)] S0 U70 → w_X7_poolFits_L70 Q n U70 v70_1 → w_X7_poolFits_L70 (fun r u => Q r u ∧ cfr [218] [(46, 2), (46, 3), (46, 5), (46, 15)] S0 u) n U70 v70_1 := by
  intro n
  induction n with
  | zero => intro U70 v70_1 f h; unfold w_X7_poolFits_L70 at h; exact h.elim
  | succ n ih =>
    intro U70 v70_1 f h
    unfold w_X7_poolFits_L70 at h ⊢
    intro y9_
    replace h := h y9_
    refine ⟨fun c => ?_, fun c => ?_⟩
    · replace h := h.1 c
      exact ⟨h, f⟩
    · replace h := h.2 c
      refine ⟨fun c => ?_, fun c => ?_⟩
      · replace h := h.1 c
        exact ⟨h, f⟩
      · replace h := h.2 c
        obtain ⟨Q9, h0, h⟩ := h
        refine ⟨_, frX7_entryFits y9_ h0, ?_⟩
        intro r25 S26 q10_ y11_ y12_
        replace h := h r25 S26 q10_.1 y11_ y12_
        replace f := f.tr (q10_.2.mo (by decide) (by decide))
        refine ⟨fun c => ?_, fun c => ?_⟩
        · replace h := h.1 c
          exact ⟨h, f⟩
        · replace h := h.2 c
          refine ⟨h.1, ?_⟩
          replace h := h.2
          intro S30 eS30 y13_ y14_
          replace h := h S30 eS30 y13_ y14_
          replace f := f.tr (show cfr [218] [(46, 2), (46, 3), (46, 5), (46, 15)] S26 S30 by rw [eS30]; exact cfr.aI y13_ (by decide))
          refine ⟨h.1, ?_⟩
          replace h := h.2
          intro a34 ea34 
          replace h := h a34 ea34 
          refine ⟨fun c => ?_, fun c => ?_⟩
          · replace h := h.1 c
            exact fr_X7_poolFits_J124 (fun _ _ f h => ih f h) f h
          · replace h := h.2 c
            exact fr_X7_poolFits_J124 (fun _ _ f h => ih f h) f h
set_option maxRecDepth 100000 in
theorem frX7_poolFits {S : MS} {Q : Int32 → MS → Prop} (hw : wfC S) (h : wX7_poolFits S Q) : wX7_poolFits S (fun r u => Q r u ∧ cfr [218] [(46, 2), (46, 3), (46, 5), (46, 15)] S u) := by
  have f : cfr [218] [(46, 2), (46, 3), (46, 5), (46, 15)] S S := cfr.rf
  unfold wX7_poolFits at h ⊢
  obtain ⟨Q9, h0, h⟩ := h
  refine ⟨_, frX7_isThere hw h0, ?_⟩
  intro r2 S3 q15_ y16_ y17_
  replace h := h r2 S3 q15_.1 y16_ y17_
  replace f := f.tr (q15_.2.mo (by decide) (by decide))
  refine ⟨fun c => ?_, fun c => ?_⟩
  · replace h := h.1 c
    exact ⟨h, f⟩
  · replace h := h.2 c
    refine ⟨h.1, ?_⟩
    replace h := h.2
    intro a9 ea9 
    replace h := h a9 ea9 
    intro S10 eS10 y18_ y19_
    replace h := h S10 eS10 y18_ y19_
    replace f := f.tr (show cfr [218] [(46, 2), (46, 3), (46, 5), (46, 15)] S3 S10 by rw [eS10]; exact cfr.oI y18_ (by decide))
    refine ⟨fun c => ?_, fun c => ?_⟩
    · replace h := h.1 c
      exact fr_X7_poolFits_J40 f h
    · replace h := h.2 c
      refine ⟨fun c => ?_, fun c => ?_⟩
      · replace h := h.1 c
        intro S18 eS18 y20_ y21_
        replace h := h S18 eS18 y20_ y21_
        replace f := f.tr (show cfr [218] [(46, 2), (46, 3), (46, 5), (46, 15)] S10 S18 by rw [eS18]; exact cfr.oI y20_ (by decide))
        intro y22_
        replace h := h y22_
        obtain ⟨Q9, h0, h⟩ := h
        refine ⟨_, frJ7_fill_53178 y22_ (by decide) h0, ?_⟩
        intro S20 q23_ y24_ y25_
        replace h := h S20 q23_.1 y24_ y25_
        replace f := f.tr (q23_.2.mo (by decide) (by decide))
        obtain ⟨n9, h⟩ := h
        exact ⟨n9, fr_X7_poolFits_L70 n9 f h⟩
      · replace h := h.2 c
        exact fr_X7_poolFits_J40 f h
set_option maxRecDepth 100000 in
theorem frX7_fieldsFit {S : MS} {Q : Int32 → MS → Prop} (hw : wfC S) (h : wX7_fieldsFit S Q) : wX7_fieldsFit S (fun r u => Q r u ∧ cfr [219] [(46, 2), (46, 3), (46, 7), (46, 8), (46, 15)] S u) := by
  have f : cfr [219] [(46, 2), (46, 3), (46, 7), (46, 8), (46, 15)] S S := cfr.rf
  unfold wX7_fieldsFit at h ⊢
  intro S1 eS1 y1_ y2_
  replace h := h S1 eS1 y1_ y2_
  replace f := f.tr (show cfr [219] [(46, 2), (46, 3), (46, 7), (46, 8), (46, 15)] S S1 by rw [eS1]; exact cfr.oI y1_ (by decide))
  intro S2 eS2 y3_ y4_
  replace h := h S2 eS2 y3_ y4_
  replace f := f.tr (show cfr [219] [(46, 2), (46, 3), (46, 7), (46, 8), (46, 15)] S1 S2 by rw [eS2]; exact cfr.oI y3_ (by decide))
  obtain ⟨Q9, h0, h⟩ := h
  refine ⟨_, frX7_membersFit y4_ h0, ?_⟩
  intro r4 S5 q5_ y6_ y7_
  replace h := h r4 S5 q5_.1 y6_ y7_
  replace f := f.tr (q5_.2.mo (by decide) (by decide))
  intro S7 eS7 y8_ y9_
  replace h := h S7 eS7 y8_ y9_
  replace f := f.tr (show cfr [219] [(46, 2), (46, 3), (46, 7), (46, 8), (46, 15)] S5 S7 by rw [eS7]; exact cfr.oI y8_ (by decide))
  refine ⟨fun c => ?_, fun c => ?_⟩
  · replace h := h.1 c
    exact ⟨h, f⟩
  · replace h := h.2 c
    exact ⟨h, f⟩
set_option maxRecDepth 100000 in
theorem frX7_methodsFit {S : MS} {Q : Int32 → MS → Prop} (hw : wfC S) (h : wX7_methodsFit S Q) : wX7_methodsFit S (fun r u => Q r u ∧ cfr [219] [(46, 2), (46, 3), (46, 8), (46, 15)] S u) := by
  have f : cfr [219] [(46, 2), (46, 3), (46, 8), (46, 15)] S S := cfr.rf
  unfold wX7_methodsFit at h ⊢
  obtain ⟨Q9, h0, h⟩ := h
  refine ⟨_, frX7_membersFit hw h0, ?_⟩
  intro r2 S3 q1_ y2_ y3_
  replace h := h r2 S3 q1_.1 y2_ y3_
  replace f := f.tr (q1_.2.mo (by decide) (by decide))
  intro S5 eS5 y4_ y5_
  replace h := h S5 eS5 y4_ y5_
  replace f := f.tr (show cfr [219] [(46, 2), (46, 3), (46, 8), (46, 15)] S3 S5 by rw [eS5]; exact cfr.oI y4_ (by decide))
  refine ⟨fun c => ?_, fun c => ?_⟩
  · replace h := h.1 c
    exact ⟨h, f⟩
  · replace h := h.2 c
    exact ⟨h, f⟩
set_option maxRecDepth 100000 in
theorem fr_X7_typesHold_J147 {S0 : MS} {Q : Int32 → MS → Prop} {k80 k80' : MS → Int32 → Prop} {U147 : MS} {t147_0 : Int32} {v147_1 : Int32} (hk80 : ∀ (u : MS) (z0), cfr [] [(46, 2), (46, 3), (46, 12), (46, 13), (46, 14)] S0 u → k80 u z0 → k80' u z0) (f : cfr [] [(46, 2), (46, 3), (46, 12), (46, 13), (46, 14)] S0 U147) (h : w_X7_typesHold_J147 Q k80 U147 t147_0 v147_1) : w_X7_typesHold_J147 (fun r u => Q r u ∧ cfr [] [(46, 2), (46, 3), (46, 12), (46, 13), (46, 14)] S0 u) k80' U147 t147_0 v147_1 := by
  unfold w_X7_typesHold_J147 at h ⊢
  intro y1_ y2_
  replace h := h y1_ y2_
  refine ⟨fun c => ?_, fun c => ?_⟩
  · replace h := h.1 c
    refine ⟨h.1, ?_⟩
    replace h := h.2
    intro a9 ea9 
    replace h := h a9 ea9 
    obtain ⟨Q9, h0, h⟩ := h
    refine ⟨_, frX7_breaks y1_ h0, ?_⟩
    intro r12 S13 q3_ y4_ y5_
    replace h := h r12 S13 q3_.1 y4_ y5_
    replace f := f.tr (q3_.2.mo (by decide) (by decide))
    exact ⟨h, f⟩
  · replace h := h.2 c
    intro a5 ea5 
    replace h := h a5 ea5 
    exact hk80 _ _ f h
set_option maxRecDepth 100000 in
theorem fr_X7_typesHold_J146 {S0 : MS} {Q : Int32 → MS → Prop} {k80 k80' : MS → Int32 → Prop} {U146 : MS} {v146_1 : Int32} (hk80 : ∀ (u : MS) (z0), cfr [] [(46, 2), (46, 3), (46, 12), (46, 13), (46, 14)] S0 u → k80 u z0 → k80' u z0) (f : cfr [] [(46, 2), (46, 3), (46, 12), (46, 13), (46, 14)] S0 U146) (h : w_X7_typesHold_J146 Q k80 U146 v146_1) : w_X7_typesHold_J146 (fun r u => Q r u ∧ cfr [] [(46, 2), (46, 3), (46, 12), (46, 13), (46, 14)] S0 u) k80' U146 v146_1 := by
  unfold w_X7_typesHold_J146 at h ⊢
  intro y6_
  replace h := h y6_
  exact fr_X7_typesHold_J147 hk80 f h
set_option maxRecDepth 100000 in
theorem fr_X7_typesHold_J60 {S0 : MS} {Q : Int32 → MS → Prop} {U60 : MS} {v60_1 : Int32} (f : cfr [] [(46, 2), (46, 3), (46, 12), (46, 13), (46, 14)] S0 U60) (h : w_X7_typesHold_J60 Q U60 v60_1) : w_X7_typesHold_J60 (fun r u => Q r u ∧ cfr [] [(46, 2), (46, 3), (46, 12), (46, 13), (46, 14)] S0 u) U60 v60_1 := by
  unfold w_X7_typesHold_J60 at h ⊢
  intro y7_
  replace h := h y7_
  refine ⟨h.1, ?_⟩
  replace h := h.2
  intro a42 ea42 
  replace h := h a42 ea42 
  obtain ⟨Q9, h0, h⟩ := h
  refine ⟨_, frX7_breaks y7_ h0, ?_⟩
  intro r44 S45 q8_ y9_ y10_
  replace h := h r44 S45 q8_.1 y9_ y10_
  replace f := f.tr (q8_.2.mo (by decide) (by decide))
  exact ⟨h, f⟩
set_option maxRecDepth 100000 in
theorem fr_X7_typesHold_J72 {S0 : MS} {Q : Int32 → MS → Prop} {k2 k2' : MS → Int32 → Prop} {U72 : MS} {v72_1 : Int32} (hk2 : ∀ (u : MS) (z0), cfr [] [(46, 2), (46, 3), (46, 12), (46, 13), (46, 14)] S0 u → k2 u z0 → k2' u z0) (f : cfr [] [(46, 2), (46, 3), (46, 12), (46, 13), (46, 14)] S0 U72) (h : w_X7_typesHold_J72 Q k2 U72 v72_1) : w_X7_typesHold_J72 (fun r u => Q r u ∧ cfr [] [(46, 2), (46, 3), (46, 12), (46, 13), (46, 14)] S0 u) k2' U72 v72_1 := by
  unfold w_X7_typesHold_J72 at h ⊢
  intro y11_
  replace h := h y11_
  intro a47 ea47 
  replace h := h a47 ea47 
  exact hk2 _ _ f h
set_option maxRecDepth 100000 in
theorem fr_X7_typesHold_J38 {S0 : MS} {Q : Int32 → MS → Prop} {k2 k2' : MS → Int32 → Prop} {U38 : MS} {v38_1 : Int32} {v38_2 : Int32} (hk2 : ∀ (u : MS) (z0), cfr [] [(46, 2), (46, 3), (46, 12), (46, 13), (46, 14)] S0 u → k2 u z0 → k2' u z0) (f : cfr [] [(46, 2), (46, 3), (46, 12), (46, 13), (46, 14)] S0 U38) (h : w_X7_typesHold_J38 Q k2 U38 v38_1 v38_2) : w_X7_typesHold_J38 (fun r u => Q r u ∧ cfr [] [(46, 2), (46, 3), (46, 12), (46, 13), (46, 14)] S0 u) k2' U38 v38_1 v38_2 := by
  unfold w_X7_typesHold_J38 at h ⊢
  intro y12_
  replace h := h y12_
  refine ⟨fun c => ?_, fun c => ?_⟩
  · replace h := h.1 c
    refine ⟨h.1, ?_⟩
    replace h := h.2
    intro a52 ea52 
    replace h := h a52 ea52 
    refine ⟨h.1, ?_⟩
    replace h := h.2
    intro a56 ea56 
    replace h := h a56 ea56 
    obtain ⟨Q9, h0, h⟩ := h
    refine ⟨_, frX7_isMethodType y12_ h0, ?_⟩
    intro r58 S59 q13_ y14_ y15_
    replace h := h r58 S59 q13_.1 y14_ y15_
    replace f := f.tr (q13_.2.mo (by decide) (by decide))
    refine ⟨fun c => ?_, fun c => ?_⟩
    · replace h := h.1 c
      exact fr_X7_typesHold_J60 f h
    · replace h := h.2 c
      exact fr_X7_typesHold_J72 hk2 f h
  · replace h := h.2 c
    exact fr_X7_typesHold_J72 hk2 f h
set_option maxRecDepth 100000 in
theorem fr_X7_typesHold_L80 {S0 : MS} {Q : Int32 → MS → Prop} : ∀ (n : Nat) {U80 : MS} {v80_1 : Int32}, cfr [] [(46, 2), (46, 3), (46, 12), (46, 13), (46, 14)] S0 U80 → w_X7_typesHold_L80 Q n U80 v80_1 → w_X7_typesHold_L80 (fun r u => Q r u ∧ cfr [] [(46, 2), (46, 3), (46, 12), (46, 13), (46, 14)] S0 u) n U80 v80_1 := by
  intro n
  induction n with
  | zero => intro U80 v80_1 f h; unfold w_X7_typesHold_L80 at h; exact h.elim
  | succ n ih =>
    intro U80 v80_1 f h
    unfold w_X7_typesHold_L80 at h ⊢
    intro y16_
    replace h := h y16_
    refine ⟨fun c => ?_, fun c => ?_⟩
    · replace h := h.1 c
      exact ⟨h, f⟩
    · replace h := h.2 c
      refine ⟨fun c => ?_, fun c => ?_⟩
      · replace h := h.1 c
        refine ⟨h.1, ?_⟩
        replace h := h.2
        intro a19 ea19 
        replace h := h a19 ea19 
        obtain ⟨Q9, h0, h⟩ := h
        refine ⟨_, frX7_isMethodType y16_ h0, ?_⟩
        intro r21 S22 q17_ y18_ y19_
        replace h := h r21 S22 q17_.1 y18_ y19_
        replace f := f.tr (q17_.2.mo (by decide) (by decide))
        refine ⟨fun c => ?_, fun c => ?_⟩
        · replace h := h.1 c
          exact fr_X7_typesHold_J146 (fun _ _ f h => ih f h) f h
        · replace h := h.2 c
          refine ⟨fun c => ?_, fun c => ?_⟩
          · replace h := h.1 c
            exact fr_X7_typesHold_J146 (fun _ _ f h => ih f h) f h
          · replace h := h.2 c
            exact fr_X7_typesHold_J147 (fun _ _ f h => ih f h) f h
      · replace h := h.2 c
        refine ⟨h.1, ?_⟩
        replace h := h.2
        intro a29 ea29 
        replace h := h a29 ea29 
        refine ⟨h.1, ?_⟩
        replace h := h.2
        intro a33 ea33 
        replace h := h a33 ea33 
        refine ⟨fun c => ?_, fun c => ?_⟩
        · replace h := h.1 c
          exact fr_X7_typesHold_J147 (fun _ _ f h => ih f h) f h
        · replace h := h.2 c
          exact fr_X7_typesHold_J147 (fun _ _ f h => ih f h) f h
set_option maxRecDepth 100000 in
theorem fr_X7_typesHold_L2 {S0 : MS} {Q : Int32 → MS → Prop} : ∀ (n : Nat) {U2 : MS} {v2_1 : Int32}, cfr [] [(46, 2), (46, 3), (46, 12), (46, 13), (46, 14)] S0 U2 → w_X7_typesHold_L2 Q n U2 v2_1 → w_X7_typesHold_L2 (fun r u => Q r u ∧ cfr [] [(46, 2), (46, 3), (46, 12), (46, 13), (46, 14)] S0 u) n U2 v2_1 := by
  intro n
  induction n with
  | zero => intro U2 v2_1 f h; unfold w_X7_typesHold_L2 at h; exact h.elim
  | succ n ih =>
    intro U2 v2_1 f h
    unfold w_X7_typesHold_L2 at h ⊢
    intro y20_
    replace h := h y20_
    refine ⟨fun c => ?_, fun c => ?_⟩
    · replace h := h.1 c
      obtain ⟨n9, h⟩ := h
      exact ⟨n9, fr_X7_typesHold_L80 n9 f h⟩
    · replace h := h.2 c
      refine ⟨h.1, ?_⟩
      replace h := h.2
      intro a38 ea38 
      replace h := h a38 ea38 
      refine ⟨fun c => ?_, fun c => ?_⟩
      · replace h := h.1 c
        refine ⟨h.1, ?_⟩
        replace h := h.2
        intro a66 ea66 
        replace h := h a66 ea66 
        refine ⟨h.1, ?_⟩
        replace h := h.2
        intro a70 ea70 
        replace h := h a70 ea70 
        refine ⟨h.1, ?_⟩
        replace h := h.2
        intro a74 ea74 
        replace h := h a74 ea74 
        refine ⟨fun c => ?_, fun c => ?_⟩
        · replace h := h.1 c
          exact fr_X7_typesHold_J60 f h
        · replace h := h.2 c
          exact fr_X7_typesHold_J38 (fun _ _ f h => ih f h) f h
      · replace h := h.2 c
        exact fr_X7_typesHold_J38 (fun _ _ f h => ih f h) f h
set_option maxRecDepth 100000 in
theorem frX7_typesHold {S : MS} {Q : Int32 → MS → Prop} (hw : wfC S) (h : wX7_typesHold S Q) : wX7_typesHold S (fun r u => Q r u ∧ cfr [] [(46, 2), (46, 3), (46, 12), (46, 13), (46, 14)] S u) := by
  have f : cfr [] [(46, 2), (46, 3), (46, 12), (46, 13), (46, 14)] S S := cfr.rf
  unfold wX7_typesHold at h ⊢
  obtain ⟨n9, h⟩ := h
  exact ⟨n9, fr_X7_typesHold_L2 n9 f h⟩
