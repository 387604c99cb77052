set_option maxRecDepth 100000 in
theorem fr_X7_attributeNamesHold_L13 {S0 : MS} {Q : Int32 → MS → Prop} : ∀ (n : Nat) {U13 : MS} {v13_2 : Int32} {v13_3 : Int32} {v13_4 : Int32}, cfr [] [(46, 2), (46, 3)] S0 U13 → w_X7_attributeNamesHold_L13 Q n U13 v13_2 v13_3 v13_4 → w_X7_attributeNamesHold_L13 (fun r u => Q r u ∧ cfr [] [(46, 2), (46, 3)] S0 u) n U13 v13_2 v13_3 v13_4 := by
  intro n
  induction n with
  | zero => intro U13 v13_2 v13_3 v13_4 f h; unfold w_X7_attributeNamesHold_L13 at h; exact h.elim
  | succ n ih =>
    intro U13 v13_2 v13_3 v13_4 f h
    unfold w_X7_attributeNamesHold_L13 at h ⊢
    intro y1_
    replace h := h y1_
    refine ⟨fun c => ?_, fun c => ?_⟩
    · replace h := h.1 c
      exact ⟨h, f⟩
    · replace h := h.2 c
      obtain ⟨Q9, h0, h⟩ := h
      refine ⟨_, frX7_isNameAt y1_ h0, ?_⟩
      intro r9 S10 q2_ y3_ y4_
      replace h := h r9 S10 q2_.1 y3_ y4_
      replace f := f.tr (q2_.2.mo (by decide) (by decide))
      refine ⟨fun c => ?_, fun c => ?_⟩
      · replace h := h.1 c
        exact ⟨h, f⟩
      · replace h := h.2 c
        refine ⟨h.1, ?_⟩
        replace h := h.2
        intro a19 ea19 
        replace h := h a19 ea19 
        intro a20 ea20 
        replace h := h a20 ea20 
        exact ih f h
set_option maxRecDepth 100000 in
theorem frX7_attributeNamesHold {S : MS} {x1 : Int32} {Q : Int32 → MS → Prop} (hw : wfC S) (h : wX7_attributeNamesHold S x1 Q) : wX7_attributeNamesHold S x1 (fun r u => Q r u ∧ cfr [] [(46, 2), (46, 3)] S u) := by
  have f : cfr [] [(46, 2), (46, 3)] S S := cfr.rf
  unfold wX7_attributeNamesHold at h ⊢
  refine ⟨h.1, ?_⟩
  replace h := h.2
  intro a4 ea4 
  replace h := h a4 ea4 
  intro a6 ea6 
  replace h := h a6 ea6 
  obtain ⟨n9, h⟩ := h
  exact ⟨n9, fr_X7_attributeNamesHold_L13 n9 f h⟩
set_option maxRecDepth 100000 in
theorem fr_X7_isMethodType_J179 {S0 : MS} {Q : Int32 → MS → Prop} {U179 : MS} {t179_0 : Int32} {t179_1 : Int32} {v179_2 : Int32} (f : cfr [] [(46, 12), (46, 13), (46, 14)] S0 U179) (h : w_X7_isMethodType_J179 Q U179 t179_0 t179_1 v179_2) : w_X7_isMethodType_J179 (fun r u => Q r u ∧ cfr [] [(46, 12), (46, 13), (46, 14)] S0 u) U179 t179_0 t179_1 v179_2 := by
  unfold w_X7_isMethodType_J179 at h ⊢
  intro y1_
  replace h := h y1_
  refine ⟨fun c => ?_, fun c => ?_⟩
  · replace h := h.1 c
    exact ⟨h, f⟩
  · replace h := h.2 c
    exact ⟨h, f⟩
set_option maxRecDepth 100000 in
theorem fr_X7_isMethodType_J165 {S0 : MS} {Q : Int32 → MS → Prop} {U165 : MS} {v165_2 : Int32} {v165_3 : Int32} (f : cfr [] [(46, 12), (46, 13), (46, 14)] S0 U165) (h : w_X7_isMethodType_J165 Q U165 v165_2 v165_3) : w_X7_isMethodType_J165 (fun r u => Q r u ∧ cfr [] [(46, 12), (46, 13), (46, 14)] S0 u) U165 v165_2 v165_3 := by
  unfold w_X7_isMethodType_J165 at h ⊢
  intro y2_
  replace h := h y2_
  refine ⟨fun c => ?_, fun c => ?_⟩
  · replace h := h.1 c
    exact fr_X7_isMethodType_J179 f h
  · replace h := h.2 c
    exact fr_X7_isMethodType_J179 f h
set_option maxRecDepth 100000 in
theorem fr_X7_isMethodType_J112 {S0 : MS} {Q : Int32 → MS → Prop} {U112 : MS} {v112_1 : Int32} {v112_2 : Int32} {v112_3 : Int32} (f : cfr [] [(46, 12), (46, 13), (46, 14)] S0 U112) (h : w_X7_isMethodType_J112 Q U112 v112_1 v112_2 v112_3) : w_X7_isMethodType_J112 (fun r u => Q r u ∧ cfr [] [(46, 12), (46, 13), (46, 14)] S0 u) U112 v112_1 v112_2 v112_3 := by
  unfold w_X7_isMethodType_J112 at h ⊢
  intro y3_
  replace h := h y3_
  refine ⟨fun c => ?_, fun c => ?_⟩
  · replace h := h.1 c
    exact ⟨h, f⟩
  · replace h := h.2 c
    refine ⟨h.1, ?_⟩
    replace h := h.2
    refine ⟨fun c => ?_, fun c => ?_⟩
    · replace h := h.1 c
      intro a22 ea22 
      replace h := h a22 ea22 
      refine ⟨h.1, ?_⟩
      replace h := h.2
      intro S26 eS26 y4_ y5_
      replace h := h S26 eS26 y4_ y5_
      replace f := f.tr (show cfr [] [(46, 12), (46, 13), (46, 14)] U112 S26 by rw [eS26]; exact cfr.oI y4_ (by decide))
      refine ⟨fun c => ?_, fun c => ?_⟩
      · replace h := h.1 c
        refine ⟨h.1, ?_⟩
        replace h := h.2
        refine ⟨fun c => ?_, fun c => ?_⟩
        · replace h := h.1 c
          exact fr_X7_isMethodType_J165 f h
        · replace h := h.2 c
          exact ⟨h, f⟩
      · replace h := h.2 c
        exact fr_X7_isMethodType_J165 f h
    · replace h := h.2 c
      exact ⟨h, f⟩
set_option maxRecDepth 100000 in
theorem fr_X7_isMethodType_J99 {S0 : MS} {Q : Int32 → MS → Prop} {k44 k44' : MS → Int32 → Int32 → Int32 → Int32 → Prop} {U99 : MS} {t99_0 : Int32} {t99_1 : Int32} {v99_1 : Int32} {v99_2 : Int32} (hk44 : ∀ (u : MS) (z0) (z1) (z2) (z3), cfr [] [(46, 12), (46, 13), (46, 14)] S0 u → k44 u z0 z1 z2 z3 → k44' u z0 z1 z2 z3) (f : cfr [] [(46, 12), (46, 13), (46, 14)] S0 U99) (h : w_X7_isMethodType_J99 Q k44 U99 t99_0 t99_1 v99_1 v99_2) : w_X7_isMethodType_J99 (fun r u => Q r u ∧ cfr [] [(46, 12), (46, 13), (46, 14)] S0 u) k44' U99 t99_0 t99_1 v99_1 v99_2 := by
  unfold w_X7_isMethodType_J99 at h ⊢
  intro y6_
  replace h := h y6_
  intro a43 ea43 
  replace h := h a43 ea43 
  refine ⟨h.1, ?_⟩
  replace h := h.2
  intro a47 ea47 
  replace h := h a47 ea47 
  exact hk44 _ _ _ _ _ f h
set_option maxRecDepth 100000 in
theorem fr_X7_isMethodType_J83 {S0 : MS} {Q : Int32 → MS → Prop} {k44 k44' : MS → Int32 → Int32 → Int32 → Int32 → Prop} {U83 : MS} {t83_0 : Int32} {t83_1 : Int32} {v83_1 : Int32} {v83_2 : Int32} {v83_3 : Int32} {v83_4 : Int32} (hk44 : ∀ (u : MS) (z0) (z1) (z2) (z3), cfr [] [(46, 12), (46, 13), (46, 14)] S0 u → k44 u z0 z1 z2 z3 → k44' u z0 z1 z2 z3) (f : cfr [] [(46, 12), (46, 13), (46, 14)] S0 U83) (h : w_X7_isMethodType_J83 Q k44 U83 t83_0 t83_1 v83_1 v83_2 v83_3 v83_4) : w_X7_isMethodType_J83 (fun r u => Q r u ∧ cfr [] [(46, 12), (46, 13), (46, 14)] S0 u) k44' U83 t83_0 t83_1 v83_1 v83_2 v83_3 v83_4 := by
  unfold w_X7_isMethodType_J83 at h ⊢
  intro y7_
  replace h := h y7_
  intro S41 eS41 y8_ y9_
  replace h := h S41 eS41 y8_ y9_
  replace f := f.tr (show cfr [] [(46, 12), (46, 13), (46, 14)] U83 S41 by rw [eS41]; exact cfr.oI y8_ (by decide))
  refine ⟨fun c => ?_, fun c => ?_⟩
  · replace h := h.1 c
    exact fr_X7_isMethodType_J99 hk44 f h
  · replace h := h.2 c
    exact fr_X7_isMethodType_J99 hk44 f h
set_option maxRecDepth 100000 in
theorem fr_X7_isMethodType_L44 {S0 : MS} {Q : Int32 → MS → Prop} : ∀ (n : Nat) {U44 : MS} {v44_1 : Int32} {v44_2 : Int32} {v44_3 : Int32} {v44_4 : Int32}, cfr [] [(46, 12), (46, 13), (46, 14)] S0 U44 → w_X7_isMethodType_L44 Q n U44 v44_1 v44_2 v44_3 v44_4 → w_X7_isMethodType_L44 (fun r u => Q r u ∧ cfr [] [(46, 12), (46, 13), (46, 14)] S0 u) n U44 v44_1 v44_2 v44_3 v44_4 := by
  intro n
  induction n with
  | zero => intro U44 v44_1 v44_2 v44_3 v44_4 f h; unfold w_X7_isMethodType_L44 at h; exact h.elim
  | succ n ih =>
    intro U44 v44_1 v44_2 v44_3 v44_4 f h
    unfold w_X7_isMethodType_L44 at h ⊢
    intro y10_
    replace h := h y10_
    refine ⟨fun c => ?_, fun c => ?_⟩
    · replace h := h.1 c
      exact fr_X7_isMethodType_J112 f h
    · replace h := h.2 c
      refine ⟨fun c => ?_, fun c => ?_⟩
      · replace h := h.1 c
        exact fr_X7_isMethodType_J112 f h
      · replace h := h.2 c
        intro S39 eS39 y11_ y12_
        replace h := h S39 eS39 y11_ y12_
        replace f := f.tr (show cfr [] [(46, 12), (46, 13), (46, 14)] U44 S39 by rw [eS39]; exact cfr.oI y11_ (by decide))
        refine ⟨fun c => ?_, fun c => ?_⟩
        · replace h := h.1 c
          exact fr_X7_isMethodType_J83 (fun _ _ _ _ _ f h => ih f h) f h
        · replace h := h.2 c
          exact fr_X7_isMethodType_J83 (fun _ _ _ _ _ f h => ih f h) f h
set_option maxRecDepth 100000 in
theorem frX7_isMethodType {S : MS} {x1 : Int32} {Q : Int32 → MS → Prop} (hw : wfC S) (h : wX7_isMethodType S x1 Q) : wX7_isMethodType S x1 (fun r u => Q r u ∧ cfr [] [(46, 12), (46, 13), (46, 14)] S u) := by
  have f : cfr [] [(46, 12), (46, 13), (46, 14)] S S := cfr.rf
  unfold wX7_isMethodType at h ⊢
  intro S1 eS1 y13_ y14_
  replace h := h S1 eS1 y13_ y14_
  replace f := f.tr (show cfr [] [(46, 12), (46, 13), (46, 14)] S S1 by rw [eS1]; exact cfr.oI y13_ (by decide))
  intro S2 eS2 y15_ y16_
  replace h := h S2 eS2 y15_ y16_
  replace f := f.tr (show cfr [] [(46, 12), (46, 13), (46, 14)] S1 S2 by rw [eS2]; exact cfr.oI y15_ (by decide))
  intro S3 eS3 y17_ y18_
  replace h := h S3 eS3 y17_ y18_
  replace f := f.tr (show cfr [] [(46, 12), (46, 13), (46, 14)] S2 S3 by rw [eS3]; exact cfr.oI y17_ (by decide))
  refine ⟨h.1, ?_⟩
  replace h := h.2
  intro a7 ea7 
  replace h := h a7 ea7 
  refine ⟨h.1, ?_⟩
  replace h := h.2
  refine ⟨fun c => ?_, fun c => ?_⟩
  · replace h := h.1 c
    refine ⟨h.1, ?_⟩
    replace h := h.2
    intro a15 ea15 
    replace h := h a15 ea15 
    obtain ⟨n9, h⟩ := h
    exact ⟨n9, fr_X7_isMethodType_L44 n9 f h⟩
  · replace h := h.2 c
    exact ⟨h, f⟩
set_option maxRecDepth 100000 in
theorem fr_X7_isSameName_L25 {S0 : MS} {Q : Int32 → MS → Prop} : ∀ (n : Nat) {U25 : MS} {v25_3 : Int32} {v25_4 : Int32} {v25_5 : Int32} {v25_6 : Int32}, cfr [] [] S0 U25 → w_X7_isSameName_L25 Q n U25 v25_3 v25_4 v25_5 v25_6 → w_X7_isSameName_L25 (fun r u => Q r u ∧ cfr [] [] S0 u) n U25 v25_3 v25_4 v25_5 v25_6 := by
  intro n
  induction n with
  | zero => intro U25 v25_3 v25_4 v25_5 v25_6 f h; unfold w_X7_isSameName_L25 at h; exact h.elim
  | succ n ih =>
    intro U25 v25_3 v25_4 v25_5 v25_6 f h
    unfold w_X7_isSameName_L25 at h ⊢
    intro y1_
    replace h := h y1_
    refine ⟨fun c => ?_, fun c => ?_⟩
    · replace h := h.1 c
      exact ⟨h, f⟩
    · replace h := h.2 c
      refine ⟨h.1, ?_⟩
      replace h := h.2
      refine ⟨h.1, ?_⟩
      replace h := h.2
      refine ⟨fun c => ?_, fun c => ?_⟩
      · replace h := h.1 c
        intro a25 ea25 
        replace h := h a25 ea25 
        exact ih f h
      · replace h := h.2 c
        exact ⟨h, f⟩
set_option maxRecDepth 100000 in
theorem frX7_isSameName {S : MS} {x1 : Int32} {x2 : Int32} {Q : Int32 → MS → Prop} (hw : wfC S) (h : wX7_isSameName S x1 x2 Q) : wX7_isSameName S x1 x2 (fun r u => Q r u ∧ cfr [] [] S u) := by
  have f : cfr [] [] S S := cfr.rf
  unfold wX7_isSameName at h ⊢
  refine ⟨h.1, ?_⟩
  replace h := h.2
  intro a4 ea4 
  replace h := h a4 ea4 
  refine ⟨h.1, ?_⟩
  replace h := h.2
  intro a8 ea8 
  replace h := h a8 ea8 
  refine ⟨h.1, ?_⟩
  replace h := h.2
  intro a13 ea13 
  replace h := h a13 ea13 
  obtain ⟨n9, h⟩ := h
  exact ⟨n9, fr_X7_isSameName_L25 n9 f h⟩
set_option maxRecDepth 100000 in
theorem fr_X7_isText_L16 {S0 : MS} {Q : Int32 → MS → Prop} : ∀ (n : Nat) {U16 : MS} {v16_1 : Int32} {v16_2 : Nat} {v16_3 : Int32}, cfr [] [] S0 U16 → w_X7_isText_L16 Q n U16 v16_1 v16_2 v16_3 → w_X7_isText_L16 (fun r u => Q r u ∧ cfr [] [] S0 u) n U16 v16_1 v16_2 v16_3 := by
  intro n
  induction n with
  | zero => intro U16 v16_1 v16_2 v16_3 f h; unfold w_X7_isText_L16 at h; exact h.elim
  | succ n ih =>
    intro U16 v16_1 v16_2 v16_3 f h
    unfold w_X7_isText_L16 at h ⊢
    intro y1_ y2_
    replace h := h y1_ y2_
    refine ⟨fun c => ?_, fun c => ?_⟩
    · replace h := h.1 c
      exact ⟨h, f⟩
    · replace h := h.2 c
      refine ⟨h.1, ?_⟩
      replace h := h.2
      refine ⟨h.1, ?_⟩
      replace h := h.2
      refine ⟨fun c => ?_, fun c => ?_⟩
      · replace h := h.1 c
        intro a14 ea14 
        replace h := h a14 ea14 
        exact ih f h
      · replace h := h.2 c
        exact ⟨h, f⟩
set_option maxRecDepth 100000 in
theorem frX7_isText {S : MS} {x1 : Int32} {p2 : Nat} {Q : Int32 → MS → Prop} (hw : wfC S) (h : wX7_isText S x1 p2 Q) : wX7_isText S x1 p2 (fun r u => Q r u ∧ cfr [] [] S u) := by
  have f : cfr [] [] S S := cfr.rf
  unfold wX7_isText at h ⊢
  refine ⟨h.1, ?_⟩
  replace h := h.2
  refine ⟨fun c => ?_, fun c => ?_⟩
  · replace h := h.1 c
    obtain ⟨n9, h⟩ := h
    exact ⟨n9, fr_X7_isText_L16 n9 f h⟩
  · replace h := h.2 c
    exact ⟨h, f⟩
set_option maxRecDepth 100000 in
theorem fr_X7_noTwins_L34 {S0 : MS} {Q : Int32 → MS → Prop} {k2 k2' : MS → Int32 → Prop} (hk2 : ∀ (u : MS) (z0), cfr [] [(46, 2), (46, 3)] S0 u → k2 u z0 → k2' u z0) : ∀ (n : Nat) {U34 : MS} {v34_1 : Int32} {v34_3 : Int32}, cfr [] [(46, 2), (46, 3)] S0 U34 → w_X7_noTwins_L34 Q k2 n U34 v34_1 v34_3 → w_X7_noTwins_L34 (fun r u => Q r u ∧ cfr [] [(46, 2), (46, 3)] S0 u) k2' n U34 v34_1 v34_3 := by
  intro n
  induction n with
  | zero => intro U34 v34_1 v34_3 f h; unfold w_X7_noTwins_L34 at h; exact h.elim
  | succ n ih =>
    intro U34 v34_1 v34_3 f h
    unfold w_X7_noTwins_L34 at h ⊢
    intro y1_
    replace h := h y1_
    refine ⟨fun c => ?_, fun c => ?_⟩
    · replace h := h.1 c
      intro a4 ea4 
      replace h := h a4 ea4 
      exact hk2 _ _ f h
    · replace h := h.2 c
      refine ⟨h.1, ?_⟩
      replace h := h.2
      intro a8 ea8 
      replace h := h a8 ea8 
      refine ⟨h.1, ?_⟩
      replace h := h.2
      intro a12 ea12 
      replace h := h a12 ea12 
      obtain ⟨Q9, h0, h⟩ := h
      refine ⟨_, frX7_isSameName y1_ h0, ?_⟩
      intro r14 S15 q2_ y3_ y4_
      replace h := h r14 S15 q2_.1 y3_ y4_
      replace f := f.tr (q2_.2.mo (by decide) (by decide))
      refine ⟨fun c => ?_, fun c => ?_⟩
      · replace h := h.1 c
        intro a18 ea18 
        replace h := h a18 ea18 
        exact ih f h
      · replace h := h.2 c
        refine ⟨h.1, ?_⟩
        replace h := h.2
        intro a22 ea22 
        replace h := h a22 ea22 
        obtain ⟨Q9, h0, h⟩ := h
        refine ⟨_, frX7_breaks y3_ h0, ?_⟩
        intro r25 S26 q5_ y6_ y7_
        replace h := h r25 S26 q5_.1 y6_ y7_
        replace f := f.tr (q5_.2.mo (by decide) (by decide))
        exact ⟨h, f⟩
set_option maxRecDepth 100000 in
theorem fr_X7_noTwins_J31 {S0 : MS} {Q : Int32 → MS → Prop} {k2 k2' : MS → Int32 → Prop} {U31 : MS} {t31_0 : Int32} {v31_1 : Int32} (hk2 : ∀ (u : MS) (z0), cfr [] [(46, 2), (46, 3)] S0 u → k2 u z0 → k2' u z0) (f : cfr [] [(46, 2), (46, 3)] S0 U31) (h : w_X7_noTwins_J31 Q k2 U31 t31_0 v31_1) : w_X7_noTwins_J31 (fun r u => Q r u ∧ cfr [] [(46, 2), (46, 3)] S0 u) k2' U31 t31_0 v31_1 := by
  unfold w_X7_noTwins_J31 at h ⊢
  intro y8_
  replace h := h y8_
  obtain ⟨n9, h⟩ := h
  exact ⟨n9, fr_X7_noTwins_L34 hk2 n9 f h⟩
set_option maxRecDepth 100000 in
theorem fr_X7_noTwins_L2 {S0 : MS} {Q : Int32 → MS → Prop} : ∀ (n : Nat) {U2 : MS} {v2_1 : Int32}, cfr [] [(46, 2), (46, 3)] S0 U2 → w_X7_noTwins_L2 Q n U2 v2_1 → w_X7_noTwins_L2 (fun r u => Q r u ∧ cfr [] [(46, 2), (46, 3)] S0 u) n U2 v2_1 := by
  intro n
  induction n with
  | zero => intro U2 v2_1 f h; unfold w_X7_noTwins_L2 at h; exact h.elim
  | succ n ih =>
    intro U2 v2_1 f h
    unfold w_X7_noTwins_L2 at h ⊢
    intro y9_
    replace h := h y9_
    refine ⟨fun c => ?_, fun c => ?_⟩
    · replace h := h.1 c
      exact ⟨h, f⟩
    · replace h := h.2 c
      refine ⟨fun c => ?_, fun c => ?_⟩
      · replace h := h.1 c
        exact fr_X7_noTwins_J31 (fun _ _ f h => ih f h) f h
      · replace h := h.2 c
        exact fr_X7_noTwins_J31 (fun _ _ f h => ih f h) f h
set_option maxRecDepth 100000 in
theorem frX7_noTwins {S : MS} {Q : Int32 → MS → Prop} (hw : wfC S) (h : wX7_noTwins S Q) : wX7_noTwins S (fun r u => Q r u ∧ cfr [] [(46, 2), (46, 3)] S u) := by
  have f : cfr [] [(46, 2), (46, 3)] S S := cfr.rf
  unfold wX7_noTwins at h ⊢
  obtain ⟨n9, h⟩ := h
  exact ⟨n9, fr_X7_noTwins_L2 n9 f h⟩
set_option maxRecDepth 100000 in
theorem fr_X7_codesHold_J110 {S0 : MS} {Q : Int32 → MS → Prop} {k51 k51' : MS → Int32 → Int32 → Int32 → Int32 → Int32 → Int32 → Prop} {U110 : MS} {v110_1 : Int32} {v110_2 : Int32} {v110_3 : Int32} {v110_5 : Int32} {v110_6 : Int32} {v110_7 : Int32} (hk51 : ∀ (u : MS) (z0) (z1) (z2) (z3) (z4) (z5), cfr [220, 221] [(46, 2), (46, 3)] S0 u → k51 u z0 z1 z2 z3 z4 z5 → k51' u z0 z1 z2 z3 z4 z5) (f : cfr [220, 221] [(46, 2), (46, 3)] S0 U110) (h : w_X7_codesHold_J110 Q k51 U110 v110_1 v110_2 v110_3 v110_5 v110_6 v110_7) : w_X7_codesHold_J110 (fun r u => Q r u ∧ cfr [220, 221] [(46, 2), (46, 3)] S0 u) k51' U110 v110_1 v110_2 v110_3 v110_5 v110_6 v110_7 := by
  unfold w_X7_codesHold_J110 at h ⊢
  intro y1_
  replace h := h y1_
  intro a39 ea39 
  replace h := h a39 ea39 
  exact hk51 _ _ _ _ _ _ _ f h
set_option maxRecDepth 100000 in
theorem fr_X7_codesHold_L51 {S0 : MS} {Q : Int32 → MS → Prop} {k2 k2' : MS → Int32 → Prop} (hk2 : ∀ (u : MS) (z0), cfr [220, 221] [(46, 2), (46, 3)] S0 u → k2 u z0 → k2' u z0) : ∀ (n : Nat) {U51 : MS} {v51_1 : Int32} {v51_2 : Int32} {v51_3 : Int32} {v51_4 : Int32} {v51_5 : Int32} {v51_6 : Int32}, cfr [220, 221] [(46, 2), (46, 3)] S0 U51 → w_X7_codesHold_L51 Q k2 n U51 v51_1 v51_2 v51_3 v51_4 v51_5 v51_6 → w_X7_codesHold_L51 (fun r u => Q r u ∧ cfr [220, 221] [(46, 2), (46, 3)] S0 u) k2' n U51 v51_1 v51_2 v51_3 v51_4 v51_5 v51_6 := by
  intro n
  induction n with
  | zero => intro U51 v51_1 v51_2 v51_3 v51_4 v51_5 v51_6 f h; unfold w_X7_codesHold_L51 at h; exact h.elim
  | succ n ih =>
    intro U51 v51_1 v51_2 v51_3 v51_4 v51_5 v51_6 f h
    unfold w_X7_codesHold_L51 at h ⊢
    intro y2_
    replace h := h y2_
    refine ⟨fun c => ?_, fun c => ?_⟩
    · replace h := h.1 c
      refine ⟨fun c => ?_, fun c => ?_⟩
      · replace h := h.1 c
        intro a17 ea17 
        replace h := h a17 ea17 
        exact hk2 _ _ f h
      · replace h := h.2 c
        obtain ⟨Q9, h0, h⟩ := h
        refine ⟨_, frX7_breaks y2_ h0, ?_⟩
        intro r19 S20 q3_ y4_ y5_
        replace h := h r19 S20 q3_.1 y4_ y5_
        replace f := f.tr (q3_.2.mo (by decide) (by decide))
        exact ⟨h, f⟩
    · replace h := h.2 c
      refine ⟨h.1, ?_⟩
      replace h := h.2
      intro a27 ea27 
      replace h := h a27 ea27 
      intro a29 ea29 
      replace h := h a29 ea29 
      refine ⟨h.1, ?_⟩
      replace h := h.2
      intro a33 ea33 
      replace h := h a33 ea33 
      intro y6_
      replace h := h y6_
      obtain ⟨Q9, h0, h⟩ := h
      refine ⟨_, frX7_isText y2_ h0, ?_⟩
      intro r36 S37 q7_ y8_ y9_
      replace h := h r36 S37 q7_.1 y8_ y9_
      replace f := f.tr (q7_.2.mo (by decide) (by decide))
      refine ⟨fun c => ?_, fun c => ?_⟩
      · replace h := h.1 c
        exact fr_X7_codesHold_J110 (fun _ _ _ _ _ _ _ f h => ih f h) f h
      · replace h := h.2 c
        intro a41 ea41 
        replace h := h a41 ea41 
        refine ⟨h.1, ?_⟩
        replace h := h.2
        intro S44 eS44 y10_ y11_
        replace h := h S44 eS44 y10_ y11_
        replace f := f.tr (show cfr [220, 221] [(46, 2), (46, 3)] S37 S44 by rw [eS44]; exact cfr.aI y10_ (by decide))
        refine ⟨h.1, ?_⟩
        replace h := h.2
        intro S46 eS46 y12_ y13_
        replace h := h S46 eS46 y12_ y13_
        replace f := f.tr (show cfr [220, 221] [(46, 2), (46, 3)] S44 S46 by rw [eS46]; exact cfr.aI y12_ (by decide))
        exact fr_X7_codesHold_J110 (fun _ _ _ _ _ _ _ f h => ih f h) f h
set_option maxRecDepth 100000 in
theorem fr_X7_codesHold_L2 {S0 : MS} {Q : Int32 → MS → Prop} : ∀ (n : Nat) {U2 : MS} {v2_1 : Int32}, cfr [220, 221] [(46, 2), (46, 3)] S0 U2 → w_X7_codesHold_L2 Q n U2 v2_1 → w_X7_codesHold_L2 (fun r u => Q r u ∧ cfr [220, 221] [(46, 2), (46, 3)] S0 u) n U2 v2_1 := by
  intro n
  induction n with
  | zero => intro U2 v2_1 f h; unfold w_X7_codesHold_L2 at h; exact h.elim
  | succ n ih =>
    intro U2 v2_1 f h
    unfold w_X7_codesHold_L2 at h ⊢
    intro y14_
    replace h := h y14_
    refine ⟨fun c => ?_, fun c => ?_⟩
    · replace h := h.1 c
      exact ⟨h, f⟩
    · replace h := h.2 c
      refine ⟨fun c => ?_, fun c => ?_⟩
      · replace h := h.1 c
        exact ⟨h, f⟩
      · replace h := h.2 c
        refine ⟨h.1, ?_⟩
        replace h := h.2
        intro a7 ea7 
        replace h := h a7 ea7 
        refine ⟨h.1, ?_⟩
        replace h := h.2
        intro a12 ea12 
        replace h := h a12 ea12 
        intro a14 ea14 
        replace h := h a14 ea14 
        obtain ⟨n9, h⟩ := h
        exact ⟨n9, fr_X7_codesHold_L51 (fun _ _ f h => ih f h) n9 f h⟩
set_option maxRecDepth 100000 in
theorem frX7_codesHold {S : MS} {Q : Int32 → MS → Prop} (hw : wfC S) (h : wX7_codesHold S Q) : wX7_codesHold S (fun r u => Q r u ∧ cfr [220, 221] [(46, 2), (46, 3)] S u) := by
  have f : cfr [220, 221] [(46, 2), (46, 3)] S S := cfr.rf
  unfold wX7_codesHold at h ⊢
  obtain ⟨n9, h⟩ := h
  exact ⟨n9, fr_X7_codesHold_L2 n9 f h⟩
set_option maxRecDepth 100000 in
theorem frX8_init {S : MS} {p0 : Nat} {x1 : Int32} {x2 : Int32} {x3 : Int32} {Q : MS → Prop} (hw : wfC S) (h : wX8_init S p0 x1 x2 x3 Q) : wX8_init S p0 x1 x2 x3 (fun u => Q u ∧ cfr [] [(47, 0), (47, 1), (47, 3), (47, 5), (47, 6), (47, 7), (47, 8)] S u) := by
  have f : cfr [] [(47, 0), (47, 1), (47, 3), (47, 5), (47, 6), (47, 7), (47, 8)] S S := cfr.rf
  unfold wX8_init at h ⊢
  refine ⟨h.1, ?_⟩
  replace h := h.2
  intro S4 eS4 y1_
  replace h := h S4 eS4 y1_
  replace f := f.tr (show cfr [] [(47, 0), (47, 1), (47, 3), (47, 5), (47, 6), (47, 7), (47, 8)] S S4 by rw [eS4]; exact cfr.new hw (eS4 ▸ y1_))
  refine ⟨h.1, ?_⟩
  replace h := h.2
  intro S7 eS7 y2_ y3_
  replace h := h S7 eS7 y2_ y3_
  replace f := f.tr (show cfr [] [(47, 0), (47, 1), (47, 3), (47, 5), (47, 6), (47, 7), (47, 8)] S4 S7 by rw [eS7]; exact cfr.oR y2_ (by decide))
  refine ⟨h.1, ?_⟩
  replace h := h.2
  intro S11 eS11 y4_
  replace h := h S11 eS11 y4_
  replace f := f.tr (show cfr [] [(47, 0), (47, 1), (47, 3), (47, 5), (47, 6), (47, 7), (47, 8)] S7 S11 by rw [eS11]; exact cfr.new y3_ (eS11 ▸ y4_))
  refine ⟨h.1, ?_⟩
  replace h := h.2
  intro S14 eS14 y5_ y6_
  replace h := h S14 eS14 y5_ y6_
  replace f := f.tr (show cfr [] [(47, 0), (47, 1), (47, 3), (47, 5), (47, 6), (47, 7), (47, 8)] S11 S14 by rw [eS14]; exact cfr.oR y5_ (by decide))
  refine ⟨h.1, ?_⟩
  replace h := h.2
  intro S18 eS18 y7_
  replace h := h S18 eS18 y7_
  replace f := f.tr (show cfr [] [(47, 0), (47, 1), (47, 3), (47, 5), (47, 6), (47, 7), (47, 8)] S14 S18 by rw [eS18]; exact cfr.new y6_ (eS18 ▸ y7_))
  refine ⟨h.1, ?_⟩
  replace h := h.2
  intro S21 eS21 y8_ y9_
  replace h := h S21 eS21 y8_ y9_
  replace f := f.tr (show cfr [] [(47, 0), (47, 1), (47, 3), (47, 5), (47, 6), (47, 7), (47, 8)] S18 S21 by rw [eS21]; exact cfr.oR y8_ (by decide))
  refine ⟨h.1, ?_⟩
  replace h := h.2
  intro S25 eS25 y10_
  replace h := h S25 eS25 y10_
  replace f := f.tr (show cfr [] [(47, 0), (47, 1), (47, 3), (47, 5), (47, 6), (47, 7), (47, 8)] S21 S25 by rw [eS25]; exact cfr.new y9_ (eS25 ▸ y10_))
  refine ⟨h.1, ?_⟩
  replace h := h.2
  intro S28 eS28 y11_ y12_
  replace h := h S28 eS28 y11_ y12_
  replace f := f.tr (show cfr [] [(47, 0), (47, 1), (47, 3), (47, 5), (47, 6), (47, 7), (47, 8)] S25 S28 by rw [eS28]; exact cfr.oR y11_ (by decide))
  refine ⟨h.1, ?_⟩
  replace h := h.2
  intro S32 eS32 y13_
  replace h := h S32 eS32 y13_
  replace f := f.tr (show cfr [] [(47, 0), (47, 1), (47, 3), (47, 5), (47, 6), (47, 7), (47, 8)] S28 S32 by rw [eS32]; exact cfr.new y12_ (eS32 ▸ y13_))
  refine ⟨h.1, ?_⟩
  replace h := h.2
  intro S35 eS35 y14_ y15_
  replace h := h S35 eS35 y14_ y15_
  replace f := f.tr (show cfr [] [(47, 0), (47, 1), (47, 3), (47, 5), (47, 6), (47, 7), (47, 8)] S32 S35 by rw [eS35]; exact cfr.oR y14_ (by decide))
  refine ⟨h.1, ?_⟩
  replace h := h.2
  intro S39 eS39 y16_
  replace h := h S39 eS39 y16_
  replace f := f.tr (show cfr [] [(47, 0), (47, 1), (47, 3), (47, 5), (47, 6), (47, 7), (47, 8)] S35 S39 by rw [eS39]; exact cfr.new y15_ (eS39 ▸ y16_))
  refine ⟨h.1, ?_⟩
  replace h := h.2
  intro S42 eS42 y17_ y18_
  replace h := h S42 eS42 y17_ y18_
  replace f := f.tr (show cfr [] [(47, 0), (47, 1), (47, 3), (47, 5), (47, 6), (47, 7), (47, 8)] S39 S42 by rw [eS42]; exact cfr.oR y17_ (by decide))
  refine ⟨h.1, ?_⟩
  replace h := h.2
  intro S46 eS46 y19_
  replace h := h S46 eS46 y19_
  replace f := f.tr (show cfr [] [(47, 0), (47, 1), (47, 3), (47, 5), (47, 6), (47, 7), (47, 8)] S42 S46 by rw [eS46]; exact cfr.new y18_ (eS46 ▸ y19_))
  refine ⟨h.1, ?_⟩
  replace h := h.2
  intro S49 eS49 y20_ y21_
  replace h := h S49 eS49 y20_ y21_
  replace f := f.tr (show cfr [] [(47, 0), (47, 1), (47, 3), (47, 5), (47, 6), (47, 7), (47, 8)] S46 S49 by rw [eS49]; exact cfr.oR y20_ (by decide))
  exact ⟨h, f⟩
set_option maxRecDepth 100000 in
theorem frX8_set {S : MS} {p0 : Nat} {x1 : Int32} {x2 : Int32} {y3 : Int64} {Q : MS → Prop} (hw : wfC S) (h : wX8_set S p0 x1 x2 y3 Q) : wX8_set S p0 x1 x2 y3 (fun u => Q u ∧ cfr [222, 406] [] S u) := by
  have f : cfr [222, 406] [] S S := cfr.rf
  unfold wX8_set at h ⊢
  refine ⟨fun c => ?_, fun c => ?_⟩
  · replace h := h.1 c
    exact ⟨h, f⟩
  · replace h := h.2 c
    refine ⟨h.1, ?_⟩
    replace h := h.2
    refine ⟨fun c => ?_, fun c => ?_⟩
    · replace h := h.1 c
      exact ⟨h, f⟩
    · replace h := h.2 c
      refine ⟨h.1, ?_⟩
      replace h := h.2
      refine ⟨h.1, ?_⟩
      replace h := h.2
      intro S9 eS9 y1_ y2_
      replace h := h S9 eS9 y1_ y2_
      replace f := f.tr (show cfr [222, 406] [] S S9 by rw [eS9]; exact cfr.aI y1_ (by decide))
      refine ⟨h.1, ?_⟩
      replace h := h.2
      refine ⟨h.1, ?_⟩
      replace h := h.2
      intro S13 eS13 y3_ y4_
      replace h := h S13 eS13 y3_ y4_
      replace f := f.tr (show cfr [222, 406] [] S9 S13 by rw [eS13]; exact cfr.aJ y3_ (by decide))
      exact ⟨h, f⟩
set_option maxRecDepth 100000 in
theorem frX8_add {S : MS} {p0 : Nat} {x1 : Int32} {y2 : Int64} {Q : MS → Prop} (hw : wfC S) (h : wX8_add S p0 x1 y2 Q) : wX8_add S p0 x1 y2 (fun u => Q u ∧ cfr [222, 406] [(47, 2)] S u) := by
  have f : cfr [222, 406] [(47, 2)] S S := cfr.rf
  unfold wX8_add at h ⊢
  refine ⟨h.1, ?_⟩
  replace h := h.2
  refine ⟨fun c => ?_, fun c => ?_⟩
  · replace h := h.1 c
    exact ⟨h, f⟩
  · replace h := h.2 c
    intro y1_
    replace h := h y1_
    obtain ⟨Q9, h0, h⟩ := h
    refine ⟨_, frX8_set hw h0, ?_⟩
    intro S6 q2_ y3_ y4_
    replace h := h S6 q2_.1 y3_ y4_
    replace f := f.tr (q2_.2.mo (by decide) (by decide))
    intro S9 eS9 y5_ y6_
    replace h := h S9 eS9 y5_ y6_
    replace f := f.tr (show cfr [222, 406] [(47, 2)] S6 S9 by rw [eS9]; exact cfr.oI y5_ (by decide))
    exact ⟨h, f⟩
set_option maxRecDepth 100000 in
theorem frX8_addToTable {S : MS} {p0 : Nat} {x1 : Int32} {Q : MS → Prop} (hw : wfC S) (h : wX8_addToTable S p0 x1 Q) : wX8_addToTable S p0 x1 (fun u => Q u ∧ cfr [223] [(47, 4)] S u) := by
  have f : cfr [223] [(47, 4)] S S := cfr.rf
  unfold wX8_addToTable at h ⊢
  refine ⟨h.1, ?_⟩
  replace h := h.2
  refine ⟨fun c => ?_, fun c => ?_⟩
  · replace h := h.1 c
    exact ⟨h, f⟩
  · replace h := h.2 c
    refine ⟨h.1, ?_⟩
    replace h := h.2
    refine ⟨h.1, ?_⟩
    replace h := h.2
    intro S8 eS8 y1_ y2_
    replace h := h S8 eS8 y1_ y2_
    replace f := f.tr (show cfr [223] [(47, 4)] S S8 by rw [eS8]; exact cfr.aI y1_ (by decide))
    intro S10 eS10 y3_ y4_
    replace h := h S10 eS10 y3_ y4_
    replace f := f.tr (show cfr [223] [(47, 4)] S8 S10 by rw [eS10]; exact cfr.oI y3_ (by decide))
    exact ⟨h, f⟩
set_option maxRecDepth 100000 in
theorem frX8_addCatch {S : MS} {p0 : Nat} {x1 : Int32} {x2 : Int32} {x3 : Int32} {x4 : Int32} {Q : MS → Prop} (hw : wfC S) (h : wX8_addCatch S p0 x1 x2 x3 x4 Q) : wX8_addCatch S p0 x1 x2 x3 x4 (fun u => Q u ∧ cfr [224, 225, 226, 227] [(47, 9)] S u) := by
  have f : cfr [224, 225, 226, 227] [(47, 9)] S S := cfr.rf
  unfold wX8_addCatch at h ⊢
  refine ⟨h.1, ?_⟩
  replace h := h.2
  refine ⟨fun c => ?_, fun c => ?_⟩
  · replace h := h.1 c
    exact ⟨h, f⟩
  · replace h := h.2 c
    refine ⟨h.1, ?_⟩
    replace h := h.2
    refine ⟨h.1, ?_⟩
    replace h := h.2
    intro S8 eS8 y1_ y2_
    replace h := h S8 eS8 y1_ y2_
    replace f := f.tr (show cfr [224, 225, 226, 227] [(47, 9)] S S8 by rw [eS8]; exact cfr.aI y1_ (by decide))
    refine ⟨h.1, ?_⟩
    replace h := h.2
    refine ⟨h.1, ?_⟩
    replace h := h.2
    intro S12 eS12 y3_ y4_
    replace h := h S12 eS12 y3_ y4_
    replace f := f.tr (show cfr [224, 225, 226, 227] [(47, 9)] S8 S12 by rw [eS12]; exact cfr.aI y3_ (by decide))
    refine ⟨h.1, ?_⟩
    replace h := h.2
    refine ⟨h.1, ?_⟩
    replace h := h.2
    intro S16 eS16 y5_ y6_
    replace h := h S16 eS16 y5_ y6_
    replace f := f.tr (show cfr [224, 225, 226, 227] [(47, 9)] S12 S16 by rw [eS16]; exact cfr.aI y5_ (by decide))
    refine ⟨h.1, ?_⟩
    replace h := h.2
    refine ⟨h.1, ?_⟩
    replace h := h.2
    intro S20 eS20 y7_ y8_
    replace h := h S20 eS20 y7_ y8_
    replace f := f.tr (show cfr [224, 225, 226, 227] [(47, 9)] S16 S20 by rw [eS20]; exact cfr.aI y7_ (by decide))
    intro S22 eS22 y9_ y10_
    replace h := h S22 eS22 y9_ y10_
    replace f := f.tr (show cfr [224, 225, 226, 227] [(47, 9)] S20 S22 by rw [eS22]; exact cfr.oI y9_ (by decide))
    exact ⟨h, f⟩
set_option maxRecDepth 100000 in
theorem frX8_setTarget {S : MS} {p0 : Nat} {x1 : Int32} {x2 : Int32} {x3 : Int32} {Q : MS → Prop} (hw : wfC S) (h : wX8_setTarget S p0 x1 x2 x3 Q) : wX8_setTarget S p0 x1 x2 x3 (fun u => Q u ∧ cfr [222, 223, 406] [] S u) := by
  have f : cfr [222, 223, 406] [] S S := cfr.rf
  unfold wX8_setTarget at h ⊢
  refine ⟨h.1, ?_⟩
  replace h := h.2
  intro a4 ea4 
  replace h := h a4 ea4 
  refine ⟨h.1, ?_⟩
  replace h := h.2
  intro a8 ea8 
  replace h := h a8 ea8 
  refine ⟨fun c => ?_, fun c => ?_⟩
  · replace h := h.1 c
    refine ⟨h.1, ?_⟩
    replace h := h.2
    intro a13 ea13 
    replace h := h a13 ea13 
    intro a16 ea16 
    replace h := h a16 ea16 
    refine ⟨fun c => ?_, fun c => ?_⟩
    · replace h := h.1 c
      exact ⟨h, f⟩
    · replace h := h.2 c
      refine ⟨fun c => ?_, fun c => ?_⟩
      · replace h := h.1 c
        exact ⟨h, f⟩
      · replace h := h.2 c
        refine ⟨h.1, ?_⟩
        replace h := h.2
        refine ⟨h.1, ?_⟩
        replace h := h.2
        intro S22 eS22 y1_ y2_
        replace h := h S22 eS22 y1_ y2_
        replace f := f.tr (show cfr [222, 223, 406] [] S S22 by rw [eS22]; exact cfr.aI y1_ (by decide))
        exact ⟨h, f⟩
  · replace h := h.2 c
    refine ⟨h.1, ?_⟩
    replace h := h.2
    intro a26 ea26 
    replace h := h a26 ea26 
    intro y3_
    replace h := h y3_
    obtain ⟨Q9, h0, h⟩ := h
    refine ⟨_, frX8_set hw h0, ?_⟩
    intro S28 q4_ y5_ y6_
    replace h := h S28 q4_.1 y5_ y6_
    replace f := f.tr (q4_.2.mo (by decide) (by decide))
    exact ⟨h, f⟩
set_option maxRecDepth 100000 in
theorem fr_X8_isCaught_L2 {S0 : MS} {Q : Int32 → MS → Prop} : ∀ (n : Nat) {U2 : MS} {v2_0 : Nat} {v2_1 : Int32} {v2_2 : Int32}, cfr [] [] S0 U2 → w_X8_isCaught_L2 Q n U2 v2_0 v2_1 v2_2 → w_X8_isCaught_L2 (fun r u => Q r u ∧ cfr [] [] S0 u) n U2 v2_0 v2_1 v2_2 := by
  intro n
  induction n with
  | zero => intro U2 v2_0 v2_1 v2_2 f h; unfold w_X8_isCaught_L2 at h; exact h.elim
  | succ n ih =>
    intro U2 v2_0 v2_1 v2_2 f h
    unfold w_X8_isCaught_L2 at h ⊢
    intro y1_ y2_
    replace h := h y1_ y2_
    refine ⟨fun c => ?_, fun c => ?_⟩
    · replace h := h.1 c
      exact ⟨h, f⟩
    · replace h := h.2 c
      refine ⟨h.1, ?_⟩
      replace h := h.2
      refine ⟨fun c => ?_, fun c => ?_⟩
      · replace h := h.1 c
        intro a6 ea6 
        replace h := h a6 ea6 
        exact ih f h
      · replace h := h.2 c
        exact ⟨h, f⟩
set_option maxRecDepth 100000 in
theorem frX8_isCaught {S : MS} {p0 : Nat} {x1 : Int32} {Q : Int32 → MS → Prop} (hw : wfC S) (h : wX8_isCaught S p0 x1 Q) : wX8_isCaught S p0 x1 (fun r u => Q r u ∧ cfr [] [] S u) := by
  have f : cfr [] [] S S := cfr.rf
  unfold wX8_isCaught at h ⊢
  obtain ⟨n9, h⟩ := h
  exact ⟨n9, fr_X8_isCaught_L2 n9 f h⟩
set_option maxRecDepth 100000 in
theorem fr_X8_copyFrom_L83 {S0 : MS} {Q : MS → Prop} : ∀ (n : Nat) {U83 : MS} {v83_0 : Nat} {v83_1 : Nat} {v83_2 : Int32}, cfr [222, 223, 224, 225, 226, 227, 406] [(47, 2), (47, 4), (47, 9), (47, 11)] S0 U83 → w_X8_copyFrom_L83 Q n U83 v83_0 v83_1 v83_2 → w_X8_copyFrom_L83 (fun u => Q u ∧ cfr [222, 223, 224, 225, 226, 227, 406] [(47, 2), (47, 4), (47, 9), (47, 11)] S0 u) n U83 v83_0 v83_1 v83_2 := by
  intro n
  induction n with
  | zero => intro U83 v83_0 v83_1 v83_2 f h; unfold w_X8_copyFrom_L83 at h; exact h.elim
  | succ n ih =>
    intro U83 v83_0 v83_1 v83_2 f h
    unfold w_X8_copyFrom_L83 at h ⊢
    intro y1_ y2_ y3_
    replace h := h y1_ y2_ y3_
    refine ⟨fun c => ?_, fun c => ?_⟩
    · replace h := h.1 c
      exact ⟨h, f⟩
    · replace h := h.2 c
      refine ⟨h.1, ?_⟩
      replace h := h.2
      refine ⟨h.1, ?_⟩
      replace h := h.2
      refine ⟨h.1, ?_⟩
      replace h := h.2
      refine ⟨h.1, ?_⟩
      replace h := h.2
      refine ⟨h.1, ?_⟩
      replace h := h.2
      refine ⟨h.1, ?_⟩
      replace h := h.2
      refine ⟨h.1, ?_⟩
      replace h := h.2
      refine ⟨h.1, ?_⟩
      replace h := h.2
      intro y4_
      replace h := h y4_
      obtain ⟨Q9, h0, h⟩ := h
      refine ⟨_, frX8_addCatch y1_ h0, ?_⟩
      intro S25 q5_ y6_ y7_
      replace h := h S25 q5_.1 y6_ y7_
      replace f := f.tr (q5_.2.mo (by decide) (by decide))
      intro a27 ea27 
      replace h := h a27 ea27 
      exact ih f h
set_option maxRecDepth 100000 in
theorem fr_X8_copyFrom_L52 {S0 : MS} {Q : MS → Prop} : ∀ (n : Nat) {U52 : MS} {v52_0 : Nat} {v52_1 : Nat} {v52_2 : Int32}, cfr [222, 223, 224, 225, 226, 227, 406] [(47, 2), (47, 4), (47, 9), (47, 11)] S0 U52 → w_X8_copyFrom_L52 Q n U52 v52_0 v52_1 v52_2 → w_X8_copyFrom_L52 (fun u => Q u ∧ cfr [222, 223, 224, 225, 226, 227, 406] [(47, 2), (47, 4), (47, 9), (47, 11)] S0 u) n U52 v52_0 v52_1 v52_2 := by
  intro n
  induction n with
  | zero => intro U52 v52_0 v52_1 v52_2 f h; unfold w_X8_copyFrom_L52 at h; exact h.elim
  | succ n ih =>
    intro U52 v52_0 v52_1 v52_2 f h
    unfold w_X8_copyFrom_L52 at h ⊢
    intro y8_ y9_ y10_
    replace h := h y8_ y9_ y10_
    refine ⟨fun c => ?_, fun c => ?_⟩
    · replace h := h.1 c
      intro S6 eS6 y11_ y12_
      replace h := h S6 eS6 y11_ y12_
      replace f := f.tr (show cfr [222, 223, 224, 225, 226, 227, 406] [(47, 2), (47, 4), (47, 9), (47, 11)] U52 S6 by rw [eS6]; exact cfr.oI y11_ (by decide))
      obtain ⟨n9, h⟩ := h
      exact ⟨n9, fr_X8_copyFrom_L83 n9 f h⟩
    · replace h := h.2 c
      refine ⟨h.1, ?_⟩
      replace h := h.2
      refine ⟨h.1, ?_⟩
      replace h := h.2
      intro y13_
      replace h := h y13_
      obtain ⟨Q9, h0, h⟩ := h
      refine ⟨_, frX8_addToTable y8_ h0, ?_⟩
      intro S33 q14_ y15_ y16_
      replace h := h S33 q14_.1 y15_ y16_
      replace f := f.tr (q14_.2.mo (by decide) (by decide))
      intro a35 ea35 
      replace h := h a35 ea35 
      exact ih f h
set_option maxRecDepth 100000 in
theorem fr_X8_copyFrom_L15 {S0 : MS} {Q : MS → Prop} : ∀ (n : Nat) {U15 : MS} {v15_0 : Nat} {v15_1 : Nat} {v15_2 : Int32}, cfr [222, 223, 224, 225, 226, 227, 406] [(47, 2), (47, 4), (47, 9), (47, 11)] S0 U15 → w_X8_copyFrom_L15 Q n U15 v15_0 v15_1 v15_2 → w_X8_copyFrom_L15 (fun u => Q u ∧ cfr [222, 223, 224, 225, 226, 227, 406] [(47, 2), (47, 4), (47, 9), (47, 11)] S0 u) n U15 v15_0 v15_1 v15_2 := by
  intro n
  induction n with
  | zero => intro U15 v15_0 v15_1 v15_2 f h; unfold w_X8_copyFrom_L15 at h; exact h.elim
  | succ n ih =>
    intro U15 v15_0 v15_1 v15_2 f h
    unfold w_X8_copyFrom_L15 at h ⊢
    intro y17_ y18_ y19_
    replace h := h y17_ y18_ y19_
    refine ⟨fun c => ?_, fun c => ?_⟩
    · replace h := h.1 c
      intro S4 eS4 y20_ y21_
      replace h := h S4 eS4 y20_ y21_
      replace f := f.tr (show cfr [222, 223, 224, 225, 226, 227, 406] [(47, 2), (47, 4), (47, 9), (47, 11)] U15 S4 by rw [eS4]; exact cfr.oI y20_ (by decide))
      obtain ⟨n9, h⟩ := h
      exact ⟨n9, fr_X8_copyFrom_L52 n9 f h⟩
    · replace h := h.2 c
      refine ⟨h.1, ?_⟩
      replace h := h.2
      refine ⟨h.1, ?_⟩
      replace h := h.2
      refine ⟨h.1, ?_⟩
      replace h := h.2
      refine ⟨h.1, ?_⟩
      replace h := h.2
      intro y22_
      replace h := h y22_
      obtain ⟨Q9, h0, h⟩ := h
      refine ⟨_, frX8_add y17_ h0, ?_⟩
      intro S45 q23_ y24_ y25_
      replace h := h S45 q23_.1 y24_ y25_
      replace f := f.tr (q23_.2.mo (by decide) (by decide))
      intro a47 ea47 
      replace h := h a47 ea47 
      exact ih f h
set_option maxRecDepth 100000 in
theorem frX8_copyFrom {S : MS} {p0 : Nat} {p1 : Nat} {Q : MS → Prop} (hw : wfC S) (h : wX8_copyFrom S p0 p1 Q) : wX8_copyFrom S p0 p1 (fun u => Q u ∧ cfr [222, 223, 224, 225, 226, 227, 406] [(47, 2), (47, 4), (47, 9), (47, 11)] S u) := by
  have f : cfr [222, 223, 224, 225, 226, 227, 406] [(47, 2), (47, 4), (47, 9), (47, 11)] S S := cfr.rf
  unfold wX8_copyFrom at h ⊢
  intro S1 eS1 y26_ y27_
  replace h := h S1 eS1 y26_ y27_
  replace f := f.tr (show cfr [222, 223, 224, 225, 226, 227, 406] [(47, 2), (47, 4), (47, 9), (47, 11)] S S1 by rw [eS1]; exact cfr.oI y26_ (by decide))
  intro S2 eS2 y28_ y29_
  replace h := h S2 eS2 y28_ y29_
  replace f := f.tr (show cfr [222, 223, 224, 225, 226, 227, 406] [(47, 2), (47, 4), (47, 9), (47, 11)] S1 S2 by rw [eS2]; exact cfr.oI y28_ (by decide))
  obtain ⟨n9, h⟩ := h
  exact ⟨n9, fr_X8_copyFrom_L15 n9 f h⟩
set_option maxRecDepth 100000 in
theorem frX9_forgetApplied {S : MS} {Q : MS → Prop} (hw : wfC S) (h : wX9_forgetApplied S Q) : wX9_forgetApplied S (fun u => Q u ∧ cfr [228] [] S u) := by
  have f : cfr [228] [] S S := cfr.rf
  unfold wX9_forgetApplied at h ⊢
  intro y1_
  replace h := h y1_
  obtain ⟨Q9, h0, h⟩ := h
  refine ⟨_, frJ7_fill_53178 y1_ (by decide) h0, ?_⟩
  intro S2 q2_ y3_ y4_
  replace h := h S2 q2_.1 y3_ y4_
  replace f := f.tr (q2_.2.mo (by decide) (by decide))
  exact ⟨h, f⟩
set_option maxRecDepth 100000 in
theorem fr_X9_makeRoom_J69 {S0 : MS} {Q : MS → Prop} {U69 : MS} {v69_1 : Nat} (f : cfr [] [(47, 0), (47, 1), (47, 3), (47, 5), (47, 6), (47, 7), (47, 8), (47, 11), (48, 0), (48, 2), (48, 3), (48, 4), (48, 5)] S0 U69) (h : w_X9_makeRoom_J69 Q U69 v69_1) : w_X9_makeRoom_J69 (fun u => Q u ∧ cfr [] [(47, 0), (47, 1), (47, 3), (47, 5), (47, 6), (47, 7), (47, 8), (47, 11), (48, 0), (48, 2), (48, 3), (48, 4), (48, 5)] S0 u) U69 v69_1 := by
  unfold w_X9_makeRoom_J69 at h ⊢
  intro y1_ y2_
  replace h := h y1_ y2_
  intro S6 eS6 y3_ y4_
  replace h := h S6 eS6 y3_ y4_
  replace f := f.tr (show cfr [] [(47, 0), (47, 1), (47, 3), (47, 5), (47, 6), (47, 7), (47, 8), (47, 11), (48, 0), (48, 2), (48, 3), (48, 4), (48, 5)] U69 S6 by rw [eS6]; exact cfr.oI y3_ (by decide))
  exact ⟨h, f⟩
set_option maxRecDepth 100000 in
theorem frX9_makeRoom {S : MS} {p1 : Nat} {Q : MS → Prop} (hw : wfC S) (h : wX9_makeRoom S p1 Q) : wX9_makeRoom S p1 (fun u => Q u ∧ cfr [] [(47, 0), (47, 1), (47, 3), (47, 5), (47, 6), (47, 7), (47, 8), (47, 11), (48, 0), (48, 2), (48, 3), (48, 4), (48, 5)] S u) := by
  have f : cfr [] [(47, 0), (47, 1), (47, 3), (47, 5), (47, 6), (47, 7), (47, 8), (47, 11), (48, 0), (48, 2), (48, 3), (48, 4), (48, 5)] S S := cfr.rf
  unfold wX9_makeRoom at h ⊢
  refine ⟨h.1, ?_⟩
  replace h := h.2
  refine ⟨fun c => ?_, fun c => ?_⟩
  · replace h := h.1 c
    exact fr_X9_makeRoom_J69 f h
  · replace h := h.2 c
    refine ⟨h.1, ?_⟩
    replace h := h.2
    intro S11 eS11 y5_
    replace h := h S11 eS11 y5_
    replace f := f.tr (show cfr [] [(47, 0), (47, 1), (47, 3), (47, 5), (47, 6), (47, 7), (47, 8), (47, 11), (48, 0), (48, 2), (48, 3), (48, 4), (48, 5)] S S11 by rw [eS11]; exact cfr.new hw (eS11 ▸ y5_))
    intro y6_
    replace h := h y6_
    obtain ⟨Q9, h0, h⟩ := h
    refine ⟨_, frX8_init y5_ h0, ?_⟩
    intro S14 q7_ y8_ y9_
    replace h := h S14 q7_.1 y8_ y9_
    replace f := f.tr (q7_.2.mo (by decide) (by decide))
    intro S17 eS17 y10_ y11_
    replace h := h S17 eS17 y10_ y11_
    replace f := f.tr (show cfr [] [(47, 0), (47, 1), (47, 3), (47, 5), (47, 6), (47, 7), (47, 8), (47, 11), (48, 0), (48, 2), (48, 3), (48, 4), (48, 5)] S14 S17 by rw [eS17]; exact cfr.oR y10_ (by decide))
    refine ⟨h.1, ?_⟩
    replace h := h.2
    intro S21 eS21 y12_
    replace h := h S21 eS21 y12_
    replace f := f.tr (show cfr [] [(47, 0), (47, 1), (47, 3), (47, 5), (47, 6), (47, 7), (47, 8), (47, 11), (48, 0), (48, 2), (48, 3), (48, 4), (48, 5)] S17 S21 by rw [eS21]; exact cfr.new y11_ (eS21 ▸ y12_))
    intro S23 eS23 y13_ y14_
    replace h := h S23 eS23 y13_ y14_
    replace f := f.tr (show cfr [] [(47, 0), (47, 1), (47, 3), (47, 5), (47, 6), (47, 7), (47, 8), (47, 11), (48, 0), (48, 2), (48, 3), (48, 4), (48, 5)] S21 S23 by rw [eS23]; exact cfr.oR y13_ (by decide))
    refine ⟨h.1, ?_⟩
    replace h := h.2
    intro S27 eS27 y15_
    replace h := h S27 eS27 y15_
    replace f := f.tr (show cfr [] [(47, 0), (47, 1), (47, 3), (47, 5), (47, 6), (47, 7), (47, 8), (47, 11), (48, 0), (48, 2), (48, 3), (48, 4), (48, 5)] S23 S27 by rw [eS27]; exact cfr.new y14_ (eS27 ▸ y15_))
    intro S29 eS29 y16_ y17_
    replace h := h S29 eS29 y16_ y17_
    replace f := f.tr (show cfr [] [(47, 0), (47, 1), (47, 3), (47, 5), (47, 6), (47, 7), (47, 8), (47, 11), (48, 0), (48, 2), (48, 3), (48, 4), (48, 5)] S27 S29 by rw [eS29]; exact cfr.oR y16_ (by decide))
    refine ⟨h.1, ?_⟩
    replace h := h.2
    intro S33 eS33 y18_
    replace h := h S33 eS33 y18_
    replace f := f.tr (show cfr [] [(47, 0), (47, 1), (47, 3), (47, 5), (47, 6), (47, 7), (47, 8), (47, 11), (48, 0), (48, 2), (48, 3), (48, 4), (48, 5)] S29 S33 by rw [eS33]; exact cfr.new y17_ (eS33 ▸ y18_))
    intro S35 eS35 y19_ y20_
    replace h := h S35 eS35 y19_ y20_
    replace f := f.tr (show cfr [] [(47, 0), (47, 1), (47, 3), (47, 5), (47, 6), (47, 7), (47, 8), (47, 11), (48, 0), (48, 2), (48, 3), (48, 4), (48, 5)] S33 S35 by rw [eS35]; exact cfr.oR y19_ (by decide))
    refine ⟨h.1, ?_⟩
    replace h := h.2
    intro S39 eS39 y21_
    replace h := h S39 eS39 y21_
    replace f := f.tr (show cfr [] [(47, 0), (47, 1), (47, 3), (47, 5), (47, 6), (47, 7), (47, 8), (47, 11), (48, 0), (48, 2), (48, 3), (48, 4), (48, 5)] S35 S39 by rw [eS39]; exact cfr.new y20_ (eS39 ▸ y21_))
    intro S41 eS41 y22_ y23_
    replace h := h S41 eS41 y22_ y23_
    replace f := f.tr (show cfr [] [(47, 0), (47, 1), (47, 3), (47, 5), (47, 6), (47, 7), (47, 8), (47, 11), (48, 0), (48, 2), (48, 3), (48, 4), (48, 5)] S39 S41 by rw [eS41]; exact cfr.oR y22_ (by decide))
    exact fr_X9_makeRoom_J69 f h
set_option maxRecDepth 100000 in
theorem frX9_isNewlyReached {S : MS} {x1 : Int32} {Q : Int32 → MS → Prop} (hw : wfC S) (h : wX9_isNewlyReached S x1 Q) : wX9_isNewlyReached S x1 (fun r u => Q r u ∧ cfr [306] [] S u) := by
  have f : cfr [306] [] S S := cfr.rf
  unfold wX9_isNewlyReached at h ⊢
  refine ⟨fun c => ?_, fun c => ?_⟩
  · replace h := h.1 c
    exact ⟨h, f⟩
  · replace h := h.2 c
    refine ⟨fun c => ?_, fun c => ?_⟩
    · replace h := h.1 c
      exact ⟨h, f⟩
    · replace h := h.2 c
      refine ⟨h.1, ?_⟩
      replace h := h.2
      refine ⟨fun c => ?_, fun c => ?_⟩
      · replace h := h.1 c
        refine ⟨h.1, ?_⟩
        replace h := h.2
        intro S11 eS11 y1_ y2_
        replace h := h S11 eS11 y1_ y2_
        replace f := f.tr (show cfr [306] [] S S11 by rw [eS11]; exact cfr.aI y1_ (by decide))
        exact ⟨h, f⟩
      · replace h := h.2 c
        exact ⟨h, f⟩
set_option maxRecDepth 100000 in
theorem fr_X9_isRedirected_J117 {S0 : MS} {Q : Int32 → MS → Prop} {k11 k11' : MS → Int32 → Int32 → Int32 → Prop} {U117 : MS} {v117_1 : Int32} {v117_2 : Int32} {v117_3 : Int32} (hk11 : ∀ (u : MS) (z0) (z1) (z2), cfr [222, 223, 406] [] S0 u → k11 u z0 z1 z2 → k11' u z0 z1 z2) (f : cfr [222, 223, 406] [] S0 U117) (h : w_X9_isRedirected_J117 Q k11 U117 v117_1 v117_2 v117_3) : w_X9_isRedirected_J117 (fun r u => Q r u ∧ cfr [222, 223, 406] [] S0 u) k11' U117 v117_1 v117_2 v117_3 := by
  unfold w_X9_isRedirected_J117 at h ⊢
  intro y1_
  replace h := h y1_
  intro a20 ea20 
  replace h := h a20 ea20 
  exact hk11 _ _ _ _ f h
set_option maxRecDepth 100000 in
theorem fr_X9_isRedirected_J75 {S0 : MS} {Q : Int32 → MS → Prop} {k11 k11' : MS → Int32 → Int32 → Int32 → Prop} {U75 : MS} {v75_1 : Int32} {v75_2 : Int32} {v75_3 : Int32} {v75_4 : Int32} (hk11 : ∀ (u : MS) (z0) (z1) (z2), cfr [222, 223, 406] [] S0 u → k11 u z0 z1 z2 → k11' u z0 z1 z2) (f : cfr [222, 223, 406] [] S0 U75) (h : w_X9_isRedirected_J75 Q k11 U75 v75_1 v75_2 v75_3 v75_4) : w_X9_isRedirected_J75 (fun r u => Q r u ∧ cfr [222, 223, 406] [] S0 u) k11' U75 v75_1 v75_2 v75_3 v75_4 := by
  unfold w_X9_isRedirected_J75 at h ⊢
  intro y2_
  replace h := h y2_
  refine ⟨h.1, ?_⟩
  replace h := h.2
  refine ⟨fun c => ?_, fun c => ?_⟩
  · replace h := h.1 c
    exact fr_X9_isRedirected_J117 hk11 f h
  · replace h := h.2 c
    refine ⟨h.1, ?_⟩
    replace h := h.2
    refine ⟨fun c => ?_, fun c => ?_⟩
    · replace h := h.1 c
      exact fr_X9_isRedirected_J117 hk11 f h
    · replace h := h.2 c
      intro y3_
      replace h := h y3_
      obtain ⟨Q9, h0, h⟩ := h
      refine ⟨_, frX8_setTarget y2_ h0, ?_⟩
      intro S29 q4_ y5_ y6_
      replace h := h S29 q4_.1 y5_ y6_
      replace f := f.tr (q4_.2.mo (by decide) (by decide))
      exact ⟨h, f⟩
set_option maxRecDepth 100000 in
theorem fr_X9_isRedirected_L30 {S0 : MS} {Q : Int32 → MS → Prop} {k11 k11' : MS → Int32 → Int32 → Int32 → Prop} (hk11 : ∀ (u : MS) (z0) (z1) (z2), cfr [222, 223, 406] [] S0 u → k11 u z0 z1 z2 → k11' u z0 z1 z2) : ∀ (n : Nat) {U30 : MS} {v30_1 : Int32} {v30_2 : Int32} {v30_3 : Int32} {v30_4 : Int32} {v30_5 : Int32}, cfr [222, 223, 406] [] S0 U30 → w_X9_isRedirected_L30 Q k11 n U30 v30_1 v30_2 v30_3 v30_4 v30_5 → w_X9_isRedirected_L30 (fun r u => Q r u ∧ cfr [222, 223, 406] [] S0 u) k11' n U30 v30_1 v30_2 v30_3 v30_4 v30_5 := by
  intro n
  induction n with
  | zero => intro U30 v30_1 v30_2 v30_3 v30_4 v30_5 f h; unfold w_X9_isRedirected_L30 at h; exact h.elim
  | succ n ih =>
    intro U30 v30_1 v30_2 v30_3 v30_4 v30_5 f h
    unfold w_X9_isRedirected_L30 at h ⊢
    intro y7_
    replace h := h y7_
    refine ⟨h.1, ?_⟩
    replace h := h.2
    refine ⟨fun c => ?_, fun c => ?_⟩
    · replace h := h.1 c
      refine ⟨fun c => ?_, fun c => ?_⟩
      · replace h := h.1 c
        exact fr_X9_isRedirected_J75 hk11 f h
      · replace h := h.2 c
        refine ⟨h.1, ?_⟩
        replace h := h.2
        intro a38 ea38 
        replace h := h a38 ea38 
        intro a39 ea39 
        replace h := h a39 ea39 
        exact ih f h
    · replace h := h.2 c
      exact fr_X9_isRedirected_J75 hk11 f h
set_option maxRecDepth 100000 in
theorem fr_X9_isRedirected_L11 {S0 : MS} {Q : Int32 → MS → Prop} : ∀ (n : Nat) {U11 : MS} {v11_1 : Int32} {v11_2 : Int32} {v11_3 : Int32}, cfr [222, 223, 406] [] S0 U11 → w_X9_isRedirected_L11 Q n U11 v11_1 v11_2 v11_3 → w_X9_isRedirected_L11 (fun r u => Q r u ∧ cfr [222, 223, 406] [] S0 u) n U11 v11_1 v11_2 v11_3 := by
  intro n
  induction n with
  | zero => intro U11 v11_1 v11_2 v11_3 f h; unfold w_X9_isRedirected_L11 at h; exact h.elim
  | succ n ih =>
    intro U11 v11_1 v11_2 v11_3 f h
    unfold w_X9_isRedirected_L11 at h ⊢
    intro y8_
    replace h := h y8_
    refine ⟨fun c => ?_, fun c => ?_⟩
    · replace h := h.1 c
      exact ⟨h, f⟩
    · replace h := h.2 c
      refine ⟨h.1, ?_⟩
      replace h := h.2
      intro a11 ea11 
      replace h := h a11 ea11 
      obtain ⟨n9, h⟩ := h
      exact ⟨n9, fr_X9_isRedirected_L30 (fun _ _ _ _ f h => ih f h) n9 f h⟩
set_option maxRecDepth 100000 in
theorem frX9_isRedirected {S : MS} {x1 : Int32} {Q : Int32 → MS → Prop} (hw : wfC S) (h : wX9_isRedirected S x1 Q) : wX9_isRedirected S x1 (fun r u => Q r u ∧ cfr [222, 223, 406] [] S u) := by
  have f : cfr [222, 223, 406] [] S S := cfr.rf
  unfold wX9_isRedirected at h ⊢
  refine ⟨h.1, ?_⟩
  replace h := h.2
  intro a5 ea5 
  replace h := h a5 ea5 
  obtain ⟨n9, h⟩ := h
  exact ⟨n9, fr_X9_isRedirected_L11 n9 f h⟩
set_option maxRecDepth 100000 in
theorem frX9_mark {S : MS} {x1 : Int32} {Q : MS → Prop} (hw : wfC S) (h : wX9_mark S x1 Q) : wX9_mark S x1 (fun u => Q u ∧ cfr [305] [] S u) := by
  have f : cfr [305] [] S S := cfr.rf
  unfold wX9_mark at h ⊢
  refine ⟨fun c => ?_, fun c => ?_⟩
  · replace h := h.1 c
    exact ⟨h, f⟩
  · replace h := h.2 c
    refine ⟨fun c => ?_, fun c => ?_⟩
    · replace h := h.1 c
      exact ⟨h, f⟩
    · replace h := h.2 c
      refine ⟨h.1, ?_⟩
      replace h := h.2
      intro S7 eS7 y1_ y2_
      replace h := h S7 eS7 y1_ y2_
      replace f := f.tr (show cfr [305] [] S S7 by rw [eS7]; exact cfr.aI y1_ (by decide))
      exact ⟨h, f⟩
set_option maxRecDepth 100000 in
theorem frX9_putPush {S : MS} {x1 : Int32} {x2 : Int32} {y3 : Int64} {Q : MS → Prop} (hw : wfC S) (h : wX9_putPush S x1 x2 y3 Q) : wX9_putPush S x1 x2 y3 (fun u => Q u ∧ cfr [222, 406] [] S u) := by
  have f : cfr [222, 406] [] S S := cfr.rf
  unfold wX9_putPush at h ⊢
  refine ⟨fun c => ?_, fun c => ?_⟩
  · replace h := h.1 c
    intro y1_
    replace h := h y1_
    obtain ⟨Q9, h0, h⟩ := h
    refine ⟨_, frX8_set hw h0, ?_⟩
    intro S7 q2_ y3_ y4_
    replace h := h S7 q2_.1 y3_ y4_
    replace f := f.tr (q2_.2.mo (by decide) (by decide))
    exact ⟨h, f⟩
  · replace h := h.2 c
    intro y5_
    replace h := h y5_
    obtain ⟨Q9, h0, h⟩ := h
    refine ⟨_, frX8_set hw h0, ?_⟩
    intro S4 q6_ y7_ y8_
    replace h := h S4 q6_.1 y7_ y8_
    replace f := f.tr (q6_.2.mo (by decide) (by decide))
    exact ⟨h, f⟩
set_option maxRecDepth 100000 in
theorem frX10_init {S : MS} {p0 : Nat} {p1 : Nat} {x2 : Int32} {x3 : Int32} {Q : MS → Prop} (hw : wfC S) (h : wX10_init S p0 p1 x2 x3 Q) : wX10_init S p0 p1 x2 x3 (fun u => Q u ∧ cfr [] [(49, 0), (49, 4), (49, 5), (49, 6), (49, 7), (49, 8), (49, 9), (49, 10), (49, 11), (49, 12), (49, 13), (49, 16), (49, 17)] S u) := by
  have f : cfr [] [(49, 0), (49, 4), (49, 5), (49, 6), (49, 7), (49, 8), (49, 9), (49, 10), (49, 11), (49, 12), (49, 13), (49, 16), (49, 17)] S S := cfr.rf
  unfold wX10_init at h ⊢
  intro S1 eS1 y1_ y2_
  replace h := h S1 eS1 y1_ y2_
  replace f := f.tr (show cfr [] [(49, 0), (49, 4), (49, 5), (49, 6), (49, 7), (49, 8), (49, 9), (49, 10), (49, 11), (49, 12), (49, 13), (49, 16), (49, 17)] S S1 by rw [eS1]; exact cfr.oI y1_ (by decide))
  intro S2 eS2 y3_ y4_
  replace h := h S2 eS2 y3_ y4_
  replace f := f.tr (show cfr [] [(49, 0), (49, 4), (49, 5), (49, 6), (49, 7), (49, 8), (49, 9), (49, 10), (49, 11), (49, 12), (49, 13), (49, 16), (49, 17)] S1 S2 by rw [eS2]; exact cfr.oI y3_ (by decide))
  refine ⟨h.1, ?_⟩
  replace h := h.2
  intro S4 eS4 y5_ y6_
  replace h := h S4 eS4 y5_ y6_
  replace f := f.tr (show cfr [] [(49, 0), (49, 4), (49, 5), (49, 6), (49, 7), (49, 8), (49, 9), (49, 10), (49, 11), (49, 12), (49, 13), (49, 16), (49, 17)] S2 S4 by rw [eS4]; exact cfr.oR y5_ (by decide))
  intro S5 eS5 y7_ y8_
  replace h := h S5 eS5 y7_ y8_
  replace f := f.tr (show cfr [] [(49, 0), (49, 4), (49, 5), (49, 6), (49, 7), (49, 8), (49, 9), (49, 10), (49, 11), (49, 12), (49, 13), (49, 16), (49, 17)] S4 S5 by rw [eS5]; exact cfr.oI y7_ (by decide))
  refine ⟨h.1, ?_⟩
  replace h := h.2
  intro S9 eS9 y9_
  replace h := h S9 eS9 y9_
  replace f := f.tr (show cfr [] [(49, 0), (49, 4), (49, 5), (49, 6), (49, 7), (49, 8), (49, 9), (49, 10), (49, 11), (49, 12), (49, 13), (49, 16), (49, 17)] S5 S9 by rw [eS9]; exact cfr.new y8_ (eS9 ▸ y9_))
  refine ⟨h.1, ?_⟩
  replace h := h.2
  intro S12 eS12 y10_ y11_
  replace h := h S12 eS12 y10_ y11_
  replace f := f.tr (show cfr [] [(49, 0), (49, 4), (49, 5), (49, 6), (49, 7), (49, 8), (49, 9), (49, 10), (49, 11), (49, 12), (49, 13), (49, 16), (49, 17)] S9 S12 by rw [eS12]; exact cfr.oR y10_ (by decide))
  refine ⟨h.1, ?_⟩
  replace h := h.2
  intro S16 eS16 y12_
  replace h := h S16 eS16 y12_
  replace f := f.tr (show cfr [] [(49, 0), (49, 4), (49, 5), (49, 6), (49, 7), (49, 8), (49, 9), (49, 10), (49, 11), (49, 12), (49, 13), (49, 16), (49, 17)] S12 S16 by rw [eS16]; exact cfr.new y11_ (eS16 ▸ y12_))
  refine ⟨h.1, ?_⟩
  replace h := h.2
  intro S19 eS19 y13_ y14_
  replace h := h S19 eS19 y13_ y14_
  replace f := f.tr (show cfr [] [(49, 0), (49, 4), (49, 5), (49, 6), (49, 7), (49, 8), (49, 9), (49, 10), (49, 11), (49, 12), (49, 13), (49, 16), (49, 17)] S16 S19 by rw [eS19]; exact cfr.oR y13_ (by decide))
  refine ⟨h.1, ?_⟩
  replace h := h.2
  intro S23 eS23 y15_
  replace h := h S23 eS23 y15_
  replace f := f.tr (show cfr [] [(49, 0), (49, 4), (49, 5), (49, 6), (49, 7), (49, 8), (49, 9), (49, 10), (49, 11), (49, 12), (49, 13), (49, 16), (49, 17)] S19 S23 by rw [eS23]; exact cfr.new y14_ (eS23 ▸ y15_))
  refine ⟨h.1, ?_⟩
  replace h := h.2
  intro S26 eS26 y16_ y17_
  replace h := h S26 eS26 y16_ y17_
  replace f := f.tr (show cfr [] [(49, 0), (49, 4), (49, 5), (49, 6), (49, 7), (49, 8), (49, 9), (49, 10), (49, 11), (49, 12), (49, 13), (49, 16), (49, 17)] S23 S26 by rw [eS26]; exact cfr.oR y16_ (by decide))
  intro S27 eS27 y18_ y19_
  replace h := h S27 eS27 y18_ y19_
  replace f := f.tr (show cfr [] [(49, 0), (49, 4), (49, 5), (49, 6), (49, 7), (49, 8), (49, 9), (49, 10), (49, 11), (49, 12), (49, 13), (49, 16), (49, 17)] S26 S27 by rw [eS27]; exact cfr.oI y18_ (by decide))
  refine ⟨h.1, ?_⟩
  replace h := h.2
  intro S31 eS31 y20_
  replace h := h S31 eS31 y20_
  replace f := f.tr (show cfr [] [(49, 0), (49, 4), (49, 5), (49, 6), (49, 7), (49, 8), (49, 9), (49, 10), (49, 11), (49, 12), (49, 13), (49, 16), (49, 17)] S27 S31 by rw [eS31]; exact cfr.new y19_ (eS31 ▸ y20_))
  refine ⟨h.1, ?_⟩
  replace h := h.2
  intro S34 eS34 y21_ y22_
  replace h := h S34 eS34 y21_ y22_
  replace f := f.tr (show cfr [] [(49, 0), (49, 4), (49, 5), (49, 6), (49, 7), (49, 8), (49, 9), (49, 10), (49, 11), (49, 12), (49, 13), (49, 16), (49, 17)] S31 S34 by rw [eS34]; exact cfr.oR y21_ (by decide))
  refine ⟨h.1, ?_⟩
  replace h := h.2
  intro S38 eS38 y23_
  replace h := h S38 eS38 y23_
  replace f := f.tr (show cfr [] [(49, 0), (49, 4), (49, 5), (49, 6), (49, 7), (49, 8), (49, 9), (49, 10), (49, 11), (49, 12), (49, 13), (49, 16), (49, 17)] S34 S38 by rw [eS38]; exact cfr.new y22_ (eS38 ▸ y23_))
  refine ⟨h.1, ?_⟩
  replace h := h.2
  intro S41 eS41 y24_ y25_
  replace h := h S41 eS41 y24_ y25_
  replace f := f.tr (show cfr [] [(49, 0), (49, 4), (49, 5), (49, 6), (49, 7), (49, 8), (49, 9), (49, 10), (49, 11), (49, 12), (49, 13), (49, 16), (49, 17)] S38 S41 by rw [eS41]; exact cfr.oR y24_ (by decide))
  refine ⟨h.1, ?_⟩
  replace h := h.2
  intro S45 eS45 y26_
  replace h := h S45 eS45 y26_
  replace f := f.tr (show cfr [] [(49, 0), (49, 4), (49, 5), (49, 6), (49, 7), (49, 8), (49, 9), (49, 10), (49, 11), (49, 12), (49, 13), (49, 16), (49, 17)] S41 S45 by rw [eS45]; exact cfr.new y25_ (eS45 ▸ y26_))
  refine ⟨h.1, ?_⟩
  replace h := h.2
  intro S48 eS48 y27_ y28_
  replace h := h S48 eS48 y27_ y28_
  replace f := f.tr (show cfr [] [(49, 0), (49, 4), (49, 5), (49, 6), (49, 7), (49, 8), (49, 9), (49, 10), (49, 11), (49, 12), (49, 13), (49, 16), (49, 17)] S45 S48 by rw [eS48]; exact cfr.oR y27_ (by decide))
  refine ⟨h.1, ?_⟩
  replace h := h.2
  intro S52 eS52 y29_
  replace h := h S52 eS52 y29_
  replace f := f.tr (show cfr [] [(49, 0), (49, 4), (49, 5), (49, 6), (49, 7), (49, 8), (49, 9), (49, 10), (49, 11), (49, 12), (49, 13), (49, 16), (49, 17)] S48 S52 by rw [eS52]; exact cfr.new y28_ (eS52 ▸ y29_))
  refine ⟨h.1, ?_⟩
  replace h := h.2
  intro S55 eS55 y30_ y31_
  replace h := h S55 eS55 y30_ y31_
  replace f := f.tr (show cfr [] [(49, 0), (49, 4), (49, 5), (49, 6), (49, 7), (49, 8), (49, 9), (49, 10), (49, 11), (49, 12), (49, 13), (49, 16), (49, 17)] S52 S55 by rw [eS55]; exact cfr.oR y30_ (by decide))
  refine ⟨h.1, ?_⟩
  replace h := h.2
  intro S59 eS59 y32_
  replace h := h S59 eS59 y32_
  replace f := f.tr (show cfr [] [(49, 0), (49, 4), (49, 5), (49, 6), (49, 7), (49, 8), (49, 9), (49, 10), (49, 11), (49, 12), (49, 13), (49, 16), (49, 17)] S55 S59 by rw [eS59]; exact cfr.new y31_ (eS59 ▸ y32_))
  refine ⟨h.1, ?_⟩
  replace h := h.2
  intro S62 eS62 y33_ y34_
  replace h := h S62 eS62 y33_ y34_
  replace f := f.tr (show cfr [] [(49, 0), (49, 4), (49, 5), (49, 6), (49, 7), (49, 8), (49, 9), (49, 10), (49, 11), (49, 12), (49, 13), (49, 16), (49, 17)] S59 S62 by rw [eS62]; exact cfr.oR y33_ (by decide))
  exact ⟨h, f⟩
set_option maxRecDepth 100000 in
theorem fr_X10_rowAt_J13 {S0 : MS} {Q : Option Nat → MS → Prop} {U13 : MS} (f : cfr [] [] S0 U13) (h : w_X10_rowAt_J13 Q U13) : w_X10_rowAt_J13 (fun r u => Q r u ∧ cfr [] [] S0 u) U13 := by
  unfold w_X10_rowAt_J13 at h ⊢
  intro y1_
  replace h := h y1_
  exact ⟨h, f⟩
set_option maxRecDepth 100000 in
theorem frX10_rowAt {S : MS} {p0 : Nat} {x1 : Int32} {Q : Option Nat → MS → Prop} (hw : wfC S) (h : wX10_rowAt S p0 x1 Q) : wX10_rowAt S p0 x1 (fun r u => Q r u ∧ cfr [] [] S u) := by
  have f : cfr [] [] S S := cfr.rf
  unfold wX10_rowAt at h ⊢
  refine ⟨fun c => ?_, fun c => ?_⟩
  · replace h := h.1 c
    exact fr_X10_rowAt_J13 f h
  · replace h := h.2 c
    refine ⟨h.1, ?_⟩
    replace h := h.2
    refine ⟨fun c => ?_, fun c => ?_⟩
    · replace h := h.1 c
      refine ⟨h.1, ?_⟩
      replace h := h.2
      refine ⟨h.1, ?_⟩
      replace h := h.2
      refine ⟨fun c => ?_, fun c => ?_⟩
      · replace h := h.1 c
        exact ⟨h, f⟩
      · replace h := h.2 c
        exact ⟨h, f⟩
    · replace h := h.2 c
      exact fr_X10_rowAt_J13 f h
set_option maxRecDepth 100000 in
theorem fr_X10_placesGiven_J54 {S0 : MS} {Q : Int32 → MS → Prop} {U54 : MS} {v54_0 : Nat} {v54_1 : Nat} {v54_2 : Int32} (f : cfr [] [] S0 U54) (h : w_X10_placesGiven_J54 Q U54 v54_0 v54_1 v54_2) : w_X10_placesGiven_J54 (fun r u => Q r u ∧ cfr [] [] S0 u) U54 v54_0 v54_1 v54_2 := by
  unfold w_X10_placesGiven_J54 at h ⊢
  intro y1_ y2_ y3_
  replace h := h y1_ y2_ y3_
  refine ⟨h.1, ?_⟩
  replace h := h.2
  intro a8 ea8 
  replace h := h a8 ea8 
  obtain ⟨Q9, h0, h⟩ := h
  refine ⟨_, frX6_placesOf y1_ h0, ?_⟩
  intro r10 S11 q4_ y5_ y6_
  replace h := h r10 S11 q4_.1 y5_ y6_
  replace f := f.tr (q4_.2.mo (by decide) (by decide))
  exact ⟨h, f⟩
set_option maxRecDepth 100000 in
theorem frX10_placesGiven {S : MS} {p0 : Nat} {p1 : Nat} {x2 : Int32} {Q : Int32 → MS → Prop} (hw : wfC S) (h : wX10_placesGiven S p0 p1 x2 Q) : wX10_placesGiven S p0 p1 x2 (fun r u => Q r u ∧ cfr [] [] S u) := by
  have f : cfr [] [] S S := cfr.rf
  unfold wX10_placesGiven at h ⊢
  refine ⟨h.1, ?_⟩
  replace h := h.2
  intro a4 ea4 
  replace h := h a4 ea4 
  refine ⟨fun c => ?_, fun c => ?_⟩
  · replace h := h.1 c
    exact ⟨h, f⟩
  · replace h := h.2 c
    refine ⟨fun c => ?_, fun c => ?_⟩
    · replace h := h.1 c
      exact ⟨h, f⟩
    · replace h := h.2 c
      refine ⟨fun c => ?_, fun c => ?_⟩
      · replace h := h.1 c
        exact fr_X10_placesGiven_J54 f h
      · replace h := h.2 c
        refine ⟨fun c => ?_, fun c => ?_⟩
        · replace h := h.1 c
          exact ⟨h, f⟩
        · replace h := h.2 c
          refine ⟨fun c => ?_, fun c => ?_⟩
          · replace h := h.1 c
            exact fr_X10_placesGiven_J54 f h
          · replace h := h.2 c
            refine ⟨fun c => ?_, fun c => ?_⟩
            · replace h := h.1 c
              exact fr_X10_placesGiven_J54 f h
            · replace h := h.2 c
              refine ⟨fun c => ?_, fun c => ?_⟩
              · replace h := h.1 c
                exact ⟨h, f⟩
              · replace h := h.2 c
                exact fr_X10_placesGiven_J54 f h
set_option maxRecDepth 100000 in
theorem frX11_putMember {S : MS} {x1 : Int32} {x2 : Int32} {x3 : Int32} {Q : MS → Prop} (hw : wfC S) (h : wX11_putMember S x1 x2 x3 Q) : wX11_putMember S x1 x2 x3 (fun u => Q u ∧ cfr [101] [(40, 0), (40, 1)] S u) := by
  have f : cfr [101] [(40, 0), (40, 1)] S S := cfr.rf
  unfold wX11_putMember at h ⊢
  intro y1_
  replace h := h y1_
  obtain ⟨Q9, h0, h⟩ := h
  refine ⟨_, frX0_put2 hw h0, ?_⟩
  intro S2 q2_ y3_ y4_
  replace h := h S2 q2_.1 y3_ y4_
  replace f := f.tr (q2_.2.mo (by decide) (by decide))
  intro y5_
  replace h := h y5_
  obtain ⟨Q9, h0, h⟩ := h
  refine ⟨_, frX0_put2 y3_ h0, ?_⟩
  intro S6 q6_ y7_ y8_
  replace h := h S6 q6_.1 y7_ y8_
  replace f := f.tr (q6_.2.mo (by decide) (by decide))
  intro y9_
  replace h := h y9_
  obtain ⟨Q9, h0, h⟩ := h
  refine ⟨_, frX0_put2 y7_ h0, ?_⟩
  intro S10 q10_ y11_ y12_
  replace h := h S10 q10_.1 y11_ y12_
  replace f := f.tr (q10_.2.mo (by decide) (by decide))
  intro y13_
  replace h := h y13_
  obtain ⟨Q9, h0, h⟩ := h
  refine ⟨_, frX0_put2 y11_ h0, ?_⟩
  intro S14 q14_ y15_ y16_
  replace h := h S14 q14_.1 y15_ y16_
  replace f := f.tr (q14_.2.mo (by decide) (by decide))
  exact ⟨h, f⟩
