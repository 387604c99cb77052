set_option maxRecDepth 100000 in
theorem fr_X2_catchesHold_J185 {S0 : MS} {Q : Int32 → MS → Prop} {U185 : MS} (f : cfr [] [(46, 2), (46, 3)] S0 U185) (h : w_X2_catchesHold_J185 Q U185) : w_X2_catchesHold_J185 (fun r u => Q r u ∧ cfr [] [(46, 2), (46, 3)] S0 u) U185 := by
  unfold w_X2_catchesHold_J185 at h ⊢
  intro y1_
  replace h := h y1_
  exact ⟨h, f⟩
set_option maxRecDepth 100000 in
theorem fr_X2_catchesHold_J129 {S0 : MS} {Q : Int32 → MS → Prop} {U129 : MS} {v129_2 : Int32} (f : cfr [] [(46, 2), (46, 3)] S0 U129) (h : w_X2_catchesHold_J129 Q U129 v129_2) : w_X2_catchesHold_J129 (fun r u => Q r u ∧ cfr [] [(46, 2), (46, 3)] S0 u) U129 v129_2 := by
  unfold w_X2_catchesHold_J129 at h ⊢
  intro y2_
  replace h := h y2_
  obtain ⟨Q9, h0, h⟩ := h
  refine ⟨_, frX7_breaks y2_ h0, ?_⟩
  intro r28 S29 q3_ y4_ y5_
  replace h := h r28 S29 q3_.1 y4_ y5_
  replace f := f.tr (q3_.2.mo (by decide) (by decide))
  exact ⟨h, f⟩
set_option maxRecDepth 100000 in
theorem fr_X2_catchesHold_L90 {S0 : MS} {Q : Int32 → MS → Prop} : ∀ (n : Nat) {U90 : MS} {v90_2 : Int32} {v90_4 : Int32} {v90_5 : Int32} {v90_6 : Int32}, cfr [] [(46, 2), (46, 3)] S0 U90 → w_X2_catchesHold_L90 Q n U90 v90_2 v90_4 v90_5 v90_6 → w_X2_catchesHold_L90 (fun r u => Q r u ∧ cfr [] [(46, 2), (46, 3)] S0 u) n U90 v90_2 v90_4 v90_5 v90_6 := by
  intro n
  induction n with
  | zero => intro U90 v90_2 v90_4 v90_5 v90_6 f h; unfold w_X2_catchesHold_L90 at h; exact h.elim
  | succ n ih =>
    intro U90 v90_2 v90_4 v90_5 v90_6 f h
    unfold w_X2_catchesHold_L90 at h ⊢
    intro y6_
    replace h := h y6_
    refine ⟨fun c => ?_, fun c => ?_⟩
    · replace h := h.1 c
      refine ⟨fun c => ?_, fun c => ?_⟩
      · replace h := h.1 c
        exact fr_X2_catchesHold_J185 f h
      · replace h := h.2 c
        obtain ⟨Q9, h0, h⟩ := h
        refine ⟨_, frX7_breaks y6_ h0, ?_⟩
        intro r22 S23 q7_ y8_ y9_
        replace h := h r22 S23 q7_.1 y8_ y9_
        replace f := f.tr (q7_.2.mo (by decide) (by decide))
        refine ⟨fun c => ?_, fun c => ?_⟩
        · replace h := h.1 c
          exact ⟨h, f⟩
        · replace h := h.2 c
          exact fr_X2_catchesHold_J185 f h
    · replace h := h.2 c
      refine ⟨fun c => ?_, fun c => ?_⟩
      · replace h := h.1 c
        exact fr_X2_catchesHold_J129 f h
      · replace h := h.2 c
        refine ⟨h.1, ?_⟩
        replace h := h.2
        refine ⟨fun c => ?_, fun c => ?_⟩
        · replace h := h.1 c
          refine ⟨h.1, ?_⟩
          replace h := h.2
          intro a46 ea46 
          replace h := h a46 ea46 
          intro a47 ea47 
          replace h := h a47 ea47 
          exact ih f h
        · replace h := h.2 c
          exact fr_X2_catchesHold_J129 f h
set_option maxRecDepth 100000 in
theorem frX2_catchesHold {S : MS} {x1 : Int32} {x2 : Int32} {Q : Int32 → MS → Prop} (hw : wfC S) (h : wX2_catchesHold S x1 x2 Q) : wX2_catchesHold S x1 x2 (fun r u => Q r u ∧ cfr [] [(46, 2), (46, 3)] S u) := by
  have f : cfr [] [(46, 2), (46, 3)] S S := cfr.rf
  unfold wX2_catchesHold at h ⊢
  refine ⟨fun c => ?_, fun c => ?_⟩
  · replace h := h.1 c
    refine ⟨h.1, ?_⟩
    replace h := h.2
    intro a6 ea6 
    replace h := h a6 ea6 
    refine ⟨fun c => ?_, fun c => ?_⟩
    · replace h := h.1 c
      intro a11 ea11 
      replace h := h a11 ea11 
      refine ⟨fun c => ?_, fun c => ?_⟩
      · replace h := h.1 c
        refine ⟨h.1, ?_⟩
        replace h := h.2
        intro a17 ea17 
        replace h := h a17 ea17 
        intro a18 ea18 
        replace h := h a18 ea18 
        obtain ⟨n9, h⟩ := h
        exact ⟨n9, fr_X2_catchesHold_L90 n9 f h⟩
      · replace h := h.2 c
        obtain ⟨Q9, h0, h⟩ := h
        refine ⟨_, frX7_breaks hw h0, ?_⟩
        intro r49 S50 q10_ y11_ y12_
        replace h := h r49 S50 q10_.1 y11_ y12_
        replace f := f.tr (q10_.2.mo (by decide) (by decide))
        exact ⟨h, f⟩
    · replace h := h.2 c
      obtain ⟨Q9, h0, h⟩ := h
      refine ⟨_, frX7_breaks hw h0, ?_⟩
      intro r53 S54 q13_ y14_ y15_
      replace h := h r53 S54 q13_.1 y14_ y15_
      replace f := f.tr (q13_.2.mo (by decide) (by decide))
      exact ⟨h, f⟩
  · replace h := h.2 c
    obtain ⟨Q9, h0, h⟩ := h
    refine ⟨_, frX7_breaks hw h0, ?_⟩
    intro r57 S58 q16_ y17_ y18_
    replace h := h r57 S58 q16_.1 y17_ y18_
    replace f := f.tr (q16_.2.mo (by decide) (by decide))
    exact ⟨h, f⟩
set_option maxRecDepth 100000 in
theorem fr_X2_lookAt_J23 {S0 : MS} {Q : MS → Prop} {U23 : MS} {t23_0 : Int32} (f : cfr [] [(42, 1), (42, 2), (42, 3), (42, 4), (42, 5), (42, 6)] S0 U23) (h : w_X2_lookAt_J23 Q U23 t23_0) : w_X2_lookAt_J23 (fun u => Q u ∧ cfr [] [(42, 1), (42, 2), (42, 3), (42, 4), (42, 5), (42, 6)] S0 u) U23 t23_0 := by
  unfold w_X2_lookAt_J23 at h ⊢
  intro y1_
  replace h := h y1_
  refine ⟨h.1, ?_⟩
  replace h := h.2
  intro S4 eS4 y2_ y3_
  replace h := h S4 eS4 y2_ y3_
  replace f := f.tr (show cfr [] [(42, 1), (42, 2), (42, 3), (42, 4), (42, 5), (42, 6)] U23 S4 by rw [eS4]; exact cfr.oI y2_ (by decide))
  refine ⟨h.1, ?_⟩
  replace h := h.2
  intro S9 eS9 y4_ y5_
  replace h := h S9 eS9 y4_ y5_
  replace f := f.tr (show cfr [] [(42, 1), (42, 2), (42, 3), (42, 4), (42, 5), (42, 6)] S4 S9 by rw [eS9]; exact cfr.oI y4_ (by decide))
  refine ⟨h.1, ?_⟩
  replace h := h.2
  intro S15 eS15 y6_ y7_
  replace h := h S15 eS15 y6_ y7_
  replace f := f.tr (show cfr [] [(42, 1), (42, 2), (42, 3), (42, 4), (42, 5), (42, 6)] S9 S15 by rw [eS15]; exact cfr.oI y6_ (by decide))
  intro S17 eS17 y8_ y9_
  replace h := h S17 eS17 y8_ y9_
  replace f := f.tr (show cfr [] [(42, 1), (42, 2), (42, 3), (42, 4), (42, 5), (42, 6)] S15 S17 by rw [eS17]; exact cfr.oI y8_ (by decide))
  intro S20 eS20 y10_ y11_
  replace h := h S20 eS20 y10_ y11_
  replace f := f.tr (show cfr [] [(42, 1), (42, 2), (42, 3), (42, 4), (42, 5), (42, 6)] S17 S20 by rw [eS20]; exact cfr.oI y10_ (by decide))
  refine ⟨h.1, ?_⟩
  replace h := h.2
  intro S25 eS25 y12_ y13_
  replace h := h S25 eS25 y12_ y13_
  replace f := f.tr (show cfr [] [(42, 1), (42, 2), (42, 3), (42, 4), (42, 5), (42, 6)] S20 S25 by rw [eS25]; exact cfr.oI y12_ (by decide))
  exact ⟨h, f⟩
set_option maxRecDepth 100000 in
theorem fr_X2_lookAt_J10 {S0 : MS} {Q : MS → Prop} {U10 : MS} (f : cfr [] [(42, 1), (42, 2), (42, 3), (42, 4), (42, 5), (42, 6)] S0 U10) (h : w_X2_lookAt_J10 Q U10) : w_X2_lookAt_J10 (fun u => Q u ∧ cfr [] [(42, 1), (42, 2), (42, 3), (42, 4), (42, 5), (42, 6)] S0 u) U10 := by
  unfold w_X2_lookAt_J10 at h ⊢
  intro y14_
  replace h := h y14_
  exact fr_X2_lookAt_J23 f h
set_option maxRecDepth 100000 in
theorem frX2_lookAt {S : MS} {x1 : Int32} {Q : MS → Prop} (hw : wfC S) (h : wX2_lookAt S x1 Q) : wX2_lookAt S x1 (fun u => Q u ∧ cfr [] [(42, 1), (42, 2), (42, 3), (42, 4), (42, 5), (42, 6)] S u) := by
  have f : cfr [] [(42, 1), (42, 2), (42, 3), (42, 4), (42, 5), (42, 6)] S S := cfr.rf
  unfold wX2_lookAt at h ⊢
  refine ⟨fun c => ?_, fun c => ?_⟩
  · replace h := h.1 c
    exact fr_X2_lookAt_J10 f h
  · replace h := h.2 c
    refine ⟨fun c => ?_, fun c => ?_⟩
    · replace h := h.1 c
      refine ⟨h.1, ?_⟩
      replace h := h.2
      exact fr_X2_lookAt_J23 f h
    · replace h := h.2 c
      exact fr_X2_lookAt_J10 f h
set_option maxRecDepth 100000 in
theorem fr_X2_lookupLength_L56 {S0 : MS} {Q : Int32 → MS → Prop} : ∀ (n : Nat) {U56 : MS} {v56_1 : Int32} {v56_2 : Int32} {v56_3 : Int32} {v56_4 : Int32}, cfr [] [] S0 U56 → w_X2_lookupLength_L56 Q n U56 v56_1 v56_2 v56_3 v56_4 → w_X2_lookupLength_L56 (fun r u => Q r u ∧ cfr [] [] S0 u) n U56 v56_1 v56_2 v56_3 v56_4 := by
  intro n
  induction n with
  | zero => intro U56 v56_1 v56_2 v56_3 v56_4 f h; unfold w_X2_lookupLength_L56 at h; exact h.elim
  | succ n ih =>
    intro U56 v56_1 v56_2 v56_3 v56_4 f h
    unfold w_X2_lookupLength_L56 at h ⊢
    intro y1_
    replace h := h y1_
    refine ⟨fun c => ?_, fun c => ?_⟩
    · replace h := h.1 c
      exact ⟨h, f⟩
    · replace h := h.2 c
      refine ⟨h.1, ?_⟩
      replace h := h.2
      refine ⟨h.1, ?_⟩
      replace h := h.2
      refine ⟨fun c => ?_, fun c => ?_⟩
      · replace h := h.1 c
        intro a35 ea35 
        replace h := h a35 ea35 
        exact ih f h
      · replace h := h.2 c
        exact ⟨h, f⟩
set_option maxRecDepth 100000 in
theorem frX2_lookupLength {S : MS} {x1 : Int32} {Q : Int32 → MS → Prop} (hw : wfC S) (h : wX2_lookupLength S x1 Q) : wX2_lookupLength S x1 (fun r u => Q r u ∧ cfr [] [] S u) := by
  have f : cfr [] [] S S := cfr.rf
  unfold wX2_lookupLength at h ⊢
  refine ⟨h.1, ?_⟩
  replace h := h.2
  intro a4 ea4 
  replace h := h a4 ea4 
  refine ⟨h.1, ?_⟩
  replace h := h.2
  intro a9 ea9 
  replace h := h a9 ea9 
  refine ⟨fun c => ?_, fun c => ?_⟩
  · replace h := h.1 c
    exact ⟨h, f⟩
  · replace h := h.2 c
    refine ⟨fun c => ?_, fun c => ?_⟩
    · replace h := h.1 c
      exact ⟨h, f⟩
    · replace h := h.2 c
      refine ⟨fun c => ?_, fun c => ?_⟩
      · replace h := h.1 c
        exact ⟨h, f⟩
      · replace h := h.2 c
        refine ⟨fun c => ?_, fun c => ?_⟩
        · replace h := h.1 c
          obtain ⟨n9, h⟩ := h
          exact ⟨n9, fr_X2_lookupLength_L56 n9 f h⟩
        · replace h := h.2 c
          exact ⟨h, f⟩
set_option maxRecDepth 100000 in
theorem fr_X2_decodeLocal_J246 {S0 : MS} {Q : MS → Prop} {U246 : MS} {v246_2 : Int32} (f : cfr [] [(42, 9), (42, 10)] S0 U246) (h : w_X2_decodeLocal_J246 Q U246 v246_2) : w_X2_decodeLocal_J246 (fun u => Q u ∧ cfr [] [(42, 9), (42, 10)] S0 u) U246 v246_2 := by
  unfold w_X2_decodeLocal_J246 at h ⊢
  intro y1_
  replace h := h y1_
  refine ⟨fun c => ?_, fun c => ?_⟩
  · replace h := h.1 c
    exact ⟨h, f⟩
  · replace h := h.2 c
    refine ⟨fun c => ?_, fun c => ?_⟩
    · replace h := h.1 c
      exact ⟨h, f⟩
    · replace h := h.2 c
      obtain ⟨Q9, h0, h⟩ := h
      refine ⟨_, frX2_set y1_ h0, ?_⟩
      intro S15 q2_ y3_ y4_
      replace h := h S15 q2_.1 y3_ y4_
      replace f := f.tr (q2_.2.mo (by decide) (by decide))
      exact ⟨h, f⟩
set_option maxRecDepth 100000 in
theorem fr_X2_decodeLocal_J233 {S0 : MS} {Q : MS → Prop} {U233 : MS} {t233_0 : Int32} {v233_2 : Int32} (f : cfr [] [(42, 9), (42, 10)] S0 U233) (h : w_X2_decodeLocal_J233 Q U233 t233_0 v233_2) : w_X2_decodeLocal_J233 (fun u => Q u ∧ cfr [] [(42, 9), (42, 10)] S0 u) U233 t233_0 v233_2 := by
  unfold w_X2_decodeLocal_J233 at h ⊢
  intro y5_
  replace h := h y5_
  obtain ⟨Q9, h0, h⟩ := h
  refine ⟨_, frX2_set y5_ h0, ?_⟩
  intro S22 q6_ y7_ y8_
  replace h := h S22 q6_.1 y7_ y8_
  replace f := f.tr (q6_.2.mo (by decide) (by decide))
  exact ⟨h, f⟩
set_option maxRecDepth 100000 in
theorem fr_X2_decodeLocal_J207 {S0 : MS} {Q : MS → Prop} {U207 : MS} {v207_2 : Int32} (f : cfr [] [(42, 9), (42, 10)] S0 U207) (h : w_X2_decodeLocal_J207 Q U207 v207_2) : w_X2_decodeLocal_J207 (fun u => Q u ∧ cfr [] [(42, 9), (42, 10)] S0 u) U207 v207_2 := by
  unfold w_X2_decodeLocal_J207 at h ⊢
  intro y9_
  replace h := h y9_
  refine ⟨fun c => ?_, fun c => ?_⟩
  · replace h := h.1 c
    exact fr_X2_decodeLocal_J246 f h
  · replace h := h.2 c
    refine ⟨fun c => ?_, fun c => ?_⟩
    · replace h := h.1 c
      exact fr_X2_decodeLocal_J246 f h
    · replace h := h.2 c
      refine ⟨fun c => ?_, fun c => ?_⟩
      · replace h := h.1 c
        exact fr_X2_decodeLocal_J233 f h
      · replace h := h.2 c
        exact fr_X2_decodeLocal_J233 f h
set_option maxRecDepth 100000 in
theorem fr_X2_decodeLocal_J181 {S0 : MS} {Q : MS → Prop} {U181 : MS} {v181_2 : Int32} (f : cfr [] [(42, 9), (42, 10)] S0 U181) (h : w_X2_decodeLocal_J181 Q U181 v181_2) : w_X2_decodeLocal_J181 (fun u => Q u ∧ cfr [] [(42, 9), (42, 10)] S0 u) U181 v181_2 := by
  unfold w_X2_decodeLocal_J181 at h ⊢
  intro y10_
  replace h := h y10_
  refine ⟨fun c => ?_, fun c => ?_⟩
  · replace h := h.1 c
    exact fr_X2_decodeLocal_J207 f h
  · replace h := h.2 c
    refine ⟨fun c => ?_, fun c => ?_⟩
    · replace h := h.1 c
      exact fr_X2_decodeLocal_J207 f h
    · replace h := h.2 c
      obtain ⟨Q9, h0, h⟩ := h
      refine ⟨_, frX2_set y10_ h0, ?_⟩
      intro S29 q11_ y12_ y13_
      replace h := h S29 q11_.1 y12_ y13_
      replace f := f.tr (q11_.2.mo (by decide) (by decide))
      exact ⟨h, f⟩
set_option maxRecDepth 100000 in
theorem fr_X2_decodeLocal_J168 {S0 : MS} {Q : MS → Prop} {U168 : MS} {t168_0 : Int32} {v168_2 : Int32} (f : cfr [] [(42, 9), (42, 10)] S0 U168) (h : w_X2_decodeLocal_J168 Q U168 t168_0 v168_2) : w_X2_decodeLocal_J168 (fun u => Q u ∧ cfr [] [(42, 9), (42, 10)] S0 u) U168 t168_0 v168_2 := by
  unfold w_X2_decodeLocal_J168 at h ⊢
  intro y14_
  replace h := h y14_
  obtain ⟨Q9, h0, h⟩ := h
  refine ⟨_, frX2_set y14_ h0, ?_⟩
  intro S36 q15_ y16_ y17_
  replace h := h S36 q15_.1 y16_ y17_
  replace f := f.tr (q15_.2.mo (by decide) (by decide))
  exact ⟨h, f⟩
set_option maxRecDepth 100000 in
theorem fr_X2_decodeLocal_J75 {S0 : MS} {Q : MS → Prop} {U75 : MS} {t75_0 : Int64} {t75_1 : Int32} (f : cfr [] [(42, 9), (42, 10)] S0 U75) (h : w_X2_decodeLocal_J75 Q U75 t75_0 t75_1) : w_X2_decodeLocal_J75 (fun u => Q u ∧ cfr [] [(42, 9), (42, 10)] S0 u) U75 t75_0 t75_1 := by
  unfold w_X2_decodeLocal_J75 at h ⊢
  intro y18_
  replace h := h y18_
  obtain ⟨Q9, h0, h⟩ := h
  refine ⟨_, frX2_set y18_ h0, ?_⟩
  intro S68 q19_ y20_ y21_
  replace h := h S68 q19_.1 y20_ y21_
  replace f := f.tr (q19_.2.mo (by decide) (by decide))
  exact ⟨h, f⟩
set_option maxRecDepth 100000 in
theorem frX2_decodeLocal {S : MS} {x1 : Int32} {Q : MS → Prop} (hw : wfC S) (h : wX2_decodeLocal S x1 Q) : wX2_decodeLocal S x1 (fun u => Q u ∧ cfr [] [(42, 9), (42, 10)] S u) := by
  have f : cfr [] [(42, 9), (42, 10)] S S := cfr.rf
  unfold wX2_decodeLocal at h ⊢
  refine ⟨h.1, ?_⟩
  replace h := h.2
  intro a4 ea4 
  replace h := h a4 ea4 
  refine ⟨fun c => ?_, fun c => ?_⟩
  · replace h := h.1 c
    refine ⟨h.1, ?_⟩
    replace h := h.2
    intro a62 ea62 
    replace h := h a62 ea62 
    refine ⟨h.1, ?_⟩
    replace h := h.2
    refine ⟨fun c => ?_, fun c => ?_⟩
    · replace h := h.1 c
      refine ⟨h.1, ?_⟩
      replace h := h.2
      refine ⟨fun c => ?_, fun c => ?_⟩
      · replace h := h.1 c
        refine ⟨h.1, ?_⟩
        replace h := h.2
        exact fr_X2_decodeLocal_J75 f h
      · replace h := h.2 c
        exact fr_X2_decodeLocal_J75 f h
    · replace h := h.2 c
      exact fr_X2_decodeLocal_J75 f h
  · replace h := h.2 c
    refine ⟨fun c => ?_, fun c => ?_⟩
    · replace h := h.1 c
      refine ⟨h.1, ?_⟩
      replace h := h.2
      refine ⟨h.1, ?_⟩
      replace h := h.2
      obtain ⟨Q9, h0, h⟩ := h
      refine ⟨_, frX2_set hw h0, ?_⟩
      intro S56 q22_ y23_ y24_
      replace h := h S56 q22_.1 y23_ y24_
      replace f := f.tr (q22_.2.mo (by decide) (by decide))
      exact ⟨h, f⟩
    · replace h := h.2 c
      refine ⟨h.1, ?_⟩
      replace h := h.2
      refine ⟨fun c => ?_, fun c => ?_⟩
      · replace h := h.1 c
        refine ⟨fun c => ?_, fun c => ?_⟩
        · replace h := h.1 c
          exact fr_X2_decodeLocal_J181 f h
        · replace h := h.2 c
          refine ⟨fun c => ?_, fun c => ?_⟩
          · replace h := h.1 c
            exact fr_X2_decodeLocal_J181 f h
          · replace h := h.2 c
            refine ⟨fun c => ?_, fun c => ?_⟩
            · replace h := h.1 c
              exact fr_X2_decodeLocal_J168 f h
            · replace h := h.2 c
              exact fr_X2_decodeLocal_J168 f h
      · replace h := h.2 c
        refine ⟨h.1, ?_⟩
        replace h := h.2
        obtain ⟨Q9, h0, h⟩ := h
        refine ⟨_, frX2_set hw h0, ?_⟩
        intro S44 q25_ y26_ y27_
        replace h := h S44 q25_.1 y26_ y27_
        replace f := f.tr (q25_.2.mo (by decide) (by decide))
        exact ⟨h, f⟩
set_option maxRecDepth 100000 in
theorem fr_X2_targetsHold_L14 {S0 : MS} {Q : Int32 → MS → Prop} : ∀ (n : Nat) {U14 : MS} {v14_1 : Int32} {v14_2 : Int32} {v14_3 : Int32}, cfr [] [] S0 U14 → w_X2_targetsHold_L14 Q n U14 v14_1 v14_2 v14_3 → w_X2_targetsHold_L14 (fun r u => Q r u ∧ cfr [] [] S0 u) n U14 v14_1 v14_2 v14_3 := by
  intro n
  induction n with
  | zero => intro U14 v14_1 v14_2 v14_3 f h; unfold w_X2_targetsHold_L14 at h; exact h.elim
  | succ n ih =>
    intro U14 v14_1 v14_2 v14_3 f h
    unfold w_X2_targetsHold_L14 at h ⊢
    intro y1_
    replace h := h y1_
    refine ⟨fun c => ?_, fun c => ?_⟩
    · replace h := h.1 c
      exact ⟨h, f⟩
    · replace h := h.2 c
      refine ⟨h.1, ?_⟩
      replace h := h.2
      intro a10 ea10 
      replace h := h a10 ea10 
      refine ⟨h.1, ?_⟩
      replace h := h.2
      intro a14 ea14 
      replace h := h a14 ea14 
      refine ⟨fun c => ?_, fun c => ?_⟩
      · replace h := h.1 c
        exact ⟨h, f⟩
      · replace h := h.2 c
        intro a16 ea16 
        replace h := h a16 ea16 
        exact ih f h
set_option maxRecDepth 100000 in
theorem frX2_targetsHold {S : MS} {Q : Int32 → MS → Prop} (hw : wfC S) (h : wX2_targetsHold S Q) : wX2_targetsHold S (fun r u => Q r u ∧ cfr [] [] S u) := by
  have f : cfr [] [] S S := cfr.rf
  unfold wX2_targetsHold at h ⊢
  intro a1 ea1 
  replace h := h a1 ea1 
  refine ⟨h.1, ?_⟩
  replace h := h.2
  intro a5 ea5 
  replace h := h a5 ea5 
  obtain ⟨n9, h⟩ := h
  exact ⟨n9, fr_X2_targetsHold_L14 n9 f h⟩
set_option maxRecDepth 100000 in
theorem fr_X2_errorOf_J50 {S0 : MS} {Q : Int32 → MS → Prop} {k8 k8' : MS → Int32 → Int32 → Prop} {U50 : MS} {v50_1 : Int32} {v50_2 : Int32} (hk8 : ∀ (u : MS) (z0) (z1), cfr [] [] S0 u → k8 u z0 z1 → k8' u z0 z1) (f : cfr [] [] S0 U50) (h : w_X2_errorOf_J50 Q k8 U50 v50_1 v50_2) : w_X2_errorOf_J50 (fun r u => Q r u ∧ cfr [] [] S0 u) k8' U50 v50_1 v50_2 := by
  unfold w_X2_errorOf_J50 at h ⊢
  intro y1_
  replace h := h y1_
  intro a7 ea7 
  replace h := h a7 ea7 
  exact hk8 _ _ _ f h
set_option maxRecDepth 100000 in
theorem fr_X2_errorOf_L8 {S0 : MS} {Q : Int32 → MS → Prop} : ∀ (n : Nat) {U8 : MS} {v8_1 : Int32} {v8_2 : Int32}, cfr [] [] S0 U8 → w_X2_errorOf_L8 Q n U8 v8_1 v8_2 → w_X2_errorOf_L8 (fun r u => Q r u ∧ cfr [] [] S0 u) n U8 v8_1 v8_2 := by
  intro n
  induction n with
  | zero => intro U8 v8_1 v8_2 f h; unfold w_X2_errorOf_L8 at h; exact h.elim
  | succ n ih =>
    intro U8 v8_1 v8_2 f h
    unfold w_X2_errorOf_L8 at h ⊢
    intro y2_
    replace h := h y2_
    refine ⟨fun c => ?_, fun c => ?_⟩
    · replace h := h.1 c
      exact ⟨h, f⟩
    · replace h := h.2 c
      refine ⟨h.1, ?_⟩
      replace h := h.2
      intro a6 ea6 
      replace h := h a6 ea6 
      refine ⟨fun c => ?_, fun c => ?_⟩
      · replace h := h.1 c
        refine ⟨h.1, ?_⟩
        replace h := h.2
        intro a12 ea12 
        replace h := h a12 ea12 
        refine ⟨h.1, ?_⟩
        replace h := h.2
        intro y3_
        replace h := h y3_
        obtain ⟨Q9, h0, h⟩ := h
        refine ⟨_, frX7_isText y2_ h0, ?_⟩
        intro r17 S18 q4_ y5_ y6_
        replace h := h r17 S18 q4_.1 y5_ y6_
        replace f := f.tr (q4_.2.mo (by decide) (by decide))
        refine ⟨fun c => ?_, fun c => ?_⟩
        · replace h := h.1 c
          exact fr_X2_errorOf_J50 (fun _ _ _ f h => ih f h) f h
        · replace h := h.2 c
          exact ⟨h, f⟩
      · replace h := h.2 c
        exact fr_X2_errorOf_J50 (fun _ _ _ f h => ih f h) f h
set_option maxRecDepth 100000 in
theorem frX2_errorOf {S : MS} {x1 : Int32} {Q : Int32 → MS → Prop} (hw : wfC S) (h : wX2_errorOf S x1 Q) : wX2_errorOf S x1 (fun r u => Q r u ∧ cfr [] [] S u) := by
  have f : cfr [] [] S S := cfr.rf
  unfold wX2_errorOf at h ⊢
  refine ⟨fun c => ?_, fun c => ?_⟩
  · replace h := h.1 c
    exact ⟨h, f⟩
  · replace h := h.2 c
    obtain ⟨n9, h⟩ := h
    exact ⟨n9, fr_X2_errorOf_L8 n9 f h⟩
set_option maxRecDepth 100000 in
theorem fr_X2_memberOf_J195 {S0 : MS} {Q : Int32 → MS → Prop} {k123 k123' : MS → Int32 → Int32 → Int32 → Int32 → Prop} {U195 : MS} {v195_4 : Int32} {v195_5 : Int32} {v195_6 : Int32} {v195_7 : Int32} (hk123 : ∀ (u : MS) (z0) (z1) (z2) (z3), cfr [] [] S0 u → k123 u z0 z1 z2 z3 → k123' u z0 z1 z2 z3) (f : cfr [] [] S0 U195) (h : w_X2_memberOf_J195 Q k123 U195 v195_4 v195_5 v195_6 v195_7) : w_X2_memberOf_J195 (fun r u => Q r u ∧ cfr [] [] S0 u) k123' U195 v195_4 v195_5 v195_6 v195_7 := by
  unfold w_X2_memberOf_J195 at h ⊢
  intro y1_
  replace h := h y1_
  intro a46 ea46 
  replace h := h a46 ea46 
  exact hk123 _ _ _ _ _ f h
set_option maxRecDepth 100000 in
theorem fr_X2_memberOf_L123 {S0 : MS} {Q : Int32 → MS → Prop} : ∀ (n : Nat) {U123 : MS} {v123_4 : Int32} {v123_5 : Int32} {v123_6 : Int32} {v123_7 : Int32}, cfr [] [] S0 U123 → w_X2_memberOf_L123 Q n U123 v123_4 v123_5 v123_6 v123_7 → w_X2_memberOf_L123 (fun r u => Q r u ∧ cfr [] [] S0 u) n U123 v123_4 v123_5 v123_6 v123_7 := by
  intro n
  induction n with
  | zero => intro U123 v123_4 v123_5 v123_6 v123_7 f h; unfold w_X2_memberOf_L123 at h; exact h.elim
  | succ n ih =>
    intro U123 v123_4 v123_5 v123_6 v123_7 f h
    unfold w_X2_memberOf_L123 at h ⊢
    intro y2_
    replace h := h y2_
    refine ⟨fun c => ?_, fun c => ?_⟩
    · replace h := h.1 c
      exact ⟨h, f⟩
    · replace h := h.2 c
      refine ⟨h.1, ?_⟩
      replace h := h.2
      intro a37 ea37 
      replace h := h a37 ea37 
      refine ⟨h.1, ?_⟩
      replace h := h.2
      intro a41 ea41 
      replace h := h a41 ea41 
      obtain ⟨Q9, h0, h⟩ := h
      refine ⟨_, frX7_isSameName y2_ h0, ?_⟩
      intro r43 S44 q3_ y4_ y5_
      replace h := h r43 S44 q3_.1 y4_ y5_
      replace f := f.tr (q3_.2.mo (by decide) (by decide))
      refine ⟨fun c => ?_, fun c => ?_⟩
      · replace h := h.1 c
        exact fr_X2_memberOf_J195 (fun _ _ _ _ _ f h => ih f h) f h
      · replace h := h.2 c
        refine ⟨h.1, ?_⟩
        replace h := h.2
        intro a52 ea52 
        replace h := h a52 ea52 
        refine ⟨h.1, ?_⟩
        replace h := h.2
        intro a56 ea56 
        replace h := h a56 ea56 
        obtain ⟨Q9, h0, h⟩ := h
        refine ⟨_, frX7_isSameName y4_ h0, ?_⟩
        intro r58 S59 q6_ y7_ y8_
        replace h := h r58 S59 q6_.1 y7_ y8_
        replace f := f.tr (q6_.2.mo (by decide) (by decide))
        refine ⟨fun c => ?_, fun c => ?_⟩
        · replace h := h.1 c
          exact fr_X2_memberOf_J195 (fun _ _ _ _ _ f h => ih f h) f h
        · replace h := h.2 c
          exact ⟨h, f⟩
set_option maxRecDepth 100000 in
theorem fr_X2_memberOf_J118 {S0 : MS} {Q : Int32 → MS → Prop} {U118 : MS} {t118_0 : Int32} {v118_4 : Int32} {v118_5 : Int32} (f : cfr [] [] S0 U118) (h : w_X2_memberOf_J118 Q U118 t118_0 v118_4 v118_5) : w_X2_memberOf_J118 (fun r u => Q r u ∧ cfr [] [] S0 u) U118 t118_0 v118_4 v118_5 := by
  unfold w_X2_memberOf_J118 at h ⊢
  intro y9_
  replace h := h y9_
  obtain ⟨n9, h⟩ := h
  exact ⟨n9, fr_X2_memberOf_L123 n9 f h⟩
set_option maxRecDepth 100000 in
theorem fr_X2_memberOf_J93 {S0 : MS} {Q : Int32 → MS → Prop} {U93 : MS} {t93_0 : Int32} {v93_2 : Int32} {v93_4 : Int32} (f : cfr [] [] S0 U93) (h : w_X2_memberOf_J93 Q U93 t93_0 v93_2 v93_4) : w_X2_memberOf_J93 (fun r u => Q r u ∧ cfr [] [] S0 u) U93 t93_0 v93_2 v93_4 := by
  unfold w_X2_memberOf_J93 at h ⊢
  intro y10_
  replace h := h y10_
  refine ⟨fun c => ?_, fun c => ?_⟩
  · replace h := h.1 c
    exact fr_X2_memberOf_J118 f h
  · replace h := h.2 c
    exact fr_X2_memberOf_J118 f h
set_option maxRecDepth 100000 in
theorem frX2_memberOf {S : MS} {x1 : Int32} {x2 : Int32} {Q : Int32 → MS → Prop} (hw : wfC S) (h : wX2_memberOf S x1 x2 Q) : wX2_memberOf S x1 x2 (fun r u => Q r u ∧ cfr [] [] S u) := by
  have f : cfr [] [] S S := cfr.rf
  unfold wX2_memberOf at h ⊢
  refine ⟨h.1, ?_⟩
  replace h := h.2
  intro a4 ea4 
  replace h := h a4 ea4 
  refine ⟨fun c => ?_, fun c => ?_⟩
  · replace h := h.1 c
    refine ⟨h.1, ?_⟩
    replace h := h.2
    intro a10 ea10 
    replace h := h a10 ea10 
    refine ⟨h.1, ?_⟩
    replace h := h.2
    intro a14 ea14 
    replace h := h a14 ea14 
    refine ⟨h.1, ?_⟩
    replace h := h.2
    intro a18 ea18 
    replace h := h a18 ea18 
    refine ⟨h.1, ?_⟩
    replace h := h.2
    intro a22 ea22 
    replace h := h a22 ea22 
    obtain ⟨Q9, h0, h⟩ := h
    refine ⟨_, frX7_isSameName hw h0, ?_⟩
    intro r24 S25 q11_ y12_ y13_
    replace h := h r24 S25 q11_.1 y12_ y13_
    replace f := f.tr (q11_.2.mo (by decide) (by decide))
    refine ⟨fun c => ?_, fun c => ?_⟩
    · replace h := h.1 c
      exact ⟨h, f⟩
    · replace h := h.2 c
      refine ⟨h.1, ?_⟩
      replace h := h.2
      intro a31 ea31 
      replace h := h a31 ea31 
      refine ⟨fun c => ?_, fun c => ?_⟩
      · replace h := h.1 c
        exact fr_X2_memberOf_J93 f h
      · replace h := h.2 c
        exact fr_X2_memberOf_J93 f h
  · replace h := h.2 c
    exact ⟨h, f⟩
set_option maxRecDepth 100000 in
theorem fr_X2_addSwitch_L90 {S0 : MS} {Q : MS → Prop} : ∀ (n : Nat) {U90 : MS} {v90_1 : Nat} {v90_2 : Int32} {v90_3 : Int32} {v90_4 : Int32}, cfr [222, 223, 406] [(47, 2), (47, 4)] S0 U90 → w_X2_addSwitch_L90 Q n U90 v90_1 v90_2 v90_3 v90_4 → w_X2_addSwitch_L90 (fun u => Q u ∧ cfr [222, 223, 406] [(47, 2), (47, 4)] S0 u) n U90 v90_1 v90_2 v90_3 v90_4 := by
  intro n
  induction n with
  | zero => intro U90 v90_1 v90_2 v90_3 v90_4 f h; unfold w_X2_addSwitch_L90 at h; exact h.elim
  | succ n ih =>
    intro U90 v90_1 v90_2 v90_3 v90_4 f h
    unfold w_X2_addSwitch_L90 at h ⊢
    intro y1_ y2_
    replace h := h y1_ y2_
    refine ⟨fun c => ?_, fun c => ?_⟩
    · replace h := h.1 c
      refine ⟨fun c => ?_, fun c => ?_⟩
      · replace h := h.1 c
        exact ⟨h, f⟩
      · replace h := h.2 c
        refine ⟨h.1, ?_⟩
        replace h := h.2
        intro a25 ea25 
        replace h := h a25 ea25 
        intro y3_
        replace h := h y3_
        obtain ⟨Q9, h0, h⟩ := h
        refine ⟨_, frX8_addToTable y1_ h0, ?_⟩
        intro S27 q4_ y5_ y6_
        replace h := h S27 q4_.1 y5_ y6_
        replace f := f.tr (q4_.2.mo (by decide) (by decide))
        intro a29 ea29 
        replace h := h a29 ea29 
        exact ih f h
    · replace h := h.2 c
      exact ⟨h, f⟩
set_option maxRecDepth 100000 in
theorem fr_X2_addSwitch_L60 {S0 : MS} {Q : MS → Prop} : ∀ (n : Nat) {U60 : MS} {v60_1 : Nat} {v60_2 : Int32} {v60_3 : Int32} {v60_4 : Int32}, cfr [222, 223, 406] [(47, 2), (47, 4)] S0 U60 → w_X2_addSwitch_L60 Q n U60 v60_1 v60_2 v60_3 v60_4 → w_X2_addSwitch_L60 (fun u => Q u ∧ cfr [222, 223, 406] [(47, 2), (47, 4)] S0 u) n U60 v60_1 v60_2 v60_3 v60_4 := by
  intro n
  induction n with
  | zero => intro U60 v60_1 v60_2 v60_3 v60_4 f h; unfold w_X2_addSwitch_L60 at h; exact h.elim
  | succ n ih =>
    intro U60 v60_1 v60_2 v60_3 v60_4 f h
    unfold w_X2_addSwitch_L60 at h ⊢
    intro y7_ y8_
    replace h := h y7_ y8_
    refine ⟨fun c => ?_, fun c => ?_⟩
    · replace h := h.1 c
      obtain ⟨n9, h⟩ := h
      exact ⟨n9, fr_X2_addSwitch_L90 n9 f h⟩
    · replace h := h.2 c
      refine ⟨h.1, ?_⟩
      replace h := h.2
      intro a33 ea33 
      replace h := h a33 ea33 
      refine ⟨h.1, ?_⟩
      replace h := h.2
      intro a37 ea37 
      replace h := h a37 ea37 
      intro y9_
      replace h := h y9_
      obtain ⟨Q9, h0, h⟩ := h
      refine ⟨_, frX8_addToTable y7_ h0, ?_⟩
      intro S39 q10_ y11_ y12_
      replace h := h S39 q10_.1 y11_ y12_
      replace f := f.tr (q10_.2.mo (by decide) (by decide))
      intro a41 ea41 
      replace h := h a41 ea41 
      exact ih f h
set_option maxRecDepth 100000 in
theorem fr_X2_addSwitch_J54 {S0 : MS} {Q : MS → Prop} {U54 : MS} {t54_0 : Int32} {t54_1 : Nat} {v54_1 : Nat} {v54_2 : Int32} {v54_3 : Int32} (f : cfr [222, 223, 406] [(47, 2), (47, 4)] S0 U54) (h : w_X2_addSwitch_J54 Q U54 t54_0 t54_1 v54_1 v54_2 v54_3) : w_X2_addSwitch_J54 (fun u => Q u ∧ cfr [222, 223, 406] [(47, 2), (47, 4)] S0 u) U54 t54_0 t54_1 v54_1 v54_2 v54_3 := by
  unfold w_X2_addSwitch_J54 at h ⊢
  intro y13_ y14_ y15_
  replace h := h y13_ y14_ y15_
  intro y16_
  replace h := h y16_
  obtain ⟨Q9, h0, h⟩ := h
  refine ⟨_, frX8_addToTable y13_ h0, ?_⟩
  intro S14 q17_ y18_ y19_
  replace h := h S14 q17_.1 y18_ y19_
  replace f := f.tr (q17_.2.mo (by decide) (by decide))
  obtain ⟨n9, h⟩ := h
  exact ⟨n9, fr_X2_addSwitch_L60 n9 f h⟩
set_option maxRecDepth 100000 in
theorem frX2_addSwitch {S : MS} {p1 : Nat} {Q : MS → Prop} (hw : wfC S) (h : wX2_addSwitch S p1 Q) : wX2_addSwitch S p1 (fun u => Q u ∧ cfr [222, 223, 406] [(47, 2), (47, 4)] S u) := by
  have f : cfr [222, 223, 406] [(47, 2), (47, 4)] S S := cfr.rf
  unfold wX2_addSwitch at h ⊢
  intro a1 ea1 
  replace h := h a1 ea1 
  refine ⟨h.1, ?_⟩
  replace h := h.2
  intro a5 ea5 
  replace h := h a5 ea5 
  intro y20_
  replace h := h y20_
  obtain ⟨Q9, h0, h⟩ := h
  refine ⟨_, frX8_add hw h0, ?_⟩
  intro S7 q21_ y22_ y23_
  replace h := h S7 q21_.1 y22_ y23_
  replace f := f.tr (q21_.2.mo (by decide) (by decide))
  intro y24_
  replace h := h y24_
  obtain ⟨Q9, h0, h⟩ := h
  refine ⟨_, frX8_addToTable y22_ h0, ?_⟩
  intro S11 q25_ y26_ y27_
  replace h := h S11 q25_.1 y26_ y27_
  replace f := f.tr (q25_.2.mo (by decide) (by decide))
  refine ⟨fun c => ?_, fun c => ?_⟩
  · replace h := h.1 c
    refine ⟨h.1, ?_⟩
    replace h := h.2
    intro a47 ea47 
    replace h := h a47 ea47 
    exact fr_X2_addSwitch_J54 f h
  · replace h := h.2 c
    exact fr_X2_addSwitch_J54 f h
set_option maxRecDepth 100000 in
theorem fr_X3_findBlocks_J242 {S0 : MS} {Q : MS → Prop} {k202 k202' : MS → Int32 → Prop} {U242 : MS} {v242_1 : Int32} (hk202 : ∀ (u : MS) (z0), cfr [202, 203] [(43, 1), (43, 2), (43, 3)] S0 u → k202 u z0 → k202' u z0) (f : cfr [202, 203] [(43, 1), (43, 2), (43, 3)] S0 U242) (h : w_X3_findBlocks_J242 Q k202 U242 v242_1) : w_X3_findBlocks_J242 (fun u => Q u ∧ cfr [202, 203] [(43, 1), (43, 2), (43, 3)] S0 u) k202' U242 v242_1 := by
  unfold w_X3_findBlocks_J242 at h ⊢
  intro y1_
  replace h := h y1_
  refine ⟨h.1, ?_⟩
  replace h := h.2
  intro S28 eS28 y2_ y3_
  replace h := h S28 eS28 y2_ y3_
  replace f := f.tr (show cfr [202, 203] [(43, 1), (43, 2), (43, 3)] U242 S28 by rw [eS28]; exact cfr.aI y2_ (by decide))
  intro a29 ea29 
  replace h := h a29 ea29 
  exact hk202 _ _ f h
set_option maxRecDepth 100000 in
theorem fr_X3_findBlocks_J131 {S0 : MS} {Q : MS → Prop} {k60 k60' : MS → Int32 → Prop} {U131 : MS} {v131_1 : Int32} (hk60 : ∀ (u : MS) (z0), cfr [202, 203] [(43, 1), (43, 2), (43, 3)] S0 u → k60 u z0 → k60' u z0) (f : cfr [202, 203] [(43, 1), (43, 2), (43, 3)] S0 U131) (h : w_X3_findBlocks_J131 Q k60 U131 v131_1) : w_X3_findBlocks_J131 (fun u => Q u ∧ cfr [202, 203] [(43, 1), (43, 2), (43, 3)] S0 u) k60' U131 v131_1 := by
  unfold w_X3_findBlocks_J131 at h ⊢
  intro y4_
  replace h := h y4_
  intro a71 ea71 
  replace h := h a71 ea71 
  exact hk60 _ _ f h
set_option maxRecDepth 100000 in
theorem fr_X3_findBlocks_J124 {S0 : MS} {Q : MS → Prop} {k60 k60' : MS → Int32 → Prop} {U124 : MS} {v124_1 : Int32} (hk60 : ∀ (u : MS) (z0), cfr [202, 203] [(43, 1), (43, 2), (43, 3)] S0 u → k60 u z0 → k60' u z0) (f : cfr [202, 203] [(43, 1), (43, 2), (43, 3)] S0 U124) (h : w_X3_findBlocks_J124 Q k60 U124 v124_1) : w_X3_findBlocks_J124 (fun u => Q u ∧ cfr [202, 203] [(43, 1), (43, 2), (43, 3)] S0 u) k60' U124 v124_1 := by
  unfold w_X3_findBlocks_J124 at h ⊢
  intro y5_
  replace h := h y5_
  obtain ⟨Q9, h0, h⟩ := h
  refine ⟨_, frX3_begin y5_ h0, ?_⟩
  intro S74 q6_ y7_ y8_
  replace h := h S74 q6_.1 y7_ y8_
  replace f := f.tr (q6_.2.mo (by decide) (by decide))
  exact fr_X3_findBlocks_J131 hk60 f h
set_option maxRecDepth 100000 in
theorem fr_X3_findBlocks_L202 {S0 : MS} {Q : MS → Prop} : ∀ (n : Nat) {U202 : MS} {v202_1 : Int32}, cfr [202, 203] [(43, 1), (43, 2), (43, 3)] S0 U202 → w_X3_findBlocks_L202 Q n U202 v202_1 → w_X3_findBlocks_L202 (fun u => Q u ∧ cfr [202, 203] [(43, 1), (43, 2), (43, 3)] S0 u) n U202 v202_1 := by
  intro n
  induction n with
  | zero => intro U202 v202_1 f h; unfold w_X3_findBlocks_L202 at h; exact h.elim
  | succ n ih =>
    intro U202 v202_1 f h
    unfold w_X3_findBlocks_L202 at h ⊢
    intro y9_
    replace h := h y9_
    refine ⟨h.1, ?_⟩
    replace h := h.2
    refine ⟨fun c => ?_, fun c => ?_⟩
    · replace h := h.1 c
      exact ⟨h, f⟩
    · replace h := h.2 c
      refine ⟨h.1, ?_⟩
      replace h := h.2
      refine ⟨fun c => ?_, fun c => ?_⟩
      · replace h := h.1 c
        exact fr_X3_findBlocks_J242 (fun _ _ f h => ih f h) f h
      · replace h := h.2 c
        refine ⟨h.1, ?_⟩
        replace h := h.2
        intro S33 eS33 y10_ y11_
        replace h := h S33 eS33 y10_ y11_
        replace f := f.tr (show cfr [202, 203] [(43, 1), (43, 2), (43, 3)] U202 S33 by rw [eS33]; exact cfr.aI y10_ (by decide))
        intro S35 eS35 y12_ y13_
        replace h := h S35 eS35 y12_ y13_
        replace f := f.tr (show cfr [202, 203] [(43, 1), (43, 2), (43, 3)] S33 S35 by rw [eS35]; exact cfr.oI y12_ (by decide))
        exact fr_X3_findBlocks_J242 (fun _ _ f h => ih f h) f h
set_option maxRecDepth 100000 in
theorem fr_X3_findBlocks_L139 {S0 : MS} {Q : MS → Prop} : ∀ (n : Nat) {U139 : MS} {v139_1 : Int32}, cfr [202, 203] [(43, 1), (43, 2), (43, 3)] S0 U139 → w_X3_findBlocks_L139 Q n U139 v139_1 → w_X3_findBlocks_L139 (fun u => Q u ∧ cfr [202, 203] [(43, 1), (43, 2), (43, 3)] S0 u) n U139 v139_1 := by
  intro n
  induction n with
  | zero => intro U139 v139_1 f h; unfold w_X3_findBlocks_L139 at h; exact h.elim
  | succ n ih =>
    intro U139 v139_1 f h
    unfold w_X3_findBlocks_L139 at h ⊢
    intro y14_
    replace h := h y14_
    refine ⟨h.1, ?_⟩
    replace h := h.2
    refine ⟨fun c => ?_, fun c => ?_⟩
    · replace h := h.1 c
      intro S18 eS18 y15_ y16_
      replace h := h S18 eS18 y15_ y16_
      replace f := f.tr (show cfr [202, 203] [(43, 1), (43, 2), (43, 3)] U139 S18 by rw [eS18]; exact cfr.oI y15_ (by decide))
      obtain ⟨n9, h⟩ := h
      exact ⟨n9, fr_X3_findBlocks_L202 n9 f h⟩
    · replace h := h.2 c
      refine ⟨h.1, ?_⟩
      replace h := h.2
      refine ⟨h.1, ?_⟩
      replace h := h.2
      refine ⟨h.1, ?_⟩
      replace h := h.2
      obtain ⟨Q9, h0, h⟩ := h
      refine ⟨_, frX3_begin y14_ h0, ?_⟩
      intro S43 q17_ y18_ y19_
      replace h := h S43 q17_.1 y18_ y19_
      replace f := f.tr (q17_.2.mo (by decide) (by decide))
      refine ⟨h.1, ?_⟩
      replace h := h.2
      refine ⟨h.1, ?_⟩
      replace h := h.2
      refine ⟨h.1, ?_⟩
      replace h := h.2
      obtain ⟨Q9, h0, h⟩ := h
      refine ⟨_, frX3_begin y18_ h0, ?_⟩
      intro S52 q20_ y21_ y22_
      replace h := h S52 q20_.1 y21_ y22_
      replace f := f.tr (q20_.2.mo (by decide) (by decide))
      refine ⟨h.1, ?_⟩
      replace h := h.2
      refine ⟨h.1, ?_⟩
      replace h := h.2
      refine ⟨h.1, ?_⟩
      replace h := h.2
      obtain ⟨Q9, h0, h⟩ := h
      refine ⟨_, frX3_begin y21_ h0, ?_⟩
      intro S61 q23_ y24_ y25_
      replace h := h S61 q23_.1 y24_ y25_
      replace f := f.tr (q23_.2.mo (by decide) (by decide))
      intro a63 ea63 
      replace h := h a63 ea63 
      exact ih f h
set_option maxRecDepth 100000 in
theorem fr_X3_findBlocks_L82 {S0 : MS} {Q : MS → Prop} {k60 k60' : MS → Int32 → Prop} (hk60 : ∀ (u : MS) (z0), cfr [202, 203] [(43, 1), (43, 2), (43, 3)] S0 u → k60 u z0 → k60' u z0) : ∀ (n : Nat) {U82 : MS} {v82_1 : Int32} {v82_2 : Int32} {v82_3 : Int32}, cfr [202, 203] [(43, 1), (43, 2), (43, 3)] S0 U82 → w_X3_findBlocks_L82 Q k60 n U82 v82_1 v82_2 v82_3 → w_X3_findBlocks_L82 (fun u => Q u ∧ cfr [202, 203] [(43, 1), (43, 2), (43, 3)] S0 u) k60' n U82 v82_1 v82_2 v82_3 := by
  intro n
  induction n with
  | zero => intro U82 v82_1 v82_2 v82_3 f h; unfold w_X3_findBlocks_L82 at h; exact h.elim
  | succ n ih =>
    intro U82 v82_1 v82_2 v82_3 f h
    unfold w_X3_findBlocks_L82 at h ⊢
    intro y26_
    replace h := h y26_
    refine ⟨fun c => ?_, fun c => ?_⟩
    · replace h := h.1 c
      refine ⟨fun c => ?_, fun c => ?_⟩
      · replace h := h.1 c
        exact fr_X3_findBlocks_J124 hk60 f h
      · replace h := h.2 c
        refine ⟨h.1, ?_⟩
        replace h := h.2
        refine ⟨h.1, ?_⟩
        replace h := h.2
        intro a82 ea82 
        replace h := h a82 ea82 
        refine ⟨h.1, ?_⟩
        replace h := h.2
        intro a86 ea86 
        replace h := h a86 ea86 
        refine ⟨fun c => ?_, fun c => ?_⟩
        · replace h := h.1 c
          exact fr_X3_findBlocks_J124 hk60 f h
        · replace h := h.2 c
          exact fr_X3_findBlocks_J131 hk60 f h
    · replace h := h.2 c
      refine ⟨h.1, ?_⟩
      replace h := h.2
      refine ⟨h.1, ?_⟩
      replace h := h.2
      intro a93 ea93 
      replace h := h a93 ea93 
      obtain ⟨Q9, h0, h⟩ := h
      refine ⟨_, frX3_begin y26_ h0, ?_⟩
      intro S95 q27_ y28_ y29_
      replace h := h S95 q27_.1 y28_ y29_
      replace f := f.tr (q27_.2.mo (by decide) (by decide))
      intro a97 ea97 
      replace h := h a97 ea97 
      exact ih f h
set_option maxRecDepth 100000 in
theorem fr_X3_findBlocks_L60 {S0 : MS} {Q : MS → Prop} : ∀ (n : Nat) {U60 : MS} {v60_1 : Int32}, cfr [202, 203] [(43, 1), (43, 2), (43, 3)] S0 U60 → w_X3_findBlocks_L60 Q n U60 v60_1 → w_X3_findBlocks_L60 (fun u => Q u ∧ cfr [202, 203] [(43, 1), (43, 2), (43, 3)] S0 u) n U60 v60_1 := by
  intro n
  induction n with
  | zero => intro U60 v60_1 f h; unfold w_X3_findBlocks_L60 at h; exact h.elim
  | succ n ih =>
    intro U60 v60_1 f h
    unfold w_X3_findBlocks_L60 at h ⊢
    intro y30_
    replace h := h y30_
    refine ⟨h.1, ?_⟩
    replace h := h.2
    refine ⟨fun c => ?_, fun c => ?_⟩
    · replace h := h.1 c
      obtain ⟨n9, h⟩ := h
      exact ⟨n9, fr_X3_findBlocks_L139 n9 f h⟩
    · replace h := h.2 c
      refine ⟨h.1, ?_⟩
      replace h := h.2
      refine ⟨h.1, ?_⟩
      replace h := h.2
      intro a69 ea69 
      replace h := h a69 ea69 
      obtain ⟨n9, h⟩ := h
      exact ⟨n9, fr_X3_findBlocks_L82 (fun _ _ f h => ih f h) n9 f h⟩
set_option maxRecDepth 100000 in
theorem fr_X3_findBlocks_J45 {S0 : MS} {Q : MS → Prop} {U45 : MS} (f : cfr [202, 203] [(43, 1), (43, 2), (43, 3)] S0 U45) (h : w_X3_findBlocks_J45 Q U45) : w_X3_findBlocks_J45 (fun u => Q u ∧ cfr [202, 203] [(43, 1), (43, 2), (43, 3)] S0 u) U45 := by
  unfold w_X3_findBlocks_J45 at h ⊢
  intro y31_
  replace h := h y31_
  intro y32_
  replace h := h y32_
  obtain ⟨Q9, h0, h⟩ := h
  refine ⟨_, frJ7_fill_53178 y32_ (by decide) h0, ?_⟩
  intro S7 q33_ y34_ y35_
  replace h := h S7 q33_.1 y34_ y35_
  replace f := f.tr (q33_.2.mo (by decide) (by decide))
  obtain ⟨Q9, h0, h⟩ := h
  refine ⟨_, frX3_begin y34_ h0, ?_⟩
  intro S10 q36_ y37_ y38_
  replace h := h S10 q36_.1 y37_ y38_
  replace f := f.tr (q36_.2.mo (by decide) (by decide))
  obtain ⟨n9, h⟩ := h
  exact ⟨n9, fr_X3_findBlocks_L60 n9 f h⟩
set_option maxRecDepth 100000 in
theorem frX3_findBlocks {S : MS} {Q : MS → Prop} (hw : wfC S) (h : wX3_findBlocks S Q) : wX3_findBlocks S (fun u => Q u ∧ cfr [202, 203] [(43, 1), (43, 2), (43, 3)] S u) := by
  have f : cfr [202, 203] [(43, 1), (43, 2), (43, 3)] S S := cfr.rf
  unfold wX3_findBlocks at h ⊢
  refine ⟨h.1, ?_⟩
  replace h := h.2
  refine ⟨fun c => ?_, fun c => ?_⟩
  · replace h := h.1 c
    exact fr_X3_findBlocks_J45 f h
  · replace h := h.2 c
    refine ⟨h.1, ?_⟩
    replace h := h.2
    refine ⟨h.1, ?_⟩
    replace h := h.2
    intro S105 eS105 y39_
    replace h := h S105 eS105 y39_
    replace f := f.tr (show cfr [202, 203] [(43, 1), (43, 2), (43, 3)] S S105 by rw [eS105]; exact cfr.new hw (eS105 ▸ y39_))
    intro S107 eS107 y40_ y41_
    replace h := h S107 eS107 y40_ y41_
    replace f := f.tr (show cfr [202, 203] [(43, 1), (43, 2), (43, 3)] S105 S107 by rw [eS107]; exact cfr.oR y40_ (by decide))
    refine ⟨h.1, ?_⟩
    replace h := h.2
    refine ⟨h.1, ?_⟩
    replace h := h.2
    intro S114 eS114 y42_
    replace h := h S114 eS114 y42_
    replace f := f.tr (show cfr [202, 203] [(43, 1), (43, 2), (43, 3)] S107 S114 by rw [eS114]; exact cfr.new y41_ (eS114 ▸ y42_))
    intro S116 eS116 y43_ y44_
    replace h := h S116 eS116 y43_ y44_
    replace f := f.tr (show cfr [202, 203] [(43, 1), (43, 2), (43, 3)] S114 S116 by rw [eS116]; exact cfr.oR y43_ (by decide))
    exact fr_X3_findBlocks_J45 f h
set_option maxRecDepth 100000 in
theorem fr_X3_findEdges_J145 {S0 : MS} {Q : MS → Prop} {k103 k103' : MS → Int32 → Int32 → Int32 → Int32 → Prop} {U145 : MS} {v145_1 : Int32} {v145_2 : Int32} {v145_3 : Int32} {v145_5 : Int32} (hk103 : ∀ (u : MS) (z0) (z1) (z2) (z3), cfr [204, 205, 211] [(43, 5)] S0 u → k103 u z0 z1 z2 z3 → k103' u z0 z1 z2 z3) (f : cfr [204, 205, 211] [(43, 5)] S0 U145) (h : w_X3_findEdges_J145 Q k103 U145 v145_1 v145_2 v145_3 v145_5) : w_X3_findEdges_J145 (fun u => Q u ∧ cfr [204, 205, 211] [(43, 5)] S0 u) k103' U145 v145_1 v145_2 v145_3 v145_5 := by
  unfold w_X3_findEdges_J145 at h ⊢
  intro y1_
  replace h := h y1_
  intro a43 ea43 
  replace h := h a43 ea43 
  exact hk103 _ _ _ _ _ f h
set_option maxRecDepth 100000 in
theorem fr_X3_findEdges_L103 {S0 : MS} {Q : MS → Prop} {k12 k12' : MS → Int32 → Int32 → Prop} (hk12 : ∀ (u : MS) (z0) (z1), cfr [204, 205, 211] [(43, 5)] S0 u → k12 u z0 z1 → k12' u z0 z1) : ∀ (n : Nat) {U103 : MS} {v103_1 : Int32} {v103_2 : Int32} {v103_3 : Int32} {v103_5 : Int32}, cfr [204, 205, 211] [(43, 5)] S0 U103 → w_X3_findEdges_L103 Q k12 n U103 v103_1 v103_2 v103_3 v103_5 → w_X3_findEdges_L103 (fun u => Q u ∧ cfr [204, 205, 211] [(43, 5)] S0 u) k12' n U103 v103_1 v103_2 v103_3 v103_5 := by
  intro n
  induction n with
  | zero => intro U103 v103_1 v103_2 v103_3 v103_5 f h; unfold w_X3_findEdges_L103 at h; exact h.elim
  | succ n ih =>
    intro U103 v103_1 v103_2 v103_3 v103_5 f h
    unfold w_X3_findEdges_L103 at h ⊢
    intro y2_
    replace h := h y2_
    refine ⟨h.1, ?_⟩
    replace h := h.2
    refine ⟨fun c => ?_, fun c => ?_⟩
    · replace h := h.1 c
      intro a36 ea36 
      replace h := h a36 ea36 
      exact hk12 _ _ _ f h
    · replace h := h.2 c
      refine ⟨h.1, ?_⟩
      replace h := h.2
      refine ⟨h.1, ?_⟩
      replace h := h.2
      intro a42 ea42 
      replace h := h a42 ea42 
      refine ⟨fun c => ?_, fun c => ?_⟩
      · replace h := h.1 c
        exact fr_X3_findEdges_J145 (fun _ _ _ _ _ f h => ih f h) f h
      · replace h := h.2 c
        refine ⟨h.1, ?_⟩
        replace h := h.2
        refine ⟨h.1, ?_⟩
        replace h := h.2
        refine ⟨h.1, ?_⟩
        replace h := h.2
        obtain ⟨Q9, h0, h⟩ := h
        refine ⟨_, frX3_addEdge y2_ h0, ?_⟩
        intro r52 S53 q3_ y4_ y5_
        replace h := h r52 S53 q3_.1 y4_ y5_
        replace f := f.tr (q3_.2.mo (by decide) (by decide))
        exact fr_X3_findEdges_J145 (fun _ _ _ _ _ f h => ih f h) f h
set_option maxRecDepth 100000 in
theorem fr_X3_findEdges_L70 {S0 : MS} {Q : MS → Prop} {k12 k12' : MS → Int32 → Int32 → Prop} (hk12 : ∀ (u : MS) (z0) (z1), cfr [204, 205, 211] [(43, 5)] S0 u → k12 u z0 z1 → k12' u z0 z1) : ∀ (n : Nat) {U70 : MS} {v70_1 : Int32} {v70_2 : Int32} {v70_3 : Int32} {v70_4 : Int32} {v70_5 : Int32}, cfr [204, 205, 211] [(43, 5)] S0 U70 → w_X3_findEdges_L70 Q k12 n U70 v70_1 v70_2 v70_3 v70_4 v70_5 → w_X3_findEdges_L70 (fun u => Q u ∧ cfr [204, 205, 211] [(43, 5)] S0 u) k12' n U70 v70_1 v70_2 v70_3 v70_4 v70_5 := by
  intro n
  induction n with
  | zero => intro U70 v70_1 v70_2 v70_3 v70_4 v70_5 f h; unfold w_X3_findEdges_L70 at h; exact h.elim
  | succ n ih =>
    intro U70 v70_1 v70_2 v70_3 v70_4 v70_5 f h
    unfold w_X3_findEdges_L70 at h ⊢
    intro y6_
    replace h := h y6_
    refine ⟨fun c => ?_, fun c => ?_⟩
    · replace h := h.1 c
      obtain ⟨n9, h⟩ := h
      exact ⟨n9, fr_X3_findEdges_L103 hk12 n9 f h⟩
    · replace h := h.2 c
      refine ⟨h.1, ?_⟩
      replace h := h.2
      refine ⟨h.1, ?_⟩
      replace h := h.2
      intro a61 ea61 
      replace h := h a61 ea61 
      obtain ⟨Q9, h0, h⟩ := h
      refine ⟨_, frX3_addEdge y6_ h0, ?_⟩
      intro r63 S64 q7_ y8_ y9_
      replace h := h r63 S64 q7_.1 y8_ y9_
      replace f := f.tr (q7_.2.mo (by decide) (by decide))
      intro a67 ea67 
      replace h := h a67 ea67 
      exact ih f h
set_option maxRecDepth 100000 in
theorem fr_X3_findEdges_J57 {S0 : MS} {Q : MS → Prop} {k12 k12' : MS → Int32 → Int32 → Prop} {U57 : MS} {v57_1 : Int32} {v57_2 : Int32} {v57_3 : Int32} (hk12 : ∀ (u : MS) (z0) (z1), cfr [204, 205, 211] [(43, 5)] S0 u → k12 u z0 z1 → k12' u z0 z1) (f : cfr [204, 205, 211] [(43, 5)] S0 U57) (h : w_X3_findEdges_J57 Q k12 U57 v57_1 v57_2 v57_3) : w_X3_findEdges_J57 (fun u => Q u ∧ cfr [204, 205, 211] [(43, 5)] S0 u) k12' U57 v57_1 v57_2 v57_3 := by
  unfold w_X3_findEdges_J57 at h ⊢
  intro y10_
  replace h := h y10_
  refine ⟨h.1, ?_⟩
  replace h := h.2
  refine ⟨h.1, ?_⟩
  replace h := h.2
  intro a31 ea31 
  replace h := h a31 ea31 
  obtain ⟨n9, h⟩ := h
  exact ⟨n9, fr_X3_findEdges_L70 hk12 n9 f h⟩
set_option maxRecDepth 100000 in
theorem fr_X3_findEdges_L12 {S0 : MS} {Q : MS → Prop} : ∀ (n : Nat) {U12 : MS} {v12_1 : Int32} {v12_2 : Int32}, cfr [204, 205, 211] [(43, 5)] S0 U12 → w_X3_findEdges_L12 Q n U12 v12_1 v12_2 → w_X3_findEdges_L12 (fun u => Q u ∧ cfr [204, 205, 211] [(43, 5)] S0 u) n U12 v12_1 v12_2 := by
  intro n
  induction n with
  | zero => intro U12 v12_1 v12_2 f h; unfold w_X3_findEdges_L12 at h; exact h.elim
  | succ n ih =>
    intro U12 v12_1 v12_2 f h
    unfold w_X3_findEdges_L12 at h ⊢
    intro y11_
    replace h := h y11_
    refine ⟨fun c => ?_, fun c => ?_⟩
    · replace h := h.1 c
      refine ⟨h.1, ?_⟩
      replace h := h.2
      intro S8 eS8 y12_ y13_
      replace h := h S8 eS8 y12_ y13_
      replace f := f.tr (show cfr [204, 205, 211] [(43, 5)] U12 S8 by rw [eS8]; exact cfr.aI y12_ (by decide))
      exact ⟨h, f⟩
    · replace h := h.2 c
      refine ⟨h.1, ?_⟩
      replace h := h.2
      intro S11 eS11 y14_ y15_
      replace h := h S11 eS11 y14_ y15_
      replace f := f.tr (show cfr [204, 205, 211] [(43, 5)] U12 S11 by rw [eS11]; exact cfr.aI y14_ (by decide))
      refine ⟨h.1, ?_⟩
      replace h := h.2
      intro a15 ea15 
      replace h := h a15 ea15 
      refine ⟨h.1, ?_⟩
      replace h := h.2
      refine ⟨h.1, ?_⟩
      replace h := h.2
      intro a21 ea21 
      replace h := h a21 ea21 
      refine ⟨h.1, ?_⟩
      replace h := h.2
      intro a25 ea25 
      replace h := h a25 ea25 
      refine ⟨fun c => ?_, fun c => ?_⟩
      · replace h := h.1 c
        exact fr_X3_findEdges_J57 (fun _ _ _ f h => ih f h) f h
      · replace h := h.2 c
        obtain ⟨Q9, h0, h⟩ := h
        refine ⟨_, frX3_addEdge y15_ h0, ?_⟩
        intro r71 S72 q16_ y17_ y18_
        replace h := h r71 S72 q16_.1 y17_ y18_
        replace f := f.tr (q16_.2.mo (by decide) (by decide))
        exact fr_X3_findEdges_J57 (fun _ _ _ f h => ih f h) f h
set_option maxRecDepth 100000 in
theorem frX3_findEdges {S : MS} {Q : MS → Prop} (hw : wfC S) (h : wX3_findEdges S Q) : wX3_findEdges S (fun u => Q u ∧ cfr [204, 205, 211] [(43, 5)] S u) := by
  have f : cfr [204, 205, 211] [(43, 5)] S S := cfr.rf
  unfold wX3_findEdges at h ⊢
  intro y19_
  replace h := h y19_
  obtain ⟨Q9, h0, h⟩ := h
  refine ⟨_, frJ7_fill_53178 y19_ (by decide) h0, ?_⟩
  intro S3 q20_ y21_ y22_
  replace h := h S3 q20_.1 y21_ y22_
  replace f := f.tr (q20_.2.mo (by decide) (by decide))
  obtain ⟨n9, h⟩ := h
  exact ⟨n9, fr_X3_findEdges_L12 n9 f h⟩
set_option maxRecDepth 100000 in
theorem fr_X3_findDominators_J163 {S0 : MS} {Q : MS → Prop} {k132 k132' : MS → Int32 → Prop} {U163 : MS} {t163_0 : Int32} {t163_1 : Int32} {t163_2 : Nat} {v163_2 : Int32} (hk132 : ∀ (u : MS) (z0), cfr [208, 401] [] S0 u → k132 u z0 → k132' u z0) (f : cfr [208, 401] [] S0 U163) (h : w_X3_findDominators_J163 Q k132 U163 t163_0 t163_1 t163_2 v163_2) : w_X3_findDominators_J163 (fun u => Q u ∧ cfr [208, 401] [] S0 u) k132' U163 t163_0 t163_1 t163_2 v163_2 := by
  unfold w_X3_findDominators_J163 at h ⊢
  intro y1_ y2_
  replace h := h y1_ y2_
  refine ⟨h.1, ?_⟩
  replace h := h.2
  intro S13 eS13 y3_ y4_
  replace h := h S13 eS13 y3_ y4_
  replace f := f.tr (show cfr [208, 401] [] U163 S13 by rw [eS13]; exact cfr.aI y3_ (by decide))
  intro a14 ea14 
  replace h := h a14 ea14 
  exact hk132 _ _ f h
set_option maxRecDepth 100000 in
theorem fr_X3_findDominators_L132 {S0 : MS} {Q : MS → Prop} : ∀ (n : Nat) {U132 : MS} {v132_2 : Int32}, cfr [208, 401] [] S0 U132 → w_X3_findDominators_L132 Q n U132 v132_2 → w_X3_findDominators_L132 (fun u => Q u ∧ cfr [208, 401] [] S0 u) n U132 v132_2 := by
  intro n
  induction n with
  | zero => intro U132 v132_2 f h; unfold w_X3_findDominators_L132 at h; exact h.elim
  | succ n ih =>
    intro U132 v132_2 f h
    unfold w_X3_findDominators_L132 at h ⊢
    intro y5_
    replace h := h y5_
    refine ⟨fun c => ?_, fun c => ?_⟩
    · replace h := h.1 c
      exact ⟨h, f⟩
    · replace h := h.2 c
      refine ⟨h.1, ?_⟩
      replace h := h.2
      refine ⟨fun c => ?_, fun c => ?_⟩
      · replace h := h.1 c
        exact fr_X3_findDominators_J163 (fun _ _ f h => ih f h) f h
      · replace h := h.2 c
        obtain ⟨Q9, h0, h⟩ := h
        refine ⟨_, frX3_nearestDominator y5_ h0, ?_⟩
        intro r17 S18 q6_ y7_ y8_
        replace h := h r17 S18 q6_.1 y7_ y8_
        replace f := f.tr (q6_.2.mo (by decide) (by decide))
        exact fr_X3_findDominators_J163 (fun _ _ f h => ih f h) f h
set_option maxRecDepth 100000 in
theorem fr_X3_findDominators_J130 {S0 : MS} {Q : MS → Prop} {U130 : MS} (f : cfr [208, 401] [] S0 U130) (h : w_X3_findDominators_J130 Q U130) : w_X3_findDominators_J130 (fun u => Q u ∧ cfr [208, 401] [] S0 u) U130 := by
  unfold w_X3_findDominators_J130 at h ⊢
  intro y9_
  replace h := h y9_
  obtain ⟨n9, h⟩ := h
  exact ⟨n9, fr_X3_findDominators_L132 n9 f h⟩
set_option maxRecDepth 100000 in
theorem fr_X3_findDominators_J118 {S0 : MS} {Q : MS → Prop} {k59 k59' : MS → Int32 → Int32 → Int32 → Prop} {U118 : MS} {v118_1 : Int32} {v118_2 : Int32} {v118_3 : Int32} (hk59 : ∀ (u : MS) (z0) (z1) (z2), cfr [208, 401] [] S0 u → k59 u z0 z1 z2 → k59' u z0 z1 z2) (f : cfr [208, 401] [] S0 U118) (h : w_X3_findDominators_J118 Q k59 U118 v118_1 v118_2 v118_3) : w_X3_findDominators_J118 (fun u => Q u ∧ cfr [208, 401] [] S0 u) k59' U118 v118_1 v118_2 v118_3 := by
  unfold w_X3_findDominators_J118 at h ⊢
  intro y10_
  replace h := h y10_
  intro a32 ea32 
  replace h := h a32 ea32 
  exact hk59 _ _ _ _ f h
set_option maxRecDepth 100000 in
theorem fr_X3_findDominators_J34 {S0 : MS} {Q : MS → Prop} {k12 k12' : MS → Int32 → Prop} {U34 : MS} {t34_0 : Int64} {t34_1 : Int32} {t34_2 : Nat} {v34_1 : Int32} (hk12 : ∀ (u : MS) (z0), cfr [208, 401] [] S0 u → k12 u z0 → k12' u z0) (f : cfr [208, 401] [] S0 U34) (h : w_X3_findDominators_J34 Q k12 U34 t34_0 t34_1 t34_2 v34_1) : w_X3_findDominators_J34 (fun u => Q u ∧ cfr [208, 401] [] S0 u) k12' U34 t34_0 t34_1 t34_2 v34_1 := by
  unfold w_X3_findDominators_J34 at h ⊢
  intro y11_ y12_
  replace h := h y11_ y12_
  refine ⟨h.1, ?_⟩
  replace h := h.2
  intro S51 eS51 y13_ y14_
  replace h := h S51 eS51 y13_ y14_
  replace f := f.tr (show cfr [208, 401] [] U34 S51 by rw [eS51]; exact cfr.aJ y13_ (by decide))
  intro a52 ea52 
  replace h := h a52 ea52 
  exact hk12 _ _ f h
set_option maxRecDepth 100000 in
theorem fr_X3_findDominators_L75 {S0 : MS} {Q : MS → Prop} {k59 k59' : MS → Int32 → Int32 → Int32 → Prop} (hk59 : ∀ (u : MS) (z0) (z1) (z2), cfr [208, 401] [] S0 u → k59 u z0 z1 z2 → k59' u z0 z1 z2) : ∀ (n : Nat) {U75 : MS} {v75_1 : Int32} {v75_2 : Int32} {v75_3 : Int32} {v75_4 : Int32}, cfr [208, 401] [] S0 U75 → w_X3_findDominators_L75 Q k59 n U75 v75_1 v75_2 v75_3 v75_4 → w_X3_findDominators_L75 (fun u => Q u ∧ cfr [208, 401] [] S0 u) k59' n U75 v75_1 v75_2 v75_3 v75_4 := by
  intro n
  induction n with
  | zero => intro U75 v75_1 v75_2 v75_3 v75_4 f h; unfold w_X3_findDominators_L75 at h; exact h.elim
  | succ n ih =>
    intro U75 v75_1 v75_2 v75_3 v75_4 f h
    unfold w_X3_findDominators_L75 at h ⊢
    intro y15_
    replace h := h y15_
    refine ⟨h.1, ?_⟩
    replace h := h.2
    refine ⟨fun c => ?_, fun c => ?_⟩
    · replace h := h.1 c
      exact fr_X3_findDominators_J118 hk59 f h
    · replace h := h.2 c
      refine ⟨h.1, ?_⟩
      replace h := h.2
      refine ⟨fun c => ?_, fun c => ?_⟩
      · replace h := h.1 c
        exact fr_X3_findDominators_J118 hk59 f h
      · replace h := h.2 c
        refine ⟨h.1, ?_⟩
        replace h := h.2
        obtain ⟨Q9, h0, h⟩ := h
        refine ⟨_, frX3_narrow y15_ h0, ?_⟩
        intro r43 S44 q16_ y17_ y18_
        replace h := h r43 S44 q16_.1 y17_ y18_
        replace f := f.tr (q16_.2.mo (by decide) (by decide))
        intro a47 ea47 
        replace h := h a47 ea47 
        intro a48 ea48 
        replace h := h a48 ea48 
        exact ih f h
set_option maxRecDepth 100000 in
theorem fr_X3_findDominators_L59 {S0 : MS} {Q : MS → Prop} {k45 k45' : MS → Int32 → Int32 → Prop} (hk45 : ∀ (u : MS) (z0) (z1), cfr [208, 401] [] S0 u → k45 u z0 z1 → k45' u z0 z1) : ∀ (n : Nat) {U59 : MS} {v59_1 : Int32} {v59_2 : Int32} {v59_3 : Int32}, cfr [208, 401] [] S0 U59 → w_X3_findDominators_L59 Q k45 n U59 v59_1 v59_2 v59_3 → w_X3_findDominators_L59 (fun u => Q u ∧ cfr [208, 401] [] S0 u) k45' n U59 v59_1 v59_2 v59_3 := by
  intro n
  induction n with
  | zero => intro U59 v59_1 v59_2 v59_3 f h; unfold w_X3_findDominators_L59 at h; exact h.elim
  | succ n ih =>
    intro U59 v59_1 v59_2 v59_3 f h
    unfold w_X3_findDominators_L59 at h ⊢
    intro y19_
    replace h := h y19_
    refine ⟨fun c => ?_, fun c => ?_⟩
    · replace h := h.1 c
      intro a23 ea23 
      replace h := h a23 ea23 
      exact hk45 _ _ _ f h
    · replace h := h.2 c
      refine ⟨h.1, ?_⟩
      replace h := h.2
      intro a27 ea27 
      replace h := h a27 ea27 
      obtain ⟨n9, h⟩ := h
      exact ⟨n9, fr_X3_findDominators_L75 (fun _ _ _ _ f h => ih f h) n9 f h⟩
set_option maxRecDepth 100000 in
theorem fr_X3_findDominators_L45 {S0 : MS} {Q : MS → Prop} : ∀ (n : Nat) {U45 : MS} {v45_1 : Int32} {v45_2 : Int32}, cfr [208, 401] [] S0 U45 → w_X3_findDominators_L45 Q n U45 v45_1 v45_2 → w_X3_findDominators_L45 (fun u => Q u ∧ cfr [208, 401] [] S0 u) n U45 v45_1 v45_2 := by
  intro n
  induction n with
  | zero => intro U45 v45_1 v45_2 f h; unfold w_X3_findDominators_L45 at h; exact h.elim
  | succ n ih =>
    intro U45 v45_1 v45_2 f h
    unfold w_X3_findDominators_L45 at h ⊢
    intro y20_
    replace h := h y20_
    refine ⟨fun c => ?_, fun c => ?_⟩
    · replace h := h.1 c
      exact fr_X3_findDominators_J130 f h
    · replace h := h.2 c
      refine ⟨fun c => ?_, fun c => ?_⟩
      · replace h := h.1 c
        exact fr_X3_findDominators_J130 f h
      · replace h := h.2 c
        obtain ⟨n9, h⟩ := h
        exact ⟨n9, fr_X3_findDominators_L59 (fun _ _ _ f h => ih f h) n9 f h⟩
set_option maxRecDepth 100000 in
theorem fr_X3_findDominators_L12 {S0 : MS} {Q : MS → Prop} : ∀ (n : Nat) {U12 : MS} {v12_1 : Int32}, cfr [208, 401] [] S0 U12 → w_X3_findDominators_L12 Q n U12 v12_1 → w_X3_findDominators_L12 (fun u => Q u ∧ cfr [208, 401] [] S0 u) n U12 v12_1 := by
  intro n
  induction n with
  | zero => intro U12 v12_1 f h; unfold w_X3_findDominators_L12 at h; exact h.elim
  | succ n ih =>
    intro U12 v12_1 f h
    unfold w_X3_findDominators_L12 at h ⊢
    intro y21_
    replace h := h y21_
    refine ⟨fun c => ?_, fun c => ?_⟩
    · replace h := h.1 c
      obtain ⟨n9, h⟩ := h
      exact ⟨n9, fr_X3_findDominators_L45 n9 f h⟩
    · replace h := h.2 c
      refine ⟨fun c => ?_, fun c => ?_⟩
      · replace h := h.1 c
        exact fr_X3_findDominators_J34 (fun _ _ f h => ih f h) f h
      · replace h := h.2 c
        exact fr_X3_findDominators_J34 (fun _ _ f h => ih f h) f h
set_option maxRecDepth 100000 in
theorem frX3_findDominators {S : MS} {Q : MS → Prop} (hw : wfC S) (h : wX3_findDominators S Q) : wX3_findDominators S (fun u => Q u ∧ cfr [208, 401] [] S u) := by
  have f : cfr [208, 401] [] S S := cfr.rf
  unfold wX3_findDominators at h ⊢
  intro y22_
  replace h := h y22_
  obtain ⟨Q9, h0, h⟩ := h
  refine ⟨_, frJ7_fill_d0a16 y22_ (by decide) h0, ?_⟩
  intro S3 q23_ y24_ y25_
  replace h := h S3 q23_.1 y24_ y25_
  replace f := f.tr (q23_.2.mo (by decide) (by decide))
  obtain ⟨n9, h⟩ := h
  exact ⟨n9, fr_X3_findDominators_L12 n9 f h⟩
