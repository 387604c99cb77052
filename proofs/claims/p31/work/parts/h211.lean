set_option maxRecDepth 100000 in
theorem fr_X5_throwIt_J24 {S0 : MS} {Q : MS → Prop} {U24 : MS} (f : cfr [405] [(45, 11), (45, 12), (45, 13), (45, 14), (45, 15), (45, 17), (45, 19)] S0 U24) (h : w_X5_throwIt_J24 Q U24) : w_X5_throwIt_J24 (fun u => Q u ∧ cfr [405] [(45, 11), (45, 12), (45, 13), (45, 14), (45, 15), (45, 17), (45, 19)] S0 u) U24 := by
  unfold w_X5_throwIt_J24 at h ⊢
  intro y1_
  replace h := h y1_
  obtain ⟨Q9, h0, h⟩ := h
  refine ⟨_, frX5_raise y1_ h0, ?_⟩
  intro S3 q2_ y3_ y4_
  replace h := h S3 q2_.1 y3_ y4_
  replace f := f.tr (q2_.2.mo (by decide) (by decide))
  exact ⟨h, f⟩
set_option maxRecDepth 100000 in
theorem frX5_throwIt {S : MS} {y1 : Int64} {Q : MS → Prop} (hw : wfC S) (h : wX5_throwIt S y1 Q) : wX5_throwIt S y1 (fun u => Q u ∧ cfr [405] [(45, 11), (45, 12), (45, 13), (45, 14), (45, 15), (45, 17), (45, 19)] S u) := by
  have f : cfr [405] [(45, 11), (45, 12), (45, 13), (45, 14), (45, 15), (45, 17), (45, 19)] S S := cfr.rf
  unfold wX5_throwIt at h ⊢
  refine ⟨fun c => ?_, fun c => ?_⟩
  · replace h := h.1 c
    exact fr_X5_throwIt_J24 f h
  · replace h := h.2 c
    refine ⟨fun c => ?_, fun c => ?_⟩
    · replace h := h.1 c
      exact fr_X5_throwIt_J24 f h
    · replace h := h.2 c
      obtain ⟨Q9, h0, h⟩ := h
      refine ⟨_, frX5_raise hw h0, ?_⟩
      intro S10 q5_ y6_ y7_
      replace h := h S10 q5_.1 y6_ y7_
      replace f := f.tr (q5_.2.mo (by decide) (by decide))
      exact ⟨h, f⟩
set_option maxRecDepth 100000 in
theorem fr_X7_isSound_J150 {S0 : MS} {Q : Int32 → MS → Prop} {U150 : MS} (f : cfr [218, 219, 220, 221] [(46, 0), (46, 1), (46, 2), (46, 3), (46, 5), (46, 6), (46, 7), (46, 8), (46, 12), (46, 13), (46, 14), (46, 15), (46, 16)] S0 U150) (h : w_X7_isSound_J150 Q U150) : w_X7_isSound_J150 (fun r u => Q r u ∧ cfr [218, 219, 220, 221] [(46, 0), (46, 1), (46, 2), (46, 3), (46, 5), (46, 6), (46, 7), (46, 8), (46, 12), (46, 13), (46, 14), (46, 15), (46, 16)] S0 u) U150 := by
  unfold w_X7_isSound_J150 at h ⊢
  intro y1_
  replace h := h y1_
  exact ⟨h, f⟩
set_option maxRecDepth 100000 in
theorem fr_X7_isSound_J146 {S0 : MS} {Q : Int32 → MS → Prop} {U146 : MS} (f : cfr [218, 219, 220, 221] [(46, 0), (46, 1), (46, 2), (46, 3), (46, 5), (46, 6), (46, 7), (46, 8), (46, 12), (46, 13), (46, 14), (46, 15), (46, 16)] S0 U146) (h : w_X7_isSound_J146 Q U146) : w_X7_isSound_J146 (fun r u => Q r u ∧ cfr [218, 219, 220, 221] [(46, 0), (46, 1), (46, 2), (46, 3), (46, 5), (46, 6), (46, 7), (46, 8), (46, 12), (46, 13), (46, 14), (46, 15), (46, 16)] S0 u) U146 := by
  unfold w_X7_isSound_J146 at h ⊢
  intro y2_
  replace h := h y2_
  exact ⟨h, f⟩
set_option maxRecDepth 100000 in
theorem frX7_isSound {S : MS} {p1 : Nat} {Q : Int32 → MS → Prop} (hw : wfC S) (h : wX7_isSound S p1 Q) : wX7_isSound S p1 (fun r u => Q r u ∧ cfr [218, 219, 220, 221] [(46, 0), (46, 1), (46, 2), (46, 3), (46, 5), (46, 6), (46, 7), (46, 8), (46, 12), (46, 13), (46, 14), (46, 15), (46, 16)] S u) := by
  have f : cfr [218, 219, 220, 221] [(46, 0), (46, 1), (46, 2), (46, 3), (46, 5), (46, 6), (46, 7), (46, 8), (46, 12), (46, 13), (46, 14), (46, 15), (46, 16)] S S := cfr.rf
  unfold wX7_isSound at h ⊢
  refine ⟨h.1, ?_⟩
  replace h := h.2
  intro S3 eS3 y3_ y4_
  replace h := h S3 eS3 y3_ y4_
  replace f := f.tr (show cfr [218, 219, 220, 221] [(46, 0), (46, 1), (46, 2), (46, 3), (46, 5), (46, 6), (46, 7), (46, 8), (46, 12), (46, 13), (46, 14), (46, 15), (46, 16)] S S3 by rw [eS3]; exact cfr.oR y3_ (by decide))
  intro S4 eS4 y5_ y6_
  replace h := h S4 eS4 y5_ y6_
  replace f := f.tr (show cfr [218, 219, 220, 221] [(46, 0), (46, 1), (46, 2), (46, 3), (46, 5), (46, 6), (46, 7), (46, 8), (46, 12), (46, 13), (46, 14), (46, 15), (46, 16)] S3 S4 by rw [eS4]; exact cfr.oI y5_ (by decide))
  intro S5 eS5 y7_ y8_
  replace h := h S5 eS5 y7_ y8_
  replace f := f.tr (show cfr [218, 219, 220, 221] [(46, 0), (46, 1), (46, 2), (46, 3), (46, 5), (46, 6), (46, 7), (46, 8), (46, 12), (46, 13), (46, 14), (46, 15), (46, 16)] S4 S5 by rw [eS5]; exact cfr.oI y7_ (by decide))
  intro S6 eS6 y9_ y10_
  replace h := h S6 eS6 y9_ y10_
  replace f := f.tr (show cfr [218, 219, 220, 221] [(46, 0), (46, 1), (46, 2), (46, 3), (46, 5), (46, 6), (46, 7), (46, 8), (46, 12), (46, 13), (46, 14), (46, 15), (46, 16)] S5 S6 by rw [eS6]; exact cfr.oI y9_ (by decide))
  intro S7 eS7 y11_ y12_
  replace h := h S7 eS7 y11_ y12_
  replace f := f.tr (show cfr [218, 219, 220, 221] [(46, 0), (46, 1), (46, 2), (46, 3), (46, 5), (46, 6), (46, 7), (46, 8), (46, 12), (46, 13), (46, 14), (46, 15), (46, 16)] S6 S7 by rw [eS7]; exact cfr.oI y11_ (by decide))
  obtain ⟨Q9, h0, h⟩ := h
  refine ⟨_, frX7_magicHolds y12_ h0, ?_⟩
  intro r9 S10 q13_ y14_ y15_
  replace h := h r9 S10 q13_.1 y14_ y15_
  replace f := f.tr (q13_.2.mo (by decide) (by decide))
  refine ⟨fun c => ?_, fun c => ?_⟩
  · replace h := h.1 c
    exact fr_X7_isSound_J150 f h
  · replace h := h.2 c
    obtain ⟨Q9, h0, h⟩ := h
    refine ⟨_, frX7_poolFits y14_ h0, ?_⟩
    intro r14 S15 q16_ y17_ y18_
    replace h := h r14 S15 q16_.1 y17_ y18_
    replace f := f.tr (q16_.2.mo (by decide) (by decide))
    refine ⟨fun c => ?_, fun c => ?_⟩
    · replace h := h.1 c
      exact fr_X7_isSound_J150 f h
    · replace h := h.2 c
      obtain ⟨Q9, h0, h⟩ := h
      refine ⟨_, frX7_headFits y17_ h0, ?_⟩
      intro r19 S20 q19_ y20_ y21_
      replace h := h r19 S20 q19_.1 y20_ y21_
      replace f := f.tr (q19_.2.mo (by decide) (by decide))
      refine ⟨fun c => ?_, fun c => ?_⟩
      · replace h := h.1 c
        exact fr_X7_isSound_J150 f h
      · replace h := h.2 c
        obtain ⟨Q9, h0, h⟩ := h
        refine ⟨_, frX7_fieldsFit y20_ h0, ?_⟩
        intro r24 S25 q22_ y23_ y24_
        replace h := h r24 S25 q22_.1 y23_ y24_
        replace f := f.tr (q22_.2.mo (by decide) (by decide))
        refine ⟨fun c => ?_, fun c => ?_⟩
        · replace h := h.1 c
          exact fr_X7_isSound_J150 f h
        · replace h := h.2 c
          obtain ⟨Q9, h0, h⟩ := h
          refine ⟨_, frX7_methodsFit y23_ h0, ?_⟩
          intro r29 S30 q25_ y26_ y27_
          replace h := h r29 S30 q25_.1 y26_ y27_
          replace f := f.tr (q25_.2.mo (by decide) (by decide))
          refine ⟨fun c => ?_, fun c => ?_⟩
          · replace h := h.1 c
            exact fr_X7_isSound_J150 f h
          · replace h := h.2 c
            obtain ⟨Q9, h0, h⟩ := h
            refine ⟨_, frX7_fileAttributesFit y26_ h0, ?_⟩
            intro r34 S35 q28_ y29_ y30_
            replace h := h r34 S35 q28_.1 y29_ y30_
            replace f := f.tr (q28_.2.mo (by decide) (by decide))
            refine ⟨fun c => ?_, fun c => ?_⟩
            · replace h := h.1 c
              exact fr_X7_isSound_J150 f h
            · replace h := h.2 c
              obtain ⟨Q9, h0, h⟩ := h
              refine ⟨_, frX7_entriesPoint y29_ h0, ?_⟩
              intro r39 S40 q31_ y32_ y33_
              replace h := h r39 S40 q31_.1 y32_ y33_
              replace f := f.tr (q31_.2.mo (by decide) (by decide))
              refine ⟨fun c => ?_, fun c => ?_⟩
              · replace h := h.1 c
                exact fr_X7_isSound_J150 f h
              · replace h := h.2 c
                obtain ⟨Q9, h0, h⟩ := h
                refine ⟨_, frX7_flagsHold y32_ h0, ?_⟩
                intro r44 S45 q34_ y35_ y36_
                replace h := h r44 S45 q34_.1 y35_ y36_
                replace f := f.tr (q34_.2.mo (by decide) (by decide))
                refine ⟨fun c => ?_, fun c => ?_⟩
                · replace h := h.1 c
                  exact fr_X7_isSound_J150 f h
                · replace h := h.2 c
                  obtain ⟨Q9, h0, h⟩ := h
                  refine ⟨_, frX7_headHolds y35_ h0, ?_⟩
                  intro r49 S50 q37_ y38_ y39_
                  replace h := h r49 S50 q37_.1 y38_ y39_
                  replace f := f.tr (q37_.2.mo (by decide) (by decide))
                  refine ⟨fun c => ?_, fun c => ?_⟩
                  · replace h := h.1 c
                    exact fr_X7_isSound_J150 f h
                  · replace h := h.2 c
                    obtain ⟨Q9, h0, h⟩ := h
                    refine ⟨_, frX7_namesHold y38_ h0, ?_⟩
                    intro r54 S55 q40_ y41_ y42_
                    replace h := h r54 S55 q40_.1 y41_ y42_
                    replace f := f.tr (q40_.2.mo (by decide) (by decide))
                    refine ⟨fun c => ?_, fun c => ?_⟩
                    · replace h := h.1 c
                      exact fr_X7_isSound_J150 f h
                    · replace h := h.2 c
                      obtain ⟨Q9, h0, h⟩ := h
                      refine ⟨_, frX7_typesHold y41_ h0, ?_⟩
                      intro r59 S60 q43_ y44_ y45_
                      replace h := h r59 S60 q43_.1 y44_ y45_
                      replace f := f.tr (q43_.2.mo (by decide) (by decide))
                      refine ⟨fun c => ?_, fun c => ?_⟩
                      · replace h := h.1 c
                        exact fr_X7_isSound_J150 f h
                      · replace h := h.2 c
                        obtain ⟨Q9, h0, h⟩ := h
                        refine ⟨_, frX7_noTwins y44_ h0, ?_⟩
                        intro r64 S65 q46_ y47_ y48_
                        replace h := h r64 S65 q46_.1 y47_ y48_
                        replace f := f.tr (q46_.2.mo (by decide) (by decide))
                        refine ⟨fun c => ?_, fun c => ?_⟩
                        · replace h := h.1 c
                          exact fr_X7_isSound_J150 f h
                        · replace h := h.2 c
                          obtain ⟨Q9, h0, h⟩ := h
                          refine ⟨_, frX7_codesHold y47_ h0, ?_⟩
                          intro r69 S70 q49_ y50_ y51_
                          replace h := h r69 S70 q49_.1 y50_ y51_
                          replace f := f.tr (q49_.2.mo (by decide) (by decide))
                          refine ⟨fun c => ?_, fun c => ?_⟩
                          · replace h := h.1 c
                            exact fr_X7_isSound_J150 f h
                          · replace h := h.2 c
                            refine ⟨fun c => ?_, fun c => ?_⟩
                            · replace h := h.1 c
                              exact fr_X7_isSound_J146 f h
                            · replace h := h.2 c
                              obtain ⟨Q9, h0, h⟩ := h
                              refine ⟨_, frX7_breaks y50_ h0, ?_⟩
                              intro r75 S76 q52_ y53_ y54_
                              replace h := h r75 S76 q52_.1 y53_ y54_
                              replace f := f.tr (q52_.2.mo (by decide) (by decide))
                              refine ⟨fun c => ?_, fun c => ?_⟩
                              · replace h := h.1 c
                                exact fr_X7_isSound_J150 f h
                              · replace h := h.2 c
                                exact fr_X7_isSound_J146 f h
set_option maxRecDepth 100000 in
theorem fr_X9_isDone_J115 {S0 : MS} {Q : Int32 → MS → Prop} {U115 : MS} (f : cfr [222, 223, 224, 225, 226, 227, 406] [(47, 2), (47, 9)] S0 U115) (h : w_X9_isDone_J115 Q U115) : w_X9_isDone_J115 (fun r u => Q r u ∧ cfr [222, 223, 224, 225, 226, 227, 406] [(47, 2), (47, 9)] S0 u) U115 := by
  unfold w_X9_isDone_J115 at h ⊢
  intro y1_
  replace h := h y1_
  exact ⟨h, f⟩
set_option maxRecDepth 100000 in
theorem fr_X9_isDone_J141 {S0 : MS} {Q : Int32 → MS → Prop} {U141 : MS} (f : cfr [222, 223, 224, 225, 226, 227, 406] [(47, 2), (47, 9)] S0 U141) (h : w_X9_isDone_J141 Q U141) : w_X9_isDone_J141 (fun r u => Q r u ∧ cfr [222, 223, 224, 225, 226, 227, 406] [(47, 2), (47, 9)] S0 u) U141 := by
  unfold w_X9_isDone_J141 at h ⊢
  intro y2_
  replace h := h y2_
  exact ⟨h, f⟩
set_option maxRecDepth 100000 in
theorem fr_X9_isDone_J191 {S0 : MS} {Q : Int32 → MS → Prop} {U191 : MS} (f : cfr [222, 223, 224, 225, 226, 227, 406] [(47, 2), (47, 9)] S0 U191) (h : w_X9_isDone_J191 Q U191) : w_X9_isDone_J191 (fun r u => Q r u ∧ cfr [222, 223, 224, 225, 226, 227, 406] [(47, 2), (47, 9)] S0 u) U191 := by
  unfold w_X9_isDone_J191 at h ⊢
  intro y3_
  replace h := h y3_
  exact ⟨h, f⟩
set_option maxRecDepth 100000 in
theorem fr_X9_isDone_J223 {S0 : MS} {Q : Int32 → MS → Prop} {U223 : MS} (f : cfr [222, 223, 224, 225, 226, 227, 406] [(47, 2), (47, 9)] S0 U223) (h : w_X9_isDone_J223 Q U223) : w_X9_isDone_J223 (fun r u => Q r u ∧ cfr [222, 223, 224, 225, 226, 227, 406] [(47, 2), (47, 9)] S0 u) U223 := by
  unfold w_X9_isDone_J223 at h ⊢
  intro y4_
  replace h := h y4_
  exact ⟨h, f⟩
set_option maxRecDepth 100000 in
theorem fr_X9_isDone_J255 {S0 : MS} {Q : Int32 → MS → Prop} {U255 : MS} (f : cfr [222, 223, 224, 225, 226, 227, 406] [(47, 2), (47, 9)] S0 U255) (h : w_X9_isDone_J255 Q U255) : w_X9_isDone_J255 (fun r u => Q r u ∧ cfr [222, 223, 224, 225, 226, 227, 406] [(47, 2), (47, 9)] S0 u) U255 := by
  unfold w_X9_isDone_J255 at h ⊢
  intro y5_
  replace h := h y5_
  exact ⟨h, f⟩
set_option maxRecDepth 100000 in
theorem frX9_isDone {S : MS} {x1 : Int32} {x2 : Int32} {Q : Int32 → MS → Prop} (hw : wfC S) (h : wX9_isDone S x1 x2 Q) : wX9_isDone S x1 x2 (fun r u => Q r u ∧ cfr [222, 223, 224, 225, 226, 227, 406] [(47, 2), (47, 9)] S u) := by
  have f : cfr [222, 223, 224, 225, 226, 227, 406] [(47, 2), (47, 9)] S S := cfr.rf
  unfold wX9_isDone at h ⊢
  refine ⟨fun c => ?_, fun c => ?_⟩
  · replace h := h.1 c
    obtain ⟨Q9, h0, h⟩ := h
    refine ⟨_, frX9_isRedirected hw h0, ?_⟩
    intro r89 S90 q6_ y7_ y8_
    replace h := h r89 S90 q6_.1 y7_ y8_
    replace f := f.tr (q6_.2.mo (by decide) (by decide))
    exact ⟨h, f⟩
  · replace h := h.2 c
    refine ⟨fun c => ?_, fun c => ?_⟩
    · replace h := h.1 c
      refine ⟨fun c => ?_, fun c => ?_⟩
      · replace h := h.1 c
        refine ⟨h.1, ?_⟩
        replace h := h.2
        refine ⟨fun c => ?_, fun c => ?_⟩
        · replace h := h.1 c
          refine ⟨h.1, ?_⟩
          replace h := h.2
          refine ⟨fun c => ?_, fun c => ?_⟩
          · replace h := h.1 c
            obtain ⟨Q9, h0, h⟩ := h
            refine ⟨_, frX9_isDropped hw h0, ?_⟩
            intro r18 S19 q9_ y10_ y11_
            replace h := h r18 S19 q9_.1 y10_ y11_
            replace f := f.tr (q9_.2.mo (by decide) (by decide))
            refine ⟨fun c => ?_, fun c => ?_⟩
            · replace h := h.1 c
              exact fr_X9_isDone_J115 f h
            · replace h := h.2 c
              exact ⟨h, f⟩
          · replace h := h.2 c
            exact fr_X9_isDone_J115 f h
        · replace h := h.2 c
          exact fr_X9_isDone_J115 f h
      · replace h := h.2 c
        refine ⟨fun c => ?_, fun c => ?_⟩
        · replace h := h.1 c
          refine ⟨h.1, ?_⟩
          replace h := h.2
          refine ⟨fun c => ?_, fun c => ?_⟩
          · replace h := h.1 c
            obtain ⟨Q9, h0, h⟩ := h
            refine ⟨_, frX9_isDropped hw h0, ?_⟩
            intro r28 S29 q12_ y13_ y14_
            replace h := h r28 S29 q12_.1 y13_ y14_
            replace f := f.tr (q12_.2.mo (by decide) (by decide))
            refine ⟨fun c => ?_, fun c => ?_⟩
            · replace h := h.1 c
              exact fr_X9_isDone_J141 f h
            · replace h := h.2 c
              exact ⟨h, f⟩
          · replace h := h.2 c
            exact fr_X9_isDone_J141 f h
        · replace h := h.2 c
          refine ⟨fun c => ?_, fun c => ?_⟩
          · replace h := h.1 c
            obtain ⟨Q9, h0, h⟩ := h
            refine ⟨_, frX9_isFolded hw h0, ?_⟩
            intro r33 S34 q15_ y16_ y17_
            replace h := h r33 S34 q15_.1 y16_ y17_
            replace f := f.tr (q15_.2.mo (by decide) (by decide))
            exact ⟨h, f⟩
          · replace h := h.2 c
            refine ⟨fun c => ?_, fun c => ?_⟩
            · replace h := h.1 c
              obtain ⟨Q9, h0, h⟩ := h
              refine ⟨_, frX9_isUnaryFolded hw h0, ?_⟩
              intro r37 S38 q18_ y19_ y20_
              replace h := h r37 S38 q18_.1 y19_ y20_
              replace f := f.tr (q18_.2.mo (by decide) (by decide))
              exact ⟨h, f⟩
            · replace h := h.2 c
              refine ⟨fun c => ?_, fun c => ?_⟩
              · replace h := h.1 c
                obtain ⟨Q9, h0, h⟩ := h
                refine ⟨_, frX9_isJumpDecided hw h0, ?_⟩
                intro r41 S42 q21_ y22_ y23_
                replace h := h r41 S42 q21_.1 y22_ y23_
                replace f := f.tr (q21_.2.mo (by decide) (by decide))
                exact ⟨h, f⟩
              · replace h := h.2 c
                refine ⟨fun c => ?_, fun c => ?_⟩
                · replace h := h.1 c
                  refine ⟨h.1, ?_⟩
                  replace h := h.2
                  refine ⟨fun c => ?_, fun c => ?_⟩
                  · replace h := h.1 c
                    exact fr_X9_isDone_J191 f h
                  · replace h := h.2 c
                    refine ⟨h.1, ?_⟩
                    replace h := h.2
                    refine ⟨fun c => ?_, fun c => ?_⟩
                    · replace h := h.1 c
                      exact fr_X9_isDone_J191 f h
                    · replace h := h.2 c
                      obtain ⟨Q9, h0, h⟩ := h
                      refine ⟨_, frX9_isDropped hw h0, ?_⟩
                      intro r53 S54 q24_ y25_ y26_
                      replace h := h r53 S54 q24_.1 y25_ y26_
                      replace f := f.tr (q24_.2.mo (by decide) (by decide))
                      refine ⟨fun c => ?_, fun c => ?_⟩
                      · replace h := h.1 c
                        exact fr_X9_isDone_J191 f h
                      · replace h := h.2 c
                        exact ⟨h, f⟩
                · replace h := h.2 c
                  refine ⟨fun c => ?_, fun c => ?_⟩
                  · replace h := h.1 c
                    refine ⟨h.1, ?_⟩
                    replace h := h.2
                    refine ⟨fun c => ?_, fun c => ?_⟩
                    · replace h := h.1 c
                      exact fr_X9_isDone_J223 f h
                    · replace h := h.2 c
                      refine ⟨h.1, ?_⟩
                      replace h := h.2
                      refine ⟨fun c => ?_, fun c => ?_⟩
                      · replace h := h.1 c
                        exact fr_X9_isDone_J223 f h
                      · replace h := h.2 c
                        obtain ⟨Q9, h0, h⟩ := h
                        refine ⟨_, frX9_isDropped hw h0, ?_⟩
                        intro r66 S67 q27_ y28_ y29_
                        replace h := h r66 S67 q27_.1 y28_ y29_
                        replace f := f.tr (q27_.2.mo (by decide) (by decide))
                        refine ⟨fun c => ?_, fun c => ?_⟩
                        · replace h := h.1 c
                          exact fr_X9_isDone_J223 f h
                        · replace h := h.2 c
                          exact ⟨h, f⟩
                  · replace h := h.2 c
                    refine ⟨fun c => ?_, fun c => ?_⟩
                    · replace h := h.1 c
                      refine ⟨h.1, ?_⟩
                      replace h := h.2
                      refine ⟨fun c => ?_, fun c => ?_⟩
                      · replace h := h.1 c
                        exact fr_X9_isDone_J255 f h
                      · replace h := h.2 c
                        obtain ⟨Q9, h0, h⟩ := h
                        refine ⟨_, frX9_isPassedOn hw h0, ?_⟩
                        intro r75 S76 q30_ y31_ y32_
                        replace h := h r75 S76 q30_.1 y31_ y32_
                        replace f := f.tr (q30_.2.mo (by decide) (by decide))
                        refine ⟨fun c => ?_, fun c => ?_⟩
                        · replace h := h.1 c
                          exact fr_X9_isDone_J255 f h
                        · replace h := h.2 c
                          obtain ⟨Q9, h0, h⟩ := h
                          refine ⟨_, frX9_isDropped y31_ h0, ?_⟩
                          intro r80 S81 q33_ y34_ y35_
                          replace h := h r80 S81 q33_.1 y34_ y35_
                          replace f := f.tr (q33_.2.mo (by decide) (by decide))
                          refine ⟨fun c => ?_, fun c => ?_⟩
                          · replace h := h.1 c
                            exact fr_X9_isDone_J255 f h
                          · replace h := h.2 c
                            exact ⟨h, f⟩
                    · replace h := h.2 c
                      obtain ⟨Q9, h0, h⟩ := h
                      refine ⟨_, frX9_isDeadStoreDone hw h0, ?_⟩
                      intro r85 S86 q36_ y37_ y38_
                      replace h := h r85 S86 q36_.1 y37_ y38_
                      replace f := f.tr (q36_.2.mo (by decide) (by decide))
                      exact ⟨h, f⟩
    · replace h := h.2 c
      exact ⟨h, f⟩
set_option maxRecDepth 100000 in
theorem fr_X9_dropUnreached_J62 {S0 : MS} {Q : Int32 → MS → Prop} {k19 k19' : MS → Int32 → Int32 → Int32 → Int32 → Prop} {U62 : MS} {v62_1 : Int32} {v62_2 : Int32} {v62_3 : Int32} {v62_4 : Int32} (hk19 : ∀ (u : MS) (z0) (z1) (z2) (z3), cfr [222, 223, 224, 225, 226, 227, 228, 306, 406] [(47, 2), (47, 9)] S0 u → k19 u z0 z1 z2 z3 → k19' u z0 z1 z2 z3) (f : cfr [222, 223, 224, 225, 226, 227, 228, 306, 406] [(47, 2), (47, 9)] S0 U62) (h : w_X9_dropUnreached_J62 Q k19 U62 v62_1 v62_2 v62_3 v62_4) : w_X9_dropUnreached_J62 (fun r u => Q r u ∧ cfr [222, 223, 224, 225, 226, 227, 228, 306, 406] [(47, 2), (47, 9)] S0 u) k19' U62 v62_1 v62_2 v62_3 v62_4 := by
  unfold w_X9_dropUnreached_J62 at h ⊢
  intro y1_ y2_
  replace h := h y1_ y2_
  intro a11 ea11 
  replace h := h a11 ea11 
  exact hk19 _ _ _ _ _ f h
set_option maxRecDepth 100000 in
theorem fr_X9_dropUnreached_L19 {S0 : MS} {Q : Int32 → MS → Prop} : ∀ (n : Nat) {U19 : MS} {v19_1 : Int32} {v19_2 : Int32} {v19_3 : Int32} {v19_4 : Int32}, cfr [222, 223, 224, 225, 226, 227, 228, 306, 406] [(47, 2), (47, 9)] S0 U19 → w_X9_dropUnreached_L19 Q n U19 v19_1 v19_2 v19_3 v19_4 → w_X9_dropUnreached_L19 (fun r u => Q r u ∧ cfr [222, 223, 224, 225, 226, 227, 228, 306, 406] [(47, 2), (47, 9)] S0 u) n U19 v19_1 v19_2 v19_3 v19_4 := by
  intro n
  induction n with
  | zero => intro U19 v19_1 v19_2 v19_3 v19_4 f h; unfold w_X9_dropUnreached_L19 at h; exact h.elim
  | succ n ih =>
    intro U19 v19_1 v19_2 v19_3 v19_4 f h
    unfold w_X9_dropUnreached_L19 at h ⊢
    intro y3_ y4_
    replace h := h y3_ y4_
    refine ⟨fun c => ?_, fun c => ?_⟩
    · replace h := h.1 c
      exact ⟨h, f⟩
    · replace h := h.2 c
      refine ⟨h.1, ?_⟩
      replace h := h.2
      refine ⟨fun c => ?_, fun c => ?_⟩
      · replace h := h.1 c
        intro y5_
        replace h := h y5_
        obtain ⟨Q9, h0, h⟩ := h
        refine ⟨_, frX8_remove y3_ h0, ?_⟩
        intro S15 q6_ y7_ y8_
        replace h := h S15 q6_.1 y7_ y8_
        replace f := f.tr (q6_.2.mo (by decide) (by decide))
        intro S19 eS19 y9_ y10_
        replace h := h S19 eS19 y9_ y10_
        replace f := f.tr (show cfr [222, 223, 224, 225, 226, 227, 228, 306, 406] [(47, 2), (47, 9)] S15 S19 by rw [eS19]; exact cfr.aI y9_ (by decide))
        exact fr_X9_dropUnreached_J62 (fun _ _ _ _ _ f h => ih f h) f h
      · replace h := h.2 c
        intro a20 ea20 
        replace h := h a20 ea20 
        exact fr_X9_dropUnreached_J62 (fun _ _ _ _ _ f h => ih f h) f h
set_option maxRecDepth 100000 in
theorem frX9_dropUnreached {S : MS} {Q : Int32 → MS → Prop} (hw : wfC S) (h : wX9_dropUnreached S Q) : wX9_dropUnreached S (fun r u => Q r u ∧ cfr [222, 223, 224, 225, 226, 227, 228, 306, 406] [(47, 2), (47, 9)] S u) := by
  have f : cfr [222, 223, 224, 225, 226, 227, 228, 306, 406] [(47, 2), (47, 9)] S S := cfr.rf
  unfold wX9_dropUnreached at h ⊢
  obtain ⟨Q9, h0, h⟩ := h
  refine ⟨_, frX9_findReached hw h0, ?_⟩
  intro S2 q11_ y12_ y13_
  replace h := h S2 q11_.1 y12_ y13_
  replace f := f.tr (q11_.2.mo (by decide) (by decide))
  intro a5 ea5 
  replace h := h a5 ea5 
  obtain ⟨n9, h⟩ := h
  exact ⟨n9, fr_X9_dropUnreached_L19 n9 f h⟩
set_option maxRecDepth 100000 in
theorem fr_X9_findLive_J62 {S0 : MS} {Q : MS → Prop} {k34 k34' : MS → Int32 → Int32 → Int32 → Prop} {U62 : MS} {t62_0 : Int32} {t62_1 : Int32} {v62_2 : Int32} {v62_3 : Int32} {v62_4 : Int32} (hk34 : ∀ (u : MS) (z0) (z1) (z2), cfr [229] [] S0 u → k34 u z0 z1 z2 → k34' u z0 z1 z2) (f : cfr [229] [] S0 U62) (h : w_X9_findLive_J62 Q k34 U62 t62_0 t62_1 v62_2 v62_3 v62_4) : w_X9_findLive_J62 (fun u => Q u ∧ cfr [229] [] S0 u) k34' U62 t62_0 t62_1 v62_2 v62_3 v62_4 := by
  unfold w_X9_findLive_J62 at h ⊢
  intro y1_ y2_
  replace h := h y1_ y2_
  intro a20 ea20 
  replace h := h a20 ea20 
  refine ⟨h.1, ?_⟩
  replace h := h.2
  intro S23 eS23 y3_ y4_
  replace h := h S23 eS23 y3_ y4_
  replace f := f.tr (show cfr [229] [] U62 S23 by rw [eS23]; exact cfr.aI y3_ (by decide))
  intro a24 ea24 
  replace h := h a24 ea24 
  exact hk34 _ _ _ _ f h
set_option maxRecDepth 100000 in
theorem fr_X9_findLive_L34 {S0 : MS} {Q : MS → Prop} {k12 k12' : MS → Int32 → Int32 → Prop} (hk12 : ∀ (u : MS) (z0) (z1), cfr [229] [] S0 u → k12 u z0 z1 → k12' u z0 z1) : ∀ (n : Nat) {U34 : MS} {v34_1 : Int32} {v34_2 : Int32} {v34_3 : Int32}, cfr [229] [] S0 U34 → w_X9_findLive_L34 Q k12 n U34 v34_1 v34_2 v34_3 → w_X9_findLive_L34 (fun u => Q u ∧ cfr [229] [] S0 u) k12' n U34 v34_1 v34_2 v34_3 := by
  intro n
  induction n with
  | zero => intro U34 v34_1 v34_2 v34_3 f h; unfold w_X9_findLive_L34 at h; exact h.elim
  | succ n ih =>
    intro U34 v34_1 v34_2 v34_3 f h
    unfold w_X9_findLive_L34 at h ⊢
    intro y5_
    replace h := h y5_
    refine ⟨fun c => ?_, fun c => ?_⟩
    · replace h := h.1 c
      intro a11 ea11 
      replace h := h a11 ea11 
      exact hk12 _ _ _ f h
    · replace h := h.2 c
      obtain ⟨Q9, h0, h⟩ := h
      refine ⟨_, frX9_liveBefore y5_ h0, ?_⟩
      intro r13 S14 q6_ y7_ y8_
      replace h := h r13 S14 q6_.1 y7_ y8_
      replace f := f.tr (q6_.2.mo (by decide) (by decide))
      refine ⟨h.1, ?_⟩
      replace h := h.2
      refine ⟨fun c => ?_, fun c => ?_⟩
      · replace h := h.1 c
        exact fr_X9_findLive_J62 (fun _ _ _ _ f h => ih f h) f h
      · replace h := h.2 c
        exact fr_X9_findLive_J62 (fun _ _ _ _ f h => ih f h) f h
set_option maxRecDepth 100000 in
theorem fr_X9_findLive_L12 {S0 : MS} {Q : MS → Prop} : ∀ (n : Nat) {U12 : MS} {v12_1 : Int32} {v12_2 : Int32}, cfr [229] [] S0 U12 → w_X9_findLive_L12 Q n U12 v12_1 v12_2 → w_X9_findLive_L12 (fun u => Q u ∧ cfr [229] [] S0 u) n U12 v12_1 v12_2 := by
  intro n
  induction n with
  | zero => intro U12 v12_1 v12_2 f h; unfold w_X9_findLive_L12 at h; exact h.elim
  | succ n ih =>
    intro U12 v12_1 v12_2 f h
    unfold w_X9_findLive_L12 at h ⊢
    intro y9_
    replace h := h y9_
    refine ⟨fun c => ?_, fun c => ?_⟩
    · replace h := h.1 c
      exact ⟨h, f⟩
    · replace h := h.2 c
      refine ⟨fun c => ?_, fun c => ?_⟩
      · replace h := h.1 c
        exact ⟨h, f⟩
      · replace h := h.2 c
        intro a9 ea9 
        replace h := h a9 ea9 
        obtain ⟨n9, h⟩ := h
        exact ⟨n9, fr_X9_findLive_L34 (fun _ _ _ f h => ih f h) n9 f h⟩
set_option maxRecDepth 100000 in
theorem frX9_findLive {S : MS} {Q : MS → Prop} (hw : wfC S) (h : wX9_findLive S Q) : wX9_findLive S (fun u => Q u ∧ cfr [229] [] S u) := by
  have f : cfr [229] [] S S := cfr.rf
  unfold wX9_findLive at h ⊢
  intro y10_
  replace h := h y10_
  obtain ⟨Q9, h0, h⟩ := h
  refine ⟨_, frJ7_fill_53178 y10_ (by decide) h0, ?_⟩
  intro S3 q11_ y12_ y13_
  replace h := h S3 q11_.1 y12_ y13_
  replace f := f.tr (q11_.2.mo (by decide) (by decide))
  obtain ⟨n9, h⟩ := h
  exact ⟨n9, fr_X9_findLive_L12 n9 f h⟩
set_option maxRecDepth 100000 in
theorem fr_X11_addMethod_L229 {S0 : MS} {Q : MS → Prop} : ∀ (n : Nat) {U229 : MS} {v229_5 : Int32}, cfr [101, 213, 214, 238, 239, 242, 243, 244, 245, 304] [(40, 0), (40, 1), (44, 0), (44, 1), (44, 2), (44, 3), (44, 4), (44, 5), (44, 6), (44, 7), (50, 5), (50, 6), (50, 15), (50, 16), (50, 17)] S0 U229 → w_X11_addMethod_L229 Q n U229 v229_5 → w_X11_addMethod_L229 (fun u => Q u ∧ cfr [101, 213, 214, 238, 239, 242, 243, 244, 245, 304] [(40, 0), (40, 1), (44, 0), (44, 1), (44, 2), (44, 3), (44, 4), (44, 5), (44, 6), (44, 7), (50, 5), (50, 6), (50, 15), (50, 16), (50, 17)] S0 u) n U229 v229_5 := by
  intro n
  induction n with
  | zero => intro U229 v229_5 f h; unfold w_X11_addMethod_L229 at h; exact h.elim
  | succ n ih =>
    intro U229 v229_5 f h
    unfold w_X11_addMethod_L229 at h ⊢
    intro y1_
    replace h := h y1_
    refine ⟨h.1, ?_⟩
    replace h := h.2
    refine ⟨fun c => ?_, fun c => ?_⟩
    · replace h := h.1 c
      intro y2_
      replace h := h y2_
      obtain ⟨Q9, h0, h⟩ := h
      refine ⟨_, frX0_put2 y1_ h0, ?_⟩
      intro S102 q3_ y4_ y5_
      replace h := h S102 q3_.1 y4_ y5_
      replace f := f.tr (q3_.2.mo (by decide) (by decide))
      exact ⟨h, f⟩
    · replace h := h.2 c
      refine ⟨h.1, ?_⟩
      replace h := h.2
      refine ⟨h.1, ?_⟩
      replace h := h.2
      refine ⟨h.1, ?_⟩
      replace h := h.2
      refine ⟨h.1, ?_⟩
      replace h := h.2
      intro a114 ea114 
      replace h := h a114 ea114 
      intro y6_
      replace h := h y6_
      obtain ⟨Q9, h0, h⟩ := h
      refine ⟨_, frX0_put2 y1_ h0, ?_⟩
      intro S116 q7_ y8_ y9_
      replace h := h S116 q7_.1 y8_ y9_
      replace f := f.tr (q7_.2.mo (by decide) (by decide))
      refine ⟨h.1, ?_⟩
      replace h := h.2
      refine ⟨h.1, ?_⟩
      replace h := h.2
      refine ⟨h.1, ?_⟩
      replace h := h.2
      refine ⟨h.1, ?_⟩
      replace h := h.2
      intro a128 ea128 
      replace h := h a128 ea128 
      intro y10_
      replace h := h y10_
      obtain ⟨Q9, h0, h⟩ := h
      refine ⟨_, frX0_put2 y8_ h0, ?_⟩
      intro S130 q11_ y12_ y13_
      replace h := h S130 q11_.1 y12_ y13_
      replace f := f.tr (q11_.2.mo (by decide) (by decide))
      refine ⟨h.1, ?_⟩
      replace h := h.2
      refine ⟨h.1, ?_⟩
      replace h := h.2
      refine ⟨h.1, ?_⟩
      replace h := h.2
      refine ⟨h.1, ?_⟩
      replace h := h.2
      intro a142 ea142 
      replace h := h a142 ea142 
      intro y14_
      replace h := h y14_
      obtain ⟨Q9, h0, h⟩ := h
      refine ⟨_, frX0_put2 y12_ h0, ?_⟩
      intro S144 q15_ y16_ y17_
      replace h := h S144 q15_.1 y16_ y17_
      replace f := f.tr (q15_.2.mo (by decide) (by decide))
      refine ⟨h.1, ?_⟩
      replace h := h.2
      refine ⟨h.1, ?_⟩
      replace h := h.2
      refine ⟨h.1, ?_⟩
      replace h := h.2
      obtain ⟨Q9, h0, h⟩ := h
      refine ⟨_, frX11_classOf y16_ h0, ?_⟩
      intro r154 S155 q18_ y19_ y20_
      replace h := h r154 S155 q18_.1 y19_ y20_
      replace f := f.tr (q18_.2.mo (by decide) (by decide))
      intro y21_
      replace h := h y21_
      obtain ⟨Q9, h0, h⟩ := h
      refine ⟨_, frX0_put2 y19_ h0, ?_⟩
      intro S159 q22_ y23_ y24_
      replace h := h S159 q22_.1 y23_ y24_
      replace f := f.tr (q22_.2.mo (by decide) (by decide))
      intro a162 ea162 
      replace h := h a162 ea162 
      exact ih f h
set_option maxRecDepth 100000 in
theorem fr_X11_addMethod_L186 {S0 : MS} {Q : MS → Prop} : ∀ (n : Nat) {U186 : MS} {v186_4 : Int32} {v186_5 : Int32}, cfr [101, 213, 214, 238, 239, 242, 243, 244, 245, 304] [(40, 0), (40, 1), (44, 0), (44, 1), (44, 2), (44, 3), (44, 4), (44, 5), (44, 6), (44, 7), (50, 5), (50, 6), (50, 15), (50, 16), (50, 17)] S0 U186 → w_X11_addMethod_L186 Q n U186 v186_4 v186_5 → w_X11_addMethod_L186 (fun u => Q u ∧ cfr [101, 213, 214, 238, 239, 242, 243, 244, 245, 304] [(40, 0), (40, 1), (44, 0), (44, 1), (44, 2), (44, 3), (44, 4), (44, 5), (44, 6), (44, 7), (50, 5), (50, 6), (50, 15), (50, 16), (50, 17)] S0 u) n U186 v186_4 v186_5 := by
  intro n
  induction n with
  | zero => intro U186 v186_4 v186_5 f h; unfold w_X11_addMethod_L186 at h; exact h.elim
  | succ n ih =>
    intro U186 v186_4 v186_5 f h
    unfold w_X11_addMethod_L186 at h ⊢
    intro y25_
    replace h := h y25_
    refine ⟨h.1, ?_⟩
    replace h := h.2
    refine ⟨fun c => ?_, fun c => ?_⟩
    · replace h := h.1 c
      refine ⟨h.1, ?_⟩
      replace h := h.2
      intro y26_
      replace h := h y26_
      obtain ⟨Q9, h0, h⟩ := h
      refine ⟨_, frX0_put2 y25_ h0, ?_⟩
      intro S95 q27_ y28_ y29_
      replace h := h S95 q27_.1 y28_ y29_
      replace f := f.tr (q27_.2.mo (by decide) (by decide))
      obtain ⟨n9, h⟩ := h
      exact ⟨n9, fr_X11_addMethod_L229 n9 f h⟩
    · replace h := h.2 c
      obtain ⟨Q9, h0, h⟩ := h
      refine ⟨_, frX11_putInstruction y25_ h0, ?_⟩
      intro S164 q30_ y31_ y32_
      replace h := h S164 q30_.1 y31_ y32_
      replace f := f.tr (q30_.2.mo (by decide) (by decide))
      intro a167 ea167 
      replace h := h a167 ea167 
      exact ih f h
set_option maxRecDepth 100000 in
theorem frX11_addMethod {S : MS} {p1 : Option Nat} {Q : MS → Prop} (hw : wfC S) (h : wX11_addMethod S p1 Q) : wX11_addMethod S p1 (fun u => Q u ∧ cfr [101, 213, 214, 238, 239, 242, 243, 244, 245, 304] [(40, 0), (40, 1), (44, 0), (44, 1), (44, 2), (44, 3), (44, 4), (44, 5), (44, 6), (44, 7), (50, 5), (50, 6), (50, 15), (50, 16), (50, 17)] S u) := by
  have f : cfr [101, 213, 214, 238, 239, 242, 243, 244, 245, 304] [(40, 0), (40, 1), (44, 0), (44, 1), (44, 2), (44, 3), (44, 4), (44, 5), (44, 6), (44, 7), (50, 5), (50, 6), (50, 15), (50, 16), (50, 17)] S S := cfr.rf
  unfold wX11_addMethod at h ⊢
  refine ⟨fun c => ?_, fun c => ?_⟩
  · replace h := h.1 c
    intro S2 eS2 y33_ y34_
    replace h := h S2 eS2 y33_ y34_
    replace f := f.tr (show cfr [101, 213, 214, 238, 239, 242, 243, 244, 245, 304] [(40, 0), (40, 1), (44, 0), (44, 1), (44, 2), (44, 3), (44, 4), (44, 5), (44, 6), (44, 7), (50, 5), (50, 6), (50, 15), (50, 16), (50, 17)] S S2 by rw [eS2]; exact cfr.oR y33_ (by decide))
    refine ⟨fun c => ?_, fun c => ?_⟩
    · replace h := h.1 c
      exact ⟨h, f⟩
    · replace h := h.2 c
      refine ⟨h.1, ?_⟩
      replace h := h.2
      refine ⟨fun c => ?_, fun c => ?_⟩
      · replace h := h.1 c
        exact ⟨h, f⟩
      · replace h := h.2 c
        refine ⟨h.1, ?_⟩
        replace h := h.2
        refine ⟨h.1, ?_⟩
        replace h := h.2
        refine ⟨h.1, ?_⟩
        replace h := h.2
        refine ⟨fun c => ?_, fun c => ?_⟩
        · replace h := h.1 c
          refine ⟨h.1, ?_⟩
          replace h := h.2
          refine ⟨h.1, ?_⟩
          replace h := h.2
          refine ⟨h.1, ?_⟩
          replace h := h.2
          refine ⟨h.1, ?_⟩
          replace h := h.2
          obtain ⟨Q9, h0, h⟩ := h
          refine ⟨_, frX11_nameEntry y34_ h0, ?_⟩
          intro r25 S26 q35_ y36_ y37_
          replace h := h r25 S26 q35_.1 y36_ y37_
          replace f := f.tr (q35_.2.mo (by decide) (by decide))
          refine ⟨h.1, ?_⟩
          replace h := h.2
          refine ⟨h.1, ?_⟩
          replace h := h.2
          refine ⟨h.1, ?_⟩
          replace h := h.2
          refine ⟨h.1, ?_⟩
          replace h := h.2
          obtain ⟨Q9, h0, h⟩ := h
          refine ⟨_, frX11_nameEntry y36_ h0, ?_⟩
          intro r38 S39 q38_ y39_ y40_
          replace h := h r38 S39 q38_.1 y39_ y40_
          replace f := f.tr (q38_.2.mo (by decide) (by decide))
          obtain ⟨Q9, h0, h⟩ := h
          refine ⟨_, frX11_putMember y39_ h0, ?_⟩
          intro S43 q41_ y42_ y43_
          replace h := h S43 q41_.1 y42_ y43_
          replace f := f.tr (q41_.2.mo (by decide) (by decide))
          obtain ⟨Q9, h0, h⟩ := h
          refine ⟨_, frX11_layOut y42_ h0, ?_⟩
          intro r47 S48 q44_ y45_ y46_
          replace h := h r47 S48 q44_.1 y45_ y46_
          replace f := f.tr (q44_.2.mo (by decide) (by decide))
          refine ⟨h.1, ?_⟩
          replace h := h.2
          refine ⟨h.1, ?_⟩
          replace h := h.2
          intro y47_ y48_ y49_
          replace h := h y47_ y48_ y49_
          obtain ⟨Q9, h0, h⟩ := h
          refine ⟨_, frX4_seek y45_ h0, ?_⟩
          intro S56 q50_ y51_ y52_
          replace h := h S56 q50_.1 y51_ y52_
          replace f := f.tr (q50_.2.mo (by decide) (by decide))
          intro y53_
          replace h := h y53_
          obtain ⟨Q9, h0, h⟩ := h
          refine ⟨_, frX0_put2 y51_ h0, ?_⟩
          intro S60 q54_ y55_ y56_
          replace h := h S60 q54_.1 y55_ y56_
          replace f := f.tr (q54_.2.mo (by decide) (by decide))
          refine ⟨h.1, ?_⟩
          replace h := h.2
          intro y57_
          replace h := h y57_
          obtain ⟨Q9, h0, h⟩ := h
          refine ⟨_, frX0_put4 y55_ h0, ?_⟩
          intro S69 q58_ y59_ y60_
          replace h := h S69 q58_.1 y59_ y60_
          replace f := f.tr (q58_.2.mo (by decide) (by decide))
          intro y61_
          replace h := h y61_
          obtain ⟨Q9, h0, h⟩ := h
          refine ⟨_, frX0_put2 y59_ h0, ?_⟩
          intro S73 q62_ y63_ y64_
          replace h := h S73 q62_.1 y63_ y64_
          replace f := f.tr (q62_.2.mo (by decide) (by decide))
          obtain ⟨Q9, h0, h⟩ := h
          refine ⟨_, frX11_leastLocals y63_ h0, ?_⟩
          intro r77 S78 q65_ y66_ y67_
          replace h := h r77 S78 q65_.1 y66_ y67_
          replace f := f.tr (q65_.2.mo (by decide) (by decide))
          intro y68_
          replace h := h y68_
          obtain ⟨Q9, h0, h⟩ := h
          refine ⟨_, frX0_put2 y66_ h0, ?_⟩
          intro S81 q69_ y70_ y71_
          replace h := h S81 q69_.1 y70_ y71_
          replace f := f.tr (q69_.2.mo (by decide) (by decide))
          intro y72_
          replace h := h y72_
          obtain ⟨Q9, h0, h⟩ := h
          refine ⟨_, frX0_put4 y70_ h0, ?_⟩
          intro S85 q73_ y74_ y75_
          replace h := h S85 q73_.1 y74_ y75_
          replace f := f.tr (q73_.2.mo (by decide) (by decide))
          intro a88 ea88 
          replace h := h a88 ea88 
          obtain ⟨n9, h⟩ := h
          exact ⟨n9, fr_X11_addMethod_L186 n9 f h⟩
        · replace h := h.2 c
          exact ⟨h, f⟩
  · replace h := h.2 c
    intro S168 eS168 y76_ y77_
    replace h := h S168 eS168 y76_ y77_
    replace f := f.tr (show cfr [101, 213, 214, 238, 239, 242, 243, 244, 245, 304] [(40, 0), (40, 1), (44, 0), (44, 1), (44, 2), (44, 3), (44, 4), (44, 5), (44, 6), (44, 7), (50, 5), (50, 6), (50, 15), (50, 16), (50, 17)] S S168 by rw [eS168]; exact cfr.oR y76_ (by decide))
    refine ⟨fun c => ?_, fun c => ?_⟩
    · replace h := h.1 c
      exact ⟨h, f⟩
    · replace h := h.2 c
      refine ⟨h.1, ?_⟩
      replace h := h.2
      refine ⟨fun c => ?_, fun c => ?_⟩
      · replace h := h.1 c
        exact ⟨h, f⟩
      · replace h := h.2 c
        refine ⟨h.1, ?_⟩
        replace h := h.2
        refine ⟨h.1, ?_⟩
        replace h := h.2
        refine ⟨h.1, ?_⟩
        replace h := h.2
        refine ⟨fun c => ?_, fun c => ?_⟩
        · replace h := h.1 c
          refine ⟨h.1, ?_⟩
          replace h := h.2
          refine ⟨h.1, ?_⟩
          replace h := h.2
          refine ⟨h.1, ?_⟩
          replace h := h.2
          refine ⟨h.1, ?_⟩
          replace h := h.2
          obtain ⟨Q9, h0, h⟩ := h
          refine ⟨_, frX11_nameEntry y77_ h0, ?_⟩
          intro r191 S192 q78_ y79_ y80_
          replace h := h r191 S192 q78_.1 y79_ y80_
          replace f := f.tr (q78_.2.mo (by decide) (by decide))
          refine ⟨h.1, ?_⟩
          replace h := h.2
          refine ⟨h.1, ?_⟩
          replace h := h.2
          refine ⟨h.1, ?_⟩
          replace h := h.2
          refine ⟨h.1, ?_⟩
          replace h := h.2
          obtain ⟨Q9, h0, h⟩ := h
          refine ⟨_, frX11_nameEntry y79_ h0, ?_⟩
          intro r204 S205 q81_ y82_ y83_
          replace h := h r204 S205 q81_.1 y82_ y83_
          replace f := f.tr (q81_.2.mo (by decide) (by decide))
          obtain ⟨Q9, h0, h⟩ := h
          refine ⟨_, frX11_putMember y82_ h0, ?_⟩
          intro S209 q84_ y85_ y86_
          replace h := h S209 q84_.1 y85_ y86_
          replace f := f.tr (q84_.2.mo (by decide) (by decide))
          obtain ⟨Q9, h0, h⟩ := h
          refine ⟨_, frX11_layOut y85_ h0, ?_⟩
          intro r213 S214 q87_ y88_ y89_
          replace h := h r213 S214 q87_.1 y88_ y89_
          replace f := f.tr (q87_.2.mo (by decide) (by decide))
          refine ⟨h.1, ?_⟩
          replace h := h.2
          refine ⟨h.1, ?_⟩
          replace h := h.2
          intro y90_ y91_ y92_
          replace h := h y90_ y91_ y92_
          obtain ⟨Q9, h0, h⟩ := h
          refine ⟨_, frX4_seek y88_ h0, ?_⟩
          intro S222 q93_ y94_ y95_
          replace h := h S222 q93_.1 y94_ y95_
          replace f := f.tr (q93_.2.mo (by decide) (by decide))
          intro y96_
          replace h := h y96_
          obtain ⟨Q9, h0, h⟩ := h
          refine ⟨_, frX0_put2 y94_ h0, ?_⟩
          intro S226 q97_ y98_ y99_
          replace h := h S226 q97_.1 y98_ y99_
          replace f := f.tr (q97_.2.mo (by decide) (by decide))
          refine ⟨h.1, ?_⟩
          replace h := h.2
          intro y100_
          replace h := h y100_
          obtain ⟨Q9, h0, h⟩ := h
          refine ⟨_, frX0_put4 y98_ h0, ?_⟩
          intro S235 q101_ y102_ y103_
          replace h := h S235 q101_.1 y102_ y103_
          replace f := f.tr (q101_.2.mo (by decide) (by decide))
          intro y104_
          replace h := h y104_
          obtain ⟨Q9, h0, h⟩ := h
          refine ⟨_, frX0_put2 y102_ h0, ?_⟩
          intro S239 q105_ y106_ y107_
          replace h := h S239 q105_.1 y106_ y107_
          replace f := f.tr (q105_.2.mo (by decide) (by decide))
          obtain ⟨Q9, h0, h⟩ := h
          refine ⟨_, frX11_leastLocals y106_ h0, ?_⟩
          intro r243 S244 q108_ y109_ y110_
          replace h := h r243 S244 q108_.1 y109_ y110_
          replace f := f.tr (q108_.2.mo (by decide) (by decide))
          intro y111_
          replace h := h y111_
          obtain ⟨Q9, h0, h⟩ := h
          refine ⟨_, frX0_put2 y109_ h0, ?_⟩
          intro S247 q112_ y113_ y114_
          replace h := h S247 q112_.1 y113_ y114_
          replace f := f.tr (q112_.2.mo (by decide) (by decide))
          intro y115_
          replace h := h y115_
          obtain ⟨Q9, h0, h⟩ := h
          refine ⟨_, frX0_put4 y113_ h0, ?_⟩
          intro S251 q116_ y117_ y118_
          replace h := h S251 q116_.1 y117_ y118_
          replace f := f.tr (q116_.2.mo (by decide) (by decide))
          intro a254 ea254 
          replace h := h a254 ea254 
          obtain ⟨n9, h⟩ := h
          exact ⟨n9, fr_X11_addMethod_L186 n9 f h⟩
        · replace h := h.2 c
          exact ⟨h, f⟩
set_option maxRecDepth 100000 in
theorem fr_X12_write_J73 {S0 : MS} {Q : Int32 → MS → Prop} {U73 : MS} (f : cfr [101, 213, 214, 238, 239, 240, 241, 242, 243, 244, 245, 304] [(40, 0), (40, 1), (44, 0), (44, 1), (44, 2), (44, 3), (44, 4), (44, 5), (44, 6), (44, 7), (50, 5), (50, 6), (50, 7), (50, 8), (50, 9), (50, 15), (50, 16), (50, 17), (51, 17)] S0 U73) (h : w_X12_write_J73 Q U73) : w_X12_write_J73 (fun r u => Q r u ∧ cfr [101, 213, 214, 238, 239, 240, 241, 242, 243, 244, 245, 304] [(40, 0), (40, 1), (44, 0), (44, 1), (44, 2), (44, 3), (44, 4), (44, 5), (44, 6), (44, 7), (50, 5), (50, 6), (50, 7), (50, 8), (50, 9), (50, 15), (50, 16), (50, 17), (51, 17)] S0 u) U73 := by
  unfold w_X12_write_J73 at h ⊢
  intro y1_
  replace h := h y1_
  exact ⟨h, f⟩
set_option maxRecDepth 100000 in
theorem fr_X12_write_L31 {S0 : MS} {Q : Int32 → MS → Prop} : ∀ (n : Nat) {U31 : MS} {v31_1 : Int32} {v31_2 : Nat} {v31_3 : Int32}, cfr [101, 213, 214, 238, 239, 240, 241, 242, 243, 244, 245, 304] [(40, 0), (40, 1), (44, 0), (44, 1), (44, 2), (44, 3), (44, 4), (44, 5), (44, 6), (44, 7), (50, 5), (50, 6), (50, 7), (50, 8), (50, 9), (50, 15), (50, 16), (50, 17), (51, 17)] S0 U31 → w_X12_write_L31 Q n U31 v31_1 v31_2 v31_3 → w_X12_write_L31 (fun r u => Q r u ∧ cfr [101, 213, 214, 238, 239, 240, 241, 242, 243, 244, 245, 304] [(40, 0), (40, 1), (44, 0), (44, 1), (44, 2), (44, 3), (44, 4), (44, 5), (44, 6), (44, 7), (50, 5), (50, 6), (50, 7), (50, 8), (50, 9), (50, 15), (50, 16), (50, 17), (51, 17)] S0 u) n U31 v31_1 v31_2 v31_3 := by
  intro n
  induction n with
  | zero => intro U31 v31_1 v31_2 v31_3 f h; unfold w_X12_write_L31 at h; exact h.elim
  | succ n ih =>
    intro U31 v31_1 v31_2 v31_3 f h
    unfold w_X12_write_L31 at h ⊢
    intro y2_ y3_
    replace h := h y2_ y3_
    refine ⟨fun c => ?_, fun c => ?_⟩
    · replace h := h.1 c
      intro y4_
      replace h := h y4_
      obtain ⟨Q9, h0, h⟩ := h
      refine ⟨_, frX11_finish y2_ h0, ?_⟩
      intro S14 q5_ y6_ y7_
      replace h := h S14 q5_.1 y6_ y7_
      replace f := f.tr (q5_.2.mo (by decide) (by decide))
      intro S17 eS17 y8_ y9_
      replace h := h S17 eS17 y8_ y9_
      replace f := f.tr (show cfr [101, 213, 214, 238, 239, 240, 241, 242, 243, 244, 245, 304] [(40, 0), (40, 1), (44, 0), (44, 1), (44, 2), (44, 3), (44, 4), (44, 5), (44, 6), (44, 7), (50, 5), (50, 6), (50, 7), (50, 8), (50, 9), (50, 15), (50, 16), (50, 17), (51, 17)] S14 S17 by rw [eS17]; exact cfr.oI y8_ (by decide))
      exact fr_X12_write_J73 f h
    · replace h := h.2 c
      intro y10_
      replace h := h y10_
      obtain ⟨Q9, h0, h⟩ := h
      refine ⟨_, frX10_rowAt y2_ h0, ?_⟩
      intro b22 S20 q11_ y12_ y13_ y14_
      replace h := h b22 S20 q11_.1 y12_ y13_ y14_
      replace f := f.tr (q11_.2.mo (by decide) (by decide))
      obtain ⟨Q9, h0, h⟩ := h
      refine ⟨_, frX11_addMethod y12_ h0, ?_⟩
      intro S24 q15_ y16_ y17_
      replace h := h S24 q15_.1 y16_ y17_
      replace f := f.tr (q15_.2.mo (by decide) (by decide))
      intro a27 ea27 
      replace h := h a27 ea27 
      exact ih f h
set_option maxRecDepth 100000 in
theorem frX12_write {S : MS} {x1 : Int32} {Q : Int32 → MS → Prop} (hw : wfC S) (h : wX12_write S x1 Q) : wX12_write S x1 (fun r u => Q r u ∧ cfr [101, 213, 214, 238, 239, 240, 241, 242, 243, 244, 245, 304] [(40, 0), (40, 1), (44, 0), (44, 1), (44, 2), (44, 3), (44, 4), (44, 5), (44, 6), (44, 7), (50, 5), (50, 6), (50, 7), (50, 8), (50, 9), (50, 15), (50, 16), (50, 17), (51, 17)] S u) := by
  have f : cfr [101, 213, 214, 238, 239, 240, 241, 242, 243, 244, 245, 304] [(40, 0), (40, 1), (44, 0), (44, 1), (44, 2), (44, 3), (44, 4), (44, 5), (44, 6), (44, 7), (50, 5), (50, 6), (50, 7), (50, 8), (50, 9), (50, 15), (50, 16), (50, 17), (51, 17)] S S := cfr.rf
  unfold wX12_write at h ⊢
  obtain ⟨Q9, h0, h⟩ := h
  refine ⟨_, frX12_soundUnitAt hw h0, ?_⟩
  intro b5 S3 q18_ y19_ y20_ y21_
  replace h := h b5 S3 q18_.1 y19_ y20_ y21_
  replace f := f.tr (q18_.2.mo (by decide) (by decide))
  refine ⟨fun c => ?_, fun c => ?_⟩
  · replace h := h.1 c
    exact ⟨h, f⟩
  · replace h := h.2 c
    refine ⟨fun c => ?_, fun c => ?_⟩
    · replace h := h.1 c
      exact fr_X12_write_J73 f h
    · replace h := h.2 c
      intro y22_
      replace h := h y22_
      obtain ⟨Q9, h0, h⟩ := h
      refine ⟨_, frX11_begin y19_ h0, ?_⟩
      intro S9 q23_ y24_ y25_
      replace h := h S9 q23_.1 y24_ y25_
      replace f := f.tr (q23_.2.mo (by decide) (by decide))
      obtain ⟨n9, h⟩ := h
      exact ⟨n9, fr_X12_write_L31 n9 f h⟩
set_option maxRecDepth 100000 in
theorem frX12_blocks {S : MS} {x1 : Int32} {x2 : Int32} {Q : Int32 → MS → Prop} (hw : wfC S) (h : wX12_blocks S x1 x2 Q) : wX12_blocks S x1 x2 (fun r u => Q r u ∧ cfr [202, 203, 204, 205, 206, 207, 208, 209, 210, 211, 212, 303, 401] [(43, 0), (43, 1), (43, 2), (43, 3), (43, 4), (43, 5), (43, 6), (43, 7), (43, 8), (43, 9), (43, 10), (43, 11), (43, 12), (43, 13), (43, 14), (43, 15)] S u) := by
  have f : cfr [202, 203, 204, 205, 206, 207, 208, 209, 210, 211, 212, 303, 401] [(43, 0), (43, 1), (43, 2), (43, 3), (43, 4), (43, 5), (43, 6), (43, 7), (43, 8), (43, 9), (43, 10), (43, 11), (43, 12), (43, 13), (43, 14), (43, 15)] S S := cfr.rf
  unfold wX12_blocks at h ⊢
  obtain ⟨Q9, h0, h⟩ := h
  refine ⟨_, frX12_rowAt hw h0, ?_⟩
  intro b5 S3 q1_ y2_ y3_ y4_
  replace h := h b5 S3 q1_.1 y2_ y3_ y4_
  replace f := f.tr (q1_.2.mo (by decide) (by decide))
  refine ⟨fun c => ?_, fun c => ?_⟩
  · replace h := h.1 c
    exact ⟨h, f⟩
  · replace h := h.2 c
    obtain ⟨Q9, h0, h⟩ := h
    refine ⟨_, frX3_draw y2_ h0, ?_⟩
    intro S8 q5_ y6_ y7_
    replace h := h S8 q5_.1 y6_ y7_
    replace f := f.tr (q5_.2.mo (by decide) (by decide))
    exact ⟨h, f⟩
set_option maxRecDepth 100000 in
theorem frX12_block {S : MS} {x1 : Int32} {x2 : Int32} {x3 : Int32} {x4 : Int32} {Q : Int32 → MS → Prop} (hw : wfC S) (h : wX12_block S x1 x2 x3 x4 Q) : wX12_block S x1 x2 x3 x4 (fun r u => Q r u ∧ cfr [202, 203, 204, 205, 206, 207, 208, 209, 210, 211, 212, 303, 401] [(43, 0), (43, 1), (43, 2), (43, 3), (43, 4), (43, 5), (43, 6), (43, 7), (43, 8), (43, 9), (43, 10), (43, 11), (43, 12), (43, 13), (43, 14), (43, 15)] S u) := by
  have f : cfr [202, 203, 204, 205, 206, 207, 208, 209, 210, 211, 212, 303, 401] [(43, 0), (43, 1), (43, 2), (43, 3), (43, 4), (43, 5), (43, 6), (43, 7), (43, 8), (43, 9), (43, 10), (43, 11), (43, 12), (43, 13), (43, 14), (43, 15)] S S := cfr.rf
  unfold wX12_block at h ⊢
  obtain ⟨Q9, h0, h⟩ := h
  refine ⟨_, frX12_rowAt hw h0, ?_⟩
  intro b5 S3 q1_ y2_ y3_ y4_
  replace h := h b5 S3 q1_.1 y2_ y3_ y4_
  replace f := f.tr (q1_.2.mo (by decide) (by decide))
  refine ⟨fun c => ?_, fun c => ?_⟩
  · replace h := h.1 c
    exact ⟨h, f⟩
  · replace h := h.2 c
    obtain ⟨Q9, h0, h⟩ := h
    refine ⟨_, frX3_draw y2_ h0, ?_⟩
    intro S8 q5_ y6_ y7_
    replace h := h S8 q5_.1 y6_ y7_
    replace f := f.tr (q5_.2.mo (by decide) (by decide))
    refine ⟨h.1, ?_⟩
    replace h := h.2
    intro a14 ea14 
    replace h := h a14 ea14 
    exact ⟨h, f⟩
set_option maxRecDepth 100000 in
theorem frX12_edge {S : MS} {x1 : Int32} {x2 : Int32} {x3 : Int32} {x4 : Int32} {Q : Int32 → MS → Prop} (hw : wfC S) (h : wX12_edge S x1 x2 x3 x4 Q) : wX12_edge S x1 x2 x3 x4 (fun r u => Q r u ∧ cfr [202, 203, 204, 205, 206, 207, 208, 209, 210, 211, 212, 303, 401] [(43, 0), (43, 1), (43, 2), (43, 3), (43, 4), (43, 5), (43, 6), (43, 7), (43, 8), (43, 9), (43, 10), (43, 11), (43, 12), (43, 13), (43, 14), (43, 15)] S u) := by
  have f : cfr [202, 203, 204, 205, 206, 207, 208, 209, 210, 211, 212, 303, 401] [(43, 0), (43, 1), (43, 2), (43, 3), (43, 4), (43, 5), (43, 6), (43, 7), (43, 8), (43, 9), (43, 10), (43, 11), (43, 12), (43, 13), (43, 14), (43, 15)] S S := cfr.rf
  unfold wX12_edge at h ⊢
  obtain ⟨Q9, h0, h⟩ := h
  refine ⟨_, frX12_rowAt hw h0, ?_⟩
  intro b5 S3 q1_ y2_ y3_ y4_
  replace h := h b5 S3 q1_.1 y2_ y3_ y4_
  replace f := f.tr (q1_.2.mo (by decide) (by decide))
  refine ⟨fun c => ?_, fun c => ?_⟩
  · replace h := h.1 c
    exact ⟨h, f⟩
  · replace h := h.2 c
    obtain ⟨Q9, h0, h⟩ := h
    refine ⟨_, frX3_draw y2_ h0, ?_⟩
    intro S8 q5_ y6_ y7_
    replace h := h S8 q5_.1 y6_ y7_
    replace f := f.tr (q5_.2.mo (by decide) (by decide))
    obtain ⟨Q9, h0, h⟩ := h
    refine ⟨_, frX3_hasEdge y6_ h0, ?_⟩
    intro r12 S13 q8_ y9_ y10_
    replace h := h r12 S13 q8_.1 y9_ y10_
    replace f := f.tr (q8_.2.mo (by decide) (by decide))
    exact ⟨h, f⟩
set_option maxRecDepth 100000 in
theorem fr_X12_countersOf_L4 {S0 : MS} {Q : Int32 → MS → Prop} : ∀ (n : Nat) {U4 : MS} {v4_1 : Nat} {v4_2 : Int32} {v4_3 : Int32}, cfr [202, 203, 204, 205, 206, 207, 208, 209, 210, 211, 212, 303, 401] [(43, 0), (43, 1), (43, 2), (43, 3), (43, 4), (43, 5), (43, 6), (43, 7), (43, 8), (43, 9), (43, 10), (43, 11), (43, 12), (43, 13), (43, 14), (43, 15)] S0 U4 → w_X12_countersOf_L4 Q n U4 v4_1 v4_2 v4_3 → w_X12_countersOf_L4 (fun r u => Q r u ∧ cfr [202, 203, 204, 205, 206, 207, 208, 209, 210, 211, 212, 303, 401] [(43, 0), (43, 1), (43, 2), (43, 3), (43, 4), (43, 5), (43, 6), (43, 7), (43, 8), (43, 9), (43, 10), (43, 11), (43, 12), (43, 13), (43, 14), (43, 15)] S0 u) n U4 v4_1 v4_2 v4_3 := by
  intro n
  induction n with
  | zero => intro U4 v4_1 v4_2 v4_3 f h; unfold w_X12_countersOf_L4 at h; exact h.elim
  | succ n ih =>
    intro U4 v4_1 v4_2 v4_3 f h
    unfold w_X12_countersOf_L4 at h ⊢
    intro y1_ y2_
    replace h := h y1_ y2_
    refine ⟨fun c => ?_, fun c => ?_⟩
    · replace h := h.1 c
      exact ⟨h, f⟩
    · replace h := h.2 c
      intro y3_
      replace h := h y3_
      obtain ⟨Q9, h0, h⟩ := h
      refine ⟨_, frX10_rowAt y1_ h0, ?_⟩
      intro b6 S4 q4_ y5_ y6_ y7_
      replace h := h b6 S4 q4_.1 y5_ y6_ y7_
      replace f := f.tr (q4_.2.mo (by decide) (by decide))
      obtain ⟨Q9, h0, h⟩ := h
      refine ⟨_, frX3_draw y5_ h0, ?_⟩
      intro S8 q8_ y9_ y10_
      replace h := h S8 q8_.1 y9_ y10_
      replace f := f.tr (q8_.2.mo (by decide) (by decide))
      obtain ⟨Q9, h0, h⟩ := h
      refine ⟨_, frX3_reachedCount y9_ h0, ?_⟩
      intro r12 S13 q11_ y12_ y13_
      replace h := h r12 S13 q11_.1 y12_ y13_
      replace f := f.tr (q11_.2.mo (by decide) (by decide))
      intro a16 ea16 
      replace h := h a16 ea16 
      intro a17 ea17 
      replace h := h a17 ea17 
      exact ih f h
set_option maxRecDepth 100000 in
theorem frX12_countersOf {S : MS} {p1 : Nat} {Q : Int32 → MS → Prop} (hw : wfC S) (h : wX12_countersOf S p1 Q) : wX12_countersOf S p1 (fun r u => Q r u ∧ cfr [202, 203, 204, 205, 206, 207, 208, 209, 210, 211, 212, 303, 401] [(43, 0), (43, 1), (43, 2), (43, 3), (43, 4), (43, 5), (43, 6), (43, 7), (43, 8), (43, 9), (43, 10), (43, 11), (43, 12), (43, 13), (43, 14), (43, 15)] S u) := by
  have f : cfr [202, 203, 204, 205, 206, 207, 208, 209, 210, 211, 212, 303, 401] [(43, 0), (43, 1), (43, 2), (43, 3), (43, 4), (43, 5), (43, 6), (43, 7), (43, 8), (43, 9), (43, 10), (43, 11), (43, 12), (43, 13), (43, 14), (43, 15)] S S := cfr.rf
  unfold wX12_countersOf at h ⊢
  obtain ⟨n9, h⟩ := h
  exact ⟨n9, fr_X12_countersOf_L4 n9 f h⟩
set_option maxRecDepth 100000 in
theorem fr_X1_firstFault_L131 {S0 : MS} {Q : Int32 → MS → Prop} : ∀ (n : Nat) {U131 : MS} {v131_3 : Int32}, cfr [102, 103, 104, 213, 214, 301, 302, 304, 407, 408] [(41, 1), (41, 2), (41, 3), (41, 5), (41, 6), (41, 7), (41, 8), (41, 9), (44, 0), (44, 1), (44, 2), (44, 3), (44, 4), (44, 5), (44, 6), (44, 7), (47, 12), (47, 13), (47, 14)] S0 U131 → w_X1_firstFault_L131 Q n U131 v131_3 → w_X1_firstFault_L131 (fun r u => Q r u ∧ cfr [102, 103, 104, 213, 214, 301, 302, 304, 407, 408] [(41, 1), (41, 2), (41, 3), (41, 5), (41, 6), (41, 7), (41, 8), (41, 9), (44, 0), (44, 1), (44, 2), (44, 3), (44, 4), (44, 5), (44, 6), (44, 7), (47, 12), (47, 13), (47, 14)] S0 u) n U131 v131_3 := by
  intro n
  induction n with
  | zero => intro U131 v131_3 f h; unfold w_X1_firstFault_L131 at h; exact h.elim
  | succ n ih =>
    intro U131 v131_3 f h
    unfold w_X1_firstFault_L131 at h ⊢
    intro y1_
    replace h := h y1_
    refine ⟨h.1, ?_⟩
    replace h := h.2
    refine ⟨fun c => ?_, fun c => ?_⟩
    · replace h := h.1 c
      obtain ⟨Q9, h0, h⟩ := h
      refine ⟨_, frX1_keepTypes y1_ h0, ?_⟩
      intro S29 q2_ y3_ y4_
      replace h := h S29 q2_.1 y3_ y4_
      replace f := f.tr (q2_.2.mo (by decide) (by decide))
      exact ⟨h, f⟩
    · replace h := h.2 c
      refine ⟨h.1, ?_⟩
      replace h := h.2
      refine ⟨fun c => ?_, fun c => ?_⟩
      · replace h := h.1 c
        obtain ⟨Q9, h0, h⟩ := h
        refine ⟨_, frX1_hasBadTypes y1_ h0, ?_⟩
        intro r37 S38 q5_ y6_ y7_
        replace h := h r37 S38 q5_.1 y6_ y7_
        replace f := f.tr (q5_.2.mo (by decide) (by decide))
        refine ⟨fun c => ?_, fun c => ?_⟩
        · replace h := h.1 c
          intro a41 ea41 
          replace h := h a41 ea41 
          exact ih f h
        · replace h := h.2 c
          exact ⟨h, f⟩
      · replace h := h.2 c
        exact ⟨h, f⟩
set_option maxRecDepth 100000 in
theorem fr_X1_firstFault_J129 {S0 : MS} {Q : Int32 → MS → Prop} {U129 : MS} (f : cfr [102, 103, 104, 213, 214, 301, 302, 304, 407, 408] [(41, 1), (41, 2), (41, 3), (41, 5), (41, 6), (41, 7), (41, 8), (41, 9), (44, 0), (44, 1), (44, 2), (44, 3), (44, 4), (44, 5), (44, 6), (44, 7), (47, 12), (47, 13), (47, 14)] S0 U129) (h : w_X1_firstFault_J129 Q U129) : w_X1_firstFault_J129 (fun r u => Q r u ∧ cfr [102, 103, 104, 213, 214, 301, 302, 304, 407, 408] [(41, 1), (41, 2), (41, 3), (41, 5), (41, 6), (41, 7), (41, 8), (41, 9), (44, 0), (44, 1), (44, 2), (44, 3), (44, 4), (44, 5), (44, 6), (44, 7), (47, 12), (47, 13), (47, 14)] S0 u) U129 := by
  unfold w_X1_firstFault_J129 at h ⊢
  intro y8_
  replace h := h y8_
  obtain ⟨n9, h⟩ := h
  exact ⟨n9, fr_X1_firstFault_L131 n9 f h⟩
set_option maxRecDepth 100000 in
theorem fr_X1_firstFault_J117 {S0 : MS} {Q : Int32 → MS → Prop} {k81 k81' : MS → Int32 → Int32 → Prop} {U117 : MS} {v117_3 : Int32} {v117_4 : Int32} (hk81 : ∀ (u : MS) (z0) (z1), cfr [102, 103, 104, 213, 214, 301, 302, 304, 407, 408] [(41, 1), (41, 2), (41, 3), (41, 5), (41, 6), (41, 7), (41, 8), (41, 9), (44, 0), (44, 1), (44, 2), (44, 3), (44, 4), (44, 5), (44, 6), (44, 7), (47, 12), (47, 13), (47, 14)] S0 u → k81 u z0 z1 → k81' u z0 z1) (f : cfr [102, 103, 104, 213, 214, 301, 302, 304, 407, 408] [(41, 1), (41, 2), (41, 3), (41, 5), (41, 6), (41, 7), (41, 8), (41, 9), (44, 0), (44, 1), (44, 2), (44, 3), (44, 4), (44, 5), (44, 6), (44, 7), (47, 12), (47, 13), (47, 14)] S0 U117) (h : w_X1_firstFault_J117 Q k81 U117 v117_3 v117_4) : w_X1_firstFault_J117 (fun r u => Q r u ∧ cfr [102, 103, 104, 213, 214, 301, 302, 304, 407, 408] [(41, 1), (41, 2), (41, 3), (41, 5), (41, 6), (41, 7), (41, 8), (41, 9), (44, 0), (44, 1), (44, 2), (44, 3), (44, 4), (44, 5), (44, 6), (44, 7), (47, 12), (47, 13), (47, 14)] S0 u) k81' U117 v117_3 v117_4 := by
  unfold w_X1_firstFault_J117 at h ⊢
  intro y9_
  replace h := h y9_
  intro a53 ea53 
  replace h := h a53 ea53 
  exact hk81 _ _ _ f h
set_option maxRecDepth 100000 in
theorem fr_X1_firstFault_L81 {S0 : MS} {Q : Int32 → MS → Prop} {k60 k60' : MS → Int32 → Prop} (hk60 : ∀ (u : MS) (z0), cfr [102, 103, 104, 213, 214, 301, 302, 304, 407, 408] [(41, 1), (41, 2), (41, 3), (41, 5), (41, 6), (41, 7), (41, 8), (41, 9), (44, 0), (44, 1), (44, 2), (44, 3), (44, 4), (44, 5), (44, 6), (44, 7), (47, 12), (47, 13), (47, 14)] S0 u → k60 u z0 → k60' u z0) : ∀ (n : Nat) {U81 : MS} {v81_3 : Int32} {v81_4 : Int32}, cfr [102, 103, 104, 213, 214, 301, 302, 304, 407, 408] [(41, 1), (41, 2), (41, 3), (41, 5), (41, 6), (41, 7), (41, 8), (41, 9), (44, 0), (44, 1), (44, 2), (44, 3), (44, 4), (44, 5), (44, 6), (44, 7), (47, 12), (47, 13), (47, 14)] S0 U81 → w_X1_firstFault_L81 Q k60 n U81 v81_3 v81_4 → w_X1_firstFault_L81 (fun r u => Q r u ∧ cfr [102, 103, 104, 213, 214, 301, 302, 304, 407, 408] [(41, 1), (41, 2), (41, 3), (41, 5), (41, 6), (41, 7), (41, 8), (41, 9), (44, 0), (44, 1), (44, 2), (44, 3), (44, 4), (44, 5), (44, 6), (44, 7), (47, 12), (47, 13), (47, 14)] S0 u) k60' n U81 v81_3 v81_4 := by
  intro n
  induction n with
  | zero => intro U81 v81_3 v81_4 f h; unfold w_X1_firstFault_L81 at h; exact h.elim
  | succ n ih =>
    intro U81 v81_3 v81_4 f h
    unfold w_X1_firstFault_L81 at h ⊢
    intro y10_
    replace h := h y10_
    refine ⟨h.1, ?_⟩
    replace h := h.2
    refine ⟨fun c => ?_, fun c => ?_⟩
    · replace h := h.1 c
      intro a48 ea48 
      replace h := h a48 ea48 
      exact hk60 _ _ f h
    · replace h := h.2 c
      refine ⟨h.1, ?_⟩
      replace h := h.2
      refine ⟨fun c => ?_, fun c => ?_⟩
      · replace h := h.1 c
        exact fr_X1_firstFault_J117 (fun _ _ _ f h => ih f h) f h
      · replace h := h.2 c
        refine ⟨h.1, ?_⟩
        replace h := h.2
        intro S57 eS57 y11_ y12_
        replace h := h S57 eS57 y11_ y12_
        replace f := f.tr (show cfr [102, 103, 104, 213, 214, 301, 302, 304, 407, 408] [(41, 1), (41, 2), (41, 3), (41, 5), (41, 6), (41, 7), (41, 8), (41, 9), (44, 0), (44, 1), (44, 2), (44, 3), (44, 4), (44, 5), (44, 6), (44, 7), (47, 12), (47, 13), (47, 14)] U81 S57 by rw [eS57]; exact cfr.aI y11_ (by decide))
        obtain ⟨Q9, h0, h⟩ := h
        refine ⟨_, frX1_flowFrom y12_ h0, ?_⟩
        intro S59 q13_ y14_ y15_
        replace h := h S59 q13_.1 y14_ y15_
        replace f := f.tr (q13_.2.mo (by decide) (by decide))
        exact fr_X1_firstFault_J117 (fun _ _ _ f h => ih f h) f h
set_option maxRecDepth 100000 in
theorem fr_X1_firstFault_L60 {S0 : MS} {Q : Int32 → MS → Prop} : ∀ (n : Nat) {U60 : MS} {v60_3 : Int32}, cfr [102, 103, 104, 213, 214, 301, 302, 304, 407, 408] [(41, 1), (41, 2), (41, 3), (41, 5), (41, 6), (41, 7), (41, 8), (41, 9), (44, 0), (44, 1), (44, 2), (44, 3), (44, 4), (44, 5), (44, 6), (44, 7), (47, 12), (47, 13), (47, 14)] S0 U60 → w_X1_firstFault_L60 Q n U60 v60_3 → w_X1_firstFault_L60 (fun r u => Q r u ∧ cfr [102, 103, 104, 213, 214, 301, 302, 304, 407, 408] [(41, 1), (41, 2), (41, 3), (41, 5), (41, 6), (41, 7), (41, 8), (41, 9), (44, 0), (44, 1), (44, 2), (44, 3), (44, 4), (44, 5), (44, 6), (44, 7), (47, 12), (47, 13), (47, 14)] S0 u) n U60 v60_3 := by
  intro n
  induction n with
  | zero => intro U60 v60_3 f h; unfold w_X1_firstFault_L60 at h; exact h.elim
  | succ n ih =>
    intro U60 v60_3 f h
    unfold w_X1_firstFault_L60 at h ⊢
    intro y16_
    replace h := h y16_
    refine ⟨fun c => ?_, fun c => ?_⟩
    · replace h := h.1 c
      exact fr_X1_firstFault_J129 f h
    · replace h := h.2 c
      refine ⟨fun c => ?_, fun c => ?_⟩
      · replace h := h.1 c
        exact fr_X1_firstFault_J129 f h
      · replace h := h.2 c
        intro S44 eS44 y17_ y18_
        replace h := h S44 eS44 y17_ y18_
        replace f := f.tr (show cfr [102, 103, 104, 213, 214, 301, 302, 304, 407, 408] [(41, 1), (41, 2), (41, 3), (41, 5), (41, 6), (41, 7), (41, 8), (41, 9), (44, 0), (44, 1), (44, 2), (44, 3), (44, 4), (44, 5), (44, 6), (44, 7), (47, 12), (47, 13), (47, 14)] U60 S44 by rw [eS44]; exact cfr.oI y17_ (by decide))
        obtain ⟨n9, h⟩ := h
        exact ⟨n9, fr_X1_firstFault_L81 (fun _ _ f h => ih f h) n9 f h⟩
set_option maxRecDepth 100000 in
theorem frX1_firstFault {S : MS} {p1 : Nat} {p2 : Option Nat} {Q : Int32 → MS → Prop} (hw : wfC S) (h : wX1_firstFault S p1 p2 Q) : wX1_firstFault S p1 p2 (fun r u => Q r u ∧ cfr [102, 103, 104, 213, 214, 301, 302, 304, 407, 408] [(41, 1), (41, 2), (41, 3), (41, 5), (41, 6), (41, 7), (41, 8), (41, 9), (44, 0), (44, 1), (44, 2), (44, 3), (44, 4), (44, 5), (44, 6), (44, 7), (47, 12), (47, 13), (47, 14)] S u) := by
  have f : cfr [102, 103, 104, 213, 214, 301, 302, 304, 407, 408] [(41, 1), (41, 2), (41, 3), (41, 5), (41, 6), (41, 7), (41, 8), (41, 9), (44, 0), (44, 1), (44, 2), (44, 3), (44, 4), (44, 5), (44, 6), (44, 7), (47, 12), (47, 13), (47, 14)] S S := cfr.rf
  unfold wX1_firstFault at h ⊢
  refine ⟨fun c => ?_, fun c => ?_⟩
  · replace h := h.1 c
    exact ⟨h, f⟩
  · replace h := h.2 c
    intro S2 eS2 y19_ y20_
    replace h := h S2 eS2 y19_ y20_
    replace f := f.tr (show cfr [102, 103, 104, 213, 214, 301, 302, 304, 407, 408] [(41, 1), (41, 2), (41, 3), (41, 5), (41, 6), (41, 7), (41, 8), (41, 9), (44, 0), (44, 1), (44, 2), (44, 3), (44, 4), (44, 5), (44, 6), (44, 7), (47, 12), (47, 13), (47, 14)] S S2 by rw [eS2]; exact cfr.oR y19_ (by decide))
    intro S3 eS3 y21_ y22_
    replace h := h S3 eS3 y21_ y22_
    replace f := f.tr (show cfr [102, 103, 104, 213, 214, 301, 302, 304, 407, 408] [(41, 1), (41, 2), (41, 3), (41, 5), (41, 6), (41, 7), (41, 8), (41, 9), (44, 0), (44, 1), (44, 2), (44, 3), (44, 4), (44, 5), (44, 6), (44, 7), (47, 12), (47, 13), (47, 14)] S2 S3 by rw [eS3]; exact cfr.oR y21_ (by decide))
    refine ⟨h.1, ?_⟩
    replace h := h.2
    refine ⟨h.1, ?_⟩
    replace h := h.2
    refine ⟨h.1, ?_⟩
    replace h := h.2
    intro y23_ y24_ y25_
    replace h := h y23_ y24_ y25_
    obtain ⟨Q9, h0, h⟩ := h
    refine ⟨_, frX4_seek y22_ h0, ?_⟩
    intro S11 q26_ y27_ y28_
    replace h := h S11 q26_.1 y27_ y28_
    replace f := f.tr (q26_.2.mo (by decide) (by decide))
    refine ⟨h.1, ?_⟩
    replace h := h.2
    obtain ⟨Q9, h0, h⟩ := h
    refine ⟨_, frX1_makeRoom y27_ h0, ?_⟩
    intro S17 q29_ y30_ y31_
    replace h := h S17 q29_.1 y30_ y31_
    replace f := f.tr (q29_.2.mo (by decide) (by decide))
    obtain ⟨Q9, h0, h⟩ := h
    refine ⟨_, frX1_beginBody y30_ h0, ?_⟩
    intro S21 q32_ y33_ y34_
    replace h := h S21 q32_.1 y33_ y34_
    replace f := f.tr (q32_.2.mo (by decide) (by decide))
    intro S23 eS23 y35_ y36_
    replace h := h S23 eS23 y35_ y36_
    replace f := f.tr (show cfr [102, 103, 104, 213, 214, 301, 302, 304, 407, 408] [(41, 1), (41, 2), (41, 3), (41, 5), (41, 6), (41, 7), (41, 8), (41, 9), (44, 0), (44, 1), (44, 2), (44, 3), (44, 4), (44, 5), (44, 6), (44, 7), (47, 12), (47, 13), (47, 14)] S21 S23 by rw [eS23]; exact cfr.oI y35_ (by decide))
    obtain ⟨n9, h⟩ := h
    exact ⟨n9, fr_X1_firstFault_L60 n9 f h⟩
set_option maxRecDepth 100000 in
theorem fr_X2_unitOf_L41 {S0 : MS} {Q : Option Nat → MS → Prop} : ∀ (n : Nat) {U41 : MS} {v41_2 : Nat} {v41_3 : Int32}, cfr [6, 201, 218, 219, 220, 221, 222, 223, 224, 225, 226, 227, 231, 232, 233, 234, 235, 236, 237, 406] [(42, 1), (42, 2), (42, 3), (42, 4), (42, 5), (42, 6), (42, 8), (42, 9), (42, 10), (42, 11), (46, 0), (46, 1), (46, 2), (46, 3), (46, 5), (46, 6), (46, 7), (46, 8), (46, 12), (46, 13), (46, 14), (46, 15), (46, 16), (47, 0), (47, 1), (47, 2), (47, 3), (47, 4), (47, 5), (47, 6), (47, 7), (47, 8), (47, 9), (47, 10), (47, 11), (49, 0), (49, 1), (49, 2), (49, 3), (49, 4), (49, 5), (49, 6), (49, 7), (49, 8), (49, 9), (49, 10), (49, 11), (49, 12), (49, 13), (49, 14), (49, 16), (49, 17)] S0 U41 → w_X2_unitOf_L41 Q n U41 v41_2 v41_3 → w_X2_unitOf_L41 (fun r u => Q r u ∧ cfr [6, 201, 218, 219, 220, 221, 222, 223, 224, 225, 226, 227, 231, 232, 233, 234, 235, 236, 237, 406] [(42, 1), (42, 2), (42, 3), (42, 4), (42, 5), (42, 6), (42, 8), (42, 9), (42, 10), (42, 11), (46, 0), (46, 1), (46, 2), (46, 3), (46, 5), (46, 6), (46, 7), (46, 8), (46, 12), (46, 13), (46, 14), (46, 15), (46, 16), (47, 0), (47, 1), (47, 2), (47, 3), (47, 4), (47, 5), (47, 6), (47, 7), (47, 8), (47, 9), (47, 10), (47, 11), (49, 0), (49, 1), (49, 2), (49, 3), (49, 4), (49, 5), (49, 6), (49, 7), (49, 8), (49, 9), (49, 10), (49, 11), (49, 12), (49, 13), (49, 14), (49, 16), (49, 17)] S0 u) n U41 v41_2 v41_3 := by
  intro n
  induction n with
  | zero => intro U41 v41_2 v41_3 f h; unfold w_X2_unitOf_L41 at h; exact h.elim
  | succ n ih =>
    intro U41 v41_2 v41_3 f h
    unfold w_X2_unitOf_L41 at h ⊢
    intro y1_ y2_
    replace h := h y1_ y2_
    refine ⟨h.1, ?_⟩
    replace h := h.2
    refine ⟨fun c => ?_, fun c => ?_⟩
    · replace h := h.1 c
      exact ⟨h, f⟩
    · replace h := h.2 c
      refine ⟨h.1, ?_⟩
      replace h := h.2
      obtain ⟨Q9, h0, h⟩ := h
      refine ⟨_, frX2_rowOf y1_ h0, ?_⟩
      intro b38 S35 q3_ y4_ y5_ y6_
      replace h := h b38 S35 q3_.1 y4_ y5_ y6_
      replace f := f.tr (q3_.2.mo (by decide) (by decide))
      refine ⟨h.1, ?_⟩
      replace h := h.2
      intro S40 eS40 y7_ y8_
      replace h := h S40 eS40 y7_ y8_
      replace f := f.tr (show cfr [6, 201, 218, 219, 220, 221, 222, 223, 224, 225, 226, 227, 231, 232, 233, 234, 235, 236, 237, 406] [(42, 1), (42, 2), (42, 3), (42, 4), (42, 5), (42, 6), (42, 8), (42, 9), (42, 10), (42, 11), (46, 0), (46, 1), (46, 2), (46, 3), (46, 5), (46, 6), (46, 7), (46, 8), (46, 12), (46, 13), (46, 14), (46, 15), (46, 16), (47, 0), (47, 1), (47, 2), (47, 3), (47, 4), (47, 5), (47, 6), (47, 7), (47, 8), (47, 9), (47, 10), (47, 11), (49, 0), (49, 1), (49, 2), (49, 3), (49, 4), (49, 5), (49, 6), (49, 7), (49, 8), (49, 9), (49, 10), (49, 11), (49, 12), (49, 13), (49, 14), (49, 16), (49, 17)] S35 S40 by rw [eS40]; exact cfr.aR y7_ (by decide))
      refine ⟨h.1, ?_⟩
      replace h := h.2
      refine ⟨h.1, ?_⟩
      replace h := h.2
      refine ⟨h.1, ?_⟩
      replace h := h.2
      intro S47 eS47 y9_ y10_
      replace h := h S47 eS47 y9_ y10_
      replace f := f.tr (show cfr [6, 201, 218, 219, 220, 221, 222, 223, 224, 225, 226, 227, 231, 232, 233, 234, 235, 236, 237, 406] [(42, 1), (42, 2), (42, 3), (42, 4), (42, 5), (42, 6), (42, 8), (42, 9), (42, 10), (42, 11), (46, 0), (46, 1), (46, 2), (46, 3), (46, 5), (46, 6), (46, 7), (46, 8), (46, 12), (46, 13), (46, 14), (46, 15), (46, 16), (47, 0), (47, 1), (47, 2), (47, 3), (47, 4), (47, 5), (47, 6), (47, 7), (47, 8), (47, 9), (47, 10), (47, 11), (49, 0), (49, 1), (49, 2), (49, 3), (49, 4), (49, 5), (49, 6), (49, 7), (49, 8), (49, 9), (49, 10), (49, 11), (49, 12), (49, 13), (49, 14), (49, 16), (49, 17)] S40 S47 by rw [eS47]; exact cfr.oI y9_ (by decide))
      intro a48 ea48 
      replace h := h a48 ea48 
      exact ih f h
set_option maxRecDepth 100000 in
theorem frX2_unitOf {S : MS} {p1 : Nat} {Q : Option Nat → MS → Prop} (hw : wfC S) (h : wX2_unitOf S p1 Q) : wX2_unitOf S p1 (fun r u => Q r u ∧ cfr [6, 201, 218, 219, 220, 221, 222, 223, 224, 225, 226, 227, 231, 232, 233, 234, 235, 236, 237, 406] [(42, 1), (42, 2), (42, 3), (42, 4), (42, 5), (42, 6), (42, 8), (42, 9), (42, 10), (42, 11), (46, 0), (46, 1), (46, 2), (46, 3), (46, 5), (46, 6), (46, 7), (46, 8), (46, 12), (46, 13), (46, 14), (46, 15), (46, 16), (47, 0), (47, 1), (47, 2), (47, 3), (47, 4), (47, 5), (47, 6), (47, 7), (47, 8), (47, 9), (47, 10), (47, 11), (49, 0), (49, 1), (49, 2), (49, 3), (49, 4), (49, 5), (49, 6), (49, 7), (49, 8), (49, 9), (49, 10), (49, 11), (49, 12), (49, 13), (49, 14), (49, 16), (49, 17)] S u) := by
  have f : cfr [6, 201, 218, 219, 220, 221, 222, 223, 224, 225, 226, 227, 231, 232, 233, 234, 235, 236, 237, 406] [(42, 1), (42, 2), (42, 3), (42, 4), (42, 5), (42, 6), (42, 8), (42, 9), (42, 10), (42, 11), (46, 0), (46, 1), (46, 2), (46, 3), (46, 5), (46, 6), (46, 7), (46, 8), (46, 12), (46, 13), (46, 14), (46, 15), (46, 16), (47, 0), (47, 1), (47, 2), (47, 3), (47, 4), (47, 5), (47, 6), (47, 7), (47, 8), (47, 9), (47, 10), (47, 11), (49, 0), (49, 1), (49, 2), (49, 3), (49, 4), (49, 5), (49, 6), (49, 7), (49, 8), (49, 9), (49, 10), (49, 11), (49, 12), (49, 13), (49, 14), (49, 16), (49, 17)] S S := cfr.rf
  unfold wX2_unitOf at h ⊢
  intro y11_
  replace h := h y11_
  obtain ⟨Q9, h0, h⟩ := h
  refine ⟨_, frX7_isSound hw h0, ?_⟩
  intro r2 S3 q12_ y13_ y14_
  replace h := h r2 S3 q12_.1 y13_ y14_
  replace f := f.tr (q12_.2.mo (by decide) (by decide))
  refine ⟨fun c => ?_, fun c => ?_⟩
  · replace h := h.1 c
    exact ⟨h, f⟩
  · replace h := h.2 c
    obtain ⟨Q9, h0, h⟩ := h
    refine ⟨_, frX2_limitsHold y13_ h0, ?_⟩
    intro r7 S8 q15_ y16_ y17_
    replace h := h r7 S8 q15_.1 y16_ y17_
    replace f := f.tr (q15_.2.mo (by decide) (by decide))
    refine ⟨fun c => ?_, fun c => ?_⟩
    · replace h := h.1 c
      exact ⟨h, f⟩
    · replace h := h.2 c
      obtain ⟨Q9, h0, h⟩ := h
      refine ⟨_, frX2_instructionsHold y16_ h0, ?_⟩
      intro r12 S13 q18_ y19_ y20_
      replace h := h r12 S13 q18_.1 y19_ y20_
      replace f := f.tr (q18_.2.mo (by decide) (by decide))
      refine ⟨fun c => ?_, fun c => ?_⟩
      · replace h := h.1 c
        exact ⟨h, f⟩
      · replace h := h.2 c
        obtain ⟨Q9, h0, h⟩ := h
        refine ⟨_, frX2_pointersHold y19_ h0, ?_⟩
        intro r17 S18 q21_ y22_ y23_
        replace h := h r17 S18 q21_.1 y22_ y23_
        replace f := f.tr (q21_.2.mo (by decide) (by decide))
        refine ⟨fun c => ?_, fun c => ?_⟩
        · replace h := h.1 c
          exact ⟨h, f⟩
        · replace h := h.2 c
          obtain ⟨Q9, h0, h⟩ := h
          refine ⟨_, frX2_build y22_ h0, ?_⟩
          intro b26 S23 q24_ y25_ y26_ y27_
          replace h := h b26 S23 q24_.1 y25_ y26_ y27_
          replace f := f.tr (q24_.2.mo (by decide) (by decide))
          obtain ⟨n9, h⟩ := h
          exact ⟨n9, fr_X2_unitOf_L41 n9 f h⟩
