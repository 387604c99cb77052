set_option maxRecDepth 100000 in
theorem fr_X5_useStage_J190 {S0 : MS} {Q : MS → Prop} {U190 : MS} {v190_1 : Int32} (f : cfr [215, 216, 217, 402, 404, 405] [(45, 2), (45, 3), (45, 4), (45, 5), (45, 11), (45, 12), (45, 13), (45, 14), (45, 15), (45, 17), (45, 19)] S0 U190) (h : w_X5_useStage_J190 Q U190 v190_1) : w_X5_useStage_J190 (fun u => Q u ∧ cfr [215, 216, 217, 402, 404, 405] [(45, 2), (45, 3), (45, 4), (45, 5), (45, 11), (45, 12), (45, 13), (45, 14), (45, 15), (45, 17), (45, 19)] S0 u) U190 v190_1 := by
  unfold w_X5_useStage_J190 at h ⊢
  intro y1_
  replace h := h y1_
  obtain ⟨Q9, h0, h⟩ := h
  refine ⟨_, frX5_useElement y1_ h0, ?_⟩
  intro S9 q2_ y3_ y4_
  replace h := h S9 q2_.1 y3_ y4_
  replace f := f.tr (q2_.2.mo (by decide) (by decide))
  exact ⟨h, f⟩
set_option maxRecDepth 100000 in
theorem frX5_useStage {S : MS} {x1 : Int32} {Q : MS → Prop} (hw : wfC S) (h : wX5_useStage S x1 Q) : wX5_useStage S x1 (fun u => Q u ∧ cfr [215, 216, 217, 402, 404, 405] [(45, 2), (45, 3), (45, 4), (45, 5), (45, 11), (45, 12), (45, 13), (45, 14), (45, 15), (45, 17), (45, 19)] S u) := by
  have f : cfr [215, 216, 217, 402, 404, 405] [(45, 2), (45, 3), (45, 4), (45, 5), (45, 11), (45, 12), (45, 13), (45, 14), (45, 15), (45, 17), (45, 19)] S S := cfr.rf
  unfold wX5_useStage at h ⊢
  refine ⟨h.1, ?_⟩
  replace h := h.2
  refine ⟨h.1, ?_⟩
  replace h := h.2
  intro a6 ea6 
  replace h := h a6 ea6 
  intro a7 ea7 
  replace h := h a7 ea7 
  refine ⟨fun c => ?_, fun c => ?_⟩
  · replace h := h.1 c
    exact fr_X5_useStage_J190 f h
  · replace h := h.2 c
    refine ⟨fun c => ?_, fun c => ?_⟩
    · replace h := h.1 c
      exact fr_X5_useStage_J190 f h
    · replace h := h.2 c
      refine ⟨fun c => ?_, fun c => ?_⟩
      · replace h := h.1 c
        refine ⟨h.1, ?_⟩
        replace h := h.2
        refine ⟨h.1, ?_⟩
        replace h := h.2
        intro a16 ea16 
        replace h := h a16 ea16 
        refine ⟨h.1, ?_⟩
        replace h := h.2
        intro a20 ea20 
        replace h := h a20 ea20 
        obtain ⟨Q9, h0, h⟩ := h
        refine ⟨_, frX5_push_ hw h0, ?_⟩
        intro S22 q5_ y6_ y7_
        replace h := h S22 q5_.1 y6_ y7_
        replace f := f.tr (q5_.2.mo (by decide) (by decide))
        intro S25 eS25 y8_ y9_
        replace h := h S25 eS25 y8_ y9_
        replace f := f.tr (show cfr [215, 216, 217, 402, 404, 405] [(45, 2), (45, 3), (45, 4), (45, 5), (45, 11), (45, 12), (45, 13), (45, 14), (45, 15), (45, 17), (45, 19)] S22 S25 by rw [eS25]; exact cfr.oI y8_ (by decide))
        exact ⟨h, f⟩
      · replace h := h.2 c
        refine ⟨fun c => ?_, fun c => ?_⟩
        · replace h := h.1 c
          refine ⟨h.1, ?_⟩
          replace h := h.2
          refine ⟨h.1, ?_⟩
          replace h := h.2
          intro a31 ea31 
          replace h := h a31 ea31 
          obtain ⟨Q9, h0, h⟩ := h
          refine ⟨_, frX5_pop_ hw h0, ?_⟩
          intro r33 S34 q10_ y11_ y12_
          replace h := h r33 S34 q10_.1 y11_ y12_
          replace f := f.tr (q10_.2.mo (by decide) (by decide))
          obtain ⟨Q9, h0, h⟩ := h
          refine ⟨_, frX5_setField y11_ h0, ?_⟩
          intro S37 q13_ y14_ y15_
          replace h := h S37 q13_.1 y14_ y15_
          replace f := f.tr (q13_.2.mo (by decide) (by decide))
          intro S40 eS40 y16_ y17_
          replace h := h S40 eS40 y16_ y17_
          replace f := f.tr (show cfr [215, 216, 217, 402, 404, 405] [(45, 2), (45, 3), (45, 4), (45, 5), (45, 11), (45, 12), (45, 13), (45, 14), (45, 15), (45, 17), (45, 19)] S37 S40 by rw [eS40]; exact cfr.oI y16_ (by decide))
          exact ⟨h, f⟩
        · replace h := h.2 c
          refine ⟨fun c => ?_, fun c => ?_⟩
          · replace h := h.1 c
            obtain ⟨Q9, h0, h⟩ := h
            refine ⟨_, frX5_enter hw h0, ?_⟩
            intro S42 q18_ y19_ y20_
            replace h := h S42 q18_.1 y19_ y20_
            replace f := f.tr (q18_.2.mo (by decide) (by decide))
            exact ⟨h, f⟩
          · replace h := h.2 c
            refine ⟨fun c => ?_, fun c => ?_⟩
            · replace h := h.1 c
              obtain ⟨Q9, h0, h⟩ := h
              refine ⟨_, frX5_pop hw h0, ?_⟩
              intro r45 S46 q21_ y22_ y23_
              replace h := h r45 S46 q21_.1 y22_ y23_
              replace f := f.tr (q21_.2.mo (by decide) (by decide))
              obtain ⟨Q9, h0, h⟩ := h
              refine ⟨_, frX5_makeArray y22_ h0, ?_⟩
              intro S49 q24_ y25_ y26_
              replace h := h S49 q24_.1 y25_ y26_
              replace f := f.tr (q24_.2.mo (by decide) (by decide))
              exact ⟨h, f⟩
            · replace h := h.2 c
              refine ⟨fun c => ?_, fun c => ?_⟩
              · replace h := h.1 c
                obtain ⟨Q9, h0, h⟩ := h
                refine ⟨_, frX5_pop hw h0, ?_⟩
                intro r53 S54 q27_ y28_ y29_
                replace h := h r53 S54 q27_.1 y28_ y29_
                replace f := f.tr (q27_.2.mo (by decide) (by decide))
                obtain ⟨Q9, h0, h⟩ := h
                refine ⟨_, frX5_tellLength y28_ h0, ?_⟩
                intro S57 q30_ y31_ y32_
                replace h := h S57 q30_.1 y31_ y32_
                replace f := f.tr (q30_.2.mo (by decide) (by decide))
                exact ⟨h, f⟩
              · replace h := h.2 c
                refine ⟨fun c => ?_, fun c => ?_⟩
                · replace h := h.1 c
                  obtain ⟨Q9, h0, h⟩ := h
                  refine ⟨_, frX5_pop hw h0, ?_⟩
                  intro r60 S61 q33_ y34_ y35_
                  replace h := h r60 S61 q33_.1 y34_ y35_
                  replace f := f.tr (q33_.2.mo (by decide) (by decide))
                  obtain ⟨Q9, h0, h⟩ := h
                  refine ⟨_, frX5_throwIt y34_ h0, ?_⟩
                  intro S64 q36_ y37_ y38_
                  replace h := h S64 q36_.1 y37_ y38_
                  replace f := f.tr (q36_.2.mo (by decide) (by decide))
                  exact ⟨h, f⟩
                · replace h := h.2 c
                  intro S67 eS67 y39_ y40_
                  replace h := h S67 eS67 y39_ y40_
                  replace f := f.tr (show cfr [215, 216, 217, 402, 404, 405] [(45, 2), (45, 3), (45, 4), (45, 5), (45, 11), (45, 12), (45, 13), (45, 14), (45, 15), (45, 17), (45, 19)] S S67 by rw [eS67]; exact cfr.oI y39_ (by decide))
                  intro S69 eS69 y41_ y42_
                  replace h := h S69 eS69 y41_ y42_
                  replace f := f.tr (show cfr [215, 216, 217, 402, 404, 405] [(45, 2), (45, 3), (45, 4), (45, 5), (45, 11), (45, 12), (45, 13), (45, 14), (45, 15), (45, 17), (45, 19)] S67 S69 by rw [eS69]; exact cfr.oI y41_ (by decide))
                  exact ⟨h, f⟩
set_option maxRecDepth 100000 in
theorem fr_X9_goThrough_J98 {S0 : MS} {Q : Int32 → MS → Prop} {k10 k10' : MS → Int32 → Int32 → Int32 → Int32 → Int32 → Prop} {U98 : MS} {v98_1 : Int32} {v98_2 : Int32} {v98_3 : Int32} {v98_4 : Int32} {v98_5 : Int32} (hk10 : ∀ (u : MS) (z0) (z1) (z2) (z3) (z4), cfr [222, 223, 224, 225, 226, 227, 228, 229, 305, 406] [(47, 2), (47, 9)] S0 u → k10 u z0 z1 z2 z3 z4 → k10' u z0 z1 z2 z3 z4) (f : cfr [222, 223, 224, 225, 226, 227, 228, 229, 305, 406] [(47, 2), (47, 9)] S0 U98) (h : w_X9_goThrough_J98 Q k10 U98 v98_1 v98_2 v98_3 v98_4 v98_5) : w_X9_goThrough_J98 (fun r u => Q r u ∧ cfr [222, 223, 224, 225, 226, 227, 228, 229, 305, 406] [(47, 2), (47, 9)] S0 u) k10' U98 v98_1 v98_2 v98_3 v98_4 v98_5 := by
  unfold w_X9_goThrough_J98 at h ⊢
  intro y1_ y2_ y3_
  replace h := h y1_ y2_ y3_
  intro a8 ea8 
  replace h := h a8 ea8 
  exact hk10 _ _ _ _ _ _ f h
set_option maxRecDepth 100000 in
theorem fr_X9_goThrough_J68 {S0 : MS} {Q : Int32 → MS → Prop} {k10 k10' : MS → Int32 → Int32 → Int32 → Int32 → Int32 → Prop} {U68 : MS} {v68_1 : Int32} {v68_2 : Int32} {v68_4 : Int32} {v68_5 : Int32} (hk10 : ∀ (u : MS) (z0) (z1) (z2) (z3) (z4), cfr [222, 223, 224, 225, 226, 227, 228, 229, 305, 406] [(47, 2), (47, 9)] S0 u → k10 u z0 z1 z2 z3 z4 → k10' u z0 z1 z2 z3 z4) (f : cfr [222, 223, 224, 225, 226, 227, 228, 229, 305, 406] [(47, 2), (47, 9)] S0 U68) (h : w_X9_goThrough_J68 Q k10 U68 v68_1 v68_2 v68_4 v68_5) : w_X9_goThrough_J68 (fun r u => Q r u ∧ cfr [222, 223, 224, 225, 226, 227, 228, 229, 305, 406] [(47, 2), (47, 9)] S0 u) k10' U68 v68_1 v68_2 v68_4 v68_5 := by
  unfold w_X9_goThrough_J68 at h ⊢
  intro y4_ y5_
  replace h := h y4_ y5_
  obtain ⟨Q9, h0, h⟩ := h
  refine ⟨_, frX9_isDone y4_ h0, ?_⟩
  intro r5 S6 q6_ y7_ y8_
  replace h := h r5 S6 q6_.1 y7_ y8_
  replace f := f.tr (q6_.2.mo (by decide) (by decide))
  refine ⟨fun c => ?_, fun c => ?_⟩
  · replace h := h.1 c
    intro a10 ea10 
    replace h := h a10 ea10 
    exact fr_X9_goThrough_J98 hk10 f h
  · replace h := h.2 c
    refine ⟨h.1, ?_⟩
    replace h := h.2
    refine ⟨h.1, ?_⟩
    replace h := h.2
    intro S15 eS15 y9_ y10_
    replace h := h S15 eS15 y9_ y10_
    replace f := f.tr (show cfr [222, 223, 224, 225, 226, 227, 228, 229, 305, 406] [(47, 2), (47, 9)] S6 S15 by rw [eS15]; exact cfr.aI y9_ (by decide))
    exact fr_X9_goThrough_J98 hk10 f h
set_option maxRecDepth 100000 in
theorem fr_X9_goThrough_J49 {S0 : MS} {Q : Int32 → MS → Prop} {k10 k10' : MS → Int32 → Int32 → Int32 → Int32 → Int32 → Prop} {U49 : MS} {v49_1 : Int32} {v49_2 : Int32} {v49_3 : Int32} {v49_4 : Int32} {v49_5 : Int32} (hk10 : ∀ (u : MS) (z0) (z1) (z2) (z3) (z4), cfr [222, 223, 224, 225, 226, 227, 228, 229, 305, 406] [(47, 2), (47, 9)] S0 u → k10 u z0 z1 z2 z3 z4 → k10' u z0 z1 z2 z3 z4) (f : cfr [222, 223, 224, 225, 226, 227, 228, 229, 305, 406] [(47, 2), (47, 9)] S0 U49) (h : w_X9_goThrough_J49 Q k10 U49 v49_1 v49_2 v49_3 v49_4 v49_5) : w_X9_goThrough_J49 (fun r u => Q r u ∧ cfr [222, 223, 224, 225, 226, 227, 228, 229, 305, 406] [(47, 2), (47, 9)] S0 u) k10' U49 v49_1 v49_2 v49_3 v49_4 v49_5 := by
  unfold w_X9_goThrough_J49 at h ⊢
  intro y11_ y12_ y13_
  replace h := h y11_ y12_ y13_
  refine ⟨fun c => ?_, fun c => ?_⟩
  · replace h := h.1 c
    exact fr_X9_goThrough_J68 hk10 f h
  · replace h := h.2 c
    refine ⟨fun c => ?_, fun c => ?_⟩
    · replace h := h.1 c
      exact fr_X9_goThrough_J68 hk10 f h
    · replace h := h.2 c
      refine ⟨fun c => ?_, fun c => ?_⟩
      · replace h := h.1 c
        exact fr_X9_goThrough_J68 hk10 f h
      · replace h := h.2 c
        obtain ⟨Q9, h0, h⟩ := h
        refine ⟨_, frX9_findMarked y11_ h0, ?_⟩
        intro S20 q14_ y15_ y16_
        replace h := h S20 q14_.1 y15_ y16_
        replace f := f.tr (q14_.2.mo (by decide) (by decide))
        exact fr_X9_goThrough_J68 hk10 f h
set_option maxRecDepth 100000 in
theorem fr_X9_goThrough_J45 {S0 : MS} {Q : Int32 → MS → Prop} {k10 k10' : MS → Int32 → Int32 → Int32 → Int32 → Int32 → Prop} {U45 : MS} {v45_1 : Int32} {v45_2 : Int32} {v45_3 : Int32} {v45_4 : Int32} {v45_5 : Int32} (hk10 : ∀ (u : MS) (z0) (z1) (z2) (z3) (z4), cfr [222, 223, 224, 225, 226, 227, 228, 229, 305, 406] [(47, 2), (47, 9)] S0 u → k10 u z0 z1 z2 z3 z4 → k10' u z0 z1 z2 z3 z4) (f : cfr [222, 223, 224, 225, 226, 227, 228, 229, 305, 406] [(47, 2), (47, 9)] S0 U45) (h : w_X9_goThrough_J45 Q k10 U45 v45_1 v45_2 v45_3 v45_4 v45_5) : w_X9_goThrough_J45 (fun r u => Q r u ∧ cfr [222, 223, 224, 225, 226, 227, 228, 229, 305, 406] [(47, 2), (47, 9)] S0 u) k10' U45 v45_1 v45_2 v45_3 v45_4 v45_5 := by
  unfold w_X9_goThrough_J45 at h ⊢
  intro y17_ y18_ y19_
  replace h := h y17_ y18_ y19_
  obtain ⟨Q9, h0, h⟩ := h
  refine ⟨_, frX9_findLive y17_ h0, ?_⟩
  intro S24 q20_ y21_ y22_
  replace h := h S24 q20_.1 y21_ y22_
  replace f := f.tr (q20_.2.mo (by decide) (by decide))
  exact fr_X9_goThrough_J49 hk10 f h
set_option maxRecDepth 100000 in
theorem fr_X9_goThrough_L10 {S0 : MS} {Q : Int32 → MS → Prop} : ∀ (n : Nat) {U10 : MS} {v10_1 : Int32} {v10_2 : Int32} {v10_3 : Int32} {v10_4 : Int32} {v10_5 : Int32}, cfr [222, 223, 224, 225, 226, 227, 228, 229, 305, 406] [(47, 2), (47, 9)] S0 U10 → w_X9_goThrough_L10 Q n U10 v10_1 v10_2 v10_3 v10_4 v10_5 → w_X9_goThrough_L10 (fun r u => Q r u ∧ cfr [222, 223, 224, 225, 226, 227, 228, 229, 305, 406] [(47, 2), (47, 9)] S0 u) n U10 v10_1 v10_2 v10_3 v10_4 v10_5 := by
  intro n
  induction n with
  | zero => intro U10 v10_1 v10_2 v10_3 v10_4 v10_5 f h; unfold w_X9_goThrough_L10 at h; exact h.elim
  | succ n ih =>
    intro U10 v10_1 v10_2 v10_3 v10_4 v10_5 f h
    unfold w_X9_goThrough_L10 at h ⊢
    intro y23_ y24_ y25_
    replace h := h y23_ y24_ y25_
    refine ⟨fun c => ?_, fun c => ?_⟩
    · replace h := h.1 c
      exact ⟨h, f⟩
    · replace h := h.2 c
      refine ⟨fun c => ?_, fun c => ?_⟩
      · replace h := h.1 c
        exact ⟨h, f⟩
      · replace h := h.2 c
        refine ⟨fun c => ?_, fun c => ?_⟩
        · replace h := h.1 c
          exact fr_X9_goThrough_J49 (fun _ _ _ _ _ _ f h => ih f h) f h
        · replace h := h.2 c
          refine ⟨fun c => ?_, fun c => ?_⟩
          · replace h := h.1 c
            exact fr_X9_goThrough_J45 (fun _ _ _ _ _ _ f h => ih f h) f h
          · replace h := h.2 c
            refine ⟨fun c => ?_, fun c => ?_⟩
            · replace h := h.1 c
              exact fr_X9_goThrough_J45 (fun _ _ _ _ _ _ f h => ih f h) f h
            · replace h := h.2 c
              exact fr_X9_goThrough_J49 (fun _ _ _ _ _ _ f h => ih f h) f h
set_option maxRecDepth 100000 in
theorem frX9_goThrough {S : MS} {x1 : Int32} {Q : Int32 → MS → Prop} (hw : wfC S) (h : wX9_goThrough S x1 Q) : wX9_goThrough S x1 (fun r u => Q r u ∧ cfr [222, 223, 224, 225, 226, 227, 228, 229, 305, 406] [(47, 2), (47, 9)] S u) := by
  have f : cfr [222, 223, 224, 225, 226, 227, 228, 229, 305, 406] [(47, 2), (47, 9)] S S := cfr.rf
  unfold wX9_goThrough at h ⊢
  obtain ⟨n9, h⟩ := h
  exact ⟨n9, fr_X9_goThrough_L10 n9 f h⟩
set_option maxRecDepth 100000 in
theorem frX12_file {S : MS} {Q : Int32 → MS → Prop} (hw : wfC S) (h : wX12_file S Q) : wX12_file S (fun r u => Q r u ∧ cfr [5, 6, 201, 218, 219, 220, 221, 222, 223, 224, 225, 226, 227, 231, 232, 233, 234, 235, 236, 237, 406] [(40, 1), (42, 1), (42, 2), (42, 3), (42, 4), (42, 5), (42, 6), (42, 8), (42, 9), (42, 10), (42, 11), (46, 0), (46, 1), (46, 2), (46, 3), (46, 5), (46, 6), (46, 7), (46, 8), (46, 12), (46, 13), (46, 14), (46, 15), (46, 16), (47, 0), (47, 1), (47, 2), (47, 3), (47, 4), (47, 5), (47, 6), (47, 7), (47, 8), (47, 9), (47, 10), (47, 11), (49, 0), (49, 1), (49, 2), (49, 3), (49, 4), (49, 5), (49, 6), (49, 7), (49, 8), (49, 9), (49, 10), (49, 11), (49, 12), (49, 13), (49, 14), (49, 16), (49, 17), (51, 11), (51, 13), (51, 14)] S u) := by
  have f : cfr [5, 6, 201, 218, 219, 220, 221, 222, 223, 224, 225, 226, 227, 231, 232, 233, 234, 235, 236, 237, 406] [(40, 1), (42, 1), (42, 2), (42, 3), (42, 4), (42, 5), (42, 6), (42, 8), (42, 9), (42, 10), (42, 11), (46, 0), (46, 1), (46, 2), (46, 3), (46, 5), (46, 6), (46, 7), (46, 8), (46, 12), (46, 13), (46, 14), (46, 15), (46, 16), (47, 0), (47, 1), (47, 2), (47, 3), (47, 4), (47, 5), (47, 6), (47, 7), (47, 8), (47, 9), (47, 10), (47, 11), (49, 0), (49, 1), (49, 2), (49, 3), (49, 4), (49, 5), (49, 6), (49, 7), (49, 8), (49, 9), (49, 10), (49, 11), (49, 12), (49, 13), (49, 14), (49, 16), (49, 17), (51, 11), (51, 13), (51, 14)] S S := cfr.rf
  unfold wX12_file at h ⊢
  refine ⟨fun c => ?_, fun c => ?_⟩
  · replace h := h.1 c
    intro y1_
    replace h := h y1_
    obtain ⟨Q9, h0, h⟩ := h
    refine ⟨_, frX2_unitOf hw h0, ?_⟩
    intro b7 S4 q2_ y3_ y4_ y5_
    replace h := h b7 S4 q2_.1 y3_ y4_ y5_
    replace f := f.tr (q2_.2.mo (by decide) (by decide))
    refine ⟨fun c => ?_, fun c => ?_⟩
    · replace h := h.1 c
      intro S9 eS9 y6_ y7_
      replace h := h S9 eS9 y6_ y7_
      replace f := f.tr (show cfr [5, 6, 201, 218, 219, 220, 221, 222, 223, 224, 225, 226, 227, 231, 232, 233, 234, 235, 236, 237, 406] [(40, 1), (42, 1), (42, 2), (42, 3), (42, 4), (42, 5), (42, 6), (42, 8), (42, 9), (42, 10), (42, 11), (46, 0), (46, 1), (46, 2), (46, 3), (46, 5), (46, 6), (46, 7), (46, 8), (46, 12), (46, 13), (46, 14), (46, 15), (46, 16), (47, 0), (47, 1), (47, 2), (47, 3), (47, 4), (47, 5), (47, 6), (47, 7), (47, 8), (47, 9), (47, 10), (47, 11), (49, 0), (49, 1), (49, 2), (49, 3), (49, 4), (49, 5), (49, 6), (49, 7), (49, 8), (49, 9), (49, 10), (49, 11), (49, 12), (49, 13), (49, 14), (49, 16), (49, 17), (51, 11), (51, 13), (51, 14)] S4 S9 by rw [eS9]; exact cfr.oI y6_ (by decide))
      intro S10 eS10 y8_ y9_
      replace h := h S10 eS10 y8_ y9_
      replace f := f.tr (show cfr [5, 6, 201, 218, 219, 220, 221, 222, 223, 224, 225, 226, 227, 231, 232, 233, 234, 235, 236, 237, 406] [(40, 1), (42, 1), (42, 2), (42, 3), (42, 4), (42, 5), (42, 6), (42, 8), (42, 9), (42, 10), (42, 11), (46, 0), (46, 1), (46, 2), (46, 3), (46, 5), (46, 6), (46, 7), (46, 8), (46, 12), (46, 13), (46, 14), (46, 15), (46, 16), (47, 0), (47, 1), (47, 2), (47, 3), (47, 4), (47, 5), (47, 6), (47, 7), (47, 8), (47, 9), (47, 10), (47, 11), (49, 0), (49, 1), (49, 2), (49, 3), (49, 4), (49, 5), (49, 6), (49, 7), (49, 8), (49, 9), (49, 10), (49, 11), (49, 12), (49, 13), (49, 14), (49, 16), (49, 17), (51, 11), (51, 13), (51, 14)] S9 S10 by rw [eS10]; exact cfr.oI y8_ (by decide))
      intro S11 eS11 y10_ y11_
      replace h := h S11 eS11 y10_ y11_
      replace f := f.tr (show cfr [5, 6, 201, 218, 219, 220, 221, 222, 223, 224, 225, 226, 227, 231, 232, 233, 234, 235, 236, 237, 406] [(40, 1), (42, 1), (42, 2), (42, 3), (42, 4), (42, 5), (42, 6), (42, 8), (42, 9), (42, 10), (42, 11), (46, 0), (46, 1), (46, 2), (46, 3), (46, 5), (46, 6), (46, 7), (46, 8), (46, 12), (46, 13), (46, 14), (46, 15), (46, 16), (47, 0), (47, 1), (47, 2), (47, 3), (47, 4), (47, 5), (47, 6), (47, 7), (47, 8), (47, 9), (47, 10), (47, 11), (49, 0), (49, 1), (49, 2), (49, 3), (49, 4), (49, 5), (49, 6), (49, 7), (49, 8), (49, 9), (49, 10), (49, 11), (49, 12), (49, 13), (49, 14), (49, 16), (49, 17), (51, 11), (51, 13), (51, 14)] S10 S11 by rw [eS11]; exact cfr.oI y10_ (by decide))
      obtain ⟨Q9, h0, h⟩ := h
      refine ⟨_, frX12_keep y11_ h0, ?_⟩
      intro r13 S14 q12_ y13_ y14_
      replace h := h r13 S14 q12_.1 y13_ y14_
      replace f := f.tr (q12_.2.mo (by decide) (by decide))
      exact ⟨h, f⟩
    · replace h := h.2 c
      intro S16 eS16 y15_ y16_
      replace h := h S16 eS16 y15_ y16_
      replace f := f.tr (show cfr [5, 6, 201, 218, 219, 220, 221, 222, 223, 224, 225, 226, 227, 231, 232, 233, 234, 235, 236, 237, 406] [(40, 1), (42, 1), (42, 2), (42, 3), (42, 4), (42, 5), (42, 6), (42, 8), (42, 9), (42, 10), (42, 11), (46, 0), (46, 1), (46, 2), (46, 3), (46, 5), (46, 6), (46, 7), (46, 8), (46, 12), (46, 13), (46, 14), (46, 15), (46, 16), (47, 0), (47, 1), (47, 2), (47, 3), (47, 4), (47, 5), (47, 6), (47, 7), (47, 8), (47, 9), (47, 10), (47, 11), (49, 0), (49, 1), (49, 2), (49, 3), (49, 4), (49, 5), (49, 6), (49, 7), (49, 8), (49, 9), (49, 10), (49, 11), (49, 12), (49, 13), (49, 14), (49, 16), (49, 17), (51, 11), (51, 13), (51, 14)] S4 S16 by rw [eS16]; exact cfr.oI y15_ (by decide))
      intro S17 eS17 y17_ y18_
      replace h := h S17 eS17 y17_ y18_
      replace f := f.tr (show cfr [5, 6, 201, 218, 219, 220, 221, 222, 223, 224, 225, 226, 227, 231, 232, 233, 234, 235, 236, 237, 406] [(40, 1), (42, 1), (42, 2), (42, 3), (42, 4), (42, 5), (42, 6), (42, 8), (42, 9), (42, 10), (42, 11), (46, 0), (46, 1), (46, 2), (46, 3), (46, 5), (46, 6), (46, 7), (46, 8), (46, 12), (46, 13), (46, 14), (46, 15), (46, 16), (47, 0), (47, 1), (47, 2), (47, 3), (47, 4), (47, 5), (47, 6), (47, 7), (47, 8), (47, 9), (47, 10), (47, 11), (49, 0), (49, 1), (49, 2), (49, 3), (49, 4), (49, 5), (49, 6), (49, 7), (49, 8), (49, 9), (49, 10), (49, 11), (49, 12), (49, 13), (49, 14), (49, 16), (49, 17), (51, 11), (51, 13), (51, 14)] S16 S17 by rw [eS17]; exact cfr.oI y17_ (by decide))
      intro S18 eS18 y19_ y20_
      replace h := h S18 eS18 y19_ y20_
      replace f := f.tr (show cfr [5, 6, 201, 218, 219, 220, 221, 222, 223, 224, 225, 226, 227, 231, 232, 233, 234, 235, 236, 237, 406] [(40, 1), (42, 1), (42, 2), (42, 3), (42, 4), (42, 5), (42, 6), (42, 8), (42, 9), (42, 10), (42, 11), (46, 0), (46, 1), (46, 2), (46, 3), (46, 5), (46, 6), (46, 7), (46, 8), (46, 12), (46, 13), (46, 14), (46, 15), (46, 16), (47, 0), (47, 1), (47, 2), (47, 3), (47, 4), (47, 5), (47, 6), (47, 7), (47, 8), (47, 9), (47, 10), (47, 11), (49, 0), (49, 1), (49, 2), (49, 3), (49, 4), (49, 5), (49, 6), (49, 7), (49, 8), (49, 9), (49, 10), (49, 11), (49, 12), (49, 13), (49, 14), (49, 16), (49, 17), (51, 11), (51, 13), (51, 14)] S17 S18 by rw [eS18]; exact cfr.oI y19_ (by decide))
      obtain ⟨Q9, h0, h⟩ := h
      refine ⟨_, frX12_keep y20_ h0, ?_⟩
      intro r20 S21 q21_ y22_ y23_
      replace h := h r20 S21 q21_.1 y22_ y23_
      replace f := f.tr (q21_.2.mo (by decide) (by decide))
      exact ⟨h, f⟩
  · replace h := h.2 c
    exact ⟨h, f⟩
set_option maxRecDepth 100000 in
theorem fr_X12_verify_J85 {S0 : MS} {Q : Int32 → MS → Prop} {U85 : MS} {v85_2 : Nat} (f : cfr [102, 103, 104, 213, 214, 301, 302, 304, 407, 408] [(41, 1), (41, 2), (41, 3), (41, 5), (41, 6), (41, 7), (41, 8), (41, 9), (44, 0), (44, 1), (44, 2), (44, 3), (44, 4), (44, 5), (44, 6), (44, 7), (47, 12), (47, 13), (47, 14), (49, 15), (49, 16), (49, 17), (51, 15), (51, 16)] S0 U85) (h : w_X12_verify_J85 Q U85 v85_2) : w_X12_verify_J85 (fun r u => Q r u ∧ cfr [102, 103, 104, 213, 214, 301, 302, 304, 407, 408] [(41, 1), (41, 2), (41, 3), (41, 5), (41, 6), (41, 7), (41, 8), (41, 9), (44, 0), (44, 1), (44, 2), (44, 3), (44, 4), (44, 5), (44, 6), (44, 7), (47, 12), (47, 13), (47, 14), (49, 15), (49, 16), (49, 17), (51, 15), (51, 16)] S0 u) U85 v85_2 := by
  unfold w_X12_verify_J85 at h ⊢
  intro y1_ y2_
  replace h := h y1_ y2_
  intro S10 eS10 y3_ y4_
  replace h := h S10 eS10 y3_ y4_
  replace f := f.tr (show cfr [102, 103, 104, 213, 214, 301, 302, 304, 407, 408] [(41, 1), (41, 2), (41, 3), (41, 5), (41, 6), (41, 7), (41, 8), (41, 9), (44, 0), (44, 1), (44, 2), (44, 3), (44, 4), (44, 5), (44, 6), (44, 7), (47, 12), (47, 13), (47, 14), (49, 15), (49, 16), (49, 17), (51, 15), (51, 16)] U85 S10 by rw [eS10]; exact cfr.oI y3_ (by decide))
  intro S11 eS11 y5_ y6_
  replace h := h S11 eS11 y5_ y6_
  replace f := f.tr (show cfr [102, 103, 104, 213, 214, 301, 302, 304, 407, 408] [(41, 1), (41, 2), (41, 3), (41, 5), (41, 6), (41, 7), (41, 8), (41, 9), (44, 0), (44, 1), (44, 2), (44, 3), (44, 4), (44, 5), (44, 6), (44, 7), (47, 12), (47, 13), (47, 14), (49, 15), (49, 16), (49, 17), (51, 15), (51, 16)] S10 S11 by rw [eS11]; exact cfr.oI y5_ (by decide))
  intro S12 eS12 y7_ y8_
  replace h := h S12 eS12 y7_ y8_
  replace f := f.tr (show cfr [102, 103, 104, 213, 214, 301, 302, 304, 407, 408] [(41, 1), (41, 2), (41, 3), (41, 5), (41, 6), (41, 7), (41, 8), (41, 9), (44, 0), (44, 1), (44, 2), (44, 3), (44, 4), (44, 5), (44, 6), (44, 7), (47, 12), (47, 13), (47, 14), (49, 15), (49, 16), (49, 17), (51, 15), (51, 16)] S11 S12 by rw [eS12]; exact cfr.oI y7_ (by decide))
  refine ⟨fun c => ?_, fun c => ?_⟩
  · replace h := h.1 c
    exact ⟨h, f⟩
  · replace h := h.2 c
    exact ⟨h, f⟩
set_option maxRecDepth 100000 in
theorem fr_X12_verify_J76 {S0 : MS} {Q : Int32 → MS → Prop} {k24 k24' : MS → Nat → Int32 → Prop} {U76 : MS} {t76_0 : Int32} {t76_1 : Nat} {v76_2 : Nat} {v76_3 : Int32} (hk24 : ∀ (u : MS) (z0) (z1), cfr [102, 103, 104, 213, 214, 301, 302, 304, 407, 408] [(41, 1), (41, 2), (41, 3), (41, 5), (41, 6), (41, 7), (41, 8), (41, 9), (44, 0), (44, 1), (44, 2), (44, 3), (44, 4), (44, 5), (44, 6), (44, 7), (47, 12), (47, 13), (47, 14), (49, 15), (49, 16), (49, 17), (51, 15), (51, 16)] S0 u → k24 u z0 z1 → k24' u z0 z1) (f : cfr [102, 103, 104, 213, 214, 301, 302, 304, 407, 408] [(41, 1), (41, 2), (41, 3), (41, 5), (41, 6), (41, 7), (41, 8), (41, 9), (44, 0), (44, 1), (44, 2), (44, 3), (44, 4), (44, 5), (44, 6), (44, 7), (47, 12), (47, 13), (47, 14), (49, 15), (49, 16), (49, 17), (51, 15), (51, 16)] S0 U76) (h : w_X12_verify_J76 Q k24 U76 t76_0 t76_1 v76_2 v76_3) : w_X12_verify_J76 (fun r u => Q r u ∧ cfr [102, 103, 104, 213, 214, 301, 302, 304, 407, 408] [(41, 1), (41, 2), (41, 3), (41, 5), (41, 6), (41, 7), (41, 8), (41, 9), (44, 0), (44, 1), (44, 2), (44, 3), (44, 4), (44, 5), (44, 6), (44, 7), (47, 12), (47, 13), (47, 14), (49, 15), (49, 16), (49, 17), (51, 15), (51, 16)] S0 u) k24' U76 t76_0 t76_1 v76_2 v76_3 := by
  unfold w_X12_verify_J76 at h ⊢
  intro y9_ y10_ y11_
  replace h := h y9_ y10_ y11_
  intro S28 eS28 y12_ y13_
  replace h := h S28 eS28 y12_ y13_
  replace f := f.tr (show cfr [102, 103, 104, 213, 214, 301, 302, 304, 407, 408] [(41, 1), (41, 2), (41, 3), (41, 5), (41, 6), (41, 7), (41, 8), (41, 9), (44, 0), (44, 1), (44, 2), (44, 3), (44, 4), (44, 5), (44, 6), (44, 7), (47, 12), (47, 13), (47, 14), (49, 15), (49, 16), (49, 17), (51, 15), (51, 16)] U76 S28 by rw [eS28]; exact cfr.oI y12_ (by decide))
  intro a29 ea29 
  replace h := h a29 ea29 
  exact hk24 _ _ _ f h
set_option maxRecDepth 100000 in
theorem fr_X12_verify_L24 {S0 : MS} {Q : Int32 → MS → Prop} : ∀ (n : Nat) {U24 : MS} {v24_2 : Nat} {v24_3 : Int32}, cfr [102, 103, 104, 213, 214, 301, 302, 304, 407, 408] [(41, 1), (41, 2), (41, 3), (41, 5), (41, 6), (41, 7), (41, 8), (41, 9), (44, 0), (44, 1), (44, 2), (44, 3), (44, 4), (44, 5), (44, 6), (44, 7), (47, 12), (47, 13), (47, 14), (49, 15), (49, 16), (49, 17), (51, 15), (51, 16)] S0 U24 → w_X12_verify_L24 Q n U24 v24_2 v24_3 → w_X12_verify_L24 (fun r u => Q r u ∧ cfr [102, 103, 104, 213, 214, 301, 302, 304, 407, 408] [(41, 1), (41, 2), (41, 3), (41, 5), (41, 6), (41, 7), (41, 8), (41, 9), (44, 0), (44, 1), (44, 2), (44, 3), (44, 4), (44, 5), (44, 6), (44, 7), (47, 12), (47, 13), (47, 14), (49, 15), (49, 16), (49, 17), (51, 15), (51, 16)] S0 u) n U24 v24_2 v24_3 := by
  intro n
  induction n with
  | zero => intro U24 v24_2 v24_3 f h; unfold w_X12_verify_L24 at h; exact h.elim
  | succ n ih =>
    intro U24 v24_2 v24_3 f h
    unfold w_X12_verify_L24 at h ⊢
    intro y14_ y15_
    replace h := h y14_ y15_
    refine ⟨fun c => ?_, fun c => ?_⟩
    · replace h := h.1 c
      refine ⟨fun c => ?_, fun c => ?_⟩
      · replace h := h.1 c
        exact fr_X12_verify_J85 f h
      · replace h := h.2 c
        refine ⟨fun c => ?_, fun c => ?_⟩
        · replace h := h.1 c
          exact fr_X12_verify_J85 f h
        · replace h := h.2 c
          intro y16_
          replace h := h y16_
          obtain ⟨Q9, h0, h⟩ := h
          refine ⟨_, frX10_rowAt y14_ h0, ?_⟩
          intro b21 S19 q17_ y18_ y19_ y20_
          replace h := h b21 S19 q17_.1 y18_ y19_ y20_
          replace f := f.tr (q17_.2.mo (by decide) (by decide))
          intro y21_
          replace h := h y21_
          obtain ⟨Q9, h0, h⟩ := h
          refine ⟨_, frX1_firstFault y18_ h0, ?_⟩
          intro r23 S24 q22_ y23_ y24_
          replace h := h r23 S24 q22_.1 y23_ y24_
          replace f := f.tr (q22_.2.mo (by decide) (by decide))
          intro S27 eS27 y25_ y26_
          replace h := h S27 eS27 y25_ y26_
          replace f := f.tr (show cfr [102, 103, 104, 213, 214, 301, 302, 304, 407, 408] [(41, 1), (41, 2), (41, 3), (41, 5), (41, 6), (41, 7), (41, 8), (41, 9), (44, 0), (44, 1), (44, 2), (44, 3), (44, 4), (44, 5), (44, 6), (44, 7), (47, 12), (47, 13), (47, 14), (49, 15), (49, 16), (49, 17), (51, 15), (51, 16)] S24 S27 by rw [eS27]; exact cfr.oI y25_ (by decide))
          refine ⟨fun c => ?_, fun c => ?_⟩
          · replace h := h.1 c
            exact fr_X12_verify_J76 (fun _ _ _ f h => ih f h) f h
          · replace h := h.2 c
            exact fr_X12_verify_J76 (fun _ _ _ f h => ih f h) f h
    · replace h := h.2 c
      exact fr_X12_verify_J85 f h
set_option maxRecDepth 100000 in
theorem frX12_verify {S : MS} {x1 : Int32} {Q : Int32 → MS → Prop} (hw : wfC S) (h : wX12_verify S x1 Q) : wX12_verify S x1 (fun r u => Q r u ∧ cfr [102, 103, 104, 213, 214, 301, 302, 304, 407, 408] [(41, 1), (41, 2), (41, 3), (41, 5), (41, 6), (41, 7), (41, 8), (41, 9), (44, 0), (44, 1), (44, 2), (44, 3), (44, 4), (44, 5), (44, 6), (44, 7), (47, 12), (47, 13), (47, 14), (49, 15), (49, 16), (49, 17), (51, 15), (51, 16)] S u) := by
  have f : cfr [102, 103, 104, 213, 214, 301, 302, 304, 407, 408] [(41, 1), (41, 2), (41, 3), (41, 5), (41, 6), (41, 7), (41, 8), (41, 9), (44, 0), (44, 1), (44, 2), (44, 3), (44, 4), (44, 5), (44, 6), (44, 7), (47, 12), (47, 13), (47, 14), (49, 15), (49, 16), (49, 17), (51, 15), (51, 16)] S S := cfr.rf
  unfold wX12_verify at h ⊢
  intro S1 eS1 y27_ y28_
  replace h := h S1 eS1 y27_ y28_
  replace f := f.tr (show cfr [102, 103, 104, 213, 214, 301, 302, 304, 407, 408] [(41, 1), (41, 2), (41, 3), (41, 5), (41, 6), (41, 7), (41, 8), (41, 9), (44, 0), (44, 1), (44, 2), (44, 3), (44, 4), (44, 5), (44, 6), (44, 7), (47, 12), (47, 13), (47, 14), (49, 15), (49, 16), (49, 17), (51, 15), (51, 16)] S S1 by rw [eS1]; exact cfr.oI y27_ (by decide))
  intro S2 eS2 y29_ y30_
  replace h := h S2 eS2 y29_ y30_
  replace f := f.tr (show cfr [102, 103, 104, 213, 214, 301, 302, 304, 407, 408] [(41, 1), (41, 2), (41, 3), (41, 5), (41, 6), (41, 7), (41, 8), (41, 9), (44, 0), (44, 1), (44, 2), (44, 3), (44, 4), (44, 5), (44, 6), (44, 7), (47, 12), (47, 13), (47, 14), (49, 15), (49, 16), (49, 17), (51, 15), (51, 16)] S1 S2 by rw [eS2]; exact cfr.oI y29_ (by decide))
  obtain ⟨Q9, h0, h⟩ := h
  refine ⟨_, frX12_unitAt y30_ h0, ?_⟩
  intro b7 S5 q31_ y32_ y33_ y34_
  replace h := h b7 S5 q31_.1 y32_ y33_ y34_
  replace f := f.tr (q31_.2.mo (by decide) (by decide))
  refine ⟨fun c => ?_, fun c => ?_⟩
  · replace h := h.1 c
    exact ⟨h, f⟩
  · replace h := h.2 c
    obtain ⟨n9, h⟩ := h
    exact ⟨n9, fr_X12_verify_L24 n9 f h⟩
set_option maxRecDepth 100000 in
theorem fr_X12_count_L81 {S0 : MS} {Q : Int32 → MS → Prop} : ∀ (n : Nat) {U81 : MS} {v81_2 : Nat} {v81_4 : Int32} {v81_5 : Int32}, cfr [5, 6, 101, 201, 202, 203, 204, 205, 206, 207, 208, 209, 210, 211, 212, 213, 214, 218, 219, 220, 221, 222, 223, 224, 225, 226, 227, 230, 231, 232, 233, 234, 235, 236, 237, 238, 239, 240, 241, 242, 243, 244, 245, 303, 304, 401, 406] [(40, 0), (40, 1), (42, 1), (42, 2), (42, 3), (42, 4), (42, 5), (42, 6), (42, 8), (42, 9), (42, 10), (42, 11), (43, 0), (43, 1), (43, 2), (43, 3), (43, 4), (43, 5), (43, 6), (43, 7), (43, 8), (43, 9), (43, 10), (43, 11), (43, 12), (43, 13), (43, 14), (43, 15), (44, 0), (44, 1), (44, 2), (44, 3), (44, 4), (44, 5), (44, 6), (44, 7), (46, 0), (46, 1), (46, 2), (46, 3), (46, 5), (46, 6), (46, 7), (46, 8), (46, 12), (46, 13), (46, 14), (46, 15), (46, 16), (47, 0), (47, 1), (47, 2), (47, 3), (47, 4), (47, 5), (47, 6), (47, 7), (47, 8), (47, 9), (47, 10), (47, 11), (48, 0), (48, 2), (48, 3), (48, 4), (48, 5), (49, 0), (49, 1), (49, 2), (49, 3), (49, 4), (49, 5), (49, 6), (49, 7), (49, 8), (49, 9), (49, 10), (49, 11), (49, 12), (49, 13), (49, 14), (49, 16), (49, 17), (50, 5), (50, 6), (50, 7), (50, 8), (50, 9), (50, 15), (50, 16), (50, 17), (51, 11), (51, 12)] S0 U81 → w_X12_count_L81 Q n U81 v81_2 v81_4 v81_5 → w_X12_count_L81 (fun r u => Q r u ∧ cfr [5, 6, 101, 201, 202, 203, 204, 205, 206, 207, 208, 209, 210, 211, 212, 213, 214, 218, 219, 220, 221, 222, 223, 224, 225, 226, 227, 230, 231, 232, 233, 234, 235, 236, 237, 238, 239, 240, 241, 242, 243, 244, 245, 303, 304, 401, 406] [(40, 0), (40, 1), (42, 1), (42, 2), (42, 3), (42, 4), (42, 5), (42, 6), (42, 8), (42, 9), (42, 10), (42, 11), (43, 0), (43, 1), (43, 2), (43, 3), (43, 4), (43, 5), (43, 6), (43, 7), (43, 8), (43, 9), (43, 10), (43, 11), (43, 12), (43, 13), (43, 14), (43, 15), (44, 0), (44, 1), (44, 2), (44, 3), (44, 4), (44, 5), (44, 6), (44, 7), (46, 0), (46, 1), (46, 2), (46, 3), (46, 5), (46, 6), (46, 7), (46, 8), (46, 12), (46, 13), (46, 14), (46, 15), (46, 16), (47, 0), (47, 1), (47, 2), (47, 3), (47, 4), (47, 5), (47, 6), (47, 7), (47, 8), (47, 9), (47, 10), (47, 11), (48, 0), (48, 2), (48, 3), (48, 4), (48, 5), (49, 0), (49, 1), (49, 2), (49, 3), (49, 4), (49, 5), (49, 6), (49, 7), (49, 8), (49, 9), (49, 10), (49, 11), (49, 12), (49, 13), (49, 14), (49, 16), (49, 17), (50, 5), (50, 6), (50, 7), (50, 8), (50, 9), (50, 15), (50, 16), (50, 17), (51, 11), (51, 12)] S0 u) n U81 v81_2 v81_4 v81_5 := by
  intro n
  induction n with
  | zero => intro U81 v81_2 v81_4 v81_5 f h; unfold w_X12_count_L81 at h; exact h.elim
  | succ n ih =>
    intro U81 v81_2 v81_4 v81_5 f h
    unfold w_X12_count_L81 at h ⊢
    intro y1_ y2_
    replace h := h y1_ y2_
    refine ⟨fun c => ?_, fun c => ?_⟩
    · replace h := h.1 c
      refine ⟨h.1, ?_⟩
      replace h := h.2
      refine ⟨fun c => ?_, fun c => ?_⟩
      · replace h := h.1 c
        exact ⟨h, f⟩
      · replace h := h.2 c
        intro y3_
        replace h := h y3_
        obtain ⟨Q9, h0, h⟩ := h
        refine ⟨_, frX11_finish y1_ h0, ?_⟩
        intro S29 q4_ y5_ y6_
        replace h := h S29 q4_.1 y5_ y6_
        replace f := f.tr (q4_.2.mo (by decide) (by decide))
        intro y7_
        replace h := h y7_
        obtain ⟨Q9, h0, h⟩ := h
        refine ⟨_, frX2_unitOf y5_ h0, ?_⟩
        intro b37 S34 q8_ y9_ y10_ y11_
        replace h := h b37 S34 q8_.1 y9_ y10_ y11_
        replace f := f.tr (q8_.2.mo (by decide) (by decide))
        obtain ⟨Q9, h0, h⟩ := h
        refine ⟨_, frX12_keep y9_ h0, ?_⟩
        intro r39 S40 q12_ y13_ y14_
        replace h := h r39 S40 q12_.1 y13_ y14_
        replace f := f.tr (q12_.2.mo (by decide) (by decide))
        exact ⟨h, f⟩
    · replace h := h.2 c
      intro y15_
      replace h := h y15_
      obtain ⟨Q9, h0, h⟩ := h
      refine ⟨_, frX10_rowAt y1_ h0, ?_⟩
      intro b46 S44 q16_ y17_ y18_ y19_
      replace h := h b46 S44 q16_.1 y17_ y18_ y19_
      replace f := f.tr (q16_.2.mo (by decide) (by decide))
      refine ⟨fun c => ?_, fun c => ?_⟩
      · replace h := h.1 c
        obtain ⟨Q9, h0, h⟩ := h
        refine ⟨_, frX3_draw y17_ h0, ?_⟩
        intro S49 q20_ y21_ y22_
        replace h := h S49 q20_.1 y21_ y22_
        replace f := f.tr (q20_.2.mo (by decide) (by decide))
        exact h.elim
      · replace h := h.2 c
        obtain ⟨Q9, h0, h⟩ := h
        refine ⟨_, frX3_draw y17_ h0, ?_⟩
        intro S53 q23_ y24_ y25_
        replace h := h S53 q23_.1 y24_ y25_
        replace f := f.tr (q23_.2.mo (by decide) (by decide))
        intro y26_
        replace h := h y26_
        obtain ⟨Q9, h0, h⟩ := h
        refine ⟨_, frX9_putCounters y24_ h0, ?_⟩
        intro S57 q27_ y28_ y29_
        replace h := h S57 q27_.1 y28_ y29_
        replace f := f.tr (q27_.2.mo (by decide) (by decide))
        obtain ⟨Q9, h0, h⟩ := h
        refine ⟨_, frX3_reachedCount y28_ h0, ?_⟩
        intro r61 S62 q30_ y31_ y32_
        replace h := h r61 S62 q30_.1 y31_ y32_
        replace f := f.tr (q30_.2.mo (by decide) (by decide))
        intro a65 ea65 
        replace h := h a65 ea65 
        obtain ⟨Q9, h0, h⟩ := h
        refine ⟨_, frX11_addMethod y31_ h0, ?_⟩
        intro S68 q33_ y34_ y35_
        replace h := h S68 q33_.1 y34_ y35_
        replace f := f.tr (q33_.2.mo (by decide) (by decide))
        intro a71 ea71 
        replace h := h a71 ea71 
        exact ih f h
set_option maxRecDepth 100000 in
theorem frX12_count {S : MS} {x1 : Int32} {Q : Int32 → MS → Prop} (hw : wfC S) (h : wX12_count S x1 Q) : wX12_count S x1 (fun r u => Q r u ∧ cfr [5, 6, 101, 201, 202, 203, 204, 205, 206, 207, 208, 209, 210, 211, 212, 213, 214, 218, 219, 220, 221, 222, 223, 224, 225, 226, 227, 230, 231, 232, 233, 234, 235, 236, 237, 238, 239, 240, 241, 242, 243, 244, 245, 303, 304, 401, 406] [(40, 0), (40, 1), (42, 1), (42, 2), (42, 3), (42, 4), (42, 5), (42, 6), (42, 8), (42, 9), (42, 10), (42, 11), (43, 0), (43, 1), (43, 2), (43, 3), (43, 4), (43, 5), (43, 6), (43, 7), (43, 8), (43, 9), (43, 10), (43, 11), (43, 12), (43, 13), (43, 14), (43, 15), (44, 0), (44, 1), (44, 2), (44, 3), (44, 4), (44, 5), (44, 6), (44, 7), (46, 0), (46, 1), (46, 2), (46, 3), (46, 5), (46, 6), (46, 7), (46, 8), (46, 12), (46, 13), (46, 14), (46, 15), (46, 16), (47, 0), (47, 1), (47, 2), (47, 3), (47, 4), (47, 5), (47, 6), (47, 7), (47, 8), (47, 9), (47, 10), (47, 11), (48, 0), (48, 2), (48, 3), (48, 4), (48, 5), (49, 0), (49, 1), (49, 2), (49, 3), (49, 4), (49, 5), (49, 6), (49, 7), (49, 8), (49, 9), (49, 10), (49, 11), (49, 12), (49, 13), (49, 14), (49, 16), (49, 17), (50, 5), (50, 6), (50, 7), (50, 8), (50, 9), (50, 15), (50, 16), (50, 17), (51, 11), (51, 12)] S u) := by
  have f : cfr [5, 6, 101, 201, 202, 203, 204, 205, 206, 207, 208, 209, 210, 211, 212, 213, 214, 218, 219, 220, 221, 222, 223, 224, 225, 226, 227, 230, 231, 232, 233, 234, 235, 236, 237, 238, 239, 240, 241, 242, 243, 244, 245, 303, 304, 401, 406] [(40, 0), (40, 1), (42, 1), (42, 2), (42, 3), (42, 4), (42, 5), (42, 6), (42, 8), (42, 9), (42, 10), (42, 11), (43, 0), (43, 1), (43, 2), (43, 3), (43, 4), (43, 5), (43, 6), (43, 7), (43, 8), (43, 9), (43, 10), (43, 11), (43, 12), (43, 13), (43, 14), (43, 15), (44, 0), (44, 1), (44, 2), (44, 3), (44, 4), (44, 5), (44, 6), (44, 7), (46, 0), (46, 1), (46, 2), (46, 3), (46, 5), (46, 6), (46, 7), (46, 8), (46, 12), (46, 13), (46, 14), (46, 15), (46, 16), (47, 0), (47, 1), (47, 2), (47, 3), (47, 4), (47, 5), (47, 6), (47, 7), (47, 8), (47, 9), (47, 10), (47, 11), (48, 0), (48, 2), (48, 3), (48, 4), (48, 5), (49, 0), (49, 1), (49, 2), (49, 3), (49, 4), (49, 5), (49, 6), (49, 7), (49, 8), (49, 9), (49, 10), (49, 11), (49, 12), (49, 13), (49, 14), (49, 16), (49, 17), (50, 5), (50, 6), (50, 7), (50, 8), (50, 9), (50, 15), (50, 16), (50, 17), (51, 11), (51, 12)] S S := cfr.rf
  unfold wX12_count at h ⊢
  obtain ⟨Q9, h0, h⟩ := h
  refine ⟨_, frX12_soundUnitAt hw h0, ?_⟩
  intro b5 S3 q36_ y37_ y38_ y39_
  replace h := h b5 S3 q36_.1 y37_ y38_ y39_
  replace f := f.tr (q36_.2.mo (by decide) (by decide))
  refine ⟨fun c => ?_, fun c => ?_⟩
  · replace h := h.1 c
    exact ⟨h, f⟩
  · replace h := h.2 c
    refine ⟨fun c => ?_, fun c => ?_⟩
    · replace h := h.1 c
      exact ⟨h, f⟩
    · replace h := h.2 c
      refine ⟨fun c => ?_, fun c => ?_⟩
      · replace h := h.1 c
        intro S10 eS10 y40_ y41_
        replace h := h S10 eS10 y40_ y41_
        replace f := f.tr (show cfr [5, 6, 101, 201, 202, 203, 204, 205, 206, 207, 208, 209, 210, 211, 212, 213, 214, 218, 219, 220, 221, 222, 223, 224, 225, 226, 227, 230, 231, 232, 233, 234, 235, 236, 237, 238, 239, 240, 241, 242, 243, 244, 245, 303, 304, 401, 406] [(40, 0), (40, 1), (42, 1), (42, 2), (42, 3), (42, 4), (42, 5), (42, 6), (42, 8), (42, 9), (42, 10), (42, 11), (43, 0), (43, 1), (43, 2), (43, 3), (43, 4), (43, 5), (43, 6), (43, 7), (43, 8), (43, 9), (43, 10), (43, 11), (43, 12), (43, 13), (43, 14), (43, 15), (44, 0), (44, 1), (44, 2), (44, 3), (44, 4), (44, 5), (44, 6), (44, 7), (46, 0), (46, 1), (46, 2), (46, 3), (46, 5), (46, 6), (46, 7), (46, 8), (46, 12), (46, 13), (46, 14), (46, 15), (46, 16), (47, 0), (47, 1), (47, 2), (47, 3), (47, 4), (47, 5), (47, 6), (47, 7), (47, 8), (47, 9), (47, 10), (47, 11), (48, 0), (48, 2), (48, 3), (48, 4), (48, 5), (49, 0), (49, 1), (49, 2), (49, 3), (49, 4), (49, 5), (49, 6), (49, 7), (49, 8), (49, 9), (49, 10), (49, 11), (49, 12), (49, 13), (49, 14), (49, 16), (49, 17), (50, 5), (50, 6), (50, 7), (50, 8), (50, 9), (50, 15), (50, 16), (50, 17), (51, 11), (51, 12)] S3 S10 by rw [eS10]; exact cfr.oI y40_ (by decide))
        intro y42_
        replace h := h y42_
        obtain ⟨Q9, h0, h⟩ := h
        refine ⟨_, frX12_countersOf y41_ h0, ?_⟩
        intro r12 S13 q43_ y44_ y45_
        replace h := h r12 S13 q43_.1 y44_ y45_
        replace f := f.tr (q43_.2.mo (by decide) (by decide))
        refine ⟨fun c => ?_, fun c => ?_⟩
        · replace h := h.1 c
          intro y46_
          replace h := h y46_
          obtain ⟨Q9, h0, h⟩ := h
          refine ⟨_, frX11_begin y44_ h0, ?_⟩
          intro S19 q47_ y48_ y49_
          replace h := h S19 q47_.1 y48_ y49_
          replace f := f.tr (q47_.2.mo (by decide) (by decide))
          intro a22 ea22 
          replace h := h a22 ea22 
          obtain ⟨n9, h⟩ := h
          exact ⟨n9, fr_X12_count_L81 n9 f h⟩
        · replace h := h.2 c
          exact ⟨h, f⟩
      · replace h := h.2 c
        exact ⟨h, f⟩
set_option maxRecDepth 100000 in
theorem fr_X5_step_J244 {S0 : MS} {Q : MS → Prop} {U244 : MS} {v244_1 : Int32} (f : cfr [215, 216, 217, 402, 404, 405] [(45, 2), (45, 3), (45, 4), (45, 5), (45, 11), (45, 12), (45, 13), (45, 14), (45, 15), (45, 16), (45, 17), (45, 19)] S0 U244) (h : w_X5_step_J244 Q U244 v244_1) : w_X5_step_J244 (fun u => Q u ∧ cfr [215, 216, 217, 402, 404, 405] [(45, 2), (45, 3), (45, 4), (45, 5), (45, 11), (45, 12), (45, 13), (45, 14), (45, 15), (45, 16), (45, 17), (45, 19)] S0 u) U244 v244_1 := by
  unfold w_X5_step_J244 at h ⊢
  intro y1_
  replace h := h y1_
  obtain ⟨Q9, h0, h⟩ := h
  refine ⟨_, frX5_useStage y1_ h0, ?_⟩
  intro S34 q2_ y3_ y4_
  replace h := h S34 q2_.1 y3_ y4_
  replace f := f.tr (q2_.2.mo (by decide) (by decide))
  exact ⟨h, f⟩
set_option maxRecDepth 100000 in
theorem fr_X5_step_J225 {S0 : MS} {Q : MS → Prop} {U225 : MS} {v225_1 : Int32} (f : cfr [215, 216, 217, 402, 404, 405] [(45, 2), (45, 3), (45, 4), (45, 5), (45, 11), (45, 12), (45, 13), (45, 14), (45, 15), (45, 16), (45, 17), (45, 19)] S0 U225) (h : w_X5_step_J225 Q U225 v225_1) : w_X5_step_J225 (fun u => Q u ∧ cfr [215, 216, 217, 402, 404, 405] [(45, 2), (45, 3), (45, 4), (45, 5), (45, 11), (45, 12), (45, 13), (45, 14), (45, 15), (45, 16), (45, 17), (45, 19)] S0 u) U225 v225_1 := by
  unfold w_X5_step_J225 at h ⊢
  intro y5_
  replace h := h y5_
  refine ⟨fun c => ?_, fun c => ?_⟩
  · replace h := h.1 c
    exact fr_X5_step_J244 f h
  · replace h := h.2 c
    refine ⟨fun c => ?_, fun c => ?_⟩
    · replace h := h.1 c
      exact fr_X5_step_J244 f h
    · replace h := h.2 c
      refine ⟨fun c => ?_, fun c => ?_⟩
      · replace h := h.1 c
        exact fr_X5_step_J244 f h
      · replace h := h.2 c
        obtain ⟨Q9, h0, h⟩ := h
        refine ⟨_, frX5_move y5_ h0, ?_⟩
        intro S41 q6_ y7_ y8_
        replace h := h S41 q6_.1 y7_ y8_
        replace f := f.tr (q6_.2.mo (by decide) (by decide))
        intro S44 eS44 y9_ y10_
        replace h := h S44 eS44 y9_ y10_
        replace f := f.tr (show cfr [215, 216, 217, 402, 404, 405] [(45, 2), (45, 3), (45, 4), (45, 5), (45, 11), (45, 12), (45, 13), (45, 14), (45, 15), (45, 16), (45, 17), (45, 19)] S41 S44 by rw [eS44]; exact cfr.oI y9_ (by decide))
        exact ⟨h, f⟩
set_option maxRecDepth 100000 in
theorem fr_X5_step_J203 {S0 : MS} {Q : MS → Prop} {U203 : MS} {v203_1 : Int32} (f : cfr [215, 216, 217, 402, 404, 405] [(45, 2), (45, 3), (45, 4), (45, 5), (45, 11), (45, 12), (45, 13), (45, 14), (45, 15), (45, 16), (45, 17), (45, 19)] S0 U203) (h : w_X5_step_J203 Q U203 v203_1) : w_X5_step_J203 (fun u => Q u ∧ cfr [215, 216, 217, 402, 404, 405] [(45, 2), (45, 3), (45, 4), (45, 5), (45, 11), (45, 12), (45, 13), (45, 14), (45, 15), (45, 16), (45, 17), (45, 19)] S0 u) U203 v203_1 := by
  unfold w_X5_step_J203 at h ⊢
  intro y11_
  replace h := h y11_
  refine ⟨fun c => ?_, fun c => ?_⟩
  · replace h := h.1 c
    exact fr_X5_step_J225 f h
  · replace h := h.2 c
    refine ⟨fun c => ?_, fun c => ?_⟩
    · replace h := h.1 c
      exact fr_X5_step_J225 f h
    · replace h := h.2 c
      obtain ⟨Q9, h0, h⟩ := h
      refine ⟨_, frX5_leave y11_ h0, ?_⟩
      intro S48 q12_ y13_ y14_
      replace h := h S48 q12_.1 y13_ y14_
      replace f := f.tr (q12_.2.mo (by decide) (by decide))
      exact ⟨h, f⟩
set_option maxRecDepth 100000 in
theorem fr_X5_step_J132 {S0 : MS} {Q : MS → Prop} {U132 : MS} {t132_0 : Int32} (f : cfr [215, 216, 217, 402, 404, 405] [(45, 2), (45, 3), (45, 4), (45, 5), (45, 11), (45, 12), (45, 13), (45, 14), (45, 15), (45, 16), (45, 17), (45, 19)] S0 U132) (h : w_X5_step_J132 Q U132 t132_0) : w_X5_step_J132 (fun u => Q u ∧ cfr [215, 216, 217, 402, 404, 405] [(45, 2), (45, 3), (45, 4), (45, 5), (45, 11), (45, 12), (45, 13), (45, 14), (45, 15), (45, 16), (45, 17), (45, 19)] S0 u) U132 t132_0 := by
  unfold w_X5_step_J132 at h ⊢
  intro y15_
  replace h := h y15_
  intro S76 eS76 y16_ y17_
  replace h := h S76 eS76 y16_ y17_
  replace f := f.tr (show cfr [215, 216, 217, 402, 404, 405] [(45, 2), (45, 3), (45, 4), (45, 5), (45, 11), (45, 12), (45, 13), (45, 14), (45, 15), (45, 16), (45, 17), (45, 19)] U132 S76 by rw [eS76]; exact cfr.oI y16_ (by decide))
  exact ⟨h, f⟩
set_option maxRecDepth 100000 in
theorem fr_X5_step_J40 {S0 : MS} {Q : MS → Prop} {U40 : MS} {v40_1 : Int32} (f : cfr [215, 216, 217, 402, 404, 405] [(45, 2), (45, 3), (45, 4), (45, 5), (45, 11), (45, 12), (45, 13), (45, 14), (45, 15), (45, 16), (45, 17), (45, 19)] S0 U40) (h : w_X5_step_J40 Q U40 v40_1) : w_X5_step_J40 (fun u => Q u ∧ cfr [215, 216, 217, 402, 404, 405] [(45, 2), (45, 3), (45, 4), (45, 5), (45, 11), (45, 12), (45, 13), (45, 14), (45, 15), (45, 16), (45, 17), (45, 19)] S0 u) U40 v40_1 := by
  unfold w_X5_step_J40 at h ⊢
  intro y18_
  replace h := h y18_
  refine ⟨h.1, ?_⟩
  replace h := h.2
  intro a16 ea16 
  replace h := h a16 ea16 
  refine ⟨fun c => ?_, fun c => ?_⟩
  · replace h := h.1 c
    refine ⟨h.1, ?_⟩
    replace h := h.2
    intro a21 ea21 
    replace h := h a21 ea21 
    refine ⟨fun c => ?_, fun c => ?_⟩
    · replace h := h.1 c
      refine ⟨h.1, ?_⟩
      replace h := h.2
      intro a26 ea26 
      replace h := h a26 ea26 
      refine ⟨fun c => ?_, fun c => ?_⟩
      · replace h := h.1 c
        refine ⟨h.1, ?_⟩
        replace h := h.2
        intro a31 ea31 
        replace h := h a31 ea31 
        refine ⟨fun c => ?_, fun c => ?_⟩
        · replace h := h.1 c
          refine ⟨fun c => ?_, fun c => ?_⟩
          · replace h := h.1 c
            exact fr_X5_step_J203 f h
          · replace h := h.2 c
            refine ⟨fun c => ?_, fun c => ?_⟩
            · replace h := h.1 c
              exact fr_X5_step_J203 f h
            · replace h := h.2 c
              obtain ⟨Q9, h0, h⟩ := h
              refine ⟨_, frX5_shuffle y18_ h0, ?_⟩
              intro S53 q19_ y20_ y21_
              replace h := h S53 q19_.1 y20_ y21_
              replace f := f.tr (q19_.2.mo (by decide) (by decide))
              intro S56 eS56 y22_ y23_
              replace h := h S56 eS56 y22_ y23_
              replace f := f.tr (show cfr [215, 216, 217, 402, 404, 405] [(45, 2), (45, 3), (45, 4), (45, 5), (45, 11), (45, 12), (45, 13), (45, 14), (45, 15), (45, 16), (45, 17), (45, 19)] S53 S56 by rw [eS56]; exact cfr.oI y22_ (by decide))
              exact ⟨h, f⟩
        · replace h := h.2 c
          refine ⟨h.1, ?_⟩
          replace h := h.2
          obtain ⟨Q9, h0, h⟩ := h
          refine ⟨_, frX5_pop y18_ h0, ?_⟩
          intro r60 S61 q24_ y25_ y26_
          replace h := h r60 S61 q24_.1 y25_ y26_
          replace f := f.tr (q24_.2.mo (by decide) (by decide))
          obtain ⟨Q9, h0, h⟩ := h
          refine ⟨_, frX5_switchChoice y25_ h0, ?_⟩
          intro r64 S65 q27_ y28_ y29_
          replace h := h r64 S65 q27_.1 y28_ y29_
          replace f := f.tr (q27_.2.mo (by decide) (by decide))
          refine ⟨h.1, ?_⟩
          replace h := h.2
          intro a70 ea70 
          replace h := h a70 ea70 
          intro S71 eS71 y30_ y31_
          replace h := h S71 eS71 y30_ y31_
          replace f := f.tr (show cfr [215, 216, 217, 402, 404, 405] [(45, 2), (45, 3), (45, 4), (45, 5), (45, 11), (45, 12), (45, 13), (45, 14), (45, 15), (45, 16), (45, 17), (45, 19)] S65 S71 by rw [eS71]; exact cfr.oI y30_ (by decide))
          exact ⟨h, f⟩
      · replace h := h.2 c
        obtain ⟨Q9, h0, h⟩ := h
        refine ⟨_, frX5_isJumpTaken y18_ h0, ?_⟩
        intro r73 S74 q32_ y33_ y34_
        replace h := h r73 S74 q32_.1 y33_ y34_
        replace f := f.tr (q32_.2.mo (by decide) (by decide))
        refine ⟨fun c => ?_, fun c => ?_⟩
        · replace h := h.1 c
          exact fr_X5_step_J132 f h
        · replace h := h.2 c
          refine ⟨h.1, ?_⟩
          replace h := h.2
          refine ⟨h.1, ?_⟩
          replace h := h.2
          intro a84 ea84 
          replace h := h a84 ea84 
          exact fr_X5_step_J132 f h
    · replace h := h.2 c
      refine ⟨h.1, ?_⟩
      replace h := h.2
      intro a88 ea88 
      replace h := h a88 ea88 
      refine ⟨h.1, ?_⟩
      replace h := h.2
      intro a92 ea92 
      replace h := h a92 ea92 
      obtain ⟨Q9, h0, h⟩ := h
      refine ⟨_, frX5_pop_ y18_ h0, ?_⟩
      intro r94 S95 q35_ y36_ y37_
      replace h := h r94 S95 q35_.1 y36_ y37_
      replace f := f.tr (q35_.2.mo (by decide) (by decide))
      refine ⟨h.1, ?_⟩
      replace h := h.2
      intro a100 ea100 
      replace h := h a100 ea100 
      obtain ⟨Q9, h0, h⟩ := h
      refine ⟨_, frX5_push_ y36_ h0, ?_⟩
      intro S102 q38_ y39_ y40_
      replace h := h S102 q38_.1 y39_ y40_
      replace f := f.tr (q38_.2.mo (by decide) (by decide))
      intro S105 eS105 y41_ y42_
      replace h := h S105 eS105 y41_ y42_
      replace f := f.tr (show cfr [215, 216, 217, 402, 404, 405] [(45, 2), (45, 3), (45, 4), (45, 5), (45, 11), (45, 12), (45, 13), (45, 14), (45, 15), (45, 16), (45, 17), (45, 19)] S102 S105 by rw [eS105]; exact cfr.oI y41_ (by decide))
      exact ⟨h, f⟩
  · replace h := h.2 c
    obtain ⟨Q9, h0, h⟩ := h
    refine ⟨_, frX5_calculate y18_ h0, ?_⟩
    intro S107 q43_ y44_ y45_
    replace h := h S107 q43_.1 y44_ y45_
    replace f := f.tr (q43_.2.mo (by decide) (by decide))
    exact ⟨h, f⟩
set_option maxRecDepth 100000 in
theorem frX5_step {S : MS} {Q : MS → Prop} (hw : wfC S) (h : wX5_step S Q) : wX5_step S (fun u => Q u ∧ cfr [215, 216, 217, 402, 404, 405] [(45, 2), (45, 3), (45, 4), (45, 5), (45, 11), (45, 12), (45, 13), (45, 14), (45, 15), (45, 16), (45, 17), (45, 19)] S u) := by
  have f : cfr [215, 216, 217, 402, 404, 405] [(45, 2), (45, 3), (45, 4), (45, 5), (45, 11), (45, 12), (45, 13), (45, 14), (45, 15), (45, 16), (45, 17), (45, 19)] S S := cfr.rf
  unfold wX5_step at h ⊢
  refine ⟨h.1, ?_⟩
  replace h := h.2
  refine ⟨h.1, ?_⟩
  replace h := h.2
  intro a6 ea6 
  replace h := h a6 ea6 
  refine ⟨h.1, ?_⟩
  replace h := h.2
  refine ⟨h.1, ?_⟩
  replace h := h.2
  intro a12 ea12 
  replace h := h a12 ea12 
  refine ⟨fun c => ?_, fun c => ?_⟩
  · replace h := h.1 c
    exact fr_X5_step_J40 f h
  · replace h := h.2 c
    intro S111 eS111 y46_ y47_
    replace h := h S111 eS111 y46_ y47_
    replace f := f.tr (show cfr [215, 216, 217, 402, 404, 405] [(45, 2), (45, 3), (45, 4), (45, 5), (45, 11), (45, 12), (45, 13), (45, 14), (45, 15), (45, 16), (45, 17), (45, 19)] S S111 by rw [eS111]; exact cfr.oI y46_ (by decide))
    exact fr_X5_step_J40 f h
set_option maxRecDepth 100000 in
theorem fr_X9_makeBetter_J74 {S0 : MS} {Q : MS → Prop} {k34 k34' : MS → Int32 → Int32 → Int32 → Int32 → Prop} {U74 : MS} {v74_2 : Int32} {v74_3 : Int32} {v74_4 : Int32} {v74_5 : Int32} (hk34 : ∀ (u : MS) (z0) (z1) (z2) (z3), cfr [222, 223, 224, 225, 226, 227, 228, 229, 305, 306, 406] [(47, 0), (47, 1), (47, 2), (47, 3), (47, 4), (47, 5), (47, 6), (47, 7), (47, 8), (47, 9), (47, 11), (48, 0), (48, 2), (48, 3), (48, 4), (48, 5)] S0 u → k34 u z0 z1 z2 z3 → k34' u z0 z1 z2 z3) (f : cfr [222, 223, 224, 225, 226, 227, 228, 229, 305, 306, 406] [(47, 0), (47, 1), (47, 2), (47, 3), (47, 4), (47, 5), (47, 6), (47, 7), (47, 8), (47, 9), (47, 11), (48, 0), (48, 2), (48, 3), (48, 4), (48, 5)] S0 U74) (h : w_X9_makeBetter_J74 Q k34 U74 v74_2 v74_3 v74_4 v74_5) : w_X9_makeBetter_J74 (fun u => Q u ∧ cfr [222, 223, 224, 225, 226, 227, 228, 229, 305, 306, 406] [(47, 0), (47, 1), (47, 2), (47, 3), (47, 4), (47, 5), (47, 6), (47, 7), (47, 8), (47, 9), (47, 11), (48, 0), (48, 2), (48, 3), (48, 4), (48, 5)] S0 u) k34' U74 v74_2 v74_3 v74_4 v74_5 := by
  unfold w_X9_makeBetter_J74 at h ⊢
  intro y1_
  replace h := h y1_
  intro a16 ea16 
  replace h := h a16 ea16 
  exact hk34 _ _ _ _ _ f h
set_option maxRecDepth 100000 in
theorem fr_X9_makeBetter_J72 {S0 : MS} {Q : MS → Prop} {k34 k34' : MS → Int32 → Int32 → Int32 → Int32 → Prop} {U72 : MS} {t72_0 : Int32} {t72_1 : Int32} {v72_2 : Int32} {v72_4 : Int32} {v72_5 : Int32} (hk34 : ∀ (u : MS) (z0) (z1) (z2) (z3), cfr [222, 223, 224, 225, 226, 227, 228, 229, 305, 306, 406] [(47, 0), (47, 1), (47, 2), (47, 3), (47, 4), (47, 5), (47, 6), (47, 7), (47, 8), (47, 9), (47, 11), (48, 0), (48, 2), (48, 3), (48, 4), (48, 5)] S0 u → k34 u z0 z1 z2 z3 → k34' u z0 z1 z2 z3) (f : cfr [222, 223, 224, 225, 226, 227, 228, 229, 305, 306, 406] [(47, 0), (47, 1), (47, 2), (47, 3), (47, 4), (47, 5), (47, 6), (47, 7), (47, 8), (47, 9), (47, 11), (48, 0), (48, 2), (48, 3), (48, 4), (48, 5)] S0 U72) (h : w_X9_makeBetter_J72 Q k34 U72 t72_0 t72_1 v72_2 v72_4 v72_5) : w_X9_makeBetter_J72 (fun u => Q u ∧ cfr [222, 223, 224, 225, 226, 227, 228, 229, 305, 306, 406] [(47, 0), (47, 1), (47, 2), (47, 3), (47, 4), (47, 5), (47, 6), (47, 7), (47, 8), (47, 9), (47, 11), (48, 0), (48, 2), (48, 3), (48, 4), (48, 5)] S0 u) k34' U72 t72_0 t72_1 v72_2 v72_4 v72_5 := by
  unfold w_X9_makeBetter_J72 at h ⊢
  intro y2_ y3_
  replace h := h y2_ y3_
  intro a19 ea19 
  replace h := h a19 ea19 
  exact fr_X9_makeBetter_J74 hk34 f h
set_option maxRecDepth 100000 in
theorem fr_X9_makeBetter_L34 {S0 : MS} {Q : MS → Prop} {k18 k18' : MS → Int32 → Int32 → Int32 → Prop} (hk18 : ∀ (u : MS) (z0) (z1) (z2), cfr [222, 223, 224, 225, 226, 227, 228, 229, 305, 306, 406] [(47, 0), (47, 1), (47, 2), (47, 3), (47, 4), (47, 5), (47, 6), (47, 7), (47, 8), (47, 9), (47, 11), (48, 0), (48, 2), (48, 3), (48, 4), (48, 5)] S0 u → k18 u z0 z1 z2 → k18' u z0 z1 z2) : ∀ (n : Nat) {U34 : MS} {v34_2 : Int32} {v34_3 : Int32} {v34_4 : Int32} {v34_5 : Int32}, cfr [222, 223, 224, 225, 226, 227, 228, 229, 305, 306, 406] [(47, 0), (47, 1), (47, 2), (47, 3), (47, 4), (47, 5), (47, 6), (47, 7), (47, 8), (47, 9), (47, 11), (48, 0), (48, 2), (48, 3), (48, 4), (48, 5)] S0 U34 → w_X9_makeBetter_L34 Q k18 n U34 v34_2 v34_3 v34_4 v34_5 → w_X9_makeBetter_L34 (fun u => Q u ∧ cfr [222, 223, 224, 225, 226, 227, 228, 229, 305, 306, 406] [(47, 0), (47, 1), (47, 2), (47, 3), (47, 4), (47, 5), (47, 6), (47, 7), (47, 8), (47, 9), (47, 11), (48, 0), (48, 2), (48, 3), (48, 4), (48, 5)] S0 u) k18' n U34 v34_2 v34_3 v34_4 v34_5 := by
  intro n
  induction n with
  | zero => intro U34 v34_2 v34_3 v34_4 v34_5 f h; unfold w_X9_makeBetter_L34 at h; exact h.elim
  | succ n ih =>
    intro U34 v34_2 v34_3 v34_4 v34_5 f h
    unfold w_X9_makeBetter_L34 at h ⊢
    intro y4_
    replace h := h y4_
    refine ⟨fun c => ?_, fun c => ?_⟩
    · replace h := h.1 c
      intro a12 ea12 
      replace h := h a12 ea12 
      exact hk18 _ _ _ _ f h
    · replace h := h.2 c
      refine ⟨fun c => ?_, fun c => ?_⟩
      · replace h := h.1 c
        exact fr_X9_makeBetter_J74 (fun _ _ _ _ _ f h => ih f h) f h
      · replace h := h.2 c
        refine ⟨fun c => ?_, fun c => ?_⟩
        · replace h := h.1 c
          obtain ⟨Q9, h0, h⟩ := h
          refine ⟨_, frX9_dropUnreached y4_ h0, ?_⟩
          intro r26 S27 q5_ y6_ y7_
          replace h := h r26 S27 q5_.1 y6_ y7_
          replace f := f.tr (q5_.2.mo (by decide) (by decide))
          exact fr_X9_makeBetter_J72 (fun _ _ _ _ _ f h => ih f h) f h
        · replace h := h.2 c
          obtain ⟨Q9, h0, h⟩ := h
          refine ⟨_, frX9_goThrough y4_ h0, ?_⟩
          intro r22 S23 q8_ y9_ y10_
          replace h := h r22 S23 q8_.1 y9_ y10_
          replace f := f.tr (q8_.2.mo (by decide) (by decide))
          exact fr_X9_makeBetter_J72 (fun _ _ _ _ _ f h => ih f h) f h
set_option maxRecDepth 100000 in
theorem fr_X9_makeBetter_L18 {S0 : MS} {Q : MS → Prop} : ∀ (n : Nat) {U18 : MS} {v18_2 : Int32} {v18_3 : Int32} {v18_4 : Int32}, cfr [222, 223, 224, 225, 226, 227, 228, 229, 305, 306, 406] [(47, 0), (47, 1), (47, 2), (47, 3), (47, 4), (47, 5), (47, 6), (47, 7), (47, 8), (47, 9), (47, 11), (48, 0), (48, 2), (48, 3), (48, 4), (48, 5)] S0 U18 → w_X9_makeBetter_L18 Q n U18 v18_2 v18_3 v18_4 → w_X9_makeBetter_L18 (fun u => Q u ∧ cfr [222, 223, 224, 225, 226, 227, 228, 229, 305, 306, 406] [(47, 0), (47, 1), (47, 2), (47, 3), (47, 4), (47, 5), (47, 6), (47, 7), (47, 8), (47, 9), (47, 11), (48, 0), (48, 2), (48, 3), (48, 4), (48, 5)] S0 u) n U18 v18_2 v18_3 v18_4 := by
  intro n
  induction n with
  | zero => intro U18 v18_2 v18_3 v18_4 f h; unfold w_X9_makeBetter_L18 at h; exact h.elim
  | succ n ih =>
    intro U18 v18_2 v18_3 v18_4 f h
    unfold w_X9_makeBetter_L18 at h ⊢
    intro y11_
    replace h := h y11_
    refine ⟨fun c => ?_, fun c => ?_⟩
    · replace h := h.1 c
      exact ⟨h, f⟩
    · replace h := h.2 c
      refine ⟨fun c => ?_, fun c => ?_⟩
      · replace h := h.1 c
        exact ⟨h, f⟩
      · replace h := h.2 c
        obtain ⟨n9, h⟩ := h
        exact ⟨n9, fr_X9_makeBetter_L34 (fun _ _ _ _ f h => ih f h) n9 f h⟩
set_option maxRecDepth 100000 in
theorem frX9_makeBetter {S : MS} {p1 : Nat} {x2 : Int32} {Q : MS → Prop} (hw : wfC S) (h : wX9_makeBetter S p1 x2 Q) : wX9_makeBetter S p1 x2 (fun u => Q u ∧ cfr [222, 223, 224, 225, 226, 227, 228, 229, 305, 306, 406] [(47, 0), (47, 1), (47, 2), (47, 3), (47, 4), (47, 5), (47, 6), (47, 7), (47, 8), (47, 9), (47, 11), (48, 0), (48, 2), (48, 3), (48, 4), (48, 5)] S u) := by
  have f : cfr [222, 223, 224, 225, 226, 227, 228, 229, 305, 306, 406] [(47, 0), (47, 1), (47, 2), (47, 3), (47, 4), (47, 5), (47, 6), (47, 7), (47, 8), (47, 9), (47, 11), (48, 0), (48, 2), (48, 3), (48, 4), (48, 5)] S S := cfr.rf
  unfold wX9_makeBetter at h ⊢
  intro y12_
  replace h := h y12_
  obtain ⟨Q9, h0, h⟩ := h
  refine ⟨_, frX9_makeRoom hw h0, ?_⟩
  intro S2 q13_ y14_ y15_
  replace h := h S2 q13_.1 y14_ y15_
  replace f := f.tr (q13_.2.mo (by decide) (by decide))
  intro y16_ y17_
  replace h := h y16_ y17_
  obtain ⟨Q9, h0, h⟩ := h
  refine ⟨_, frX8_copyFrom y14_ h0, ?_⟩
  intro S7 q18_ y19_ y20_
  replace h := h S7 q18_.1 y19_ y20_
  replace f := f.tr (q18_.2.mo (by decide) (by decide))
  obtain ⟨n9, h⟩ := h
  exact ⟨n9, fr_X9_makeBetter_L18 n9 f h⟩
set_option maxRecDepth 100000 in
theorem fr_X12_improve_L73 {S0 : MS} {Q : Int32 → MS → Prop} : ∀ (n : Nat) {U73 : MS} {v73_2 : Int32} {v73_3 : Nat} {v73_4 : Int32}, cfr [5, 6, 101, 201, 213, 214, 218, 219, 220, 221, 222, 223, 224, 225, 226, 227, 228, 229, 231, 232, 233, 234, 235, 236, 237, 238, 239, 240, 241, 242, 243, 244, 245, 304, 305, 306, 406] [(40, 0), (40, 1), (42, 1), (42, 2), (42, 3), (42, 4), (42, 5), (42, 6), (42, 8), (42, 9), (42, 10), (42, 11), (44, 0), (44, 1), (44, 2), (44, 3), (44, 4), (44, 5), (44, 6), (44, 7), (46, 0), (46, 1), (46, 2), (46, 3), (46, 5), (46, 6), (46, 7), (46, 8), (46, 12), (46, 13), (46, 14), (46, 15), (46, 16), (47, 0), (47, 1), (47, 2), (47, 3), (47, 4), (47, 5), (47, 6), (47, 7), (47, 8), (47, 9), (47, 10), (47, 11), (48, 0), (48, 2), (48, 3), (48, 4), (48, 5), (49, 0), (49, 1), (49, 2), (49, 3), (49, 4), (49, 5), (49, 6), (49, 7), (49, 8), (49, 9), (49, 10), (49, 11), (49, 12), (49, 13), (49, 14), (49, 16), (49, 17), (50, 5), (50, 6), (50, 7), (50, 8), (50, 9), (50, 15), (50, 16), (50, 17), (51, 11), (51, 12)] S0 U73 → w_X12_improve_L73 Q n U73 v73_2 v73_3 v73_4 → w_X12_improve_L73 (fun r u => Q r u ∧ cfr [5, 6, 101, 201, 213, 214, 218, 219, 220, 221, 222, 223, 224, 225, 226, 227, 228, 229, 231, 232, 233, 234, 235, 236, 237, 238, 239, 240, 241, 242, 243, 244, 245, 304, 305, 306, 406] [(40, 0), (40, 1), (42, 1), (42, 2), (42, 3), (42, 4), (42, 5), (42, 6), (42, 8), (42, 9), (42, 10), (42, 11), (44, 0), (44, 1), (44, 2), (44, 3), (44, 4), (44, 5), (44, 6), (44, 7), (46, 0), (46, 1), (46, 2), (46, 3), (46, 5), (46, 6), (46, 7), (46, 8), (46, 12), (46, 13), (46, 14), (46, 15), (46, 16), (47, 0), (47, 1), (47, 2), (47, 3), (47, 4), (47, 5), (47, 6), (47, 7), (47, 8), (47, 9), (47, 10), (47, 11), (48, 0), (48, 2), (48, 3), (48, 4), (48, 5), (49, 0), (49, 1), (49, 2), (49, 3), (49, 4), (49, 5), (49, 6), (49, 7), (49, 8), (49, 9), (49, 10), (49, 11), (49, 12), (49, 13), (49, 14), (49, 16), (49, 17), (50, 5), (50, 6), (50, 7), (50, 8), (50, 9), (50, 15), (50, 16), (50, 17), (51, 11), (51, 12)] S0 u) n U73 v73_2 v73_3 v73_4 := by
  intro n
  induction n with
  | zero => intro U73 v73_2 v73_3 v73_4 f h; unfold w_X12_improve_L73 at h; exact h.elim
  | succ n ih =>
    intro U73 v73_2 v73_3 v73_4 f h
    unfold w_X12_improve_L73 at h ⊢
    intro y1_ y2_
    replace h := h y1_ y2_
    refine ⟨fun c => ?_, fun c => ?_⟩
    · replace h := h.1 c
      refine ⟨h.1, ?_⟩
      replace h := h.2
      refine ⟨fun c => ?_, fun c => ?_⟩
      · replace h := h.1 c
        exact ⟨h, f⟩
      · replace h := h.2 c
        intro y3_
        replace h := h y3_
        obtain ⟨Q9, h0, h⟩ := h
        refine ⟨_, frX11_finish y1_ h0, ?_⟩
        intro S26 q4_ y5_ y6_
        replace h := h S26 q4_.1 y5_ y6_
        replace f := f.tr (q4_.2.mo (by decide) (by decide))
        intro y7_
        replace h := h y7_
        obtain ⟨Q9, h0, h⟩ := h
        refine ⟨_, frX2_unitOf y5_ h0, ?_⟩
        intro b34 S31 q8_ y9_ y10_ y11_
        replace h := h b34 S31 q8_.1 y9_ y10_ y11_
        replace f := f.tr (q8_.2.mo (by decide) (by decide))
        obtain ⟨Q9, h0, h⟩ := h
        refine ⟨_, frX12_keep y9_ h0, ?_⟩
        intro r36 S37 q12_ y13_ y14_
        replace h := h r36 S37 q12_.1 y13_ y14_
        replace f := f.tr (q12_.2.mo (by decide) (by decide))
        exact ⟨h, f⟩
    · replace h := h.2 c
      intro y15_
      replace h := h y15_
      obtain ⟨Q9, h0, h⟩ := h
      refine ⟨_, frX10_rowAt y1_ h0, ?_⟩
      intro b43 S41 q16_ y17_ y18_ y19_
      replace h := h b43 S41 q16_.1 y17_ y18_ y19_
      replace f := f.tr (q16_.2.mo (by decide) (by decide))
      refine ⟨fun c => ?_, fun c => ?_⟩
      · replace h := h.1 c
        exact h.elim
      · replace h := h.2 c
        intro y20_
        replace h := h y20_
        obtain ⟨Q9, h0, h⟩ := h
        refine ⟨_, frX9_makeBetter y17_ h0, ?_⟩
        intro S46 q21_ y22_ y23_
        replace h := h S46 q21_.1 y22_ y23_
        replace f := f.tr (q21_.2.mo (by decide) (by decide))
        obtain ⟨Q9, h0, h⟩ := h
        refine ⟨_, frX11_addMethod y22_ h0, ?_⟩
        intro S51 q24_ y25_ y26_
        replace h := h S51 q24_.1 y25_ y26_
        replace f := f.tr (q24_.2.mo (by decide) (by decide))
        intro a54 ea54 
        replace h := h a54 ea54 
        exact ih f h
set_option maxRecDepth 100000 in
theorem frX12_improve {S : MS} {x1 : Int32} {x2 : Int32} {Q : Int32 → MS → Prop} (hw : wfC S) (h : wX12_improve S x1 x2 Q) : wX12_improve S x1 x2 (fun r u => Q r u ∧ cfr [5, 6, 101, 201, 213, 214, 218, 219, 220, 221, 222, 223, 224, 225, 226, 227, 228, 229, 231, 232, 233, 234, 235, 236, 237, 238, 239, 240, 241, 242, 243, 244, 245, 304, 305, 306, 406] [(40, 0), (40, 1), (42, 1), (42, 2), (42, 3), (42, 4), (42, 5), (42, 6), (42, 8), (42, 9), (42, 10), (42, 11), (44, 0), (44, 1), (44, 2), (44, 3), (44, 4), (44, 5), (44, 6), (44, 7), (46, 0), (46, 1), (46, 2), (46, 3), (46, 5), (46, 6), (46, 7), (46, 8), (46, 12), (46, 13), (46, 14), (46, 15), (46, 16), (47, 0), (47, 1), (47, 2), (47, 3), (47, 4), (47, 5), (47, 6), (47, 7), (47, 8), (47, 9), (47, 10), (47, 11), (48, 0), (48, 2), (48, 3), (48, 4), (48, 5), (49, 0), (49, 1), (49, 2), (49, 3), (49, 4), (49, 5), (49, 6), (49, 7), (49, 8), (49, 9), (49, 10), (49, 11), (49, 12), (49, 13), (49, 14), (49, 16), (49, 17), (50, 5), (50, 6), (50, 7), (50, 8), (50, 9), (50, 15), (50, 16), (50, 17), (51, 11), (51, 12)] S u) := by
  have f : cfr [5, 6, 101, 201, 213, 214, 218, 219, 220, 221, 222, 223, 224, 225, 226, 227, 228, 229, 231, 232, 233, 234, 235, 236, 237, 238, 239, 240, 241, 242, 243, 244, 245, 304, 305, 306, 406] [(40, 0), (40, 1), (42, 1), (42, 2), (42, 3), (42, 4), (42, 5), (42, 6), (42, 8), (42, 9), (42, 10), (42, 11), (44, 0), (44, 1), (44, 2), (44, 3), (44, 4), (44, 5), (44, 6), (44, 7), (46, 0), (46, 1), (46, 2), (46, 3), (46, 5), (46, 6), (46, 7), (46, 8), (46, 12), (46, 13), (46, 14), (46, 15), (46, 16), (47, 0), (47, 1), (47, 2), (47, 3), (47, 4), (47, 5), (47, 6), (47, 7), (47, 8), (47, 9), (47, 10), (47, 11), (48, 0), (48, 2), (48, 3), (48, 4), (48, 5), (49, 0), (49, 1), (49, 2), (49, 3), (49, 4), (49, 5), (49, 6), (49, 7), (49, 8), (49, 9), (49, 10), (49, 11), (49, 12), (49, 13), (49, 14), (49, 16), (49, 17), (50, 5), (50, 6), (50, 7), (50, 8), (50, 9), (50, 15), (50, 16), (50, 17), (51, 11), (51, 12)] S S := cfr.rf
  unfold wX12_improve at h ⊢
  obtain ⟨Q9, h0, h⟩ := h
  refine ⟨_, frX9_forgetApplied hw h0, ?_⟩
  intro S2 q27_ y28_ y29_
  replace h := h S2 q27_.1 y28_ y29_
  replace f := f.tr (q27_.2.mo (by decide) (by decide))
  obtain ⟨Q9, h0, h⟩ := h
  refine ⟨_, frX12_soundUnitAt y28_ h0, ?_⟩
  intro b8 S6 q30_ y31_ y32_ y33_
  replace h := h b8 S6 q30_.1 y31_ y32_ y33_
  replace f := f.tr (q30_.2.mo (by decide) (by decide))
  refine ⟨fun c => ?_, fun c => ?_⟩
  · replace h := h.1 c
    exact ⟨h, f⟩
  · replace h := h.2 c
    refine ⟨fun c => ?_, fun c => ?_⟩
    · replace h := h.1 c
      exact ⟨h, f⟩
    · replace h := h.2 c
      refine ⟨fun c => ?_, fun c => ?_⟩
      · replace h := h.1 c
        refine ⟨fun c => ?_, fun c => ?_⟩
        · replace h := h.1 c
          exact ⟨h, f⟩
        · replace h := h.2 c
          refine ⟨fun c => ?_, fun c => ?_⟩
          · replace h := h.1 c
            intro S15 eS15 y34_ y35_
            replace h := h S15 eS15 y34_ y35_
            replace f := f.tr (show cfr [5, 6, 101, 201, 213, 214, 218, 219, 220, 221, 222, 223, 224, 225, 226, 227, 228, 229, 231, 232, 233, 234, 235, 236, 237, 238, 239, 240, 241, 242, 243, 244, 245, 304, 305, 306, 406] [(40, 0), (40, 1), (42, 1), (42, 2), (42, 3), (42, 4), (42, 5), (42, 6), (42, 8), (42, 9), (42, 10), (42, 11), (44, 0), (44, 1), (44, 2), (44, 3), (44, 4), (44, 5), (44, 6), (44, 7), (46, 0), (46, 1), (46, 2), (46, 3), (46, 5), (46, 6), (46, 7), (46, 8), (46, 12), (46, 13), (46, 14), (46, 15), (46, 16), (47, 0), (47, 1), (47, 2), (47, 3), (47, 4), (47, 5), (47, 6), (47, 7), (47, 8), (47, 9), (47, 10), (47, 11), (48, 0), (48, 2), (48, 3), (48, 4), (48, 5), (49, 0), (49, 1), (49, 2), (49, 3), (49, 4), (49, 5), (49, 6), (49, 7), (49, 8), (49, 9), (49, 10), (49, 11), (49, 12), (49, 13), (49, 14), (49, 16), (49, 17), (50, 5), (50, 6), (50, 7), (50, 8), (50, 9), (50, 15), (50, 16), (50, 17), (51, 11), (51, 12)] S6 S15 by rw [eS15]; exact cfr.oI y34_ (by decide))
            intro y36_
            replace h := h y36_
            obtain ⟨Q9, h0, h⟩ := h
            refine ⟨_, frX11_begin y35_ h0, ?_⟩
            intro S17 q37_ y38_ y39_
            replace h := h S17 q37_.1 y38_ y39_
            replace f := f.tr (q37_.2.mo (by decide) (by decide))
            obtain ⟨n9, h⟩ := h
            exact ⟨n9, fr_X12_improve_L73 n9 f h⟩
          · replace h := h.2 c
            exact ⟨h, f⟩
      · replace h := h.2 c
        exact ⟨h, f⟩
set_option maxRecDepth 100000 in
theorem fr_X5_play_J100 {S0 : MS} {Q : Int32 → MS → Prop} {U100 : MS} (f : cfr [215, 216, 217, 402, 404, 405] [(45, 2), (45, 3), (45, 4), (45, 5), (45, 8), (45, 9), (45, 11), (45, 12), (45, 13), (45, 14), (45, 15), (45, 16), (45, 17), (45, 18), (45, 19)] S0 U100) (h : w_X5_play_J100 Q U100) : w_X5_play_J100 (fun r u => Q r u ∧ cfr [215, 216, 217, 402, 404, 405] [(45, 2), (45, 3), (45, 4), (45, 5), (45, 8), (45, 9), (45, 11), (45, 12), (45, 13), (45, 14), (45, 15), (45, 16), (45, 17), (45, 18), (45, 19)] S0 u) U100 := by
  unfold w_X5_play_J100 at h ⊢
  intro y1_
  replace h := h y1_
  refine ⟨fun c => ?_, fun c => ?_⟩
  · replace h := h.1 c
    exact ⟨h, f⟩
  · replace h := h.2 c
    exact ⟨h, f⟩
set_option maxRecDepth 100000 in
theorem fr_X5_play_L68 {S0 : MS} {Q : Int32 → MS → Prop} : ∀ (n : Nat) {U68 : MS} {v68_2 : Int32}, cfr [215, 216, 217, 402, 404, 405] [(45, 2), (45, 3), (45, 4), (45, 5), (45, 8), (45, 9), (45, 11), (45, 12), (45, 13), (45, 14), (45, 15), (45, 16), (45, 17), (45, 18), (45, 19)] S0 U68 → w_X5_play_L68 Q n U68 v68_2 → w_X5_play_L68 (fun r u => Q r u ∧ cfr [215, 216, 217, 402, 404, 405] [(45, 2), (45, 3), (45, 4), (45, 5), (45, 8), (45, 9), (45, 11), (45, 12), (45, 13), (45, 14), (45, 15), (45, 16), (45, 17), (45, 18), (45, 19)] S0 u) n U68 v68_2 := by
  intro n
  induction n with
  | zero => intro U68 v68_2 f h; unfold w_X5_play_L68 at h; exact h.elim
  | succ n ih =>
    intro U68 v68_2 f h
    unfold w_X5_play_L68 at h ⊢
    intro y2_
    replace h := h y2_
    refine ⟨fun c => ?_, fun c => ?_⟩
    · replace h := h.1 c
      exact fr_X5_play_J100 f h
    · replace h := h.2 c
      refine ⟨fun c => ?_, fun c => ?_⟩
      · replace h := h.1 c
        exact fr_X5_play_J100 f h
      · replace h := h.2 c
        intro S24 eS24 y3_ y4_
        replace h := h S24 eS24 y3_ y4_
        replace f := f.tr (show cfr [215, 216, 217, 402, 404, 405] [(45, 2), (45, 3), (45, 4), (45, 5), (45, 8), (45, 9), (45, 11), (45, 12), (45, 13), (45, 14), (45, 15), (45, 16), (45, 17), (45, 18), (45, 19)] U68 S24 by rw [eS24]; exact cfr.oI y3_ (by decide))
        obtain ⟨Q9, h0, h⟩ := h
        refine ⟨_, frX5_step y4_ h0, ?_⟩
        intro S26 q5_ y6_ y7_
        replace h := h S26 q5_.1 y6_ y7_
        replace f := f.tr (q5_.2.mo (by decide) (by decide))
        exact ih f h
set_option maxRecDepth 100000 in
theorem fr_X5_play_J26 {S0 : MS} {Q : Int32 → MS → Prop} {U26 : MS} {v26_1 : Int32} {v26_2 : Int32} (f : cfr [215, 216, 217, 402, 404, 405] [(45, 2), (45, 3), (45, 4), (45, 5), (45, 8), (45, 9), (45, 11), (45, 12), (45, 13), (45, 14), (45, 15), (45, 16), (45, 17), (45, 18), (45, 19)] S0 U26) (h : w_X5_play_J26 Q U26 v26_1 v26_2) : w_X5_play_J26 (fun r u => Q r u ∧ cfr [215, 216, 217, 402, 404, 405] [(45, 2), (45, 3), (45, 4), (45, 5), (45, 8), (45, 9), (45, 11), (45, 12), (45, 13), (45, 14), (45, 15), (45, 16), (45, 17), (45, 18), (45, 19)] S0 u) U26 v26_1 v26_2 := by
  unfold w_X5_play_J26 at h ⊢
  intro y8_
  replace h := h y8_
  intro S3 eS3 y9_ y10_
  replace h := h S3 eS3 y9_ y10_
  replace f := f.tr (show cfr [215, 216, 217, 402, 404, 405] [(45, 2), (45, 3), (45, 4), (45, 5), (45, 8), (45, 9), (45, 11), (45, 12), (45, 13), (45, 14), (45, 15), (45, 16), (45, 17), (45, 18), (45, 19)] U26 S3 by rw [eS3]; exact cfr.oJ y9_ (by decide))
  intro S4 eS4 y11_ y12_
  replace h := h S4 eS4 y11_ y12_
  replace f := f.tr (show cfr [215, 216, 217, 402, 404, 405] [(45, 2), (45, 3), (45, 4), (45, 5), (45, 8), (45, 9), (45, 11), (45, 12), (45, 13), (45, 14), (45, 15), (45, 16), (45, 17), (45, 18), (45, 19)] S3 S4 by rw [eS4]; exact cfr.oI y11_ (by decide))
  intro S5 eS5 y13_ y14_
  replace h := h S5 eS5 y13_ y14_
  replace f := f.tr (show cfr [215, 216, 217, 402, 404, 405] [(45, 2), (45, 3), (45, 4), (45, 5), (45, 8), (45, 9), (45, 11), (45, 12), (45, 13), (45, 14), (45, 15), (45, 16), (45, 17), (45, 18), (45, 19)] S4 S5 by rw [eS5]; exact cfr.oI y13_ (by decide))
  intro S6 eS6 y15_ y16_
  replace h := h S6 eS6 y15_ y16_
  replace f := f.tr (show cfr [215, 216, 217, 402, 404, 405] [(45, 2), (45, 3), (45, 4), (45, 5), (45, 8), (45, 9), (45, 11), (45, 12), (45, 13), (45, 14), (45, 15), (45, 16), (45, 17), (45, 18), (45, 19)] S5 S6 by rw [eS6]; exact cfr.oI y15_ (by decide))
  intro S7 eS7 y17_ y18_
  replace h := h S7 eS7 y17_ y18_
  replace f := f.tr (show cfr [215, 216, 217, 402, 404, 405] [(45, 2), (45, 3), (45, 4), (45, 5), (45, 8), (45, 9), (45, 11), (45, 12), (45, 13), (45, 14), (45, 15), (45, 16), (45, 17), (45, 18), (45, 19)] S6 S7 by rw [eS7]; exact cfr.oI y17_ (by decide))
  obtain ⟨Q9, h0, h⟩ := h
  refine ⟨_, frX5_openFrame y18_ h0, ?_⟩
  intro S9 q19_ y20_ y21_
  replace h := h S9 q19_.1 y20_ y21_
  replace f := f.tr (q19_.2.mo (by decide) (by decide))
  refine ⟨h.1, ?_⟩
  replace h := h.2
  refine ⟨h.1, ?_⟩
  replace h := h.2
  intro a16 ea16 
  replace h := h a16 ea16 
  obtain ⟨Q9, h0, h⟩ := h
  refine ⟨_, frX5_passArguments y20_ h0, ?_⟩
  intro S18 q22_ y23_ y24_
  replace h := h S18 q22_.1 y23_ y24_
  replace f := f.tr (q22_.2.mo (by decide) (by decide))
  obtain ⟨n9, h⟩ := h
  exact ⟨n9, fr_X5_play_L68 n9 f h⟩
set_option maxRecDepth 100000 in
theorem frX5_play {S : MS} {x1 : Int32} {x2 : Int32} {Q : Int32 → MS → Prop} (hw : wfC S) (h : wX5_play S x1 x2 Q) : wX5_play S x1 x2 (fun r u => Q r u ∧ cfr [215, 216, 217, 402, 404, 405] [(45, 2), (45, 3), (45, 4), (45, 5), (45, 8), (45, 9), (45, 11), (45, 12), (45, 13), (45, 14), (45, 15), (45, 16), (45, 17), (45, 18), (45, 19)] S u) := by
  have f : cfr [215, 216, 217, 402, 404, 405] [(45, 2), (45, 3), (45, 4), (45, 5), (45, 8), (45, 9), (45, 11), (45, 12), (45, 13), (45, 14), (45, 15), (45, 16), (45, 17), (45, 18), (45, 19)] S S := cfr.rf
  unfold wX5_play at h ⊢
  refine ⟨fun c => ?_, fun c => ?_⟩
  · replace h := h.1 c
    refine ⟨h.1, ?_⟩
    replace h := h.2
    intro S33 eS33 y25_
    replace h := h S33 eS33 y25_
    replace f := f.tr (show cfr [215, 216, 217, 402, 404, 405] [(45, 2), (45, 3), (45, 4), (45, 5), (45, 8), (45, 9), (45, 11), (45, 12), (45, 13), (45, 14), (45, 15), (45, 16), (45, 17), (45, 18), (45, 19)] S S33 by rw [eS33]; exact cfr.new hw (eS33 ▸ y25_))
    intro S35 eS35 y26_ y27_
    replace h := h S35 eS35 y26_ y27_
    replace f := f.tr (show cfr [215, 216, 217, 402, 404, 405] [(45, 2), (45, 3), (45, 4), (45, 5), (45, 8), (45, 9), (45, 11), (45, 12), (45, 13), (45, 14), (45, 15), (45, 16), (45, 17), (45, 18), (45, 19)] S33 S35 by rw [eS35]; exact cfr.oR y26_ (by decide))
    refine ⟨h.1, ?_⟩
    replace h := h.2
    intro S39 eS39 y28_
    replace h := h S39 eS39 y28_
    replace f := f.tr (show cfr [215, 216, 217, 402, 404, 405] [(45, 2), (45, 3), (45, 4), (45, 5), (45, 8), (45, 9), (45, 11), (45, 12), (45, 13), (45, 14), (45, 15), (45, 16), (45, 17), (45, 18), (45, 19)] S35 S39 by rw [eS39]; exact cfr.new y27_ (eS39 ▸ y28_))
    intro S41 eS41 y29_ y30_
    replace h := h S41 eS41 y29_ y30_
    replace f := f.tr (show cfr [215, 216, 217, 402, 404, 405] [(45, 2), (45, 3), (45, 4), (45, 5), (45, 8), (45, 9), (45, 11), (45, 12), (45, 13), (45, 14), (45, 15), (45, 16), (45, 17), (45, 18), (45, 19)] S39 S41 by rw [eS41]; exact cfr.oR y29_ (by decide))
    exact fr_X5_play_J26 f h
  · replace h := h.2 c
    exact fr_X5_play_J26 f h
set_option maxRecDepth 100000 in
theorem fr_X12_run_J24 {S0 : MS} {Q : Int32 → MS → Prop} {U24 : MS} {v24_3 : Int32} (f : cfr [215, 216, 217, 402, 404, 405] [(45, 2), (45, 3), (45, 4), (45, 5), (45, 7), (45, 8), (45, 9), (45, 11), (45, 12), (45, 13), (45, 14), (45, 15), (45, 16), (45, 17), (45, 18), (45, 19)] S0 U24) (h : w_X12_run_J24 Q U24 v24_3) : w_X12_run_J24 (fun r u => Q r u ∧ cfr [215, 216, 217, 402, 404, 405] [(45, 2), (45, 3), (45, 4), (45, 5), (45, 7), (45, 8), (45, 9), (45, 11), (45, 12), (45, 13), (45, 14), (45, 15), (45, 16), (45, 17), (45, 18), (45, 19)] S0 u) U24 v24_3 := by
  unfold w_X12_run_J24 at h ⊢
  intro y1_
  replace h := h y1_
  intro S5 eS5 y2_ y3_
  replace h := h S5 eS5 y2_ y3_
  replace f := f.tr (show cfr [215, 216, 217, 402, 404, 405] [(45, 2), (45, 3), (45, 4), (45, 5), (45, 7), (45, 8), (45, 9), (45, 11), (45, 12), (45, 13), (45, 14), (45, 15), (45, 16), (45, 17), (45, 18), (45, 19)] U24 S5 by rw [eS5]; exact cfr.oI y2_ (by decide))
  exact ⟨h, f⟩
set_option maxRecDepth 100000 in
theorem frX12_run {S : MS} {x1 : Int32} {x2 : Int32} {Q : Int32 → MS → Prop} (hw : wfC S) (h : wX12_run S x1 x2 Q) : wX12_run S x1 x2 (fun r u => Q r u ∧ cfr [215, 216, 217, 402, 404, 405] [(45, 2), (45, 3), (45, 4), (45, 5), (45, 7), (45, 8), (45, 9), (45, 11), (45, 12), (45, 13), (45, 14), (45, 15), (45, 16), (45, 17), (45, 18), (45, 19)] S u) := by
  have f : cfr [215, 216, 217, 402, 404, 405] [(45, 2), (45, 3), (45, 4), (45, 5), (45, 7), (45, 8), (45, 9), (45, 11), (45, 12), (45, 13), (45, 14), (45, 15), (45, 16), (45, 17), (45, 18), (45, 19)] S S := cfr.rf
  unfold wX12_run at h ⊢
  obtain ⟨Q9, h0, h⟩ := h
  refine ⟨_, frX5_refusal hw h0, ?_⟩
  intro r2 S3 q4_ y5_ y6_
  replace h := h r2 S3 q4_.1 y5_ y6_
  replace f := f.tr (q4_.2.mo (by decide) (by decide))
  refine ⟨fun c => ?_, fun c => ?_⟩
  · replace h := h.1 c
    obtain ⟨Q9, h0, h⟩ := h
    refine ⟨_, frX5_play y5_ h0, ?_⟩
    intro r8 S9 q7_ y8_ y9_
    replace h := h r8 S9 q7_.1 y8_ y9_
    replace f := f.tr (q7_.2.mo (by decide) (by decide))
    exact fr_X12_run_J24 f h
  · replace h := h.2 c
    exact fr_X12_run_J24 f h
/-! numbers -/
theorem t_addk {a b : Int32} (h : -2147483648 ≤ a.toInt + b.toInt ∧ a.toInt + b.toInt ≤ 2147483647) : (a + b).toInt = a.toInt + b.toInt := by
  rw [Int32.toInt_add]
  apply Int.bmod_eq_of_le <;> omega
theorem t_subk {a b : Int32} (h : -2147483648 ≤ a.toInt - b.toInt ∧ a.toInt - b.toInt ≤ 2147483647) : (a - b).toInt = a.toInt - b.toInt := by
  rw [Int32.toInt_sub]
  apply Int.bmod_eq_of_le <;> omega
theorem t_mulk {a b : Int32} (h : -2147483648 ≤ a.toInt * b.toInt ∧ a.toInt * b.toInt ≤ 2147483647) : (a * b).toInt = a.toInt * b.toInt := by
  rw [Int32.toInt_mul]
  apply Int.bmod_eq_of_le <;> omega
theorem li_m1k : (-1 : Int32).toInt = -1 := by decide
theorem li_0k : (0 : Int32).toInt = 0 := by decide
theorem li_1k : (1 : Int32).toInt = 1 := by decide
theorem li_2k : (2 : Int32).toInt = 2 := by decide
theorem li_3k : (3 : Int32).toInt = 3 := by decide
theorem li_4k : (4 : Int32).toInt = 4 := by decide
theorem li_6k : (6 : Int32).toInt = 6 := by decide
theorem li_8k : (8 : Int32).toInt = 8 := by decide
theorem li_9k : (9 : Int32).toInt = 9 := by decide
theorem li_16k : (16 : Int32).toInt = 16 := by decide
theorem li_24k : (24 : Int32).toInt = 24 := by decide
theorem li_42k : (42 : Int32).toInt = 42 := by decide
theorem li_48k : (48 : Int32).toInt = 48 := by decide
theorem li_63k : (63 : Int32).toInt = 63 := by decide
theorem li_64 : (64 : Int32).toInt = 64 := by decide
theorem li_75k : (75 : Int32).toInt = 75 := by decide
theorem li_96 : (96 : Int32).toInt = 96 := by decide
theorem li_1200 : (1200 : Int32).toInt = 1200 := by decide
theorem li_20000 : (20000 : Int32).toInt = 20000 := by decide
theorem lo_m1k : (Int32.ofInt (-1)).toInt = -1 := by decide
theorem lo_1k : (Int32.ofInt (1)).toInt = 1 := by decide
theorem lo_2k : (Int32.ofInt (2)).toInt = 2 := by decide
section RDS
variable {S : MS} {h i : Nat} {v : Int32} {w : Int64} {r : Option Nat}
end RDS
theorem c_andk {z x m : Int32} {k b : Nat} (h : z = x &&& m) (hm : m.toBitVec.toNat = 2 ^ k - 1) (hk : k ≤ 30) (hb : 2 ^ k = b) : 0 ≤ z.toInt ∧ z.toInt < b := by
  obtain ⟨j, hj, e⟩ := pk_andE x k hm
  have h2 : 2 ^ k ≤ 2 ^ 30 := Nat.pow_le_pow_right (by decide) hk
  have h3 : (2 : Nat) ^ 30 < 2 ^ 31 := by decide
  rw [h, e, nI_toInt (by omega)]
  omega
theorem c_ork {z x y : Int32} {k b : Nat} (h : z = x ||| y) (hb : 2 ^ k = b) (hk : k ≤ 30) (hx : 0 ≤ x.toInt ∧ x.toInt < b) (hy : 0 ≤ y.toInt ∧ y.toInt < b) : 0 ≤ z.toInt ∧ z.toInt < b := by
  have h2 : 2 ^ k ≤ 2 ^ 30 := Nat.pow_le_pow_right (by decide) hk
  have h3 : (2 : Nat) ^ 30 < 2 ^ 31 := by decide
  have ex : x = nI x.toInt.toNat := by
    apply Int32.toInt_inj.mp
    rw [nI_toInt (by omega)]
    omega
  have ey : y = nI y.toInt.toNat := by
    apply Int32.toInt_inj.mp
    rw [nI_toInt (by omega)]
    omega
  have hn : x.toInt.toNat ||| y.toInt.toNat < 2 ^ k := Nat.or_lt_two_pow (by omega) (by omega)
  have ez : z = nI (x.toInt.toNat ||| y.toInt.toNat) := by
    apply Int32.toBitVec_inj.mp
    apply BitVec.eq_of_toNat_eq
    rw [h, Int32.toBitVec_or, BitVec.toNat_or, pk_tn (by omega)]
    conv => lhs; rw [ex, ey]
    rw [pk_tn (by omega), pk_tn (by omega)]
  rw [ez, nI_toInt (by omega)]
  omega
theorem c_shlk {z x y : Int32} {k j b c : Nat} (h : z = x <<< (y &&& 31)) (hs : ((y &&& 31).toBitVec.smod 32).toNat = k) (hb : 2 ^ j = b) (hc : 2 ^ (j + k) = c) (hk : j + k ≤ 30) (hx : 0 ≤ x.toInt ∧ x.toInt < b) : 0 ≤ z.toInt ∧ z.toInt < c := by
  have h2 : 2 ^ (j + k) ≤ 2 ^ 30 := Nat.pow_le_pow_right (by decide) hk
  have h3 : (2 : Nat) ^ 30 < 2 ^ 31 := by decide
  have ex : x = nI x.toInt.toNat := by
    apply Int32.toInt_inj.mp
    have : (2 : Nat) ^ j ≤ 2 ^ (j + k) := Nat.pow_le_pow_right (by decide) (by omega)
    rw [nI_toInt (by omega)]
    omega
  have hm : x.toInt.toNat * 2 ^ k < 2 ^ (j + k) := by
    rw [Nat.pow_add]
    exact Nat.mul_lt_mul_of_pos_right (by omega) (Nat.two_pow_pos k)
  have ez : z = nI (x.toInt.toNat * 2 ^ k) := by
    rw [h]
    conv => lhs; rw [ex]
    exact pk_shlN _ k hs (by omega)
  rw [ez, nI_toInt (by omega)]
  omega
theorem c_cmpk {x y : Int64} : ((lg_cmp x y).toInt = 1 ∧ y.toInt < x.toInt) ∨ ((lg_cmp x y).toInt = 0 ∧ x.toInt = y.toInt) ∨ ((lg_cmp x y).toInt = -1 ∧ x.toInt < y.toInt) := by
  unfold lg_cmp
  split
  · rename_i q
    exact Or.inl ⟨by decide, Int64.lt_iff_toInt_lt.mp q⟩
  · split
    · rename_i q1 q
      exact Or.inr (Or.inl ⟨by decide, by rw [q]⟩)
    · rename_i q1 q2
      refine Or.inr (Or.inr ⟨by decide, ?_⟩)
      have h5 : x.toInt ≠ y.toInt := fun e => q2 (Int64.toInt_inj.mp e)
      have h4 : ¬ y.toInt < x.toInt := fun e => q1 (Int64.lt_iff_toInt_lt.mpr e)
      omega
theorem c_lek {x y : Int64} : (lg_cmp x y).toInt ≤ 0 ↔ x.toInt ≤ y.toInt := by
  have := c_cmpk (x := x) (y := y)
  omega
/-! Bytes -/
def p2L : List Nat := [64, 128, 256, 512, 1024, 2048, 4096, 8192, 16384, 32768, 65536, 131072]
theorem p2_dbl : ∀ l ∈ p2L, ∀ c ∈ p2L, l < c → 2 * l ≤ c ∧ 2 * l ∈ p2L := by decide
theorem p2_le : ∀ l ∈ p2L, 64 ≤ l ∧ l ≤ 131072 := by decide
theorem toI_nat {n : Nat} (h : n < 2147483648) : (Int32.ofNat n).toInt = n := nI_toInt h
/-- new cells are rows of bytes -/
def nw9 (S u : MS) : Prop := (∀ a, qT S a = 0 → qT u a = 0 ∨ qT u a = 101) ∧ ∀ a, qn S ≤ a → a < qn u → qT u a ≠ 0
theorem nw9.eq {S u : MS} (h : qT u = qT S) (n : qn u = qn S) : nw9 S u := ⟨fun a e => Or.inl (by rw [h]; exact e), fun a l1 l2 => absurd l2 (by omega)⟩
theorem nw9.tr {S u v : MS} (h : nw9 S u) (k : nw9 u v) (s : shx u v) : nw9 S v := by
  refine ⟨fun a e => ?_, fun a l1 l2 => ?_⟩
  · rcases h.1 a e with q | q
    · exact k.1 a q
    · exact Or.inr (s.T q (by decide))
  · by_cases c : a < qn u
    · have := h.2 a l1 c
      rw [(s.1 a this).1]; exact this
    · exact k.2 a (by omega) l2
theorem nw9.new {S : MS} {n k : Nat} : nw9 S (wN S 101 n k) := by
  have eT : ∀ a, qT (wN S 101 n k) a = if a = qn S then 101 else qT S a := fun _ => rfl
  have en : qn (wN S 101 n k) = qn S + 1 := rfl
  refine ⟨fun a e => ?_, fun a l1 l2 => ?_⟩
  · rw [eT]
    split
    · exact Or.inr rfl
    · exact Or.inl e
  · rw [eT, if_pos (by omega)]; decide
/-- all but the rows of bytes and the object b -/
def fb (b : Nat) (S u : MS) : Prop := shx S u ∧ (∀ a j : Nat, qT S a ≠ 0 → qT S a ≠ 101 → a ≠ b → qI u a j = qI S a j ∧ qJ u a j = qJ S a j ∧ qR u a j = qR S a j) ∧ nw9 S u
theorem fb.rf {b : Nat} {S : MS} : fb b S S := ⟨shx.rf, fun _ _ _ _ _ => ⟨rfl, rfl, rfl⟩, nw9.eq rfl rfl⟩
theorem fb.tr {b : Nat} {S u v : MS} (h : fb b S u) (k : fb b u v) : fb b S v := ⟨h.1.tr k.1, fun a j a0 a1 ab => (by
  have e := (h.1.1 a a0).1
  obtain ⟨p1, p2, p3⟩ := h.2.1 a j a0 a1 ab
  obtain ⟨q1, q2, q3⟩ := k.2.1 a j (by rw [e]; exact a0) (by rw [e]; exact a1) ab
  exact ⟨q1.trans p1, q2.trans p2, q3.trans p3⟩), h.2.2.tr k.2.2 k.1⟩
def ByI (S : MS) (b cap : Nat) : Prop := qR S b 0 = some (qO S b 0) ∧ (0 ≤ (qI S b 1).toInt ∧ (qI S b 1).toInt ≤ qN S (qO S b 0)) ∧ qN S (qO S b 0) ∈ p2L ∧ qN S (qO S b 0) ≤ cap
/-- what was made for the row of bytes: the book -/
def bkB (b : Nat) (S u : MS) : Prop := 64 * qn u + qN S (qO S b 0) ≤ 64 * qn S + qN u (qO u b 0) ∧ qu u + 2 * qN S (qO S b 0) ≤ qu S + 2 * qN u (qO u b 0)
def ByPk (b : Nat) (k : Int) (cap : Nat) (S u : MS) : Prop := ByI u b cap ∧ (qI u b 1).toInt = (qI S b 1).toInt + k ∧ fb b S u ∧ bkB b S u
theorem ByPk.tr {b cap : Nat} {k l : Int} {S u v : MS} (h : ByPk b k cap S u) (h' : ByPk b l cap u v) : ByPk b (k + l) cap S v := by
  obtain ⟨h1, h2, h3, h4, h5⟩ := h
  obtain ⟨k1, k2, k3, k4, k5⟩ := h'
  exact ⟨k1, by omega, h3.tr k3, by omega, by omega⟩
theorem sp_copyOfB {S : MS} {kd p : Nat} {x : Int32} {Q : Nat → MS → Prop} (hL : qN S p < 2147483648) (hp : p ≠ qn S) (hx : 0 ≤ x.toInt) (hr : qn S + 1 ≤ KCC ∧ qu S + x.toInt.toNat ≤ KSC) (hQ : ∀ (f : Nat → Int32) (u : MS), u = wC (wN S kd x.toInt.toNat x.toInt.toNat) (qn S) f → wfC u → Q (qn S) u) : wJ7_copyOf_9075b S kd p x Q := by
  have eL := toI_nat hL
  unfold wJ7_copyOf_9075b
  refine ⟨fun c => ?_, fun c => ?_⟩
  · rw [eL] at c
    have en : qN S p = x.toInt.toNat := by omega
    refine ⟨⟨hr.1, by rw [en]; exact hr.2⟩, fun S13 e w => ?_⟩
    refine hQ (qI S p) S13 ?_ w
    rw [e]
    unfold wKC
    rw [en]
  · refine ⟨⟨hx, hr⟩, fun S5 e5 w5 => ?_⟩
    have e1 : qN S5 p = qN S p := by rw [e5]; exact if_neg hp
    have e2 : qN S5 (qn S) = x.toInt.toNat := by rw [e5]; exact if_pos rfl
    have z : (0 : Int32).toNatClampNeg = 0 := by decide
    rw [e1, e2]
    have hm : ∃ y : Int32, y = (if x < (Int32.ofNat (qN S p)) then x else (Int32.ofNat (qN S p))) ∧ 0 ≤ y.toInt ∧ y.toInt ≤ qN S p ∧ y.toInt ≤ x.toInt := by
      by_cases cc : x < (Int32.ofNat (qN S p))
      · have c' := n_lt.mp cc
        rw [eL] at c'
        exact ⟨x, by rw [if_pos cc], hx, by omega, by omega⟩
      · have c' : ¬ x.toInt < (Int32.ofNat (qN S p)).toInt := fun q => cc (n_lt.mpr q)
        rw [eL] at c'
        exact ⟨Int32.ofNat (qN S p), by rw [if_neg cc], by rw [eL]; omega, by rw [eL]; omega, by rw [eL]; omega⟩
    obtain ⟨y, ey, y0, y1, y2⟩ := hm
    rw [← ey]
    have yn : y.toNatClampNeg = y.toInt.toNat := rfl
    refine ⟨⟨by decide, by decide, fun q => ?_, by rw [z, yn]; omega, by rw [z, yn]; omega⟩, fun S9 e9 k9 w9 => ?_⟩
    · have := n_lt.mp q
      rw [li_0k] at this
      omega
    · rw [e5] at e9
      exact hQ _ S9 e9 w9
theorem wCN_R {S : MS} {t n k a j : Nat} {f : Nat → Int32} : qR (wC (wN S t n k) (qn S) f) a j = if a = qn S then none else qR S a j := by
  show (if a = qn S then fun _ => none else qR S a) j = _
  split <;> rfl
theorem wCN_I {S : MS} {t n k a j : Nat} {f : Nat → Int32} (h : a ≠ qn S) : qI (wC (wN S t n k) (qn S) f) a j = qI S a j := by
  show (if a = qn S then f else (if a = qn S then fun _ => 0 else qI S a)) j = _
  rw [if_neg h, if_neg h]
theorem wCN_J {S : MS} {t n k a j : Nat} {f : Nat → Int32} (h : a ≠ qn S) : qJ (wC (wN S t n k) (qn S) f) a j = qJ S a j := by
  show (if a = qn S then fun _ => 0 else qJ S a) j = _
  rw [if_neg h]
theorem wCN_T {S : MS} {t n k a : Nat} {f : Nat → Int32} (h : a ≠ qn S) : qT (wC (wN S t n k) (qn S) f) a = qT S a := if_neg h
theorem wCN_N {S : MS} {t n k a : Nat} {f : Nat → Int32} (h : a ≠ qn S) : qN (wC (wN S t n k) (qn S) f) a = qN S a := if_neg h
theorem wCN_n {S : MS} {t n k : Nat} {f : Nat → Int32} : qN (wC (wN S t n k) (qn S) f) (qn S) = n := if_pos rfl
/-- a handle of a kind is no new one -/
theorem wfC.ne {S : MS} {a t : Nat} (w : wfC S) (hn : qn S < TXB) (e : qT S a = t) (h0 : t ≠ 0) : a ≠ qn S := fun q => h0 (by rw [← e, q]; exact w.nx hn)
theorem qO_of {S : MS} {a j b : Nat} (h : qR S a j = some b) : qO S a j = b := by unfold qO; rw [h]; rfl
theorem KC_TX {n : Nat} (h : n + 1 ≤ KCC) : n < TXB := by
  have e : KCC = 300000 := rfl
  have e7 : TXB = 10000000 := rfl
  omega
theorem sp_put30 {S : MS} {b cap : Nat} {x : Int32} {Q : MS → Prop} (h : ByI S b cap) (hc : (qI S b 1).toInt < qN S (qO S b 0)) (hQ : ∀ u : MS, ByPk b 1 cap S u → Q u) : w_X0_put_J30 Q S b x := by
  obtain ⟨h1, h2, h3, h4⟩ := h
  have hl := p2_le _ h3
  unfold w_X0_put_J30
  intro w k
  refine ⟨h1, ⟨h2.1, hc⟩, fun S6 e6 k6 w6 S8 e8 k8 w8 => hQ S8 ?_⟩
  have hne : b ≠ qO S b 0 := fun q => by rw [← q, k] at k6; exact absurd k6 (by decide)
  have r8 : ∀ a j, qR S8 a j = qR S a j := fun a j => by rw [e8, e6]; rfl
  have n8 : ∀ a, qN S8 a = qN S a := fun a => by rw [e8, e6]; rfl
  have o8 : qO S8 b 0 = qO S b 0 := by unfold qO; rw [r8]
  have i6 : qI S6 b 1 = qI S b 1 := by rw [e6, qI_wI, if_neg (fun q => hne q.1)]
  have i8 : (qI S8 b 1).toInt = (qI S b 1).toInt + 1 := by
    rw [e8, qI_wI, if_pos ⟨rfl, rfl⟩, i6, t_addk (by rw [li_1k]; omega), li_1k]
  have un : qu S8 = qu S := by rw [e8, e6]; rfl
  have nn : qn S8 = qn S := by rw [e8, e6]; rfl
  refine ⟨⟨by rw [r8, o8]; exact h1, ⟨by omega, by rw [o8, n8]; omega⟩, by rw [o8, n8]; exact h3, by rw [o8, n8]; exact h4⟩, i8, ⟨⟨fun a _ => by rw [e8, e6]; exact ⟨rfl, rfl⟩, by rw [nn]; exact Nat.le_refl _⟩, fun a j a0 a1 ab => ⟨?_, by rw [e8, e6]; rfl, r8 a j⟩, nw9.eq (by rw [e8, e6]; rfl) nn⟩, by rw [o8, n8, nn]; exact Nat.le_refl _, by rw [o8, n8, un]; exact Nat.le_refl _⟩
  have a6 : a ≠ qO S b 0 := fun q => a1 (by rw [q]; exact k6)
  rw [e8, qI_wI, if_neg (fun q => ab q.1), e6, qI_wI, if_neg (fun q => a6 q.1)]
/-- the room that the row of bytes may still take -/
def RmB (b cap : Nat) (S : MS) : Prop := 64 * qn S + cap ≤ 64 * KCC + qN S (qO S b 0) ∧ qu S + 2 * cap ≤ KSC + 2 * qN S (qO S b 0)
theorem RmB.mo {b cap : Nat} {S u : MS} (h : RmB b cap S) (k : bkB b S u) : RmB b cap u := ⟨by have := h.1; have := k.1; omega, by have := h.2; have := k.2; omega⟩
theorem sp_put {S : MS} {b cap : Nat} {x : Int32} {Q : MS → Prop} (w : wfC S) (hb : qT S b = 40) (h : ByI S b cap) (hcap : cap ∈ p2L) (hc : (qI S b 1).toInt < cap) (hR : RmB b cap S) (hQ : ∀ u : MS, ByPk b 1 cap S u → Q u) : wX0_put S b x Q := by
  obtain ⟨h1, h2, h3, h4⟩ := id h
  have hl := p2_le _ h3
  have eL := toI_nat (n := qN S (qO S b 0)) (by omega)
  unfold wX0_put
  refine ⟨h1, fun c => sp_put30 h (by omega) hQ, fun c => ⟨h1, h1, fun kd => ?_⟩⟩
  have hlc : qN S (qO S b 0) < cap := by omega
  obtain ⟨d1, d2⟩ := p2_dbl _ h3 _ hcap hlc
  have hr : qn S + 1 ≤ KCC ∧ qu S + 2 * qN S (qO S b 0) ≤ KSC := ⟨by have := hR.1; omega, by have := hR.2; omega⟩
  have em : ((2 : Int32) * (Int32.ofNat (qN S (qO S b 0)))).toInt = 2 * qN S (qO S b 0) := by rw [t_mulk (by rw [li_2k, eL]; omega), li_2k, eL]
  have hT := KC_TX hr.1
  have hne := w.ne hT kd (by decide)
  have hbn := w.ne hT hb (by decide)
  refine ⟨_, sp_copyOfB (by omega) hne (by omega) ⟨hr.1, by rw [em]; omega⟩ (Q := fun r u => r = qn S ∧ ∃ f, u = wC (wN S 101 (2 * qN S (qO S b 0)) (2 * qN S (qO S b 0))) (qn S) f) (fun f u e _ => ⟨rfl, f, by rw [e, em]; congr 2⟩), ?_⟩
  rintro r S17 ⟨rfl, f, e⟩ w17 s17 k17 S21 e21 k21 w21
  have r21 : ∀ a j, ¬ (a = b ∧ j = 0) → a ≠ qn S → qR S21 a j = qR S a j := fun a j q qa => by rw [e21, qR_wR, if_neg q, e, wCN_R, if_neg qa]
  have o21 : qR S21 b 0 = some (qn S) := by rw [e21, qR_wR, if_pos ⟨rfl, rfl⟩]
  have n21 : qN S21 (qn S) = 2 * qN S (qO S b 0) := by rw [e21]; show qN S17 (qn S) = _; rw [e]; exact wCN_n
  have q21 : qO S21 b 0 = qn S := qO_of o21
  have i21 : qI S21 b 1 = qI S b 1 := by rw [e21]; show qI S17 b 1 = _; rw [e]; exact wCN_I hbn
  have nn : qn S21 = qn S + 1 := by rw [e21, e]; rfl
  have un : qu S21 = qu S + 2 * qN S (qO S b 0) := by rw [e21, e]; rfl
  have g : fb b S S21 := ⟨⟨fun a a0 => by
    have han : a ≠ qn S := fun q => a0 (by rw [q]; exact w.nx hT)
    rw [e21]
    show qT S17 a = _ ∧ qN S17 a = _
    rw [e]
    exact ⟨wCN_T han, wCN_N han⟩, by omega⟩, (fun a j a0 a1 ab => by
    have han : a ≠ qn S := fun q => a0 (by rw [q]; exact w.nx hT)
    refine ⟨?_, ?_, r21 a j (fun q => ab q.1) han⟩
    · rw [e21]; show qI S17 a j = _; rw [e]; exact wCN_I han
    · rw [e21]; show qJ S17 a j = _; rw [e]; exact wCN_J han), by
    have h9 : nw9 S (wN S 101 (2 * qN S (qO S b 0)) (2 * qN S (qO S b 0))) := nw9.new
    have eT : qT S21 = qT (wN S 101 (2 * qN S (qO S b 0)) (2 * qN S (qO S b 0))) := by rw [e21, e]; rfl
    exact ⟨fun a z => by rw [eT]; exact h9.1 a z, fun a l1 l2 => by rw [eT]; exact h9.2 a l1 (by rw [nn] at l2; exact l2)⟩⟩
  refine sp_put30 (cap := cap) ⟨by rw [q21]; exact o21, ⟨by rw [i21]; exact h2.1, by rw [q21, n21, i21]; omega⟩, by rw [q21, n21]; exact d2, by rw [q21, n21]; exact d1⟩ (by rw [q21, n21, i21]; omega) (fun u hu => hQ u ?_)
  obtain ⟨u1, u2, u3, u4, u5⟩ := hu
  rw [q21, n21] at u4 u5
  exact ⟨u1, by rw [u2, i21], g.tr u3, by omega, by omega⟩
theorem fb.T {b a t : Nat} {S u : MS} (h : fb b S u) (e : qT S a = t) (h0 : t ≠ 0) : qT u a = t := h.1.T e h0
theorem sp_put2 {S : MS} {b cap : Nat} {x : Int32} {Q : MS → Prop} (w : wfC S) (hb : qT S b = 40) (h : ByI S b cap) (hcap : cap ∈ p2L) (hc : (qI S b 1).toInt + 1 < cap) (hR : RmB b cap S) (hQ : ∀ u : MS, ByPk b 2 cap S u → Q u) : wX0_put2 S b x Q := by
  unfold wX0_put2
  intro _
  refine ⟨_, sp_put w hb h hcap (by omega) hR (Q := ByPk b 1 cap S) (fun u hu => hu), ?_⟩
  intro u hu wu _ ku
  refine ⟨_, sp_put wu ku hu.1 hcap (by have := hu.2.1; omega) (hR.mo hu.2.2.2) (Q := ByPk b 1 cap u) (fun v hv => hv), ?_⟩
  intro v hv _ _
  exact hQ v (hu.tr hv)
theorem sp_put4 {S : MS} {b cap : Nat} {x : Int32} {Q : MS → Prop} (w : wfC S) (hb : qT S b = 40) (h : ByI S b cap) (hcap : cap ∈ p2L) (hc : (qI S b 1).toInt + 3 < cap) (hR : RmB b cap S) (hQ : ∀ u : MS, ByPk b 4 cap S u → Q u) : wX0_put4 S b x Q := by
  unfold wX0_put4
  intro _
  refine ⟨_, sp_put2 w hb h hcap (by omega) hR (Q := ByPk b 2 cap S) (fun u hu => hu), ?_⟩
  intro u hu wu _ ku
  refine ⟨_, sp_put2 wu ku hu.1 hcap (by have := hu.2.1; omega) (hR.mo hu.2.2.2) (Q := ByPk b 2 cap u) (fun v hv => hv), ?_⟩
  intro v hv _ _
  exact hQ v (hu.tr hv)
/-! putAll -/
theorem sp_pa58 {S : MS} {b c cap : Nat} {Q : MS → Prop} (hbc : b ≠ c) (h : ByI S b cap) (hc : qR S c 0 = some (qO S c 0) ∧ 0 ≤ (qI S c 1).toInt ∧ (qI S c 1).toInt ≤ qN S (qO S c 0)) (hs : (qI S b 1).toInt + (qI S c 1).toInt ≤ qN S (qO S b 0)) (hQ : ∀ u : MS, ByPk b (qI S c 1).toInt cap S u → Q u) : w_X0_putAll_J58 Q S b c := by
  obtain ⟨h1, h2, h3, h4⟩ := h
  have hl := p2_le _ h3
  unfold w_X0_putAll_J58
  intro w kb kc
  have z : (0 : Int32).toNatClampNeg = 0 := by decide
  have y1 : (qI S b 1).toNatClampNeg = (qI S b 1).toInt.toNat := rfl
  have y2 : (qI S c 1).toNatClampNeg = (qI S c 1).toInt.toNat := rfl
  have neg : ∀ x : Int32, 0 ≤ x.toInt → ¬ x < 0 := fun x hx q => by have := n_lt.mp q; rw [li_0k] at this; omega
  refine ⟨hc.1, h1, ⟨by decide, neg _ h2.1, neg _ hc.2.1, by rw [z, y2]; omega, by rw [y1, y2]; omega⟩, fun S12 e12 k12 w12 S14 e14 k14 w14 => hQ S14 ?_⟩
  have hne : b ≠ qO S b 0 := fun q => by rw [← q, kb] at k12; exact absurd k12 (by decide)
  have hce : c ≠ qO S b 0 := fun q => by rw [← q, kc] at k12; exact absurd k12 (by decide)
  have r14 : ∀ a j, qR S14 a j = qR S a j := fun a j => by rw [e14, e12]; rfl
  have n14 : ∀ a, qN S14 a = qN S a := fun a => by rw [e14, e12]; rfl
  have o14 : qO S14 b 0 = qO S b 0 := by unfold qO; rw [r14]
  have i12 : ∀ a, a ≠ qO S b 0 → qI S12 a = qI S a := fun a ha => by rw [e12]; exact if_neg ha
  have i14 : (qI S14 b 1).toInt = (qI S b 1).toInt + (qI S c 1).toInt := by
    rw [e14, qI_wI, if_pos ⟨rfl, rfl⟩, i12 b hne, i12 c hce, t_addk (by omega)]
  have un : qu S14 = qu S := by rw [e14, e12]; rfl
  have nn : qn S14 = qn S := by rw [e14, e12]; rfl
  refine ⟨⟨by rw [r14, o14]; exact h1, ⟨by omega, by rw [o14, n14]; omega⟩, by rw [o14, n14]; exact h3, by rw [o14, n14]; exact h4⟩, i14, ⟨⟨fun a _ => by rw [e14, e12]; exact ⟨rfl, rfl⟩, by rw [nn]; exact Nat.le_refl _⟩, fun a j a0 a1 ab => ⟨?_, by rw [e14, e12]; rfl, r14 a j⟩, nw9.eq (by rw [e14, e12]; rfl) nn⟩, by rw [o14, n14, nn]; exact Nat.le_refl _, by rw [o14, n14, un]; exact Nat.le_refl _⟩
  have a6 : a ≠ qO S b 0 := fun q => a1 (by rw [q]; exact k12)
  rw [e14, qI_wI, if_neg (fun q => ab q.1), i12 a a6]
theorem p2_lt : ∀ l ∈ p2L, ∀ c ∈ p2L, l < c → 2 * l ≤ c := fun l hl c hc h => (p2_dbl l hl c hc h).1
theorem sp_pa37 {S : MS} {b c cap : Nat} {x : Int32} {Q : MS → Prop} (hbc : b ≠ c) (h : ByI S b cap) (hc : qR S c 0 = some (qO S c 0) ∧ 0 ≤ (qI S c 1).toInt ∧ (qI S c 1).toInt ≤ qN S (qO S c 0)) (hx : x.toInt.toNat ∈ p2L ∧ qN S (qO S b 0) ≤ x.toInt.toNat ∧ x.toInt.toNat ≤ cap) (hs : (qI S b 1).toInt + (qI S c 1).toInt ≤ x.toInt) (hR : RmB b cap S) (hQ : ∀ u : MS, ByPk b (qI S c 1).toInt cap S u → Q u) : w_X0_putAll_J37 Q S b c x := by
  obtain ⟨h1, h2, h3, h4⟩ := id h
  have hl := p2_le _ h3
  have hlx := p2_le _ hx.1
  have eL := toI_nat (n := qN S (qO S b 0)) (by omega)
  unfold w_X0_putAll_J37
  intro w kb kc
  refine ⟨h1, fun q => sp_pa58 hbc h hc (by omega) hQ, fun q => ⟨h1, fun kd => ?_⟩⟩
  have hlt : qN S (qO S b 0) < x.toInt.toNat := by omega
  have hd := p2_lt _ h3 _ hx.1 hlt
  have hr : qn S + 1 ≤ KCC ∧ qu S + x.toInt.toNat ≤ KSC := ⟨by have := hR.1; omega, by have := hR.2; omega⟩
  have hT := KC_TX hr.1
  have hne := w.ne hT kd (by decide)
  have hbn := w.ne hT kb (by decide)
  have hcn := w.ne hT kc (by decide)
  refine ⟨_, sp_copyOfB (by omega) hne (by omega) hr (Q := fun r u => r = qn S ∧ ∃ f, u = wC (wN S 101 x.toInt.toNat x.toInt.toNat) (qn S) f) (fun f u e _ => ⟨rfl, f, e⟩), ?_⟩
  rintro r S17 ⟨rfl, f, e⟩ w17 s17 k17 S21 e21 k21 w21
  have r21 : ∀ a j, ¬ (a = b ∧ j = 0) → a ≠ qn S → qR S21 a j = qR S a j := fun a j q qa => by rw [e21, qR_wR, if_neg q, e, wCN_R, if_neg qa]
  have o21 : qR S21 b 0 = some (qn S) := by rw [e21, qR_wR, if_pos ⟨rfl, rfl⟩]
  have n21 : qN S21 (qn S) = x.toInt.toNat := by rw [e21]; show qN S17 (qn S) = _; rw [e]; exact wCN_n
  have q21 : qO S21 b 0 = qn S := qO_of o21
  have iz : ∀ a j, a ≠ qn S → qI S21 a j = qI S a j := fun a j ha => by rw [e21]; show qI S17 a j = _; rw [e]; exact wCN_I ha
  have nn : qn S21 = qn S + 1 := by rw [e21, e]; rfl
  have un : qu S21 = qu S + x.toInt.toNat := by rw [e21, e]; rfl
  have g : fb b S S21 := ⟨⟨fun a a0 => by
    have han : a ≠ qn S := fun q => a0 (by rw [q]; exact w.nx hT)
    rw [e21]
    show qT S17 a = _ ∧ qN S17 a = _
    rw [e]
    exact ⟨wCN_T han, wCN_N han⟩, by omega⟩, (fun a j a0 a1 ab => by
    have han : a ≠ qn S := fun q => a0 (by rw [q]; exact w.nx hT)
    refine ⟨iz a j han, ?_, r21 a j (fun q => ab q.1) han⟩
    rw [e21]; show qJ S17 a j = _; rw [e]; exact wCN_J han), by
    have h9 : nw9 S (wN S 101 x.toInt.toNat x.toInt.toNat) := nw9.new
    have eT : qT S21 = qT (wN S 101 x.toInt.toNat x.toInt.toNat) := by rw [e21, e]; rfl
    exact ⟨fun a z => by rw [eT]; exact h9.1 a z, fun a l1 l2 => by rw [eT]; exact h9.2 a l1 (by rw [nn] at l2; exact l2)⟩⟩
  have rc : qR S21 c 0 = qR S c 0 := r21 c 0 (fun q => hbc q.1.symm) hcn
  have oc : qO S21 c 0 = qO S c 0 := by unfold qO; rw [rc]
  have kcd : qT S (qO S c 0) = 101 := w.ref hc.1 kc
  have hcd := w.ne hT kcd (by decide)
  have nc : qN S21 (qO S c 0) = qN S (qO S c 0) := (g.1.1 _ (by rw [kcd]; decide)).2
  refine sp_pa58 (cap := cap) hbc ⟨by rw [q21]; exact o21, ⟨by rw [iz b 1 hbn]; exact h2.1, by rw [q21, n21, iz b 1 hbn]; omega⟩, by rw [q21, n21]; exact hx.1, by rw [q21, n21]; exact hx.2.2⟩ ⟨by rw [oc, rc]; exact hc.1, by rw [iz c 1 hcn]; exact hc.2.1, by rw [oc, nc, iz c 1 hcn]; exact hc.2.2⟩ (by rw [q21, n21, iz b 1 hbn, iz c 1 hcn]; omega) (fun u hu => hQ u ?_)
  obtain ⟨u1, u2, u3, u4, u5⟩ := hu
  rw [q21, n21] at u4 u5
  exact ⟨u1, by rw [u2, iz b 1 hbn, iz c 1 hcn], g.tr u3, by omega, by omega⟩
theorem sp_pa8 {S : MS} {b c cap : Nat} {Q : MS → Prop} (hbc : b ≠ c) (h : ByI S b cap) (hcap : cap ∈ p2L) (hc : qR S c 0 = some (qO S c 0) ∧ 0 ≤ (qI S c 1).toInt ∧ (qI S c 1).toInt ≤ qN S (qO S c 0)) (hs : (qI S b 1).toInt + (qI S c 1).toInt ≤ cap) (hR : RmB b cap S) (hQ : ∀ u : MS, ByPk b (qI S c 1).toInt cap S u → Q u) : ∀ (n : Nat) (x y : Int32), x.toInt.toNat ∈ p2L → qN S (qO S b 0) ≤ x.toInt.toNat → x.toInt.toNat ≤ cap → 0 ≤ y.toInt → (31 - y.toInt < n) → (2 : Int) ^ (y.toInt.toNat) * 64 ≤ x.toInt → w_X0_putAll_L8 Q n S b c x y := by
  have hlc := p2_le _ hcap
  have hl := p2_le _ h.2.2.1
  have es : ((qI S b 1) + (qI S c 1)).toInt = (qI S b 1).toInt + (qI S c 1).toInt := t_addk (by have := h.2.1; have := hc.2; omega)
  intro n
  induction n with
  | zero =>
    intro x y hx h1 h2 h3 h4 h5
    exfalso
    have hx2 := p2_le _ hx
    have : (2 : Int) ^ (y.toInt.toNat) * 64 ≥ 2 ^ 31 * 64 := Int.mul_le_mul_of_nonneg_right (by
      have e : (31 : Nat) ≤ y.toInt.toNat := by omega
      exact_mod_cast Nat.pow_le_pow_right (by decide) e) (by decide)
    have e2 : (2 : Int) ^ 31 * 64 = 137438953472 := by decide
    omega
  | succ n ih =>
    intro x y hx h1 h2 h3 h4 h5
    have hx2 := p2_le _ hx
    unfold w_X0_putAll_L8
    intro w kb kc
    rw [es]
    refine ⟨fun q => sp_pa37 hbc h hc ⟨hx, h1, h2⟩ q hR hQ, fun q => ⟨fun q2 => ?_, fun q2 a28 e28 a29 e29 => ?_⟩⟩
    · exfalso
      have : (2 : Int) ^ (y.toInt.toNat) * 64 ≥ 2 ^ 31 * 64 := Int.mul_le_mul_of_nonneg_right (by
        have e : (31 : Nat) ≤ y.toInt.toNat := by omega
        exact_mod_cast Nat.pow_le_pow_right (by decide) e) (by decide)
      have e2 : (2 : Int) ^ 31 * 64 = 137438953472 := by decide
      omega
    · have hd := p2_dbl _ hx _ hcap (by omega)
      have m28 : a28.toInt = 2 * x.toInt := by rw [e28, t_mulk (by rw [li_2k]; omega), li_2k]; omega
      have m29 : a29.toInt = y.toInt + 1 := by rw [e29, t_addk (by rw [lo_1k]; omega), lo_1k]
      have en : a28.toInt.toNat = 2 * x.toInt.toNat := by omega
      refine ih a28 a29 (by rw [en]; exact hd.2) (by rw [en]; omega) (by rw [en]; exact hd.1) (by omega) (by omega) ?_
      have ey : a29.toInt.toNat = y.toInt.toNat + 1 := by omega
      rw [ey, m28, Int.pow_succ]
      have := h5
      generalize (2 : Int) ^ y.toInt.toNat = P at this ⊢
      omega
theorem sp_putAll {S : MS} {b c cap : Nat} {Q : MS → Prop} (hbc : b ≠ c) (h : ByI S b cap) (hcap : cap ∈ p2L) (hc : qR S c 0 = some (qO S c 0) ∧ 0 ≤ (qI S c 1).toInt ∧ (qI S c 1).toInt ≤ qN S (qO S c 0)) (hs : (qI S b 1).toInt + (qI S c 1).toInt ≤ cap) (hR : RmB b cap S) (hQ : ∀ u : MS, ByPk b (qI S c 1).toInt cap S u → Q u) : wX0_putAll S b c Q := by
  have hl := p2_le _ h.2.2.1
  have eL := toI_nat (n := qN S (qO S b 0)) (by omega)
  unfold wX0_putAll
  refine ⟨h.1, fun a3 e3 => ⟨32, ?_⟩⟩
  have e3' : a3.toInt.toNat = qN S (qO S b 0) := by rw [e3, eL]; rfl
  refine sp_pa8 hbc h hcap hc hs hR hQ 32 a3 0 (by rw [e3']; exact h.2.2.1) (by rw [e3']; exact Nat.le_refl _) (by rw [e3']; exact h.2.2.2) (by decide) (by rw [li_0k]; decide) ?_
  have e0 : (2 : Int) ^ ((0 : Int32).toInt.toNat) * 64 = 64 := by decide
  rw [e0]
  omega
