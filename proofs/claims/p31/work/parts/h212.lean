set_option maxRecDepth 100000 in
theorem fr_X5_useStage_J190 {S0 : MS} {Q : MS → Prop} {U190 : MS} {v190_1 : Int32} (f : cfr [215, 216, 217, 402, 404, 405] [(45, 2), (45, 3), (45, 4), (45, 5), (45, 11), (45, 12), (45, 13), (45, 14), (45, 15), (45, 17), (45, 19)] S0 U190) (h : w_X5_useStage_J190 Q U190 v190_1) : w_X5_useStage_J190 (fun u => Q u ∧ cfr [215, 216, 217, 402, 404, 405] [(45, 2), (45, 3), (45, 4), (45, 5), (45, 11), (45, 12), (45, 13), (45, 14), (45, 15), (45, 17), (45, 19)] S0 u) U190 v190_1 := by
  unfold w_X5_useStage_J190 at h ⊢
  intro y1_
  replace h := h y1_
  obtain ⟨Q9, h0, h⟩ := h
  refine ⟨_, frX5_useElement y1_ h0, ?_⟩
  intro S9 q2_ y3_ y4_
  replace h := h S9 q2_.1 y3_ y4_
  replace f := f.tr (q2_.2.mo (by decide) (by decide))
  exact ⟨h, f⟩
set_option maxRecDepth 100000 in
theorem frX5_useStage {S : MS} {x1 : Int32} {Q : MS → Prop} (hw : wfC S) (h : wX5_useStage S x1 Q) : wX5_useStage S x1 (fun u => Q u ∧ cfr [215, 216, 217, 402, 404, 405] [(45, 2), (45, 3), (45, 4), (45, 5), (45, 11), (45, 12), (45, 13), (45, 14), (45, 15), (45, 17), (45, 19)] S u) := by
  have f : cfr [215, 216, 217, 402, 404, 405] [(45, 2), (45, 3), (45, 4), (45, 5), (45, 11), (45, 12), (45, 13), (45, 14), (45, 15), (45, 17), (45, 19)] S S := cfr.rf
  unfold wX5_useStage at h ⊢
  refine ⟨h.1, ?_⟩
  replace h := h.2
  refine ⟨h.1, ?_⟩
  replace h := h.2
  intro a6 ea6 
  replace h := h a6 ea6 
  intro a7 ea7 
  replace h := h a7 ea7 
  refine ⟨fun c => ?_, fun c => ?_⟩
  · replace h := h.1 c
    exact fr_X5_useStage_J190 f h
  · replace h := h.2 c
    refine ⟨fun c => ?_, fun c => ?_⟩
    · replace h := h.1 c
      exact fr_X5_useStage_J190 f h
    · replace h := h.2 c
      refine ⟨fun c => ?_, fun c => ?_⟩
      · replace h := h.1 c
        refine ⟨h.1, ?_⟩
        replace h := h.2
        refine ⟨h.1, ?_⟩
        replace h := h.2
        intro a16 ea16 
        replace h := h a16 ea16 
        refine ⟨h.1, ?_⟩
        replace h := h.2
        intro a20 ea20 
        replace h := h a20 ea20 
        obtain ⟨Q9, h0, h⟩ := h
        refine ⟨_, frX5_push_ hw h0, ?_⟩
        intro S22 q5_ y6_ y7_
        replace h := h S22 q5_.1 y6_ y7_
        replace f := f.tr (q5_.2.mo (by decide) (by decide))
        intro S25 eS25 y8_ y9_
        replace h := h S25 eS25 y8_ y9_
        replace f := f.tr (show cfr [215, 216, 217, 402, 404, 405] [(45, 2), (45, 3), (45, 4), (45, 5), (45, 11), (45, 12), (45, 13), (45, 14), (45, 15), (45, 17), (45, 19)] S22 S25 by rw [eS25]; exact cfr.oI y8_ (by decide))
        exact ⟨h, f⟩
      · replace h := h.2 c
        refine ⟨fun c => ?_, fun c => ?_⟩
        · replace h := h.1 c
          refine ⟨h.1, ?_⟩
          replace h := h.2
          refine ⟨h.1, ?_⟩
          replace h := h.2
          intro a31 ea31 
          replace h := h a31 ea31 
          obtain ⟨Q9, h0, h⟩ := h
          refine ⟨_, frX5_pop_ hw h0, ?_⟩
          intro r33 S34 q10_ y11_ y12_
          replace h := h r33 S34 q10_.1 y11_ y12_
          replace f := f.tr (q10_.2.mo (by decide) (by decide))
          obtain ⟨Q9, h0, h⟩ := h
          refine ⟨_, frX5_setField y11_ h0, ?_⟩
          intro S37 q13_ y14_ y15_
          replace h := h S37 q13_.1 y14_ y15_
          replace f := f.tr (q13_.2.mo (by decide) (by decide))
          intro S40 eS40 y16_ y17_
          replace h := h S40 eS40 y16_ y17_
          replace f := f.tr (show cfr [215, 216, 217, 402, 404, 405] [(45, 2), (45, 3), (45, 4), (45, 5), (45, 11), (45, 12), (45, 13), (45, 14), (45, 15), (45, 17), (45, 19)] S37 S40 by rw [eS40]; exact cfr.oI y16_ (by decide))
          exact ⟨h, f⟩
        · replace h := h.2 c
          refine ⟨fun c => ?_, fun c => ?_⟩
          · replace h := h.1 c
            obtain ⟨Q9, h0, h⟩ := h
            refine ⟨_, frX5_enter hw h0, ?_⟩
            intro S42 q18_ y19_ y20_
            replace h := h S42 q18_.1 y19_ y20_
            replace f := f.tr (q18_.2.mo (by decide) (by decide))
            exact ⟨h, f⟩
          · replace h := h.2 c
            refine ⟨fun c => ?_, fun c => ?_⟩
            · replace h := h.1 c
              obtain ⟨Q9, h0, h⟩ := h
              refine ⟨_, frX5_pop hw h0, ?_⟩
              intro r45 S46 q21_ y22_ y23_
              replace h := h r45 S46 q21_.1 y22_ y23_
              replace f := f.tr (q21_.2.mo (by decide) (by decide))
              obtain ⟨Q9, h0, h⟩ := h
              refine ⟨_, frX5_makeArray y22_ h0, ?_⟩
              intro S49 q24_ y25_ y26_
              replace h := h S49 q24_.1 y25_ y26_
              replace f := f.tr (q24_.2.mo (by decide) (by decide))
              exact ⟨h, f⟩
            · replace h := h.2 c
              refine ⟨fun c => ?_, fun c => ?_⟩
              · replace h := h.1 c
                obtain ⟨Q9, h0, h⟩ := h
                refine ⟨_, frX5_pop hw h0, ?_⟩
                intro r53 S54 q27_ y28_ y29_
                replace h := h r53 S54 q27_.1 y28_ y29_
                replace f := f.tr (q27_.2.mo (by decide) (by decide))
                obtain ⟨Q9, h0, h⟩ := h
                refine ⟨_, frX5_tellLength y28_ h0, ?_⟩
                intro S57 q30_ y31_ y32_
                replace h := h S57 q30_.1 y31_ y32_
                replace f := f.tr (q30_.2.mo (by decide) (by decide))
                exact ⟨h, f⟩
              · replace h := h.2 c
                refine ⟨fun c => ?_, fun c => ?_⟩
                · replace h := h.1 c
                  obtain ⟨Q9, h0, h⟩ := h
                  refine ⟨_, frX5_pop hw h0, ?_⟩
                  intro r60 S61 q33_ y34_ y35_
                  replace h := h r60 S61 q33_.1 y34_ y35_
                  replace f := f.tr (q33_.2.mo (by decide) (by decide))
                  obtain ⟨Q9, h0, h⟩ := h
                  refine ⟨_, frX5_throwIt y34_ h0, ?_⟩
                  intro S64 q36_ y37_ y38_
                  replace h := h S64 q36_.1 y37_ y38_
                  replace f := f.tr (q36_.2.mo (by decide) (by decide))
                  exact ⟨h, f⟩
                · replace h := h.2 c
                  intro S67 eS67 y39_ y40_
                  replace h := h S67 eS67 y39_ y40_
                  replace f := f.tr (show cfr [215, 216, 217, 402, 404, 405] [(45, 2), (45, 3), (45, 4), (45, 5), (45, 11), (45, 12), (45, 13), (45, 14), (45, 15), (45, 17), (45, 19)] S S67 by rw [eS67]; exact cfr.oI y39_ (by decide))
                  intro S69 eS69 y41_ y42_
                  replace h := h S69 eS69 y41_ y42_
                  replace f := f.tr (show cfr [215, 216, 217, 402, 404, 405] [(45, 2), (45, 3), (45, 4), (45, 5), (45, 11), (45, 12), (45, 13), (45, 14), (45, 15), (45, 17), (45, 19)] S67 S69 by rw [eS69]; exact cfr.oI y41_ (by decide))
                  exact ⟨h, f⟩
set_option maxRecDepth 100000 in
theorem fr_X9_goThrough_J98 {S0 : MS} {Q : Int32 → MS → Prop} {k10 k10' : MS → Int32 → Int32 → Int32 → Int32 → Int32 → Prop} {U98 : MS} {v98_1 : Int32} {v98_2 : Int32} {v98_3 : Int32} {v98_4 : Int32} {v98_5 : Int32} (hk10 : ∀ (u : MS) (z0) (z1) (z2) (z3) (z4), cfr [222, 223, 224, 225, 226, 227, 228, 229, 305, 406] [(47, 2), (47, 9)] S0 u → k10 u z0 z1 z2 z3 z4 → k10' u z0 z1 z2 z3 z4) (f : cfr [222, 223, 224, 225, 226, 227, 228, 229, 305, 406] [(47, 2), (47, 9)] S0 U98) (h : w_X9_goThrough_J98 Q k10 U98 v98_1 v98_2 v98_3 v98_4 v98_5) : w_X9_goThrough_J98 (fun r u => Q r u ∧ cfr [222, 223, 224, 225, 226, 227, 228, 229, 305, 406] [(47, 2), (47, 9)] S0 u) k10' U98 v98_1 v98_2 v98_3 v98_4 v98_5 := by
  unfold w_X9_goThrough_J98 at h ⊢
  intro y1_ y2_ y3_
  replace h := h y1_ y2_ y3_
  intro a8 ea8 
  replace h := h a8 ea8 
  exact hk10 _ _ _ _ _ _ f h
set_option maxRecDepth 100000 in
theorem fr_X9_goThrough_J68 {S0 : MS} {Q : Int32 → MS → Prop} {k10 k10' : MS → Int32 → Int32 → Int32 → Int32 → Int32 → Prop} {U68 : MS} {v68_1 : Int32} {v68_2 : Int32} {v68_4 : Int32} {v68_5 : Int32} (hk10 : ∀ (u : MS) (z0) (z1) (z2) (z3) (z4), cfr [222, 223, 224, 225, 226, 227, 228, 229, 305, 406] [(47, 2), (47, 9)] S0 u → k10 u z0 z1 z2 z3 z4 → k10' u z0 z1 z2 z3 z4) (f : cfr [222, 223, 224, 225, 226, 227, 228, 229, 305, 406] [(47, 2), (47, 9)] S0 U68) (h : w_X9_goThrough_J68 Q k10 U68 v68_1 v68_2 v68_4 v68_5) : w_X9_goThrough_J68 (fun r u => Q r u ∧ cfr [222, 223, 224, 225, 226, 227, 228, 229, 305, 406] [(47, 2), (47, 9)] S0 u) k10' U68 v68_1 v68_2 v68_4 v68_5 := by
  unfold w_X9_goThrough_J68 at h ⊢
  intro y4_ y5_
  replace h := h y4_ y5_
  obtain ⟨Q9, h0, h⟩ := h
  refine ⟨_, frX9_isDone y4_ h0, ?_⟩
  intro r5 S6 q6_ y7_ y8_
  replace h := h r5 S6 q6_.1 y7_ y8_
  replace f := f.tr (q6_.2.mo (by decide) (by decide))
  refine ⟨fun c => ?_, fun c => ?_⟩
  · replace h := h.1 c
    intro a10 ea10 
    replace h := h a10 ea10 
    exact fr_X9_goThrough_J98 hk10 f h
  · replace h := h.2 c
    refine ⟨h.1, ?_⟩
    replace h := h.2
    refine ⟨h.1, ?_⟩
    replace h := h.2
    intro S15 eS15 y9_ y10_
    replace h := h S15 eS15 y9_ y10_
    replace f := f.tr (show cfr [222, 223, 224, 225, 226, 227, 228, 229, 305, 406] [(47, 2), (47, 9)] S6 S15 by rw [eS15]; exact cfr.aI y9_ (by decide))
    exact fr_X9_goThrough_J98 hk10 f h
set_option maxRecDepth 100000 in
theorem fr_X9_goThrough_J49 {S0 : MS} {Q : Int32 → MS → Prop} {k10 k10' : MS → Int32 → Int32 → Int32 → Int32 → Int32 → Prop} {U49 : MS} {v49_1 : Int32} {v49_2 : Int32} {v49_3 : Int32} {v49_4 : Int32} {v49_5 : Int32} (hk10 : ∀ (u : MS) (z0) (z1) (z2) (z3) (z4), cfr [222, 223, 224, 225, 226, 227, 228, 229, 305, 406] [(47, 2), (47, 9)] S0 u → k10 u z0 z1 z2 z3 z4 → k10' u z0 z1 z2 z3 z4) (f : cfr [222, 223, 224, 225, 226, 227, 228, 229, 305, 406] [(47, 2), (47, 9)] S0 U49) (h : w_X9_goThrough_J49 Q k10 U49 v49_1 v49_2 v49_3 v49_4 v49_5) : w_X9_goThrough_J49 (fun r u => Q r u ∧ cfr [222, 223, 224, 225, 226, 227, 228, 229, 305, 406] [(47, 2), (47, 9)] S0 u) k10' U49 v49_1 v49_2 v49_3 v49_4 v49_5 := by
  unfold w_X9_goThrough_J49 at h ⊢
  intro y11_ y12_ y13_
  replace h := h y11_ y12_ y13_
  refine ⟨fun c => ?_, fun c => ?_⟩
  · replace h := h.1 c
    exact fr_X9_goThrough_J68 hk10 f h
  · replace h := h.2 c
    refine ⟨fun c => ?_, fun c => ?_⟩
    · replace h := h.1 c
      exact fr_X9_goThrough_J68 hk10 f h
    · replace h := h.2 c
      refine ⟨fun c => ?_, fun c => ?_⟩
      · replace h := h.1 c
        exact fr_X9_goThrough_J68 hk10 f h
      · replace h := h.2 c
        obtain ⟨Q9, h0, h⟩ := h
        refine ⟨_, frX9_findMarked y11_ h0, ?_⟩
        intro S20 q14_ y15_ y16_
        replace h := h S20 q14_.1 y15_ y16_
        replace f := f.tr (q14_.2.mo (by decide) (by decide))
        exact fr_X9_goThrough_J68 hk10 f h
set_option maxRecDepth 100000 in
theorem fr_X9_goThrough_J45 {S0 : MS} {Q : Int32 → MS → Prop} {k10 k10' : MS → Int32 → Int32 → Int32 → Int32 → Int32 → Prop} {U45 : MS} {v45_1 : Int32} {v45_2 : Int32} {v45_3 : Int32} {v45_4 : Int32} {v45_5 : Int32} (hk10 : ∀ (u : MS) (z0) (z1) (z2) (z3) (z4), cfr [222, 223, 224, 225, 226, 227, 228, 229, 305, 406] [(47, 2), (47, 9)] S0 u → k10 u z0 z1 z2 z3 z4 → k10' u z0 z1 z2 z3 z4) (f : cfr [222, 223, 224, 225, 226, 227, 228, 229, 305, 406] [(47, 2), (47, 9)] S0 U45) (h : w_X9_goThrough_J45 Q k10 U45 v45_1 v45_2 v45_3 v45_4 v45_5) : w_X9_goThrough_J45 (fun r u => Q r u ∧ cfr [222, 223, 224, 225, 226, 227, 228, 229, 305, 406] [(47, 2), (47, 9)] S0 u) k10' U45 v45_1 v45_2 v45_3 v45_4 v45_5 := by
  unfold w_X9_goThrough_J45 at h ⊢
  intro y17_ y18_ y19_
  replace h := h y17_ y18_ y19_
  obtain ⟨Q9, h0, h⟩ := h
  refine ⟨_, frX9_findLive y17_ h0, ?_⟩
  intro S24 q20_ y21_ y22_
  replace h := h S24 q20_.1 y21_ y22_
  replace f := f.tr (q20_.2.mo (by decide) (by decide))
  exact fr_X9_goThrough_J49 hk10 f h
set_option maxRecDepth 100000 in
theorem fr_X9_goThrough_L10 {S0 : MS} {Q : Int32 → MS → Prop} : ∀ (n : Nat) {U10 : MS} {v10_1 : Int32} {v10_2 : Int32} {v10_3 : Int32} {v10_4 : Int32} {v10_5 : Int32}, cfr [222, 223, 224, 225, 226, 227, 228, 229, 305, 406] [(47, 2), (47, 9)] S0 U10 → w_X9_goThrough_L10 Q n U10 v10_1 v10_2 v10_3 v10_4 v10_5 → w_X9_goThrough_L10 (fun r u => Q r u ∧ cfr [222, 223, 224, 225, 226, 227, 228, 229, 305, 406] [(47, 2), (47, 9)] S0 u) n U10 v10_1 v10_2 v10_3 v10_4 v10_5 := by
  intro n
  induction n with
  | zero => intro U10 v10_1 v10_2 v10_3 v10_4 v10_5 f h; unfold w_X9_goThrough_L10 at h; exact h.elim
  | succ n ih =>
    intro U10 v10_1 v10_2 v10_3 v10_4 v10_5 f h
    unfold w_X9_goThrough_L10 at h ⊢
    intro y23_ y24_ y25_
    replace h := h y23_ y24_ y25_
    refine ⟨fun c => ?_, fun c => ?_⟩
    · replace h := h.1 c
      exact ⟨h, f⟩
    · replace h := h.2 c
      refine ⟨fun c => ?_, fun c => ?_⟩
      · replace h := h.1 c
        exact ⟨h, f⟩
      · replace h := h.2 c
        refine ⟨fun c => ?_, fun c => ?_⟩
        · replace h := h.1 c
          exact fr_X9_goThrough_J49 (fun _ _ _ _ _ _ f h => ih f h) f h
        · replace h := h.2 c
          refine ⟨fun c => ?_, fun c => ?_⟩
          · replace h := h.1 c
            exact fr_X9_goThrough_J45 (fun _ _ _ _ _ _ f h => ih f h) f h
          · replace h := h.2 c
            refine ⟨fun c => ?_, fun c => ?_⟩
            · replace h := h.1 c
              exact fr_X9_goThrough_J45 (fun _ _ _ _ _ _ f h => ih f h) f h
            · replace h := h.2 c
              exact fr_X9_goThrough_J49 (fun _ _ _ _ _ _ f h => ih f h) f h
set_option maxRecDepth 100000 in
theorem frX9_goThrough {S : MS} {x1 : Int32} {Q : Int32 → MS → Prop} (hw : wfC S) (h : wX9_goThrough S x1 Q) : wX9_goThrough S x1 (fun r u => Q r u ∧ cfr [222, 223, 224, 225, 226, 227, 228, 229, 305, 406] [(47, 2), (47, 9)] S u) := by
  have f : cfr [222, 223, 224, 225, 226, 227, 228, 229, 305, 406] [(47, 2), (47, 9)] S S := cfr.rf
  unfold wX9_goThrough at h ⊢
  obtain ⟨n9, h⟩ := h
  exact ⟨n9, fr_X9_goThrough_L10 n9 f h⟩
set_option maxRecDepth 100000 in
theorem frX12_file {S : MS} {Q : Int32 → MS → Prop} (hw : wfC S) (h : wX12_file S Q) : wX12_file S (fun r u => Q r u ∧ cfr [5, 6, 201, 218, 219, 220, 221, 222, 223, 224, 225, 226, 227, 231, 232, 233, 234, 235, 236, 237, 406] [(40, 1), (42, 1), (42, 2), (42, 3), (42, 4), (42, 5), (42, 6), (42, 8), (42, 9), (42, 10), (42, 11), (46, 0), (46, 1), (46, 2), (46, 3), (46, 5), (46, 6), (46, 7), (46, 8), (46, 12), (46, 13), (46, 14), (46, 15), (46, 16), (47, 0), (47, 1), (47, 2), (47, 3), (47, 4), (47, 5), (47, 6), (47, 7), (47, 8), (47, 9), (47, 10), (47, 11), (49, 0), (49, 1), (49, 2), (49, 3), (49, 4), (49, 5), (49, 6), (49, 7), (49, 8), (49, 9), (49, 10), (49, 11), (49, 12), (49, 13), (49, 14), (49, 16), (49, 17), (51, 11), (51, 13), (51, 14)] S u) := by
  have f : cfr [5, 6, 201, 218, 219, 220, 221, 222, 223, 224, 225, 226, 227, 231, 232, 233, 234, 235, 236, 237, 406] [(40, 1), (42, 1), (42, 2), (42, 3), (42, 4), (42, 5), (42, 6), (42, 8), (42, 9), (42, 10), (42, 11), (46, 0), (46, 1), (46, 2), (46, 3), (46, 5), (46, 6), (46, 7), (46, 8), (46, 12), (46, 13), (46, 14), (46, 15), (46, 16), (47, 0), (47, 1), (47, 2), (47, 3), (47, 4), (47, 5), (47, 6), (47, 7), (47, 8), (47, 9), (47, 10), (47, 11), (49, 0), (49, 1), (49, 2), (49, 3), (49, 4), (49, 5), (49, 6), (49, 7), (49, 8), (49, 9), (49, 10), (49, 11), (49, 12), (49, 13), (49, 14), (49, 16), (49, 17), (51, 11), (51, 13), (51, 14)] S S := cfr.rf
  unfold wX12_file at h ⊢
  refine ⟨fun c => ?_, fun c => ?_⟩
  · replace h := h.1 c
    intro y1_
    replace h := h y1_
    obtain ⟨Q9, h0, h⟩ := h
    refine ⟨_, frX2_unitOf hw h0, ?_⟩
    intro b7 S4 q2_ y3_ y4_ y5_
    replace h := h b7 S4 q2_.1 y3_ y4_ y5_
    replace f := f.tr (q2_.2.mo (by decide) (by decide))
    refine ⟨fun c => ?_, fun c => ?_⟩
    · replace h := h.1 c
      intro S9 eS9 y6_ y7_
      replace h := h S9 eS9 y6_ y7_
      replace f := f.tr (show cfr [5, 6, 201, 218, 219, 220, 221, 222, 223, 224, 225, 226, 227, 231, 232, 233, 234, 235, 236, 237, 406] [(40, 1), (42, 1), (42, 2), (42, 3), (42, 4), (42, 5), (42, 6), (42, 8), (42, 9), (42, 10), (42, 11), (46, 0), (46, 1), (46, 2), (46, 3), (46, 5), (46, 6), (46, 7), (46, 8), (46, 12), (46, 13), (46, 14), (46, 15), (46, 16), (47, 0), (47, 1), (47, 2), (47, 3), (47, 4), (47, 5), (47, 6), (47, 7), (47, 8), (47, 9), (47, 10), (47, 11), (49, 0), (49, 1), (49, 2), (49, 3), (49, 4), (49, 5), (49, 6), (49, 7), (49, 8), (49, 9), (49, 10), (49, 11), (49, 12), (49, 13), (49, 14), (49, 16), (49, 17), (51, 11), (51, 13), (51, 14)] S4 S9 by rw [eS9]; exact cfr.oI y6_ (by decide))
      intro S10 eS10 y8_ y9_
      replace h := h S10 eS10 y8_ y9_
      replace f := f.tr (show cfr [5, 6, 201, 218, 219, 220, 221, 222, 223, 224, 225, 226, 227, 231, 232, 233, 234, 235, 236, 237, 406] [(40, 1), (42, 1), (42, 2), (42, 3), (42, 4), (42, 5), (42, 6), (42, 8), (42, 9), (42, 10), (42, 11), (46, 0), (46, 1), (46, 2), (46, 3), (46, 5), (46, 6), (46, 7), (46, 8), (46, 12), (46, 13), (46, 14), (46, 15), (46, 16), (47, 0), (47, 1), (47, 2), (47, 3), (47, 4), (47, 5), (47, 6), (47, 7), (47, 8), (47, 9), (47, 10), (47, 11), (49, 0), (49, 1), (49, 2), (49, 3), (49, 4), (49, 5), (49, 6), (49, 7), (49, 8), (49, 9), (49, 10), (49, 11), (49, 12), (49, 13), (49, 14), (49, 16), (49, 17), (51, 11), (51, 13), (51, 14)] S9 S10 by rw [eS10]; exact cfr.oI y8_ (by decide))
      intro S11 eS11 y10_ y11_
      replace h := h S11 eS11 y10_ y11_
      replace f := f.tr (show cfr [5, 6, 201, 218, 219, 220, 221, 222, 223, 224, 225, 226, 227, 231, 232, 233, 234, 235, 236, 237, 406] [(40, 1), (42, 1), (42, 2), (42, 3), (42, 4), (42, 5), (42, 6), (42, 8), (42, 9), (42, 10), (42, 11), (46, 0), (46, 1), (46, 2), (46, 3), (46, 5), (46, 6), (46, 7), (46, 8), (46, 12), (46, 13), (46, 14), (46, 15), (46, 16), (47, 0), (47, 1), (47, 2), (47, 3), (47, 4), (47, 5), (47, 6), (47, 7), (47, 8), (47, 9), (47, 10), (47, 11), (49, 0), (49, 1), (49, 2), (49, 3), (49, 4), (49, 5), (49, 6), (49, 7), (49, 8), (49, 9), (49, 10), (49, 11), (49, 12), (49, 13), (49, 14), (49, 16), (49, 17), (51, 11), (51, 13), (51, 14)] S10 S11 by rw [eS11]; exact cfr.oI y10_ (by decide))
      obtain ⟨Q9, h0, h⟩ := h
      refine ⟨_, frX12_keep y11_ h0, ?_⟩
      intro r13 S14 q12_ y13_ y14_
      replace h := h r13 S14 q12_.1 y13_ y14_
      replace f := f.tr (q12_.2.mo (by decide) (by decide))
      exact ⟨h, f⟩
    · replace h := h.2 c
      intro S16 eS16 y15_ y16_
      replace h := h S16 eS16 y15_ y16_
      replace f := f.tr (show cfr [5, 6, 201, 218, 219, 220, 221, 222, 223, 224, 225, 226, 227, 231, 232, 233, 234, 235, 236, 237, 406] [(40, 1), (42, 1), (42, 2), (42, 3), (42, 4), (42, 5), (42, 6), (42, 8), (42, 9), (42, 10), (42, 11), (46, 0), (46, 1), (46, 2), (46, 3), (46, 5), (46, 6), (46, 7), (46, 8), (46, 12), (46, 13), (46, 14), (46, 15), (46, 16), (47, 0), (47, 1), (47, 2), (47, 3), (47, 4), (47, 5), (47, 6), (47, 7), (47, 8), (47, 9), (47, 10), (47, 11), (49, 0), (49, 1), (49, 2), (49, 3), (49, 4), (49, 5), (49, 6), (49, 7), (49, 8), (49, 9), (49, 10), (49, 11), (49, 12), (49, 13), (49, 14), (49, 16), (49, 17), (51, 11), (51, 13), (51, 14)] S4 S16 by rw [eS16]; exact cfr.oI y15_ (by decide))
      intro S17 eS17 y17_ y18_
      replace h := h S17 eS17 y17_ y18_
      replace f := f.tr (show cfr [5, 6, 201, 218, 219, 220, 221, 222, 223, 224, 225, 226, 227, 231, 232, 233, 234, 235, 236, 237, 406] [(40, 1), (42, 1), (42, 2), (42, 3), (42, 4), (42, 5), (42, 6), (42, 8), (42, 9), (42, 10), (42, 11), (46, 0), (46, 1), (46, 2), (46, 3), (46, 5), (46, 6), (46, 7), (46, 8), (46, 12), (46, 13), (46, 14), (46, 15), (46, 16), (47, 0), (47, 1), (47, 2), (47, 3), (47, 4), (47, 5), (47, 6), (47, 7), (47, 8), (47, 9), (47, 10), (47, 11), (49, 0), (49, 1), (49, 2), (49, 3), (49, 4), (49, 5), (49, 6), (49, 7), (49, 8), (49, 9), (49, 10), (49, 11), (49, 12), (49, 13), (49, 14), (49, 16), (49, 17), (51, 11), (51, 13), (51, 14)] S16 S17 by rw [eS17]; exact cfr.oI y17_ (by decide))
      intro S18 eS18 y19_ y20_
      replace h := h S18 eS18 y19_ y20_
      replace f := f.tr (show cfr [5, 6, 201, 218, 219, 220, 221, 222, 223, 224, 225, 226, 227, 231, 232, 233, 234, 235, 236, 237, 406] [(40, 1), (42, 1), (42, 2), (42, 3), (42, 4), (42, 5), (42, 6), (42, 8), (42, 9), (42, 10), (42, 11), (46, 0), (46, 1), (46, 2), (46, 3), (46, 5), (46, 6), (46, 7), (46, 8), (46, 12), (46, 13), (46, 14), (46, 15), (46, 16), (47, 0), (47, 1), (47, 2), (47, 3), (47, 4), (47, 5), (47, 6), (47, 7), (47, 8), (47, 9), (47, 10), (47, 11), (49, 0), (49, 1), (49, 2), (49, 3), (49, 4), (49, 5), (49, 6), (49, 7), (49, 8), (49, 9), (49, 10), (49, 11), (49, 12), (49, 13), (49, 14), (49, 16), (49, 17), (51, 11), (51, 13), (51, 14)] S17 S18 by rw [eS18]; exact cfr.oI y19_ (by decide))
      obtain ⟨Q9, h0, h⟩ := h
      refine ⟨_, frX12_keep y20_ h0, ?_⟩
      intro r20 S21 q21_ y22_ y23_
      replace h := h r20 S21 q21_.1 y22_ y23_
      replace f := f.tr (q21_.2.mo (by decide) (by decide))
      exact ⟨h, f⟩
  · replace h := h.2 c
    exact ⟨h, f⟩
set_option maxRecDepth 100000 in
theorem fr_X12_verify_J85 {S0 : MS} {Q : Int32 → MS → Prop} {U85 : MS} {v85_2 : Nat} (f : cfr [102, 103, 104, 213, 214, 301, 302, 304, 407, 408] [(41, 1), (41, 2), (41, 3), (41, 5), (41, 6), (41, 7), (41, 8), (41, 9), (44, 0), (44, 1), (44, 2), (44, 3), (44, 4), (44, 5), (44, 6), (44, 7), (47, 12), (47, 13), (47, 14), (49, 15), (49, 16), (49, 17), (51, 15), (51, 16)] S0 U85) (h : w_X12_verify_J85 Q U85 v85_2) : w_X12_verify_J85 (fun r u => Q r u ∧ cfr [102, 103, 104, 213, 214, 301, 302, 304, 407, 408] [(41, 1), (41, 2), (41, 3), (41, 5), (41, 6), (41, 7), (41, 8), (41, 9), (44, 0), (44, 1), (44, 2), (44, 3), (44, 4), (44, 5), (44, 6), (44, 7), (47, 12), (47, 13), (47, 14), (49, 15), (49, 16), (49, 17), (51, 15), (51, 16)] S0 u) U85 v85_2 := by
  unfold w_X12_verify_J85 at h ⊢
  intro y1_ y2_
  replace h := h y1_ y2_
  intro S10 eS10 y3_ y4_
  replace h := h S10 eS10 y3_ y4_
  replace f := f.tr (show cfr [102, 103, 104, 213, 214, 301, 302, 304, 407, 408] [(41, 1), (41, 2), (41, 3), (41, 5), (41, 6), (41, 7), (41, 8), (41, 9), (44, 0), (44, 1), (44, 2), (44, 3), (44, 4), (44, 5), (44, 6), (44, 7), (47, 12), (47, 13), (47, 14), (49, 15), (49, 16), (49, 17), (51, 15), (51, 16)] U85 S10 by rw [eS10]; exact cfr.oI y3_ (by decide))
  intro S11 eS11 y5_ y6_
  replace h := h S11 eS11 y5_ y6_
  replace f := f.tr (show cfr [102, 103, 104, 213, 214, 301, 302, 304, 407, 408] [(41, 1), (41, 2), (41, 3), (41, 5), (41, 6), (41, 7), (41, 8), (41, 9), (44, 0), (44, 1), (44, 2), (44, 3), (44, 4), (44, 5), (44, 6), (44, 7), (47, 12), (47, 13), (47, 14), (49, 15), (49, 16), (49, 17), (51, 15), (51, 16)] S10 S11 by rw [eS11]; exact cfr.oI y5_ (by decide))
  intro S12 eS12 y7_ y8_
  replace h := h S12 eS12 y7_ y8_
  replace f := f.tr (show cfr [102, 103, 104, 213, 214, 301, 302, 304, 407, 408] [(41, 1), (41, 2), (41, 3), (41, 5), (41, 6), (41, 7), (41, 8), (41, 9), (44, 0), (44, 1), (44, 2), (44, 3), (44, 4), (44, 5), (44, 6), (44, 7), (47, 12), (47, 13), (47, 14), (49, 15), (49, 16), (49, 17), (51, 15), (51, 16)] S11 S12 by rw [eS12]; exact cfr.oI y7_ (by decide))
  refine ⟨fun c => ?_, fun c => ?_⟩
  · replace h := h.1 c
    exact ⟨h, f⟩
  · replace h := h.2 c
    exact ⟨h, f⟩
set_option maxRecDepth 100000 in
theorem fr_X12_verify_J76 {S0 : MS} {Q : Int32 → MS → Prop} {k24 k24' : MS → Nat → Int32 → Prop} {U76 : MS} {t76_0 : Int32} {t76_1 : Nat} {v76_2 : Nat} {v76_3 : Int32} (hk24 : ∀ (u : MS) (z0) (z1), cfr [102, 103, 104, 213, 214, 301, 302, 304, 407, 408] [(41, 1), (41, 2), (41, 3), (41, 5), (41, 6), (41, 7), (41, 8), (41, 9), (44, 0), (44, 1), (44, 2), (44, 3), (44, 4), (44, 5), (44, 6), (44, 7), (47, 12), (47, 13), (47, 14), (49, 15), (49, 16), (49, 17), (51, 15), (51, 16)] S0 u → k24 u z0 z1 → k24' u z0 z1) (f : cfr [102, 103, 104, 213, 214, 301, 302, 304, 407, 408] [(41, 1), (41, 2), (41, 3), (41, 5), (41, 6), (41, 7), (41, 8), (41, 9), (44, 0), (44, 1), (44, 2), (44, 3), (44, 4), (44, 5), (44, 6), (44, 7), (47, 12), (47, 13), (47, 14), (49, 15), (49, 16), (49, 17), (51, 15), (51, 16)] S0 U76) (h : w_X12_verify_J76 Q k24 U76 t76_0 t76_1 v76_2 v76_3) : w_X12_verify_J76 (fun r u => Q r u ∧ cfr [102, 103, 104, 213, 214, 301, 302, 304, 407, 408] [(41, 1), (41, 2), (41, 3), (41, 5), (41, 6), (41, 7), (41, 8), (41, 9), (44, 0), (44, 1), (44, 2), (44, 3), (44, 4), (44, 5), (44, 6), (44, 7), (47, 12), (47, 13), (47, 14), (49, 15), (49, 16), (49, 17), (51, 15), (51, 16)] S0 u) k24' U76 t76_0 t76_1 v76_2 v76_3 := by
  unfold w_X12_verify_J76 at h ⊢
  intro y9_ y10_ y11_
  replace h := h y9_ y10_ y11_
  intro S28 eS28 y12_ y13_
  replace h := h S28 eS28 y12_ y13_
  replace f := f.tr (show cfr [102, 103, 104, 213, 214, 301, 302, 304, 407, 408] [(41, 1), (41, 2), (41, 3), (41, 5), (41, 6), (41, 7), (41, 8), (41, 9), (44, 0), (44, 1), (44, 2), (44, 3), (44, 4), (44, 5), (44, 6), (44, 7), (47, 12), (47, 13), (47, 14), (49, 15), (49, 16), (49, 17), (51, 15), (51, 16)] U76 S28 by rw [eS28]; exact cfr.oI y12_ (by decide))
  intro a29 ea29 
  replace h := h a29 ea29 
  exact hk24 _ _ _ f h
set_option maxRecDepth 100000 in
theorem fr_X12_verify_L24 {S0 : MS} {Q : Int32 → MS → Prop} : ∀ (n : Nat) {U24 : MS} {v24_2 : Nat} {v24_3 : Int32}, cfr [102, 103, 104, 213, 214, 301, 302, 304, 407, 408] [(41, 1), (41, 2), (41, 3), (41, 5), (41, 6), (41, 7), (41, 8), (41, 9), (44, 0), (44, 1), (44, 2), (44, 3), (44, 4), (44, 5), (44, 6), (44, 7), (47, 12), (47, 13), (47, 14), (49, 15), (49, 16), (49, 17), (51, 15), (51, 16)] S0 U24 → w_X12_verify_L24 Q n U24 v24_2 v24_3 → w_X12_verify_L24 (fun r u => Q r u ∧ cfr [102, 103, 104, 213, 214, 301, 302, 304, 407, 408] [(41, 1), (41, 2), (41, 3), (41, 5), (41, 6), (41, 7), (41, 8), (41, 9), (44, 0), (44, 1), (44, 2), (44, 3), (44, 4), (44, 5), (44, 6), (44, 7), (47, 12), (47, 13), (47, 14), (49, 15), (49, 16), (49, 17), (51, 15), (51, 16)] S0 u) n U24 v24_2 v24_3 := by
  intro n
  induction n with
  | zero => intro U24 v24_2 v24_3 f h; unfold w_X12_verify_L24 at h; exact h.elim
  | succ n ih =>
    intro U24 v24_2 v24_3 f h
    unfold w_X12_verify_L24 at h ⊢
    intro y14_ y15_
    replace h := h y14_ y15_
    refine ⟨fun c => ?_, fun c => ?_⟩
    · replace h := h.1 c
      refine ⟨fun c => ?_, fun c => ?_⟩
      · replace h := h.1 c
        exact fr_X12_verify_J85 f h
      · replace h := h.2 c
        refine ⟨fun c => ?_, fun c => ?_⟩
        · replace h := h.1 c
          exact fr_X12_verify_J85 f h
        · replace h := h.2 c
          intro y16_
          replace h := h y16_
          obtain ⟨Q9, h0, h⟩ := h
          refine ⟨_, frX10_rowAt y14_ h0, ?_⟩
          intro b21 S19 q17_ y18_ y19_ y20_
          replace h := h b21 S19 q17_.1 y18_ y19_ y20_
          replace f := f.tr (q17_.2.mo (by decide) (by decide))
          intro y21_
          replace h := h y21_
          obtain ⟨Q9, h0, h⟩ := h
          refine ⟨_, frX1_firstFault y18_ h0, ?_⟩
          intro r23 S24 q22_ y23_ y24_
          replace h := h r23 S24 q22_.1 y23_ y24_
          replace f := f.tr (q22_.2.mo (by decide) (by decide))
          intro S27 eS27 y25_ y26_
          replace h := h S27 eS27 y25_ y26_
          replace f := f.tr (show cfr [102, 103, 104, 213, 214, 301, 302, 304, 407, 408] [(41, 1), (41, 2), (41, 3), (41, 5), (41, 6), (41, 7), (41, 8), (41, 9), (44, 0), (44, 1), (44, 2), (44, 3), (44, 4), (44, 5), (44, 6), (44, 7), (47, 12), (47, 13), (47, 14), (49, 15), (49, 16), (49, 17), (51, 15), (51, 16)] S24 S27 by rw [eS27]; exact cfr.oI y25_ (by decide))
          refine ⟨fun c => ?_, fun c => ?_⟩
          · replace h := h.1 c
            exact fr_X12_verify_J76 (fun _ _ _ f h => ih f h) f h
          · replace h := h.2 c
            exact fr_X12_verify_J76 (fun _ _ _ f h => ih f h) f h
    · replace h := h.2 c
      exact fr_X12_verify_J85 f h
set_option maxRecDepth 100000 in
theorem frX12_verify {S : MS} {x1 : Int32} {Q : Int32 → MS → Prop} (hw : wfC S) (h : wX12_verify S x1 Q) : wX12_verify S x1 (fun r u => Q r u ∧ cfr [102, 103, 104, 213, 214, 301, 302, 304, 407, 408] [(41, 1), (41, 2), (41, 3), (41, 5), (41, 6), (41, 7), (41, 8), (41, 9), (44, 0), (44, 1), (44, 2), (44, 3), (44, 4), (44, 5), (44, 6), (44, 7), (47, 12), (47, 13), (47, 14), (49, 15), (49, 16), (49, 17), (51, 15), (51, 16)] S u) := by
  have f : cfr [102, 103, 104, 213, 214, 301, 302, 304, 407, 408] [(41, 1), (41, 2), (41, 3), (41, 5), (41, 6), (41, 7), (41, 8), (41, 9), (44, 0), (44, 1), (44, 2), (44, 3), (44, 4), (44, 5), (44, 6), (44, 7), (47, 12), (47, 13), (47, 14), (49, 15), (49, 16), (49, 17), (51, 15), (51, 16)] S S := cfr.rf
  unfold wX12_verify at h ⊢
  intro S1 eS1 y27_ y28_
  replace h := h S1 eS1 y27_ y28_
  replace f := f.tr (show cfr [102, 103, 104, 213, 214, 301, 302, 304, 407, 408] [(41, 1), (41, 2), (41, 3), (41, 5), (41, 6), (41, 7), (41, 8), (41, 9), (44, 0), (44, 1), (44, 2), (44, 3), (44, 4), (44, 5), (44, 6), (44, 7), (47, 12), (47, 13), (47, 14), (49, 15), (49, 16), (49, 17), (51, 15), (51, 16)] S S1 by rw [eS1]; exact cfr.oI y27_ (by decide))
  intro S2 eS2 y29_ y30_
  replace h := h S2 eS2 y29_ y30_
  replace f := f.tr (show cfr [102, 103, 104, 213, 214, 301, 302, 304, 407, 408] [(41, 1), (41, 2), (41, 3), (41, 5), (41, 6), (41, 7), (41, 8), (41, 9), (44, 0), (44, 1), (44, 2), (44, 3), (44, 4), (44, 5), (44, 6), (44, 7), (47, 12), (47, 13), (47, 14), (49, 15), (49, 16), (49, 17), (51, 15), (51, 16)] S1 S2 by rw [eS2]; exact cfr.oI y29_ (by decide))
  obtain ⟨Q9, h0, h⟩ := h
  refine ⟨_, frX12_unitAt y30_ h0, ?_⟩
  intro b7 S5 q31_ y32_ y33_ y34_
  replace h := h b7 S5 q31_.1 y32_ y33_ y34_
  replace f := f.tr (q31_.2.mo (by decide) (by decide))
  refine ⟨fun c => ?_, fun c => ?_⟩
  · replace h := h.1 c
    exact ⟨h, f⟩
  · replace h := h.2 c
    obtain ⟨n9, h⟩ := h
    exact ⟨n9, fr_X12_verify_L24 n9 f h⟩
set_option maxRecDepth 100000 in
theorem fr_X12_count_L81 {S0 : MS} {Q : Int32 → MS → Prop} : ∀ (n : Nat) {U81 : MS} {v81_2 : Nat} {v81_4 : Int32} {v81_5 : Int32}, cfr [5, 6, 101, 201, 202, 203, 204, 205, 206, 207, 208, 209, 210, 211, 212, 213, 214, 218, 219, 220, 221, 222, 223, 224, 225, 226, 227, 230, 231, 232, 233, 234, 235, 236, 237, 238, 239, 240, 241, 242, 243, 244, 245, 303, 304, 401, 406] [(40, 0), (40, 1), (42, 1), (42, 2), (42, 3), (42, 4), (42, 5), (42, 6), (42, 8), (42, 9), (42, 10), (42, 11), (43, 0), (43, 1), (43, 2), (43, 3), (43, 4), (43, 5), (43, 6), (43, 7), (43, 8), (43, 9), (43, 10), (43, 11), (43, 12), (43, 13), (43, 14), (43, 15), (44, 0), (44, 1), (44, 2), (44, 3), (44, 4), (44, 5), (44, 6), (44, 7), (46, 0), (46, 1), (46, 2), (46, 3), (46, 5), (46, 6), (46, 7), (46, 8), (46, 12), (46, 13), (46, 14), (46, 15), (46, 16), (47, 0), (47, 1), (47, 2), (47, 3), (47, 4), (47, 5), (47, 6), (47, 7), (47, 8), (47, 9), (47, 10), (47, 11), (48, 0), (48, 2), (48, 3), (48, 4), (48, 5), (49, 0), (49, 1), (49, 2), (49, 3), (49, 4), (49, 5), (49, 6), (49, 7), (49, 8), (49, 9), (49, 10), (49, 11), (49, 12), (49, 13), (49, 14), (49, 16), (49, 17), (50, 5), (50, 6), (50, 7), (50, 8), (50, 9), (50, 15), (50, 16), (50, 17), (51, 11), (51, 12)] S0 U81 → w_X12_count_L81 Q n U81 v81_2 v81_4 v81_5 → w_X12_count_L81 (fun r u => Q r u ∧ cfr [5, 6, 101, 201, 202, 203, 204, 205, 206, 207, 208, 209, 210, 211, 212, 213, 214, 218, 219, 220, 221, 222, 223, 224, 225, 226, 227, 230, 231, 232, 233, 234, 235, 236, 237, 238, 239, 240, 241, 242, 243, 244, 245, 303, 304, 401, 406] [(40, 0), (40, 1), (42, 1), (42, 2), (42, 3), (42, 4), (42, 5), (42, 6), (42, 8), (42, 9), (42, 10), (42, 11), (43, 0), (43, 1), (43, 2), (43, 3), (43, 4), (43, 5), (43, 6), (43, 7), (43, 8), (43, 9), (43, 10), (43, 11), (43, 12), (43, 13), (43, 14), (43, 15), (44, 0), (44, 1), (44, 2), (44, 3), (44, 4), (44, 5), (44, 6), (44, 7), (46, 0), (46, 1), (46, 2), (46, 3), (46, 5), (46, 6), (46, 7), (46, 8), (46, 12), (46, 13), (46, 14), (46, 15), (46, 16), (47, 0), (47, 1), (47, 2), (47, 3), (47, 4), (47, 5), (47, 6), (47, 7), (47, 8), (47, 9), (47, 10), (47, 11), (48, 0), (48, 2), (48, 3), (48, 4), (48, 5), (49, 0), (49, 1), (49, 2), (49, 3), (49, 4), (49, 5), (49, 6), (49, 7), (49, 8), (49, 9), (49, 10), (49, 11), (49, 12), (49, 13), (49, 14), (49, 16), (49, 17), (50, 5), (50, 6), (50, 7), (50, 8), (50, 9), (50, 15), (50, 16), (50, 17), (51, 11), (51, 12)] S0 u) n U81 v81_2 v81_4 v81_5 := by
  intro n
  induction n with
  | zero => intro U81 v81_2 v81_4 v81_5 f h; unfold w_X12_count_L81 at h; exact h.elim
  | succ n ih =>
    intro U81 v81_2 v81_4 v81_5 f h
    unfold w_X12_count_L81 at h ⊢
    intro y1_ y2_
    replace h := h y1_ y2_
    refine ⟨fun c => ?_, fun c => ?_⟩
    · replace h := h.1 c
      refine ⟨h.1, ?_⟩
      replace h := h.2
      refine ⟨fun c => ?_, fun c => ?_⟩
      · replace h := h.1 c
        exact ⟨h, f⟩
      · replace h := h.2 c
        intro y3_
        replace h := h y3_
        obtain ⟨Q9, h0, h⟩ := h
        refine ⟨_, frX11_finish y1_ h0, ?_⟩
        intro S29 q4_ y5_ y6_
        replace h := h S29 q4_.1 y5_ y6_
        replace f := f.tr (q4_.2.mo (by decide) (by decide))
        intro y7_
        replace h := h y7_
        obtain ⟨Q9, h0, h⟩ := h
        refine ⟨_, frX2_unitOf y5_ h0, ?_⟩
        intro b37 S34 q8_ y9_ y10_ y11_
        replace h := h b37 S34 q8_.1 y9_ y10_ y11_
        replace f := f.tr (q8_.2.mo (by decide) (by decide))
        obtain ⟨Q9, h0, h⟩ := h
        refine ⟨_, frX12_keep y9_ h0, ?_⟩
        intro r39 S40 q12_ y13_ y14_
        replace h := h r39 S40 q12_.1 y13_ y14_
        replace f := f.tr (q12_.2.mo (by decide) (by decide))
        exact ⟨h, f⟩
    · replace h := h.2 c
      intro y15_
      replace h := h y15_
      obtain ⟨Q9, h0, h⟩ := h
      refine ⟨_, frX10_rowAt y1_ h0, ?_⟩
      intro b46 S44 q16_ y17_ y18_ y19_
      replace h := h b46 S44 q16_.1 y17_ y18_ y19_
      replace f := f.tr (q16_.2.mo (by decide) (by decide))
      refine ⟨fun c => ?_, fun c => ?_⟩
      · replace h := h.1 c
        obtain ⟨Q9, h0, h⟩ := h
        refine ⟨_, frX3_draw y17_ h0, ?_⟩
        intro S49 q20_ y21_ y22_
        replace h := h S49 q20_.1 y21_ y22_
        replace f := f.tr (q20_.2.mo (by decide) (by decide))
        exact h.elim
      · replace h := h.2 c
        obtain ⟨Q9, h0, h⟩ := h
        refine ⟨_, frX3_draw y17_ h0, ?_⟩
        intro S53 q23_ y24_ y25_
        replace h := h S53 q23_.1 y24_ y25_
        replace f := f.tr (q23_.2.mo (by decide) (by decide))
        intro y26_
        replace h := h y26_
        obtain ⟨Q9, h0, h⟩ := h
        refine ⟨_, frX9_putCounters y24_ h0, ?_⟩
        intro S57 q27_ y28_ y29_
        replace h := h S57 q27_.1 y28_ y29_
        replace f := f.tr (q27_.2.mo (by decide) (by decide))
        obtain ⟨Q9, h0, h⟩ := h
        refine ⟨_, frX3_reachedCount y28_ h0, ?_⟩
        intro r61 S62 q30_ y31_ y32_
        replace h := h r61 S62 q30_.1 y31_ y32_
        replace f := f.tr (q30_.2.mo (by decide) (by decide))
        intro a65 ea65 
        replace h := h a65 ea65 
        obtain ⟨Q9, h0, h⟩ := h
        refine ⟨_, frX11_addMethod y31_ h0, ?_⟩
        intro S68 q33_ y34_ y35_
        replace h := h S68 q33_.1 y34_ y35_
        replace f := f.tr (q33_.2.mo (by decide) (by decide))
        intro a71 ea71 
        replace h := h a71 ea71 
        exact ih f h
set_option maxRecDepth 100000 in
theorem frX12_count {S : MS} {x1 : Int32} {Q : Int32 → MS → Prop} (hw : wfC S) (h : wX12_count S x1 Q) : wX12_count S x1 (fun r u => Q r u ∧ cfr [5, 6, 101, 201, 202, 203, 204, 205, 206, 207, 208, 209, 210, 211, 212, 213, 214, 218, 219, 220, 221, 222, 223, 224, 225, 226, 227, 230, 231, 232, 233, 234, 235, 236, 237, 238, 239, 240, 241, 242, 243, 244, 245, 303, 304, 401, 406] [(40, 0), (40, 1), (42, 1), (42, 2), (42, 3), (42, 4), (42, 5), (42, 6), (42, 8), (42, 9), (42, 10), (42, 11), (43, 0), (43, 1), (43, 2), (43, 3), (43, 4), (43, 5), (43, 6), (43, 7), (43, 8), (43, 9), (43, 10), (43, 11), (43, 12), (43, 13), (43, 14), (43, 15), (44, 0), (44, 1), (44, 2), (44, 3), (44, 4), (44, 5), (44, 6), (44, 7), (46, 0), (46, 1), (46, 2), (46, 3), (46, 5), (46, 6), (46, 7), (46, 8), (46, 12), (46, 13), (46, 14), (46, 15), (46, 16), (47, 0), (47, 1), (47, 2), (47, 3), (47, 4), (47, 5), (47, 6), (47, 7), (47, 8), (47, 9), (47, 10), (47, 11), (48, 0), (48, 2), (48, 3), (48, 4), (48, 5), (49, 0), (49, 1), (49, 2), (49, 3), (49, 4), (49, 5), (49, 6), (49, 7), (49, 8), (49, 9), (49, 10), (49, 11), (49, 12), (49, 13), (49, 14), (49, 16), (49, 17), (50, 5), (50, 6), (50, 7), (50, 8), (50, 9), (50, 15), (50, 16), (50, 17), (51, 11), (51, 12)] S u) := by
  have f : cfr [5, 6, 101, 201, 202, 203, 204, 205, 206, 207, 208, 209, 210, 211, 212, 213, 214, 218, 219, 220, 221, 222, 223, 224, 225, 226, 227, 230, 231, 232, 233, 234, 235, 236, 237, 238, 239, 240, 241, 242, 243, 244, 245, 303, 304, 401, 406] [(40, 0), (40, 1), (42, 1), (42, 2), (42, 3), (42, 4), (42, 5), (42, 6), (42, 8), (42, 9), (42, 10), (42, 11), (43, 0), (43, 1), (43, 2), (43, 3), (43, 4), (43, 5), (43, 6), (43, 7), (43, 8), (43, 9), (43, 10), (43, 11), (43, 12), (43, 13), (43, 14), (43, 15), (44, 0), (44, 1), (44, 2), (44, 3), (44, 4), (44, 5), (44, 6), (44, 7), (46, 0), (46, 1), (46, 2), (46, 3), (46, 5), (46, 6), (46, 7), (46, 8), (46, 12), (46, 13), (46, 14), (46, 15), (46, 16), (47, 0), (47, 1), (47, 2), (47, 3), (47, 4), (47, 5), (47, 6), (47, 7), (47, 8), (47, 9), (47, 10), (47, 11), (48, 0), (48, 2), (48, 3), (48, 4), (48, 5), (49, 0), (49, 1), (49, 2), (49, 3), (49, 4), (49, 5), (49, 6), (49, 7), (49, 8), (49, 9), (49, 10), (49, 11), (49, 12), (49, 13), (49, 14), (49, 16), (49, 17), (50, 5), (50, 6), (50, 7), (50, 8), (50, 9), (50, 15), (50, 16), (50, 17), (51, 11), (51, 12)] S S := cfr.rf
  unfold wX12_count at h ⊢
  obtain ⟨Q9, h0, h⟩ := h
  refine ⟨_, frX12_soundUnitAt hw h0, ?_⟩
  intro b5 S3 q36_ y37_ y38_ y39_
  replace h := h b5 S3 q36_.1 y37_ y38_ y39_
  replace f := f.tr (q36_.2.mo (by decide) (by decide))
  refine ⟨fun c => ?_, fun c => ?_⟩
  · replace h := h.1 c
    exact ⟨h, f⟩
  · replace h := h.2 c
    refine ⟨fun c => ?_, fun c => ?_⟩
    · replace h := h.1 c
      exact ⟨h, f⟩
    · replace h := h.2 c
      refine ⟨fun c => ?_, fun c => ?_⟩
      · replace h := h.1 c
        intro S10 eS10 y40_ y41_
        replace h := h S10 eS10 y40_ y41_
        replace f := f.tr (show cfr [5, 6, 101, 201, 202, 203, 204, 205, 206, 207, 208, 209, 210, 211, 212, 213, 214, 218, 219, 220, 221, 222, 223, 224, 225, 226, 227, 230, 231, 232, 233, 234, 235, 236, 237, 238, 239, 240, 241, 242, 243, 244, 245, 303, 304, 401, 406] [(40, 0), (40, 1), (42, 1), (42, 2), (42, 3), (42, 4), (42, 5), (42, 6), (42, 8), (42, 9), (42, 10), (42, 11), (43, 0), (43, 1), (43, 2), (43, 3), (43, 4), (43, 5), (43, 6), (43, 7), (43, 8), (43, 9), (43, 10), (43, 11), (43, 12), (43, 13), (43, 14), (43, 15), (44, 0), (44, 1), (44, 2), (44, 3), (44, 4), (44, 5), (44, 6), (44, 7), (46, 0), (46, 1), (46, 2), (46, 3), (46, 5), (46, 6), (46, 7), (46, 8), (46, 12), (46, 13), (46, 14), (46, 15), (46, 16), (47, 0), (47, 1), (47, 2), (47, 3), (47, 4), (47, 5), (47, 6), (47, 7), (47, 8), (47, 9), (47, 10), (47, 11), (48, 0), (48, 2), (48, 3), (48, 4), (48, 5), (49, 0), (49, 1), (49, 2), (49, 3), (49, 4), (49, 5), (49, 6), (49, 7), (49, 8), (49, 9), (49, 10), (49, 11), (49, 12), (49, 13), (49, 14), (49, 16), (49, 17), (50, 5), (50, 6), (50, 7), (50, 8), (50, 9), (50, 15), (50, 16), (50, 17), (51, 11), (51, 12)] S3 S10 by rw [eS10]; exact cfr.oI y40_ (by decide))
        intro y42_
        replace h := h y42_
        obtain ⟨Q9, h0, h⟩ := h
        refine ⟨_, frX12_countersOf y41_ h0, ?_⟩
        intro r12 S13 q43_ y44_ y45_
        replace h := h r12 S13 q43_.1 y44_ y45_
        replace f := f.tr (q43_.2.mo (by decide) (by decide))
        refine ⟨fun c => ?_, fun c => ?_⟩
        · replace h := h.1 c
          intro y46_
          replace h := h y46_
          obtain ⟨Q9, h0, h⟩ := h
          refine ⟨_, frX11_begin y44_ h0, ?_⟩
          intro S19 q47_ y48_ y49_
          replace h := h S19 q47_.1 y48_ y49_
          replace f := f.tr (q47_.2.mo (by decide) (by decide))
          intro a22 ea22 
          replace h := h a22 ea22 
          obtain ⟨n9, h⟩ := h
          exact ⟨n9, fr_X12_count_L81 n9 f h⟩
        · replace h := h.2 c
          exact ⟨h, f⟩
      · replace h := h.2 c
        exact ⟨h, f⟩
set_option maxRecDepth 100000 in
theorem fr_X5_step_J244 {S0 : MS} {Q : MS → Prop} {U244 : MS} {v244_1 : Int32} (f : cfr [215, 216, 217, 402, 404, 405] [(45, 2), (45, 3), (45, 4), (45, 5), (45, 11), (45, 12), (45, 13), (45, 14), (45, 15), (45, 16), (45, 17), (45, 19)] S0 U244) (h : w_X5_step_J244 Q U244 v244_1) : w_X5_step_J244 (fun u => Q u ∧ cfr [215, 216, 217, 402, 404, 405] [(45, 2), (45, 3), (45, 4), (45, 5), (45, 11), (45, 12), (45, 13), (45, 14), (45, 15), (45, 16), (45, 17), (45, 19)] S0 u) U244 v244_1 := by
  unfold w_X5_step_J244 at h ⊢
  intro y1_
  replace h := h y1_
  obtain ⟨Q9, h0, h⟩ := h
  refine ⟨_, frX5_useStage y1_ h0, ?_⟩
  intro S34 q2_ y3_ y4_
  replace h := h S34 q2_.1 y3_ y4_
  replace f := f.tr (q2_.2.mo (by decide) (by decide))
  exact ⟨h, f⟩
set_option maxRecDepth 100000 in
theorem fr_X5_step_J225 {S0 : MS} {Q : MS → Prop} {U225 : MS} {v225_1 : Int32} (f : cfr [215, 216, 217, 402, 404, 405] [(45, 2), (45, 3), (45, 4), (45, 5), (45, 11), (45, 12), (45, 13), (45, 14), (45, 15), (45, 16), (45, 17), (45, 19)] S0 U225) (h : w_X5_step_J225 Q U225 v225_1) : w_X5_step_J225 (fun u => Q u ∧ cfr [215, 216, 217, 402, 404, 405] [(45, 2), (45, 3), (45, 4), (45, 5), (45, 11), (45, 12), (45, 13), (45, 14), (45, 15), (45, 16), (45, 17), (45, 19)] S0 u) U225 v225_1 := by
  unfold w_X5_step_J225 at h ⊢
  intro y5_
  replace h := h y5_
  refine ⟨fun c => ?_, fun c => ?_⟩
  · replace h := h.1 c
    exact fr_X5_step_J244 f h
  · replace h := h.2 c
    refine ⟨fun c => ?_, fun c => ?_⟩
    · replace h := h.1 c
      exact fr_X5_step_J244 f h
    · replace h := h.2 c
      refine ⟨fun c => ?_, fun c => ?_⟩
      · replace h := h.1 c
        exact fr_X5_step_J244 f h
      · replace h := h.2 c
        obtain ⟨Q9, h0, h⟩ := h
        refine ⟨_, frX5_move y5_ h0, ?_⟩
        intro S41 q6_ y7_ y8_
        replace h := h S41 q6_.1 y7_ y8_
        replace f := f.tr (q6_.2.mo (by decide) (by decide))
        intro S44 eS44 y9_ y10_
        replace h := h S44 eS44 y9_ y10_
        replace f := f.tr (show cfr [215, 216, 217, 402, 404, 405] [(45, 2), (45, 3), (45, 4), (45, 5), (45, 11), (45, 12), (45, 13), (45, 14), (45, 15), (45, 16), (45, 17), (45, 19)] S41 S44 by rw [eS44]; exact cfr.oI y9_ (by decide))
        exact ⟨h, f⟩
set_option maxRecDepth 100000 in
theorem fr_X5_step_J203 {S0 : MS} {Q : MS → Prop} {U203 : MS} {v203_1 : Int32} (f : cfr [215, 216, 217, 402, 404, 405] [(45, 2), (45, 3), (45, 4), (45, 5), (45, 11), (45, 12), (45, 13), (45, 14), (45, 15), (45, 16), (45, 17), (45, 19)] S0 U203) (h : w_X5_step_J203 Q U203 v203_1) : w_X5_step_J203 (fun u => Q u ∧ cfr [215, 216, 217, 402, 404, 405] [(45, 2), (45, 3), (45, 4), (45, 5), (45, 11), (45, 12), (45, 13), (45, 14), (45, 15), (45, 16), (45, 17), (45, 19)] S0 u) U203 v203_1 := by
  unfold w_X5_step_J203 at h ⊢
  intro y11_
  replace h := h y11_
  refine ⟨fun c => ?_, fun c => ?_⟩
  · replace h := h.1 c
    exact fr_X5_step_J225 f h
  · replace h := h.2 c
    refine ⟨fun c => ?_, fun c => ?_⟩
    · replace h := h.1 c
      exact fr_X5_step_J225 f h
    · replace h := h.2 c
      obtain ⟨Q9, h0, h⟩ := h
      refine ⟨_, frX5_leave y11_ h0, ?_⟩
      intro S48 q12_ y13_ y14_
      replace h := h S48 q12_.1 y13_ y14_
      replace f := f.tr (q12_.2.mo (by decide) (by decide))
      exact ⟨h, f⟩
set_option maxRecDepth 100000 in
theorem fr_X5_step_J132 {S0 : MS} {Q : MS → Prop} {U132 : MS} {t132_0 : Int32} (f : cfr [215, 216, 217, 402, 404, 405] [(45, 2), (45, 3), (45, 4), (45, 5), (45, 11), (45, 12), (45, 13), (45, 14), (45, 15), (45, 16), (45, 17), (45, 19)] S0 U132) (h : w_X5_step_J132 Q U132 t132_0) : w_X5_step_J132 (fun u => Q u ∧ cfr [215, 216, 217, 402, 404, 405] [(45, 2), (45, 3), (45, 4), (45, 5), (45, 11), (45, 12), (45, 13), (45, 14), (45, 15), (45, 16), (45, 17), (45, 19)] S0 u) U132 t132_0 := by
  unfold w_X5_step_J132 at h ⊢
  intro y15_
  replace h := h y15_
  intro S76 eS76 y16_ y17_
  replace h := h S76 eS76 y16_ y17_
  replace f := f.tr (show cfr [215, 216, 217, 402, 404, 405] [(45, 2), (45, 3), (45, 4), (45, 5), (45, 11), (45, 12), (45, 13), (45, 14), (45, 15), (45, 16), (45, 17), (45, 19)] U132 S76 by rw [eS76]; exact cfr.oI y16_ (by decide))
  exact ⟨h, f⟩
set_option maxRecDepth 100000 in
theorem fr_X5_step_J40 {S0 : MS} {Q : MS → Prop} {U40 : MS} {v40_1 : Int32} (f : cfr [215, 216, 217, 402, 404, 405] [(45, 2), (45, 3), (45, 4), (45, 5), (45, 11), (45, 12), (45, 13), (45, 14), (45, 15), (45, 16), (45, 17), (45, 19)] S0 U40) (h : w_X5_step_J40 Q U40 v40_1) : w_X5_step_J40 (fun u => Q u ∧ cfr [215, 216, 217, 402, 404, 405] [(45, 2), (45, 3), (45, 4), (45, 5), (45, 11), (45, 12), (45, 13), (45, 14), (45, 15), (45, 16), (45, 17), (45, 19)] S0 u) U40 v40_1 := by
  unfold w_X5_step_J40 at h ⊢
  intro y18_
  replace h := h y18_
  refine ⟨h.1, ?_⟩
  replace h := h.2
  intro a16 ea16 
  replace h := h a16 ea16 
  refine ⟨fun c => ?_, fun c => ?_⟩
  · replace h := h.1 c
    refine ⟨h.1, ?_⟩
    replace h := h.2
    intro a21 ea21 
    replace h := h a21 ea21 
    refine ⟨fun c => ?_, fun c => ?_⟩
    · replace h := h.1 c
      refine ⟨h.1, ?_⟩
      replace h := h.2
      intro a26 ea26 
      replace h := h a26 ea26 
      refine ⟨fun c => ?_, fun c => ?_⟩
      · replace h := h.1 c
        refine ⟨h.1, ?_⟩
        replace h := h.2
        intro a31 ea31 
        replace h := h a31 ea31 
        refine ⟨fun c => ?_, fun c => ?_⟩
        · replace h := h.1 c
          refine ⟨fun c => ?_, fun c => ?_⟩
          · replace h := h.1 c
            exact fr_X5_step_J203 f h
          · replace h := h.2 c
            refine ⟨fun c => ?_, fun c => ?_⟩
            · replace h := h.1 c
              exact fr_X5_step_J203 f h
            · replace h := h.2 c
              obtain ⟨Q9, h0, h⟩ := h
              refine ⟨_, frX5_shuffle y18_ h0, ?_⟩
              intro S53 q19_ y20_ y21_
              replace h := h S53 q19_.1 y20_ y21_
              replace f := f.tr (q19_.2.mo (by decide) (by decide))
              intro S56 eS56 y22_ y23_
              replace h := h S56 eS56 y22_ y23_
              replace f := f.tr (show cfr [215, 216, 217, 402, 404, 405] [(45, 2), (45, 3), (45, 4), (45, 5), (45, 11), (45, 12), (45, 13), (45, 14), (45, 15), (45, 16), (45, 17), (45, 19)] S53 S56 by rw [eS56]; exact cfr.oI y22_ (by decide))
              exact ⟨h, f⟩
        · replace h := h.2 c
          refine ⟨h.1, ?_⟩
          replace h := h.2
          obtain ⟨Q9, h0, h⟩ := h
          refine ⟨_, frX5_pop y18_ h0, ?_⟩
          intro r60 S61 q24_ y25_ y26_
          replace h := h r60 S61 q24_.1 y25_ y26_
          replace f := f.tr (q24_.2.mo (by decide) (by decide))
          obtain ⟨Q9, h0, h⟩ := h
          refine ⟨_, frX5_switchChoice y25_ h0, ?_⟩
          intro r64 S65 q27_ y28_ y29_
          replace h := h r64 S65 q27_.1 y28_ y29_
          replace f := f.tr (q27_.2.mo (by decide) (by decide))
          refine ⟨h.1, ?_⟩
          replace h := h.2
          intro a70 ea70 
          replace h := h a70 ea70 
          intro S71 eS71 y30_ y31_
          replace h := h S71 eS71 y30_ y31_
          replace f := f.tr (show cfr [215, 216, 217, 402, 404, 405] [(45, 2), (45, 3), (45, 4), (45, 5), (45, 11), (45, 12), (45, 13), (45, 14), (45, 15), (45, 16), (45, 17), (45, 19)] S65 S71 by rw [eS71]; exact cfr.oI y30_ (by decide))
          exact ⟨h, f⟩
      · replace h := h.2 c
        obtain ⟨Q9, h0, h⟩ := h
        refine ⟨_, frX5_isJumpTaken y18_ h0, ?_⟩
        intro r73 S74 q32_ y33_ y34_
        replace h := h r73 S74 q32_.1 y33_ y34_
        replace f := f.tr (q32_.2.mo (by decide) (by decide))
        refine ⟨fun c => ?_, fun c => ?_⟩
        · replace h := h.1 c
          exact fr_X5_step_J132 f h
        · replace h := h.2 c
          refine ⟨h.1, ?_⟩
          replace h := h.2
          refine ⟨h.1, ?_⟩
          replace h := h.2
          intro a84 ea84 
          replace h := h a84 ea84 
          exact fr_X5_step_J132 f h
    · replace h := h.2 c
      refine ⟨h.1, ?_⟩
      replace h := h.2
      intro a88 ea88 
      replace h := h a88 ea88 
      refine ⟨h.1, ?_⟩
      replace h := h.2
      intro a92 ea92 
      replace h := h a92 ea92 
      obtain ⟨Q9, h0, h⟩ := h
      refine ⟨_, frX5_pop_ y18_ h0, ?_⟩
      intro r94 S95 q35_ y36_ y37_
      replace h := h r94 S95 q35_.1 y36_ y37_
      replace f := f.tr (q35_.2.mo (by decide) (by decide))
      refine ⟨h.1, ?_⟩
      replace h := h.2
      intro a100 ea100 
      replace h := h a100 ea100 
      obtain ⟨Q9, h0, h⟩ := h
      refine ⟨_, frX5_push_ y36_ h0, ?_⟩
      intro S102 q38_ y39_ y40_
      replace h := h S102 q38_.1 y39_ y40_
      replace f := f.tr (q38_.2.mo (by decide) (by decide))
      intro S105 eS105 y41_ y42_
      replace h := h S105 eS105 y41_ y42_
      replace f := f.tr (show cfr [215, 216, 217, 402, 404, 405] [(45, 2), (45, 3), (45, 4), (45, 5), (45, 11), (45, 12), (45, 13), (45, 14), (45, 15), (45, 16), (45, 17), (45, 19)] S102 S105 by rw [eS105]; exact cfr.oI y41_ (by decide))
      exact ⟨h, f⟩
  · replace h := h.2 c
    obtain ⟨Q9, h0, h⟩ := h
    refine ⟨_, frX5_calculate y18_ h0, ?_⟩
    intro S107 q43_ y44_ y45_
    replace h := h S107 q43_.1 y44_ y45_
    replace f := f.tr (q43_.2.mo (by decide) (by decide))
    exact ⟨h, f⟩
set_option maxRecDepth 100000 in
theorem frX5_step {S : MS} {Q : MS → Prop} (hw : wfC S) (h : wX5_step S Q) : wX5_step S (fun u => Q u ∧ cfr [215, 216, 217, 402, 404, 405] [(45, 2), (45, 3), (45, 4), (45, 5), (45, 11), (45, 12), (45, 13), (45, 14), (45, 15), (45, 16), (45, 17), (45, 19)] S u) := by
  have f : cfr [215, 216, 217, 402, 404, 405] [(45, 2), (45, 3), (45, 4), (45, 5), (45, 11), (45, 12), (45, 13), (45, 14), (45, 15), (45, 16), (45, 17), (45, 19)] S S := cfr.rf
  unfold wX5_step at h ⊢
  refine ⟨h.1, ?_⟩
  replace h := h.2
  refine ⟨h.1, ?_⟩
  replace h := h.2
  intro a6 ea6 
  replace h := h a6 ea6 
  refine ⟨h.1, ?_⟩
  replace h := h.2
  refine ⟨h.1, ?_⟩
  replace h := h.2
  intro a12 ea12 
  replace h := h a12 ea12 
  refine ⟨fun c => ?_, fun c => ?_⟩
  · replace h := h.1 c
    exact fr_X5_step_J40 f h
  · replace h := h.2 c
    intro S111 eS111 y46_ y47_
    replace h := h S111 eS111 y46_ y47_
    replace f := f.tr (show cfr [215, 216, 217, 402, 404, 405] [(45, 2), (45, 3), (45, 4), (45, 5), (45, 11), (45, 12), (45, 13), (45, 14), (45, 15), (45, 16), (45, 17), (45, 19)] S S111 by rw [eS111]; exact cfr.oI y46_ (by decide))
    exact fr_X5_step_J40 f h
set_option maxRecDepth 100000 in
theorem fr_X9_makeBetter_J74 {S0 : MS} {Q : MS → Prop} {k34 k34' : MS → Int32 → Int32 → Int32 → Int32 → Prop} {U74 : MS} {v74_2 : Int32} {v74_3 : Int32} {v74_4 : Int32} {v74_5 : Int32} (hk34 : ∀ (u : MS) (z0) (z1) (z2) (z3), cfr [222, 223, 224, 225, 226, 227, 228, 229, 305, 306, 406] [(47, 0), (47, 1), (47, 2), (47, 3), (47, 4), (47, 5), (47, 6), (47, 7), (47, 8), (47, 9), (47, 11), (48, 0), (48, 2), (48, 3), (48, 4), (48, 5)] S0 u → k34 u z0 z1 z2 z3 → k34' u z0 z1 z2 z3) (f : cfr [222, 223, 224, 225, 226, 227, 228, 229, 305, 306, 406] [(47, 0), (47, 1), (47, 2), (47, 3), (47, 4), (47, 5), (47, 6), (47, 7), (47, 8), (47, 9), (47, 11), (48, 0), (48, 2), (48, 3), (48, 4), (48, 5)] S0 U74) (h : w_X9_makeBetter_J74 Q k34 U74 v74_2 v74_3 v74_4 v74_5) : w_X9_makeBetter_J74 (fun u => Q u ∧ cfr [222, 223, 224, 225, 226, 227, 228, 229, 305, 306, 406] [(47, 0), (47, 1), (47, 2), (47, 3), (47, 4), (47, 5), (47, 6), (47, 7), (47, 8), (47, 9), (47, 11), (48, 0), (48, 2), (48, 3), (48, 4), (48, 5)] S0 u) k34' U74 v74_2 v74_3 v74_4 v74_5 := by
  unfold w_X9_makeBetter_J74 at h ⊢
  intro y1_
  replace h := h y1_
  intro a16 ea16 
  replace h := h a16 ea16 
  exact hk34 _ _ _ _ _ f h
set_option maxRecDepth 100000 in
theorem fr_X9_makeBetter_J72 {S0 : MS} {Q : MS → Prop} {k34 k34' : MS → Int32 → Int32 → Int32 → Int32 → Prop} {U72 : MS} {t72_0 : Int32} {t72_1 : Int32} {v72_2 : Int32} {v72_4 : Int32} {v72_5 : Int32} (hk34 : ∀ (u : MS) (z0) (z1) (z2) (z3), cfr [222, 223, 224, 225, 226, 227, 228, 229, 305, 306, 406] [(47, 0), (47, 1), (47, 2), (47, 3), (47, 4), (47, 5), (47, 6), (47, 7), (47, 8), (47, 9), (47, 11), (48, 0), (48, 2), (48, 3), (48, 4), (48, 5)] S0 u → k34 u z0 z1 z2 z3 → k34' u z0 z1 z2 z3) (f : cfr [222, 223, 224, 225, 226, 227, 228, 229, 305, 306, 406] [(47, 0), (47, 1), (47, 2), (47, 3), (47, 4), (47, 5), (47, 6), (47, 7), (47, 8), (47, 9), (47, 11), (48, 0), (48, 2), (48, 3), (48, 4), (48, 5)] S0 U72) (h : w_X9_makeBetter_J72 Q k34 U72 t72_0 t72_1 v72_2 v72_4 v72_5) : w_X9_makeBetter_J72 (fun u => Q u ∧ cfr [222, 223, 224, 225, 226, 227, 228, 229, 305, 306, 406] [(47, 0), (47, 1), (47, 2), (47, 3), (47, 4), (47, 5), (47, 6), (47, 7), (47, 8), (47, 9), (47, 11), (48, 0), (48, 2), (48, 3), (48, 4), (48, 5)] S0 u) k34' U72 t72_0 t72_1 v72_2 v72_4 v72_5 := by
  unfold w_X9_makeBetter_J72 at h ⊢
  intro y2_ y3_
  replace h := h y2_ y3_
  intro a19 ea19 
  replace h := h a19 ea19 
  exact fr_X9_makeBetter_J74 hk34 f h
set_option maxRecDepth 100000 in
theorem fr_X9_makeBetter_L34 {S0 : MS} {Q : MS → Prop} {k18 k18' : MS → Int32 → Int32 → Int32 → Prop} (hk18 : ∀ (u : MS) (z0) (z1) (z2), cfr [222, 223, 224, 225, 226, 227, 228, 229, 305, 306, 406] [(47, 0), (47, 1), (47, 2), (47, 3), (47, 4), (47, 5), (47, 6), (47, 7), (47, 8), (47, 9), (47, 11), (48, 0), (48, 2), (48, 3), (48, 4), (48, 5)] S0 u → k18 u z0 z1 z2 → k18' u z0 z1 z2) : ∀ (n : Nat) {U34 : MS} {v34_2 : Int32} {v34_3 : Int32} {v34_4 : Int32} {v34_5 : Int32}, cfr [222, 223, 224, 225, 226, 227, 228, 229, 305, 306, 406] [(47, 0), (47, 1), (47, 2), (47, 3), (47, 4), (47, 5), (47, 6), (47, 7), (47, 8), (47, 9), (47, 11), (48, 0), (48, 2), (48, 3), (48, 4), (48, 5)] S0 U34 → w_X9_makeBetter_L34 Q k18 n U34 v34_2 v34_3 v34_4 v34_5 → w_X9_makeBetter_L34 (fun u => Q u ∧ cfr [222, 223, 224, 225, 226, 227, 228, 229, 305, 306, 406] [(47, 0), (47, 1), (47, 2), (47, 3), (47, 4), (47, 5), (47, 6), (47, 7), (47, 8), (47, 9), (47, 11), (48, 0), (48, 2), (48, 3), (48, 4), (48, 5)] S0 u) k18' n U34 v34_2 v34_3 v34_4 v34_5 := by
  intro n
  induction n with
  | zero => intro U34 v34_2 v34_3 v34_4 v34_5 f h; unfold w_X9_makeBetter_L34 at h; exact h.elim
  | succ n ih =>
    intro U34 v34_2 v34_3 v34_4 v34_5 f h
    unfold w_X9_makeBetter_L34 at h ⊢
    intro y4_
    replace h := h y4_
    refine ⟨fun c => ?_, fun c => ?_⟩
    · replace h := h.1 c
      intro a12 ea12 
      replace h := h a12 ea12 
      exact hk18 _ _ _ _ f h
    · replace h := h.2 c
      refine ⟨fun c => ?_, fun c => ?_⟩
      · replace h := h.1 c
        exact fr_X9_makeBetter_J74 (fun _ _ _ _ _ f h => ih f h) f h
      · replace h := h.2 c
        refine ⟨fun c => ?_, fun c => ?_⟩
        · replace h := h.1 c
          obtain ⟨Q9, h0, h⟩ := h
          refine ⟨_, frX9_dropUnreached y4_ h0, ?_⟩
          intro r26 S27 q5_ y6_ y7_
          replace h := h r26 S27 q5_.1 y6_ y7_
          replace f := f.tr (q5_.2.mo (by decide) (by decide))
          exact fr_X9_makeBetter_J72 (fun _ _ _ _ _ f h => ih f h) f h
        · replace h := h.2 c
          obtain ⟨Q9, h0, h⟩ := h
          refine ⟨_, frX9_goThrough y4_ h0, ?_⟩
          intro r22 S23 q8_ y9_ y10_
          replace h := h r22 S23 q8_.1 y9_ y10_
          replace f := f.tr (q8_.2.mo (by decide) (by decide))
          exact fr_X9_makeBetter_J72 (fun _ _ _ _ _ f h => ih f h) f h
set_option maxRecDepth 100000 in
theorem fr_X9_makeBetter_L18 {S0 : MS} {Q : MS → Prop} : ∀ (n : Nat) {U18 : MS} {v18_2 : Int32} {v18_3 : Int32} {v18_4 : Int32}, cfr [222, 223, 224, 225, 226, 227, 228, 229, 305, 306, 406] [(47, 0), (47, 1), (47, 2), (47, 3), (47, 4), (47, 5), (47, 6), (47, 7), (47, 8), (47, 9), (47, 11), (48, 0), (48, 2), (48, 3), (48, 4), (48, 5)] S0 U18 → w_X9_makeBetter_L18 Q n U18 v18_2 v18_3 v18_4 → w_X9_makeBetter_L18 (fun u => Q u ∧ cfr [222, 223, 224, 225, 226, 227, 228, 229, 305, 306, 406] [(47, 0), (47, 1), (47, 2), (47, 3), (47, 4), (47, 5), (47, 6), (47, 7), (47, 8), (47, 9), (47, 11), (48, 0), (48, 2), (48, 3), (48, 4), (48, 5)] S0 u) n U18 v18_2 v18_3 v18_4 := by
  intro n
  induction n with
  | zero => intro U18 v18_2 v18_3 v18_4 f h; unfold w_X9_makeBetter_L18 at h; exact h.elim
  | succ n ih =>
    intro U18 v18_2 v18_3 v18_4 f h
    unfold w_X9_makeBetter_L18 at h ⊢
    intro y11_
    replace h := h y11_
    refine ⟨fun c => ?_, fun c => ?_⟩
    · replace h := h.1 c
      exact ⟨h, f⟩
    · replace h := h.2 c
      refine ⟨fun c => ?_, fun c => ?_⟩
      · replace h := h.1 c
        exact ⟨h, f⟩
      · replace h := h.2 c
        obtain ⟨n9, h⟩ := h
        exact ⟨n9, fr_X9_makeBetter_L34 (fun _ _ _ _ f h => ih f h) n9 f h⟩
set_option maxRecDepth 100000 in
theorem frX9_makeBetter {S : MS} {p1 : Nat} {x2 : Int32} {Q : MS → Prop} (hw : wfC S) (h : wX9_makeBetter S p1 x2 Q) : wX9_makeBetter S p1 x2 (fun u => Q u ∧ cfr [222, 223, 224, 225, 226, 227, 228, 229, 305, 306, 406] [(47, 0), (47, 1), (47, 2), (47, 3), (47, 4), (47, 5), (47, 6), (47, 7), (47, 8), (47, 9), (47, 11), (48, 0), (48, 2), (48, 3), (48, 4), (48, 5)] S u) := by
  have f : cfr [222, 223, 224, 225, 226, 227, 228, 229, 305, 306, 406] [(47, 0), (47, 1), (47, 2), (47, 3), (47, 4), (47, 5), (47, 6), (47, 7), (47, 8), (47, 9), (47, 11), (48, 0), (48, 2), (48, 3), (48, 4), (48, 5)] S S := cfr.rf
  unfold wX9_makeBetter at h ⊢
  intro y12_
  replace h := h y12_
  obtain ⟨Q9, h0, h⟩ := h
  refine ⟨_, frX9_makeRoom hw h0, ?_⟩
  intro S2 q13_ y14_ y15_
  replace h := h S2 q13_.1 y14_ y15_
  replace f := f.tr (q13_.2.mo (by decide) (by decide))
  intro y16_ y17_
  replace h := h y16_ y17_
  obtain ⟨Q9, h0, h⟩ := h
  refine ⟨_, frX8_copyFrom y14_ h0, ?_⟩
  intro S7 q18_ y19_ y20_
  replace h := h S7 q18_.1 y19_ y20_
  replace f := f.tr (q18_.2.mo (by decide) (by decide))
  obtain ⟨n9, h⟩ := h
  exact ⟨n9, fr_X9_makeBetter_L18 n9 f h⟩
set_option maxRecDepth 100000 in
theorem fr_X12_improve_L73 {S0 : MS} {Q : Int32 → MS → Prop} : ∀ (n : Nat) {U73 : MS} {v73_2 : Int32} {v73_3 : Nat} {v73_4 : Int32}, cfr [5, 6, 101, 201, 213, 214, 218, 219, 220, 221, 222, 223, 224, 225, 226, 227, 228, 229, 231, 232, 233, 234, 235, 236, 237, 238, 239, 240, 241, 242, 243, 244, 245, 304, 305, 306, 406] [(40, 0), (40, 1), (42, 1), (42, 2), (42, 3), (42, 4), (42, 5), (42, 6), (42, 8), (42, 9), (42, 10), (42, 11), (44, 0), (44, 1), (44, 2), (44, 3), (44, 4), (44, 5), (44, 6), (44, 7), (46, 0), (46, 1), (46, 2), (46, 3), (46, 5), (46, 6), (46, 7), (46, 8), (46, 12), (46, 13), (46, 14), (46, 15), (46, 16), (47, 0), (47, 1), (47, 2), (47, 3), (47, 4), (47, 5), (47, 6), (47, 7), (47, 8), (47, 9), (47, 10), (47, 11), (48, 0), (48, 2), (48, 3), (48, 4), (48, 5), (49, 0), (49, 1), (49, 2), (49, 3), (49, 4), (49, 5), (49, 6), (49, 7), (49, 8), (49, 9), (49, 10), (49, 11), (49, 12), (49, 13), (49, 14), (49, 16), (49, 17), (50, 5), (50, 6), (50, 7), (50, 8), (50, 9), (50, 15), (50, 16), (50, 17), (51, 11), (51, 12)] S0 U73 → w_X12_improve_L73 Q n U73 v73_2 v73_3 v73_4 → w_X12_improve_L73 (fun r u => Q r u ∧ cfr [5, 6, 101, 201, 213, 214, 218, 219, 220, 221, 222, 223, 224, 225, 226, 227, 228, 229, 231, 232, 233, 234, 235, 236, 237, 238, 239, 240, 241, 242, 243, 244, 245, 304, 305, 306, 406] [(40, 0), (40, 1), (42, 1), (42, 2), (42, 3), (42, 4), (42, 5), (42, 6), (42, 8), (42, 9), (42, 10), (42, 11), (44, 0), (44, 1), (44, 2), (44, 3), (44, 4), (44, 5), (44, 6), (44, 7), (46, 0), (46, 1), (46, 2), (46, 3), (46, 5), (46, 6), (46, 7), (46, 8), (46, 12), (46, 13), (46, 14), (46, 15), (46, 16), (47, 0), (47, 1), (47, 2), (47, 3), (47, 4), (47, 5), (47, 6), (47, 7), (47, 8), (47, 9), (47, 10), (47, 11), (48, 0), (48, 2), (48, 3), (48, 4), (48, 5), (49, 0), (49, 1), (49, 2), (49, 3), (49, 4), (49, 5), (49, 6), (49, 7), (49, 8), (49, 9), (49, 10), (49, 11), (49, 12), (49, 13), (49, 14), (49, 16), (49, 17), (50, 5), (50, 6), (50, 7), (50, 8), (50, 9), (50, 15), (50, 16), (50, 17), (51, 11), (51, 12)] S0 u) n U73 v73_2 v73_3 v73_4 := by
  intro n
  induction n with
  | zero => intro U73 v73_2 v73_3 v73_4 f h; unfold w_X12_improve_L73 at h; exact h.elim
  | succ n ih =>
    intro U73 v73_2 v73_3 v73_4 f h
    unfold w_X12_improve_L73 at h ⊢
    intro y1_ y2_
    replace h := h y1_ y2_
    refine ⟨fun c => ?_, fun c => ?_⟩
    · replace h := h.1 c
      refine ⟨h.1, ?_⟩
      replace h := h.2
      refine ⟨fun c => ?_, fun c => ?_⟩
      · replace h := h.1 c
        exact ⟨h, f⟩
      · replace h := h.2 c
        intro y3_
        replace h := h y3_
        obtain ⟨Q9, h0, h⟩ := h
        refine ⟨_, frX11_finish y1_ h0, ?_⟩
        intro S26 q4_ y5_ y6_
        replace h := h S26 q4_.1 y5_ y6_
        replace f := f.tr (q4_.2.mo (by decide) (by decide))
        intro y7_
        replace h := h y7_
        obtain ⟨Q9, h0, h⟩ := h
        refine ⟨_, frX2_unitOf y5_ h0, ?_⟩
        intro b34 S31 q8_ y9_ y10_ y11_
        replace h := h b34 S31 q8_.1 y9_ y10_ y11_
        replace f := f.tr (q8_.2.mo (by decide) (by decide))
        obtain ⟨Q9, h0, h⟩ := h
        refine ⟨_, frX12_keep y9_ h0, ?_⟩
        intro r36 S37 q12_ y13_ y14_
        replace h := h r36 S37 q12_.1 y13_ y14_
        replace f := f.tr (q12_.2.mo (by decide) (by decide))
        exact ⟨h, f⟩
    · replace h := h.2 c
      intro y15_
      replace h := h y15_
      obtain ⟨Q9, h0, h⟩ := h
      refine ⟨_, frX10_rowAt y1_ h0, ?_⟩
      intro b43 S41 q16_ y17_ y18_ y19_
      replace h := h b43 S41 q16_.1 y17_ y18_ y19_
      replace f := f.tr (q16_.2.mo (by decide) (by decide))
      refine ⟨fun c => ?_, fun c => ?_⟩
      · replace h := h.1 c
        exact h.elim
      · replace h := h.2 c
        intro y20_
        replace h := h y20_
        obtain ⟨Q9, h0, h⟩ := h
        refine ⟨_, frX9_makeBetter y17_ h0, ?_⟩
        intro S46 q21_ y22_ y23_
        replace h := h S46 q21_.1 y22_ y23_
        replace f := f.tr (q21_.2.mo (by decide) (by decide))
        obtain ⟨Q9, h0, h⟩ := h
        refine ⟨_, frX11_addMethod y22_ h0, ?_⟩
        intro S51 q24_ y25_ y26_
        replace h := h S51 q24_.1 y25_ y26_
        replace f := f.tr (q24_.2.mo (by decide) (by decide))
        intro a54 ea54 
        replace h := h a54 ea54 
        exact ih f h
set_option maxRecDepth 100000 in
theorem frX12_improve {S : MS} {x1 : Int32} {x2 : Int32} {Q : Int32 → MS → Prop} (hw : wfC S) (h : wX12_improve S x1 x2 Q) : wX12_improve S x1 x2 (fun r u => Q r u ∧ cfr [5, 6, 101, 201, 213, 214, 218, 219, 220, 221, 222, 223, 224, 225, 226, 227, 228, 229, 231, 232, 233, 234, 235, 236, 237, 238, 239, 240, 241, 242, 243, 244, 245, 304, 305, 306, 406] [(40, 0), (40, 1), (42, 1), (42, 2), (42, 3), (42, 4), (42, 5), (42, 6), (42, 8), (42, 9), (42, 10), (42, 11), (44, 0), (44, 1), (44, 2), (44, 3), (44, 4), (44, 5), (44, 6), (44, 7), (46, 0), (46, 1), (46, 2), (46, 3), (46, 5), (46, 6), (46, 7), (46, 8), (46, 12), (46, 13), (46, 14), (46, 15), (46, 16), (47, 0), (47, 1), (47, 2), (47, 3), (47, 4), (47, 5), (47, 6), (47, 7), (47, 8), (47, 9), (47, 10), (47, 11), (48, 0), (48, 2), (48, 3), (48, 4), (48, 5), (49, 0), (49, 1), (49, 2), (49, 3), (49, 4), (49, 5), (49, 6), (49, 7), (49, 8), (49, 9), (49, 10), (49, 11), (49, 12), (49, 13), (49, 14), (49, 16), (49, 17), (50, 5), (50, 6), (50, 7), (50, 8), (50, 9), (50, 15), (50, 16), (50, 17), (51, 11), (51, 12)] S u) := by
  have f : cfr [5, 6, 101, 201, 213, 214, 218, 219, 220, 221, 222, 223, 224, 225, 226, 227, 228, 229, 231, 232, 233, 234, 235, 236, 237, 238, 239, 240, 241, 242, 243, 244, 245, 304, 305, 306, 406] [(40, 0), (40, 1), (42, 1), (42, 2), (42, 3), (42, 4), (42, 5), (42, 6), (42, 8), (42, 9), (42, 10), (42, 11), (44, 0), (44, 1), (44, 2), (44, 3), (44, 4), (44, 5), (44, 6), (44, 7), (46, 0), (46, 1), (46, 2), (46, 3), (46, 5), (46, 6), (46, 7), (46, 8), (46, 12), (46, 13), (46, 14), (46, 15), (46, 16), (47, 0), (47, 1), (47, 2), (47, 3), (47, 4), (47, 5), (47, 6), (47, 7), (47, 8), (47, 9), (47, 10), (47, 11), (48, 0), (48, 2), (48, 3), (48, 4), (48, 5), (49, 0), (49, 1), (49, 2), (49, 3), (49, 4), (49, 5), (49, 6), (49, 7), (49, 8), (49, 9), (49, 10), (49, 11), (49, 12), (49, 13), (49, 14), (49, 16), (49, 17), (50, 5), (50, 6), (50, 7), (50, 8), (50, 9), (50, 15), (50, 16), (50, 17), (51, 11), (51, 12)] S S := cfr.rf
  unfold wX12_improve at h ⊢
  obtain ⟨Q9, h0, h⟩ := h
  refine ⟨_, frX9_forgetApplied hw h0, ?_⟩
  intro S2 q27_ y28_ y29_
  replace h := h S2 q27_.1 y28_ y29_
  replace f := f.tr (q27_.2.mo (by decide) (by decide))
  obtain ⟨Q9, h0, h⟩ := h
  refine ⟨_, frX12_soundUnitAt y28_ h0, ?_⟩
  intro b8 S6 q30_ y31_ y32_ y33_
  replace h := h b8 S6 q30_.1 y31_ y32_ y33_
  replace f := f.tr (q30_.2.mo (by decide) (by decide))
  refine ⟨fun c => ?_, fun c => ?_⟩
  · replace h := h.1 c
    exact ⟨h, f⟩
  · replace h := h.2 c
    refine ⟨fun c => ?_, fun c => ?_⟩
    · replace h := h.1 c
      exact ⟨h, f⟩
    · replace h := h.2 c
      refine ⟨fun c => ?_, fun c => ?_⟩
      · replace h := h.1 c
        refine ⟨fun c => ?_, fun c => ?_⟩
        · replace h := h.1 c
          exact ⟨h, f⟩
        · replace h := h.2 c
          refine ⟨fun c => ?_, fun c => ?_⟩
          · replace h := h.1 c
            intro S15 eS15 y34_ y35_
            replace h := h S15 eS15 y34_ y35_
            replace f := f.tr (show cfr [5, 6, 101, 201, 213, 214, 218, 219, 220, 221, 222, 223, 224, 225, 226, 227, 228, 229, 231, 232, 233, 234, 235, 236, 237, 238, 239, 240, 241, 242, 243, 244, 245, 304, 305, 306, 406] [(40, 0), (40, 1), (42, 1), (42, 2), (42, 3), (42, 4), (42, 5), (42, 6), (42, 8), (42, 9), (42, 10), (42, 11), (44, 0), (44, 1), (44, 2), (44, 3), (44, 4), (44, 5), (44, 6), (44, 7), (46, 0), (46, 1), (46, 2), (46, 3), (46, 5), (46, 6), (46, 7), (46, 8), (46, 12), (46, 13), (46, 14), (46, 15), (46, 16), (47, 0), (47, 1), (47, 2), (47, 3), (47, 4), (47, 5), (47, 6), (47, 7), (47, 8), (47, 9), (47, 10), (47, 11), (48, 0), (48, 2), (48, 3), (48, 4), (48, 5), (49, 0), (49, 1), (49, 2), (49, 3), (49, 4), (49, 5), (49, 6), (49, 7), (49, 8), (49, 9), (49, 10), (49, 11), (49, 12), (49, 13), (49, 14), (49, 16), (49, 17), (50, 5), (50, 6), (50, 7), (50, 8), (50, 9), (50, 15), (50, 16), (50, 17), (51, 11), (51, 12)] S6 S15 by rw [eS15]; exact cfr.oI y34_ (by decide))
            intro y36_
            replace h := h y36_
            obtain ⟨Q9, h0, h⟩ := h
            refine ⟨_, frX11_begin y35_ h0, ?_⟩
            intro S17 q37_ y38_ y39_
            replace h := h S17 q37_.1 y38_ y39_
            replace f := f.tr (q37_.2.mo (by decide) (by decide))
            obtain ⟨n9, h⟩ := h
            exact ⟨n9, fr_X12_improve_L73 n9 f h⟩
          · replace h := h.2 c
            exact ⟨h, f⟩
      · replace h := h.2 c
        exact ⟨h, f⟩
set_option maxRecDepth 100000 in
theorem fr_X5_play_J100 {S0 : MS} {Q : Int32 → MS → Prop} {U100 : MS} (f : cfr [215, 216, 217, 402, 404, 405] [(45, 2), (45, 3), (45, 4), (45, 5), (45, 8), (45, 9), (45, 11), (45, 12), (45, 13), (45, 14), (45, 15), (45, 16), (45, 17), (45, 18), (45, 19)] S0 U100) (h : w_X5_play_J100 Q U100) : w_X5_play_J100 (fun r u => Q r u ∧ cfr [215, 216, 217, 402, 404, 405] [(45, 2), (45, 3), (45, 4), (45, 5), (45, 8), (45, 9), (45, 11), (45, 12), (45, 13), (45, 14), (45, 15), (45, 16), (45, 17), (45, 18), (45, 19)] S0 u) U100 := by
  unfold w_X5_play_J100 at h ⊢
  intro y1_
  replace h := h y1_
  refine ⟨fun c => ?_, fun c => ?_⟩
  · replace h := h.1 c
    exact ⟨h, f⟩
  · replace h := h.2 c
    exact ⟨h, f⟩
set_option maxRecDepth 100000 in
theorem fr_X5_play_L68 {S0 : MS} {Q : Int32 → MS → Prop} : ∀ (n : Nat) {U68 : MS} {v68_2 : Int32}, cfr [215, 216, 217, 402, 404, 405] [(45, 2), (45, 3), (45, 4), (45, 5), (45, 8), (45, 9), (45, 11), (45, 12), (45, 13), (45, 14), (45, 15), (45, 16), (45, 17), (45, 18), (45, 19)] S0 U68 → w_X5_play_L68 Q n U68 v68_2 → w_X5_play_L68 (fun r u => Q r u ∧ cfr [215, 216, 217, 402, 404, 405] [(45, 2), (45, 3), (45, 4), (45, 5), (45, 8), (45, 9), (45, 11), (45, 12), (45, 13), (45, 14), (45, 15), (45, 16), (45, 17), (45, 18), (45, 19)] S0 u) n U68 v68_2 := by
  intro n
  induction n with
  | zero => intro U68 v68_2 f h; unfold w_X5_play_L68 at h; exact h.elim
  | succ n ih =>
    intro U68 v68_2 f h
    unfold w_X5_play_L68 at h ⊢
    intro y2_
    replace h := h y2_
    refine ⟨fun c => ?_, fun c => ?_⟩
    · replace h := h.1 c
      exact fr_X5_play_J100 f h
    · replace h := h.2 c
      refine ⟨fun c => ?_, fun c => ?_⟩
      · replace h := h.1 c
        exact fr_X5_play_J100 f h
      · replace h := h.2 c
        intro S24 eS24 y3_ y4_
        replace h := h S24 eS24 y3_ y4_
        replace f := f.tr (show cfr [215, 216, 217, 402, 404, 405] [(45, 2), (45, 3), (45, 4), (45, 5), (45, 8), (45, 9), (45, 11), (45, 12), (45, 13), (45, 14), (45, 15), (45, 16), (45, 17), (45, 18), (45, 19)] U68 S24 by rw [eS24]; exact cfr.oI y3_ (by decide))
        obtain ⟨Q9, h0, h⟩ := h
        refine ⟨_, frX5_step y4_ h0, ?_⟩
        intro S26 q5_ y6_ y7_
        replace h := h S26 q5_.1 y6_ y7_
        replace f := f.tr (q5_.2.mo (by decide) (by decide))
        exact ih f h
set_option maxRecDepth 100000 in
theorem fr_X5_play_J26 {S0 : MS} {Q : Int32 → MS → Prop} {U26 : MS} {v26_1 : Int32} {v26_2 : Int32} (f : cfr [215, 216, 217, 402, 404, 405] [(45, 2), (45, 3), (45, 4), (45, 5), (45, 8), (45, 9), (45, 11), (45, 12), (45, 13), (45, 14), (45, 15), (45, 16), (45, 17), (45, 18), (45, 19)] S0 U26) (h : w_X5_play_J26 Q U26 v26_1 v26_2) : w_X5_play_J26 (fun r u => Q r u ∧ cfr [215, 216, 217, 402, 404, 405] [(45, 2), (45, 3), (45, 4), (45, 5), (45, 8), (45, 9), (45, 11), (45, 12), (45, 13), (45, 14), (45, 15), (45, 16), (45, 17), (45, 18), (45, 19)] S0 u) U26 v26_1 v26_2 := by
  unfold w_X5_play_J26 at h ⊢
  intro y8_
  replace h := h y8_
  intro S3 eS3 y9_ y10_
  replace h := h S3 eS3 y9_ y10_
  replace f := f.tr (show cfr [215, 216, 217, 402, 404, 405] [(45, 2), (45, 3), (45, 4), (45, 5), (45, 8), (45, 9), (45, 11), (45, 12), (45, 13), (45, 14), (45, 15), (45, 16), (45, 17), (45, 18), (45, 19)] U26 S3 by rw [eS3]; exact cfr.oJ y9_ (by decide))
  intro S4 eS4 y11_ y12_
  replace h := h S4 eS4 y11_ y12_
  replace f := f.tr (show cfr [215, 216, 217, 402, 404, 405] [(45, 2), (45, 3), (45, 4), (45, 5), (45, 8), (45, 9), (45, 11), (45, 12), (45, 13), (45, 14), (45, 15), (45, 16), (45, 17), (45, 18), (45, 19)] S3 S4 by rw [eS4]; exact cfr.oI y11_ (by decide))
  intro S5 eS5 y13_ y14_
  replace h := h S5 eS5 y13_ y14_
  replace f := f.tr (show cfr [215, 216, 217, 402, 404, 405] [(45, 2), (45, 3), (45, 4), (45, 5), (45, 8), (45, 9), (45, 11), (45, 12), (45, 13), (45, 14), (45, 15), (45, 16), (45, 17), (45, 18), (45, 19)] S4 S5 by rw [eS5]; exact cfr.oI y13_ (by decide))
  intro S6 eS6 y15_ y16_
  replace h := h S6 eS6 y15_ y16_
  replace f := f.tr (show cfr [215, 216, 217, 402, 404, 405] [(45, 2), (45, 3), (45, 4), (45, 5), (45, 8), (45, 9), (45, 11), (45, 12), (45, 13), (45, 14), (45, 15), (45, 16), (45, 17), (45, 18), (45, 19)] S5 S6 by rw [eS6]; exact cfr.oI y15_ (by decide))
  intro S7 eS7 y17_ y18_
  replace h := h S7 eS7 y17_ y18_
  replace f := f.tr (show cfr [215, 216, 217, 402, 404, 405] [(45, 2), (45, 3), (45, 4), (45, 5), (45, 8), (45, 9), (45, 11), (45, 12), (45, 13), (45, 14), (45, 15), (45, 16), (45, 17), (45, 18), (45, 19)] S6 S7 by rw [eS7]; exact cfr.oI y17_ (by decide))
  obtain ⟨Q9, h0, h⟩ := h
  refine ⟨_, frX5_openFrame y18_ h0, ?_⟩
  intro S9 q19_ y20_ y21_
  replace h := h S9 q19_.1 y20_ y21_
  replace f := f.tr (q19_.2.mo (by decide) (by decide))
  refine ⟨h.1, ?_⟩
  replace h := h.2
  refine ⟨h.1, ?_⟩
  replace h := h.2
  intro a16 ea16 
  replace h := h a16 ea16 
  obtain ⟨Q9, h0, h⟩ := h
  refine ⟨_, frX5_passArguments y20_ h0, ?_⟩
  intro S18 q22_ y23_ y24_
  replace h := h S18 q22_.1 y23_ y24_
  replace f := f.tr (q22_.2.mo (by decide) (by decide))
  obtain ⟨n9, h⟩ := h
  exact ⟨n9, fr_X5_play_L68 n9 f h⟩
set_option maxRecDepth 100000 in
theorem frX5_play {S : MS} {x1 : Int32} {x2 : Int32} {Q : Int32 → MS → Prop} (hw : wfC S) (h : wX5_play S x1 x2 Q) : wX5_play S x1 x2 (fun r u => Q r u ∧ cfr [215, 216, 217, 402, 404, 405] [(45, 2), (45, 3), (45, 4), (45, 5), (45, 8), (45, 9), (45, 11), (45, 12), (45, 13), (45, 14), (45, 15), (45, 16), (45, 17), (45, 18), (45, 19)] S u) := by
  have f : cfr [215, 216, 217, 402, 404, 405] [(45, 2), (45, 3), (45, 4), (45, 5), (45, 8), (45, 9), (45, 11), (45, 12), (45, 13), (45, 14), (45, 15), (45, 16), (45, 17), (45, 18), (45, 19)] S S := cfr.rf
  unfold wX5_play at h ⊢
  refine ⟨fun c => ?_, fun c => ?_⟩
  · replace h := h.1 c
    refine ⟨h.1, ?_⟩
    replace h := h.2
    intro S33 eS33 y25_
    replace h := h S33 eS33 y25_
    replace f := f.tr (show cfr [215, 216, 217, 402, 404, 405] [(45, 2), (45, 3), (45, 4), (45, 5), (45, 8), (45, 9), (45, 11), (45, 12), (45, 13), (45, 14), (45, 15), (45, 16), (45, 17), (45, 18), (45, 19)] S S33 by rw [eS33]; exact cfr.new hw (eS33 ▸ y25_))
    intro S35 eS35 y26_ y27_
    replace h := h S35 eS35 y26_ y27_
    replace f := f.tr (show cfr [215, 216, 217, 402, 404, 405] [(45, 2), (45, 3), (45, 4), (45, 5), (45, 8), (45, 9), (45, 11), (45, 12), (45, 13), (45, 14), (45, 15), (45, 16), (45, 17), (45, 18), (45, 19)] S33 S35 by rw [eS35]; exact cfr.oR y26_ (by decide))
    refine ⟨h.1, ?_⟩
    replace h := h.2
    intro S39 eS39 y28_
    replace h := h S39 eS39 y28_
    replace f := f.tr (show cfr [215, 216, 217, 402, 404, 405] [(45, 2), (45, 3), (45, 4), (45, 5), (45, 8), (45, 9), (45, 11), (45, 12), (45, 13), (45, 14), (45, 15), (45, 16), (45, 17), (45, 18), (45, 19)] S35 S39 by rw [eS39]; exact cfr.new y27_ (eS39 ▸ y28_))
    intro S41 eS41 y29_ y30_
    replace h := h S41 eS41 y29_ y30_
    replace f := f.tr (show cfr [215, 216, 217, 402, 404, 405] [(45, 2), (45, 3), (45, 4), (45, 5), (45, 8), (45, 9), (45, 11), (45, 12), (45, 13), (45, 14), (45, 15), (45, 16), (45, 17), (45, 18), (45, 19)] S39 S41 by rw [eS41]; exact cfr.oR y29_ (by decide))
    exact fr_X5_play_J26 f h
  · replace h := h.2 c
    exact fr_X5_play_J26 f h
set_option maxRecDepth 100000 in
theorem fr_X12_run_J24 {S0 : MS} {Q : Int32 → MS → Prop} {U24 : MS} {v24_3 : Int32} (f : cfr [215, 216, 217, 402, 404, 405] [(45, 2), (45, 3), (45, 4), (45, 5), (45, 7), (45, 8), (45, 9), (45, 11), (45, 12), (45, 13), (45, 14), (45, 15), (45, 16), (45, 17), (45, 18), (45, 19)] S0 U24) (h : w_X12_run_J24 Q U24 v24_3) : w_X12_run_J24 (fun r u => Q r u ∧ cfr [215, 216, 217, 402, 404, 405] [(45, 2), (45, 3), (45, 4), (45, 5), (45, 7), (45, 8), (45, 9), (45, 11), (45, 12), (45, 13), (45, 14), (45, 15), (45, 16), (45, 17), (45, 18), (45, 19)] S0 u) U24 v24_3 := by
  unfold w_X12_run_J24 at h ⊢
  intro y1_
  replace h := h y1_
  intro S5 eS5 y2_ y3_
  replace h := h S5 eS5 y2_ y3_
  replace f := f.tr (show cfr [215, 216, 217, 402, 404, 405] [(45, 2), (45, 3), (45, 4), (45, 5), (45, 7), (45, 8), (45, 9), (45, 11), (45, 12), (45, 13), (45, 14), (45, 15), (45, 16), (45, 17), (45, 18), (45, 19)] U24 S5 by rw [eS5]; exact cfr.oI y2_ (by decide))
  exact ⟨h, f⟩
set_option maxRecDepth 100000 in
theorem frX12_run {S : MS} {x1 : Int32} {x2 : Int32} {Q : Int32 → MS → Prop} (hw : wfC S) (h : wX12_run S x1 x2 Q) : wX12_run S x1 x2 (fun r u => Q r u ∧ cfr [215, 216, 217, 402, 404, 405] [(45, 2), (45, 3), (45, 4), (45, 5), (45, 7), (45, 8), (45, 9), (45, 11), (45, 12), (45, 13), (45, 14), (45, 15), (45, 16), (45, 17), (45, 18), (45, 19)] S u) := by
  have f : cfr [215, 216, 217, 402, 404, 405] [(45, 2), (45, 3), (45, 4), (45, 5), (45, 7), (45, 8), (45, 9), (45, 11), (45, 12), (45, 13), (45, 14), (45, 15), (45, 16), (45, 17), (45, 18), (45, 19)] S S := cfr.rf
  unfold wX12_run at h ⊢
  obtain ⟨Q9, h0, h⟩ := h
  refine ⟨_, frX5_refusal hw h0, ?_⟩
  intro r2 S3 q4_ y5_ y6_
  replace h := h r2 S3 q4_.1 y5_ y6_
  replace f := f.tr (q4_.2.mo (by decide) (by decide))
  refine ⟨fun c => ?_, fun c => ?_⟩
  · replace h := h.1 c
    obtain ⟨Q9, h0, h⟩ := h
    refine ⟨_, frX5_play y5_ h0, ?_⟩
    intro r8 S9 q7_ y8_ y9_
    replace h := h r8 S9 q7_.1 y8_ y9_
    replace f := f.tr (q7_.2.mo (by decide) (by decide))
    exact fr_X12_run_J24 f h
  · replace h := h.2 c
    exact fr_X12_run_J24 f h
