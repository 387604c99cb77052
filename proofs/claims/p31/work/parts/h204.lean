set_option maxRecDepth 100000 in
theorem fr_X11_finish_L15 {S0 : MS} {Q : MS → Prop} : ∀ (n : Nat) {U15 : MS} {v15_1 : Nat} {v15_2 : Int32}, cfr [101] [(40, 0), (40, 1)] S0 U15 → w_X11_finish_L15 Q n U15 v15_1 v15_2 → w_X11_finish_L15 (fun u => Q u ∧ cfr [101] [(40, 0), (40, 1)] S0 u) n U15 v15_1 v15_2 := by
  intro n
  induction n with
  | zero => intro U15 v15_1 v15_2 f h; unfold w_X11_finish_L15 at h; exact h.elim
  | succ n ih =>
    intro U15 v15_1 v15_2 f h
    unfold w_X11_finish_L15 at h ⊢
    intro y1_ y2_
    replace h := h y1_ y2_
    refine ⟨fun c => ?_, fun c => ?_⟩
    · replace h := h.1 c
      intro y3_
      replace h := h y3_
      obtain ⟨Q9, h0, h⟩ := h
      refine ⟨_, frX0_put2 y1_ h0, ?_⟩
      intro S9 q4_ y5_ y6_
      replace h := h S9 q4_.1 y5_ y6_
      replace f := f.tr (q4_.2.mo (by decide) (by decide))
      intro y7_ y8_
      replace h := h y7_ y8_
      obtain ⟨Q9, h0, h⟩ := h
      refine ⟨_, frX0_putAll y5_ h0, ?_⟩
      intro S13 q9_ y10_ y11_
      replace h := h S13 q9_.1 y10_ y11_
      replace f := f.tr (q9_.2.mo (by decide) (by decide))
      intro y12_ y13_
      replace h := h y12_ y13_
      obtain ⟨Q9, h0, h⟩ := h
      refine ⟨_, frX0_putAll y10_ h0, ?_⟩
      intro S17 q14_ y15_ y16_
      replace h := h S17 q14_.1 y15_ y16_
      replace f := f.tr (q14_.2.mo (by decide) (by decide))
      exact ⟨h, f⟩
    · replace h := h.2 c
      refine ⟨h.1, ?_⟩
      replace h := h.2
      intro y17_
      replace h := h y17_
      obtain ⟨Q9, h0, h⟩ := h
      refine ⟨_, frX0_put y1_ h0, ?_⟩
      intro S23 q18_ y19_ y20_
      replace h := h S23 q18_.1 y19_ y20_
      replace f := f.tr (q18_.2.mo (by decide) (by decide))
      intro a26 ea26 
      replace h := h a26 ea26 
      exact ih f h
set_option maxRecDepth 100000 in
theorem frX11_finish {S : MS} {p1 : Nat} {Q : MS → Prop} (hw : wfC S) (h : wX11_finish S p1 Q) : wX11_finish S p1 (fun u => Q u ∧ cfr [101] [(40, 0), (40, 1)] S u) := by
  have f : cfr [101] [(40, 0), (40, 1)] S S := cfr.rf
  unfold wX11_finish at h ⊢
  intro y21_
  replace h := h y21_
  obtain ⟨Q9, h0, h⟩ := h
  refine ⟨_, frX0_put2 hw h0, ?_⟩
  intro S2 q22_ y23_ y24_
  replace h := h S2 q22_.1 y23_ y24_
  replace f := f.tr (q22_.2.mo (by decide) (by decide))
  intro S5 eS5 y25_ y26_
  replace h := h S5 eS5 y25_ y26_
  replace f := f.tr (show cfr [101] [(40, 0), (40, 1)] S2 S5 by rw [eS5]; exact cfr.oI y25_ (by decide))
  obtain ⟨n9, h⟩ := h
  exact ⟨n9, fr_X11_finish_L15 n9 f h⟩
set_option maxRecDepth 100000 in
theorem fr_X11_isWanted_L53 {S0 : MS} {Q : Int32 → MS → Prop} : ∀ (n : Nat) {U53 : MS} {v53_2 : Int32} {v53_3 : Int32} {v53_4 : Int32}, cfr [] [] S0 U53 → w_X11_isWanted_L53 Q n U53 v53_2 v53_3 v53_4 → w_X11_isWanted_L53 (fun r u => Q r u ∧ cfr [] [] S0 u) n U53 v53_2 v53_3 v53_4 := by
  intro n
  induction n with
  | zero => intro U53 v53_2 v53_3 v53_4 f h; unfold w_X11_isWanted_L53 at h; exact h.elim
  | succ n ih =>
    intro U53 v53_2 v53_3 v53_4 f h
    unfold w_X11_isWanted_L53 at h ⊢
    intro y1_
    replace h := h y1_
    refine ⟨fun c => ?_, fun c => ?_⟩
    · replace h := h.1 c
      exact ⟨h, f⟩
    · replace h := h.2 c
      refine ⟨fun c => ?_, fun c => ?_⟩
      · replace h := h.1 c
        exact ⟨h, f⟩
      · replace h := h.2 c
        refine ⟨h.1, ?_⟩
        replace h := h.2
        refine ⟨h.1, ?_⟩
        replace h := h.2
        refine ⟨fun c => ?_, fun c => ?_⟩
        · replace h := h.1 c
          intro a27 ea27 
          replace h := h a27 ea27 
          exact ih f h
        · replace h := h.2 c
          exact ⟨h, f⟩
set_option maxRecDepth 100000 in
theorem frX11_isWanted {S : MS} {x1 : Int32} {Q : Int32 → MS → Prop} (hw : wfC S) (h : wX11_isWanted S x1 Q) : wX11_isWanted S x1 (fun r u => Q r u ∧ cfr [] [] S u) := by
  have f : cfr [] [] S S := cfr.rf
  unfold wX11_isWanted at h ⊢
  refine ⟨h.1, ?_⟩
  replace h := h.2
  intro a3 ea3 
  replace h := h a3 ea3 
  refine ⟨h.1, ?_⟩
  replace h := h.2
  intro a7 ea7 
  replace h := h a7 ea7 
  refine ⟨fun c => ?_, fun c => ?_⟩
  · replace h := h.1 c
    refine ⟨fun c => ?_, fun c => ?_⟩
    · replace h := h.1 c
      exact ⟨h, f⟩
    · replace h := h.2 c
      refine ⟨h.1, ?_⟩
      replace h := h.2
      refine ⟨fun c => ?_, fun c => ?_⟩
      · replace h := h.1 c
        obtain ⟨n9, h⟩ := h
        exact ⟨n9, fr_X11_isWanted_L53 n9 f h⟩
      · replace h := h.2 c
        exact ⟨h, f⟩
  · replace h := h.2 c
    exact ⟨h, f⟩
set_option maxRecDepth 100000 in
theorem frX11_want {S : MS} {x1 : Int32} {Q : MS → Prop} (hw : wfC S) (h : wX11_want S x1 Q) : wX11_want S x1 (fun u => Q u ∧ cfr [101] [(40, 0), (40, 1)] S u) := by
  have f : cfr [101] [(40, 0), (40, 1)] S S := cfr.rf
  unfold wX11_want at h ⊢
  intro S1 eS1 y1_ y2_
  replace h := h S1 eS1 y1_ y2_
  replace f := f.tr (show cfr [101] [(40, 0), (40, 1)] S S1 by rw [eS1]; exact cfr.oI y1_ (by decide))
  intro y3_
  replace h := h y3_
  obtain ⟨Q9, h0, h⟩ := h
  refine ⟨_, frX0_put y2_ h0, ?_⟩
  intro S3 q4_ y5_ y6_
  replace h := h S3 q4_.1 y5_ y6_
  replace f := f.tr (q4_.2.mo (by decide) (by decide))
  exact ⟨h, f⟩
set_option maxRecDepth 100000 in
theorem fr_X11_leastLocals_J70 {S0 : MS} {Q : Int32 → MS → Prop} {k20 k20' : MS → Int32 → Int32 → Prop} {U70 : MS} {v70_1 : Int32} {v70_2 : Int32} (hk20 : ∀ (u : MS) (z0) (z1), cfr [] [] S0 u → k20 u z0 z1 → k20' u z0 z1) (f : cfr [] [] S0 U70) (h : w_X11_leastLocals_J70 Q k20 U70 v70_1 v70_2) : w_X11_leastLocals_J70 (fun r u => Q r u ∧ cfr [] [] S0 u) k20' U70 v70_1 v70_2 := by
  unfold w_X11_leastLocals_J70 at h ⊢
  intro y1_
  replace h := h y1_
  intro a26 ea26 
  replace h := h a26 ea26 
  exact hk20 _ _ _ f h
set_option maxRecDepth 100000 in
theorem fr_X11_leastLocals_L20 {S0 : MS} {Q : Int32 → MS → Prop} : ∀ (n : Nat) {U20 : MS} {v20_1 : Int32} {v20_2 : Int32}, cfr [] [] S0 U20 → w_X11_leastLocals_L20 Q n U20 v20_1 v20_2 → w_X11_leastLocals_L20 (fun r u => Q r u ∧ cfr [] [] S0 u) n U20 v20_1 v20_2 := by
  intro n
  induction n with
  | zero => intro U20 v20_1 v20_2 f h; unfold w_X11_leastLocals_L20 at h; exact h.elim
  | succ n ih =>
    intro U20 v20_1 v20_2 f h
    unfold w_X11_leastLocals_L20 at h ⊢
    intro y2_
    replace h := h y2_
    refine ⟨h.1, ?_⟩
    replace h := h.2
    refine ⟨fun c => ?_, fun c => ?_⟩
    · replace h := h.1 c
      exact ⟨h, f⟩
    · replace h := h.2 c
      refine ⟨h.1, ?_⟩
      replace h := h.2
      refine ⟨h.1, ?_⟩
      replace h := h.2
      intro a21 ea21 
      replace h := h a21 ea21 
      refine ⟨h.1, ?_⟩
      replace h := h.2
      intro a25 ea25 
      replace h := h a25 ea25 
      refine ⟨fun c => ?_, fun c => ?_⟩
      · replace h := h.1 c
        exact fr_X11_leastLocals_J70 (fun _ _ _ f h => ih f h) f h
      · replace h := h.2 c
        refine ⟨h.1, ?_⟩
        replace h := h.2
        refine ⟨h.1, ?_⟩
        replace h := h.2
        intro a33 ea33 
        replace h := h a33 ea33 
        refine ⟨h.1, ?_⟩
        replace h := h.2
        refine ⟨h.1, ?_⟩
        replace h := h.2
        intro a39 ea39 
        replace h := h a39 ea39 
        refine ⟨h.1, ?_⟩
        replace h := h.2
        intro a43 ea43 
        replace h := h a43 ea43 
        intro a46 ea46 
        replace h := h a46 ea46 
        exact fr_X11_leastLocals_J70 (fun _ _ _ f h => ih f h) f h
set_option maxRecDepth 100000 in
theorem frX11_leastLocals {S : MS} {Q : Int32 → MS → Prop} (hw : wfC S) (h : wX11_leastLocals S Q) : wX11_leastLocals S (fun r u => Q r u ∧ cfr [] [] S u) := by
  have f : cfr [] [] S S := cfr.rf
  unfold wX11_leastLocals at h ⊢
  refine ⟨h.1, ?_⟩
  replace h := h.2
  refine ⟨h.1, ?_⟩
  replace h := h.2
  refine ⟨h.1, ?_⟩
  replace h := h.2
  intro a8 ea8 
  replace h := h a8 ea8 
  obtain ⟨Q9, h0, h⟩ := h
  refine ⟨_, frX6_placesOf hw h0, ?_⟩
  intro r10 S11 q3_ y4_ y5_
  replace h := h r10 S11 q3_.1 y4_ y5_
  replace f := f.tr (q3_.2.mo (by decide) (by decide))
  obtain ⟨n9, h⟩ := h
  exact ⟨n9, fr_X11_leastLocals_L20 n9 f h⟩
set_option maxRecDepth 100000 in
theorem frX11_putLocal {S : MS} {x1 : Int32} {x2 : Int32} {Q : MS → Prop} (hw : wfC S) (h : wX11_putLocal S x1 x2 Q) : wX11_putLocal S x1 x2 (fun u => Q u ∧ cfr [101] [(40, 0), (40, 1)] S u) := by
  have f : cfr [101] [(40, 0), (40, 1)] S S := cfr.rf
  unfold wX11_putLocal at h ⊢
  refine ⟨fun c => ?_, fun c => ?_⟩
  · replace h := h.1 c
    refine ⟨fun c => ?_, fun c => ?_⟩
    · replace h := h.1 c
      intro y1_
      replace h := h y1_
      obtain ⟨Q9, h0, h⟩ := h
      refine ⟨_, frX0_put hw h0, ?_⟩
      intro S4 q2_ y3_ y4_
      replace h := h S4 q2_.1 y3_ y4_
      replace f := f.tr (q2_.2.mo (by decide) (by decide))
      exact ⟨h, f⟩
    · replace h := h.2 c
      refine ⟨fun c => ?_, fun c => ?_⟩
      · replace h := h.1 c
        intro y5_
        replace h := h y5_
        obtain ⟨Q9, h0, h⟩ := h
        refine ⟨_, frX0_put hw h0, ?_⟩
        intro S9 q6_ y7_ y8_
        replace h := h S9 q6_.1 y7_ y8_
        replace f := f.tr (q6_.2.mo (by decide) (by decide))
        exact ⟨h, f⟩
      · replace h := h.2 c
        refine ⟨fun c => ?_, fun c => ?_⟩
        · replace h := h.1 c
          intro y9_
          replace h := h y9_
          obtain ⟨Q9, h0, h⟩ := h
          refine ⟨_, frX0_put hw h0, ?_⟩
          intro S14 q10_ y11_ y12_
          replace h := h S14 q10_.1 y11_ y12_
          replace f := f.tr (q10_.2.mo (by decide) (by decide))
          exact ⟨h, f⟩
        · replace h := h.2 c
          refine ⟨fun c => ?_, fun c => ?_⟩
          · replace h := h.1 c
            intro y13_
            replace h := h y13_
            obtain ⟨Q9, h0, h⟩ := h
            refine ⟨_, frX0_put hw h0, ?_⟩
            intro S19 q14_ y15_ y16_
            replace h := h S19 q14_.1 y15_ y16_
            replace f := f.tr (q14_.2.mo (by decide) (by decide))
            exact ⟨h, f⟩
          · replace h := h.2 c
            refine ⟨fun c => ?_, fun c => ?_⟩
            · replace h := h.1 c
              intro y17_
              replace h := h y17_
              obtain ⟨Q9, h0, h⟩ := h
              refine ⟨_, frX0_put hw h0, ?_⟩
              intro S24 q18_ y19_ y20_
              replace h := h S24 q18_.1 y19_ y20_
              replace f := f.tr (q18_.2.mo (by decide) (by decide))
              exact ⟨h, f⟩
            · replace h := h.2 c
              intro y21_
              replace h := h y21_
              obtain ⟨Q9, h0, h⟩ := h
              refine ⟨_, frX0_put hw h0, ?_⟩
              intro S29 q22_ y23_ y24_
              replace h := h S29 q22_.1 y23_ y24_
              replace f := f.tr (q22_.2.mo (by decide) (by decide))
              exact ⟨h, f⟩
  · replace h := h.2 c
    intro y25_
    replace h := h y25_
    obtain ⟨Q9, h0, h⟩ := h
    refine ⟨_, frX0_put hw h0, ?_⟩
    intro S33 q26_ y27_ y28_
    replace h := h S33 q26_.1 y27_ y28_
    replace f := f.tr (q26_.2.mo (by decide) (by decide))
    intro y29_
    replace h := h y29_
    obtain ⟨Q9, h0, h⟩ := h
    refine ⟨_, frX0_put y27_ h0, ?_⟩
    intro S37 q30_ y31_ y32_
    replace h := h S37 q30_.1 y31_ y32_
    replace f := f.tr (q30_.2.mo (by decide) (by decide))
    exact ⟨h, f⟩
set_option maxRecDepth 100000 in
theorem fr_X11_putInt_J23 {S0 : MS} {Q : MS → Prop} {U23 : MS} {v23_1 : Int32} {v23_2 : Int32} (f : cfr [101] [(40, 0), (40, 1)] S0 U23) (h : w_X11_putInt_J23 Q U23 v23_1 v23_2) : w_X11_putInt_J23 (fun u => Q u ∧ cfr [101] [(40, 0), (40, 1)] S0 u) U23 v23_1 v23_2 := by
  unfold w_X11_putInt_J23 at h ⊢
  intro y1_
  replace h := h y1_
  refine ⟨h.1, ?_⟩
  replace h := h.2
  refine ⟨fun c => ?_, fun c => ?_⟩
  · replace h := h.1 c
    refine ⟨fun c => ?_, fun c => ?_⟩
    · replace h := h.1 c
      intro y2_
      replace h := h y2_
      obtain ⟨Q9, h0, h⟩ := h
      refine ⟨_, frX0_put y1_ h0, ?_⟩
      intro S24 q3_ y4_ y5_
      replace h := h S24 q3_.1 y4_ y5_
      replace f := f.tr (q3_.2.mo (by decide) (by decide))
      intro y6_
      replace h := h y6_
      obtain ⟨Q9, h0, h⟩ := h
      refine ⟨_, frX0_put2 y4_ h0, ?_⟩
      intro S28 q7_ y8_ y9_
      replace h := h S28 q7_.1 y8_ y9_
      replace f := f.tr (q7_.2.mo (by decide) (by decide))
      exact ⟨h, f⟩
    · replace h := h.2 c
      refine ⟨fun c => ?_, fun c => ?_⟩
      · replace h := h.1 c
        intro y10_
        replace h := h y10_
        obtain ⟨Q9, h0, h⟩ := h
        refine ⟨_, frX0_put y1_ h0, ?_⟩
        intro S8 q11_ y12_ y13_
        replace h := h S8 q11_.1 y12_ y13_
        replace f := f.tr (q11_.2.mo (by decide) (by decide))
        intro y14_
        replace h := h y14_
        obtain ⟨Q9, h0, h⟩ := h
        refine ⟨_, frX0_put2 y12_ h0, ?_⟩
        intro S12 q15_ y16_ y17_
        replace h := h S12 q15_.1 y16_ y17_
        replace f := f.tr (q15_.2.mo (by decide) (by decide))
        exact ⟨h, f⟩
      · replace h := h.2 c
        intro y18_
        replace h := h y18_
        obtain ⟨Q9, h0, h⟩ := h
        refine ⟨_, frX0_put y1_ h0, ?_⟩
        intro S16 q19_ y20_ y21_
        replace h := h S16 q19_.1 y20_ y21_
        replace f := f.tr (q19_.2.mo (by decide) (by decide))
        intro y22_
        replace h := h y22_
        obtain ⟨Q9, h0, h⟩ := h
        refine ⟨_, frX0_put y20_ h0, ?_⟩
        intro S20 q23_ y24_ y25_
        replace h := h S20 q23_.1 y24_ y25_
        replace f := f.tr (q23_.2.mo (by decide) (by decide))
        exact ⟨h, f⟩
  · replace h := h.2 c
    intro y26_
    replace h := h y26_
    obtain ⟨Q9, h0, h⟩ := h
    refine ⟨_, frX0_put y1_ h0, ?_⟩
    intro S32 q27_ y28_ y29_
    replace h := h S32 q27_.1 y28_ y29_
    replace f := f.tr (q27_.2.mo (by decide) (by decide))
    intro y30_
    replace h := h y30_
    obtain ⟨Q9, h0, h⟩ := h
    refine ⟨_, frX0_put y28_ h0, ?_⟩
    intro S36 q31_ y32_ y33_
    replace h := h S36 q31_.1 y32_ y33_
    replace f := f.tr (q31_.2.mo (by decide) (by decide))
    exact ⟨h, f⟩
set_option maxRecDepth 100000 in
theorem frX11_putInt {S : MS} {x1 : Int32} {x2 : Int32} {Q : MS → Prop} (hw : wfC S) (h : wX11_putInt S x1 x2 Q) : wX11_putInt S x1 x2 (fun u => Q u ∧ cfr [101] [(40, 0), (40, 1)] S u) := by
  have f : cfr [101] [(40, 0), (40, 1)] S S := cfr.rf
  unfold wX11_putInt at h ⊢
  refine ⟨fun c => ?_, fun c => ?_⟩
  · replace h := h.1 c
    exact fr_X11_putInt_J23 f h
  · replace h := h.2 c
    refine ⟨fun c => ?_, fun c => ?_⟩
    · replace h := h.1 c
      exact fr_X11_putInt_J23 f h
    · replace h := h.2 c
      intro y34_
      replace h := h y34_
      obtain ⟨Q9, h0, h⟩ := h
      refine ⟨_, frX0_put hw h0, ?_⟩
      intro S43 q35_ y36_ y37_
      replace h := h S43 q35_.1 y36_ y37_
      replace f := f.tr (q35_.2.mo (by decide) (by decide))
      exact ⟨h, f⟩
set_option maxRecDepth 100000 in
theorem fr_X11_putLong_J12 {S0 : MS} {Q : MS → Prop} {U12 : MS} {v12_1 : Int64} (f : cfr [101] [(40, 0), (40, 1)] S0 U12) (h : w_X11_putLong_J12 Q U12 v12_1) : w_X11_putLong_J12 (fun u => Q u ∧ cfr [101] [(40, 0), (40, 1)] S0 u) U12 v12_1 := by
  unfold w_X11_putLong_J12 at h ⊢
  intro y1_
  replace h := h y1_
  intro y2_
  replace h := h y2_
  obtain ⟨Q9, h0, h⟩ := h
  refine ⟨_, frX0_put y1_ h0, ?_⟩
  intro S4 q3_ y4_ y5_
  replace h := h S4 q3_.1 y4_ y5_
  replace f := f.tr (q3_.2.mo (by decide) (by decide))
  exact ⟨h, f⟩
set_option maxRecDepth 100000 in
theorem frX11_putLong {S : MS} {y1 : Int64} {x3 : Int32} {Q : MS → Prop} (hw : wfC S) (h : wX11_putLong S y1 x3 Q) : wX11_putLong S y1 x3 (fun u => Q u ∧ cfr [101] [(40, 0), (40, 1)] S u) := by
  have f : cfr [101] [(40, 0), (40, 1)] S S := cfr.rf
  unfold wX11_putLong at h ⊢
  refine ⟨fun c => ?_, fun c => ?_⟩
  · replace h := h.1 c
    exact fr_X11_putLong_J12 f h
  · replace h := h.2 c
    refine ⟨fun c => ?_, fun c => ?_⟩
    · replace h := h.1 c
      exact fr_X11_putLong_J12 f h
    · replace h := h.2 c
      intro y6_
      replace h := h y6_
      obtain ⟨Q9, h0, h⟩ := h
      refine ⟨_, frX0_put hw h0, ?_⟩
      intro S11 q7_ y8_ y9_
      replace h := h S11 q7_.1 y8_ y9_
      replace f := f.tr (q7_.2.mo (by decide) (by decide))
      intro y10_
      replace h := h y10_
      obtain ⟨Q9, h0, h⟩ := h
      refine ⟨_, frX0_put2 y8_ h0, ?_⟩
      intro S15 q11_ y12_ y13_
      replace h := h S15 q11_.1 y12_ y13_
      replace f := f.tr (q11_.2.mo (by decide) (by decide))
      exact ⟨h, f⟩
set_option maxRecDepth 100000 in
theorem frX11_putGrow {S : MS} {x1 : Int32} {x2 : Int32} {Q : MS → Prop} (hw : wfC S) (h : wX11_putGrow S x1 x2 Q) : wX11_putGrow S x1 x2 (fun u => Q u ∧ cfr [101] [(40, 0), (40, 1)] S u) := by
  have f : cfr [101] [(40, 0), (40, 1)] S S := cfr.rf
  unfold wX11_putGrow at h ⊢
  refine ⟨h.1, ?_⟩
  replace h := h.2
  refine ⟨fun c => ?_, fun c => ?_⟩
  · replace h := h.1 c
    intro y1_
    replace h := h y1_
    obtain ⟨Q9, h0, h⟩ := h
    refine ⟨_, frX0_put hw h0, ?_⟩
    intro S6 q2_ y3_ y4_
    replace h := h S6 q2_.1 y3_ y4_
    replace f := f.tr (q2_.2.mo (by decide) (by decide))
    intro y5_
    replace h := h y5_
    obtain ⟨Q9, h0, h⟩ := h
    refine ⟨_, frX0_put y3_ h0, ?_⟩
    intro S10 q6_ y7_ y8_
    replace h := h S10 q6_.1 y7_ y8_
    replace f := f.tr (q6_.2.mo (by decide) (by decide))
    intro y9_
    replace h := h y9_
    obtain ⟨Q9, h0, h⟩ := h
    refine ⟨_, frX0_put2 y7_ h0, ?_⟩
    intro S14 q10_ y11_ y12_
    replace h := h S14 q10_.1 y11_ y12_
    replace f := f.tr (q10_.2.mo (by decide) (by decide))
    intro y13_
    replace h := h y13_
    obtain ⟨Q9, h0, h⟩ := h
    refine ⟨_, frX0_put2 y11_ h0, ?_⟩
    intro S18 q14_ y15_ y16_
    replace h := h S18 q14_.1 y15_ y16_
    replace f := f.tr (q14_.2.mo (by decide) (by decide))
    exact ⟨h, f⟩
  · replace h := h.2 c
    intro y17_
    replace h := h y17_
    obtain ⟨Q9, h0, h⟩ := h
    refine ⟨_, frX0_put hw h0, ?_⟩
    intro S22 q18_ y19_ y20_
    replace h := h S22 q18_.1 y19_ y20_
    replace f := f.tr (q18_.2.mo (by decide) (by decide))
    intro y21_
    replace h := h y21_
    obtain ⟨Q9, h0, h⟩ := h
    refine ⟨_, frX0_put y19_ h0, ?_⟩
    intro S26 q22_ y23_ y24_
    replace h := h S26 q22_.1 y23_ y24_
    replace f := f.tr (q22_.2.mo (by decide) (by decide))
    intro y25_
    replace h := h y25_
    obtain ⟨Q9, h0, h⟩ := h
    refine ⟨_, frX0_put y23_ h0, ?_⟩
    intro S30 q26_ y27_ y28_
    replace h := h S30 q26_.1 y27_ y28_
    replace f := f.tr (q26_.2.mo (by decide) (by decide))
    exact ⟨h, f⟩
set_option maxRecDepth 100000 in
theorem fr_X11_putSwitch_J215 {S0 : MS} {Q : MS → Prop} {k180 k180' : MS → Int32 → Int32 → Int32 → Int32 → Int32 → Prop} {U215 : MS} {v215_1 : Int32} {v215_3 : Int32} {v215_4 : Int32} {v215_5 : Int32} {v215_6 : Int32} (hk180 : ∀ (u : MS) (z0) (z1) (z2) (z3) (z4), cfr [101] [(40, 0), (40, 1)] S0 u → k180 u z0 z1 z2 z3 z4 → k180' u z0 z1 z2 z3 z4) (f : cfr [101] [(40, 0), (40, 1)] S0 U215) (h : w_X11_putSwitch_J215 Q k180 U215 v215_1 v215_3 v215_4 v215_5 v215_6) : w_X11_putSwitch_J215 (fun u => Q u ∧ cfr [101] [(40, 0), (40, 1)] S0 u) k180' U215 v215_1 v215_3 v215_4 v215_5 v215_6 := by
  unfold w_X11_putSwitch_J215 at h ⊢
  intro y1_ y2_
  replace h := h y1_ y2_
  refine ⟨h.1, ?_⟩
  replace h := h.2
  refine ⟨h.1, ?_⟩
  replace h := h.2
  intro a57 ea57 
  replace h := h a57 ea57 
  refine ⟨h.1, ?_⟩
  replace h := h.2
  intro a61 ea61 
  replace h := h a61 ea61 
  refine ⟨h.1, ?_⟩
  replace h := h.2
  intro a65 ea65 
  replace h := h a65 ea65 
  intro y3_
  replace h := h y3_
  obtain ⟨Q9, h0, h⟩ := h
  refine ⟨_, frX0_put4 y1_ h0, ?_⟩
  intro S68 q4_ y5_ y6_
  replace h := h S68 q4_.1 y5_ y6_
  replace f := f.tr (q4_.2.mo (by decide) (by decide))
  intro a71 ea71 
  replace h := h a71 ea71 
  exact hk180 _ _ _ _ _ _ f h
set_option maxRecDepth 100000 in
theorem fr_X11_putSwitch_L180 {S0 : MS} {Q : MS → Prop} : ∀ (n : Nat) {U180 : MS} {v180_1 : Int32} {v180_3 : Int32} {v180_4 : Int32} {v180_5 : Int32} {v180_6 : Int32}, cfr [101] [(40, 0), (40, 1)] S0 U180 → w_X11_putSwitch_L180 Q n U180 v180_1 v180_3 v180_4 v180_5 v180_6 → w_X11_putSwitch_L180 (fun u => Q u ∧ cfr [101] [(40, 0), (40, 1)] S0 u) n U180 v180_1 v180_3 v180_4 v180_5 v180_6 := by
  intro n
  induction n with
  | zero => intro U180 v180_1 v180_3 v180_4 v180_5 v180_6 f h; unfold w_X11_putSwitch_L180 at h; exact h.elim
  | succ n ih =>
    intro U180 v180_1 v180_3 v180_4 v180_5 v180_6 f h
    unfold w_X11_putSwitch_L180 at h ⊢
    intro y7_ y8_
    replace h := h y7_ y8_
    refine ⟨fun c => ?_, fun c => ?_⟩
    · replace h := h.1 c
      exact ⟨h, f⟩
    · replace h := h.2 c
      refine ⟨fun c => ?_, fun c => ?_⟩
      · replace h := h.1 c
        refine ⟨h.1, ?_⟩
        replace h := h.2
        refine ⟨h.1, ?_⟩
        replace h := h.2
        intro a81 ea81 
        replace h := h a81 ea81 
        intro y9_
        replace h := h y9_
        obtain ⟨Q9, h0, h⟩ := h
        refine ⟨_, frX0_put4 y7_ h0, ?_⟩
        intro S83 q10_ y11_ y12_
        replace h := h S83 q10_.1 y11_ y12_
        replace f := f.tr (q10_.2.mo (by decide) (by decide))
        exact fr_X11_putSwitch_J215 (fun _ _ _ _ _ _ f h => ih f h) f h
      · replace h := h.2 c
        exact fr_X11_putSwitch_J215 (fun _ _ _ _ _ _ f h => ih f h) f h
set_option maxRecDepth 100000 in
theorem fr_X11_putSwitch_J177 {S0 : MS} {Q : MS → Prop} {U177 : MS} {v177_1 : Int32} {v177_3 : Int32} {v177_4 : Int32} {v177_5 : Int32} (f : cfr [101] [(40, 0), (40, 1)] S0 U177) (h : w_X11_putSwitch_J177 Q U177 v177_1 v177_3 v177_4 v177_5) : w_X11_putSwitch_J177 (fun u => Q u ∧ cfr [101] [(40, 0), (40, 1)] S0 u) U177 v177_1 v177_3 v177_4 v177_5 := by
  unfold w_X11_putSwitch_J177 at h ⊢
  intro y13_ y14_
  replace h := h y13_ y14_
  obtain ⟨n9, h⟩ := h
  exact ⟨n9, fr_X11_putSwitch_L180 n9 f h⟩
set_option maxRecDepth 100000 in
theorem fr_X11_putSwitch_J95 {S0 : MS} {Q : MS → Prop} {U95 : MS} {v95_1 : Int32} {v95_3 : Int32} {v95_4 : Int32} {v95_5 : Int32} (f : cfr [101] [(40, 0), (40, 1)] S0 U95) (h : w_X11_putSwitch_J95 Q U95 v95_1 v95_3 v95_4 v95_5) : w_X11_putSwitch_J95 (fun u => Q u ∧ cfr [101] [(40, 0), (40, 1)] S0 u) U95 v95_1 v95_3 v95_4 v95_5 := by
  unfold w_X11_putSwitch_J95 at h ⊢
  intro y15_ y16_
  replace h := h y15_ y16_
  refine ⟨h.1, ?_⟩
  replace h := h.2
  refine ⟨h.1, ?_⟩
  replace h := h.2
  intro a37 ea37 
  replace h := h a37 ea37 
  refine ⟨h.1, ?_⟩
  replace h := h.2
  intro a41 ea41 
  replace h := h a41 ea41 
  refine ⟨h.1, ?_⟩
  replace h := h.2
  intro a45 ea45 
  replace h := h a45 ea45 
  intro y17_
  replace h := h y17_
  obtain ⟨Q9, h0, h⟩ := h
  refine ⟨_, frX0_put4 y15_ h0, ?_⟩
  intro S48 q18_ y19_ y20_
  replace h := h S48 q18_.1 y19_ y20_
  replace f := f.tr (q18_.2.mo (by decide) (by decide))
  refine ⟨fun c => ?_, fun c => ?_⟩
  · replace h := h.1 c
    intro y21_
    replace h := h y21_
    obtain ⟨Q9, h0, h⟩ := h
    refine ⟨_, frX0_put4 y19_ h0, ?_⟩
    intro S88 q22_ y23_ y24_
    replace h := h S88 q22_.1 y23_ y24_
    replace f := f.tr (q22_.2.mo (by decide) (by decide))
    exact fr_X11_putSwitch_J177 f h
  · replace h := h.2 c
    refine ⟨h.1, ?_⟩
    replace h := h.2
    refine ⟨h.1, ?_⟩
    replace h := h.2
    intro a97 ea97 
    replace h := h a97 ea97 
    intro y25_
    replace h := h y25_
    obtain ⟨Q9, h0, h⟩ := h
    refine ⟨_, frX0_put4 y19_ h0, ?_⟩
    intro S99 q26_ y27_ y28_
    replace h := h S99 q26_.1 y27_ y28_
    replace f := f.tr (q26_.2.mo (by decide) (by decide))
    refine ⟨h.1, ?_⟩
    replace h := h.2
    refine ⟨h.1, ?_⟩
    replace h := h.2
    intro a108 ea108 
    replace h := h a108 ea108 
    intro y29_
    replace h := h y29_
    obtain ⟨Q9, h0, h⟩ := h
    refine ⟨_, frX0_put4 y27_ h0, ?_⟩
    intro S112 q30_ y31_ y32_
    replace h := h S112 q30_.1 y31_ y32_
    replace f := f.tr (q30_.2.mo (by decide) (by decide))
    exact fr_X11_putSwitch_J177 f h
set_option maxRecDepth 100000 in
theorem fr_X11_putSwitch_L61 {S0 : MS} {Q : MS → Prop} : ∀ (n : Nat) {U61 : MS} {v61_1 : Int32} {v61_2 : Int32} {v61_3 : Int32} {v61_4 : Int32} {v61_5 : Int32} {v61_6 : Int32}, cfr [101] [(40, 0), (40, 1)] S0 U61 → w_X11_putSwitch_L61 Q n U61 v61_1 v61_2 v61_3 v61_4 v61_5 v61_6 → w_X11_putSwitch_L61 (fun u => Q u ∧ cfr [101] [(40, 0), (40, 1)] S0 u) n U61 v61_1 v61_2 v61_3 v61_4 v61_5 v61_6 := by
  intro n
  induction n with
  | zero => intro U61 v61_1 v61_2 v61_3 v61_4 v61_5 v61_6 f h; unfold w_X11_putSwitch_L61 at h; exact h.elim
  | succ n ih =>
    intro U61 v61_1 v61_2 v61_3 v61_4 v61_5 v61_6 f h
    unfold w_X11_putSwitch_L61 at h ⊢
    intro y33_ y34_
    replace h := h y33_ y34_
    refine ⟨fun c => ?_, fun c => ?_⟩
    · replace h := h.1 c
      exact fr_X11_putSwitch_J95 f h
    · replace h := h.2 c
      refine ⟨fun c => ?_, fun c => ?_⟩
      · replace h := h.1 c
        exact fr_X11_putSwitch_J95 f h
      · replace h := h.2 c
        intro y35_
        replace h := h y35_
        obtain ⟨Q9, h0, h⟩ := h
        refine ⟨_, frX0_put y33_ h0, ?_⟩
        intro S120 q36_ y37_ y38_
        replace h := h S120 q36_.1 y37_ y38_
        replace f := f.tr (q36_.2.mo (by decide) (by decide))
        intro a123 ea123 
        replace h := h a123 ea123 
        exact ih f h
set_option maxRecDepth 100000 in
theorem fr_X11_putSwitch_J41 {S0 : MS} {Q : MS → Prop} {U41 : MS} {t41_0 : Int32} {v41_1 : Int32} {v41_2 : Int32} {v41_3 : Int32} {v41_4 : Int32} (f : cfr [101] [(40, 0), (40, 1)] S0 U41) (h : w_X11_putSwitch_J41 Q U41 t41_0 v41_1 v41_2 v41_3 v41_4) : w_X11_putSwitch_J41 (fun u => Q u ∧ cfr [101] [(40, 0), (40, 1)] S0 u) U41 t41_0 v41_1 v41_2 v41_3 v41_4 := by
  unfold w_X11_putSwitch_J41 at h ⊢
  intro y39_ y40_
  replace h := h y39_ y40_
  refine ⟨h.1, ?_⟩
  replace h := h.2
  refine ⟨h.1, ?_⟩
  replace h := h.2
  intro a27 ea27 
  replace h := h a27 ea27 
  intro y41_
  replace h := h y41_
  obtain ⟨Q9, h0, h⟩ := h
  refine ⟨_, frX0_put y39_ h0, ?_⟩
  intro S29 q42_ y43_ y44_
  replace h := h S29 q42_.1 y43_ y44_
  replace f := f.tr (q42_.2.mo (by decide) (by decide))
  obtain ⟨n9, h⟩ := h
  exact ⟨n9, fr_X11_putSwitch_L61 n9 f h⟩
set_option maxRecDepth 100000 in
theorem frX11_putSwitch {S : MS} {x1 : Int32} {x2 : Int32} {Q : MS → Prop} (hw : wfC S) (h : wX11_putSwitch S x1 x2 Q) : wX11_putSwitch S x1 x2 (fun u => Q u ∧ cfr [101] [(40, 0), (40, 1)] S u) := by
  have f : cfr [101] [(40, 0), (40, 1)] S S := cfr.rf
  unfold wX11_putSwitch at h ⊢
  refine ⟨h.1, ?_⟩
  replace h := h.2
  refine ⟨h.1, ?_⟩
  replace h := h.2
  intro a6 ea6 
  replace h := h a6 ea6 
  intro a7 ea7 
  replace h := h a7 ea7 
  refine ⟨h.1, ?_⟩
  replace h := h.2
  refine ⟨h.1, ?_⟩
  replace h := h.2
  intro a13 ea13 
  replace h := h a13 ea13 
  intro a15 ea15 
  replace h := h a15 ea15 
  refine ⟨h.1, ?_⟩
  replace h := h.2
  refine ⟨h.1, ?_⟩
  replace h := h.2
  intro a21 ea21 
  replace h := h a21 ea21 
  refine ⟨fun c => ?_, fun c => ?_⟩
  · replace h := h.1 c
    exact fr_X11_putSwitch_J41 f h
  · replace h := h.2 c
    exact fr_X11_putSwitch_J41 f h
set_option maxRecDepth 100000 in
theorem frX12_feed {S : MS} {x1 : Int32} {x2 : Int32} {x3 : Int32} {x4 : Int32} {x5 : Int32} {Q : Int32 → MS → Prop} (hw : wfC S) (h : wX12_feed S x1 x2 x3 x4 x5 Q) : wX12_feed S x1 x2 x3 x4 x5 (fun r u => Q r u ∧ cfr [101] [(40, 0), (40, 1), (51, 10)] S u) := by
  have f : cfr [101] [(40, 0), (40, 1), (51, 10)] S S := cfr.rf
  unfold wX12_feed at h ⊢
  refine ⟨fun c => ?_, fun c => ?_⟩
  · replace h := h.1 c
    exact ⟨h, f⟩
  · replace h := h.2 c
    refine ⟨fun c => ?_, fun c => ?_⟩
    · replace h := h.1 c
      intro y1_
      replace h := h y1_
      obtain ⟨Q9, h0, h⟩ := h
      refine ⟨_, frX0_put4 hw h0, ?_⟩
      intro S6 q2_ y3_ y4_
      replace h := h S6 q2_.1 y3_ y4_
      replace f := f.tr (q2_.2.mo (by decide) (by decide))
      intro y5_
      replace h := h y5_
      obtain ⟨Q9, h0, h⟩ := h
      refine ⟨_, frX0_put4 y3_ h0, ?_⟩
      intro S10 q6_ y7_ y8_
      replace h := h S10 q6_.1 y7_ y8_
      replace f := f.tr (q6_.2.mo (by decide) (by decide))
      intro y9_
      replace h := h y9_
      obtain ⟨Q9, h0, h⟩ := h
      refine ⟨_, frX0_put4 y7_ h0, ?_⟩
      intro S14 q10_ y11_ y12_
      replace h := h S14 q10_.1 y11_ y12_
      replace f := f.tr (q10_.2.mo (by decide) (by decide))
      intro y13_
      replace h := h y13_
      obtain ⟨Q9, h0, h⟩ := h
      refine ⟨_, frX0_put4 y11_ h0, ?_⟩
      intro S18 q14_ y15_ y16_
      replace h := h S18 q14_.1 y15_ y16_
      replace f := f.tr (q14_.2.mo (by decide) (by decide))
      intro y17_
      replace h := h y17_
      obtain ⟨Q9, h0, h⟩ := h
      refine ⟨_, frX0_put4 y15_ h0, ?_⟩
      intro S22 q18_ y19_ y20_
      replace h := h S22 q18_.1 y19_ y20_
      replace f := f.tr (q18_.2.mo (by decide) (by decide))
      intro S26 eS26 y21_ y22_
      replace h := h S26 eS26 y21_ y22_
      replace f := f.tr (show cfr [101] [(40, 0), (40, 1), (51, 10)] S22 S26 by rw [eS26]; exact cfr.oI y21_ (by decide))
      exact ⟨h, f⟩
    · replace h := h.2 c
      exact ⟨h, f⟩
set_option maxRecDepth 100000 in
theorem frX12_end {S : MS} {x1 : Int32} {Q : Int32 → MS → Prop} (hw : wfC S) (h : wX12_end S x1 Q) : wX12_end S x1 (fun r u => Q r u ∧ cfr [] [(40, 1)] S u) := by
  have f : cfr [] [(40, 1)] S S := cfr.rf
  unfold wX12_end at h ⊢
  refine ⟨fun c => ?_, fun c => ?_⟩
  · replace h := h.1 c
    exact ⟨h, f⟩
  · replace h := h.2 c
    refine ⟨fun c => ?_, fun c => ?_⟩
    · replace h := h.1 c
      intro S3 eS3 y1_ y2_
      replace h := h S3 eS3 y1_ y2_
      replace f := f.tr (show cfr [] [(40, 1)] S S3 by rw [eS3]; exact cfr.oI y1_ (by decide))
      exact ⟨h, f⟩
    · replace h := h.2 c
      exact ⟨h, f⟩
set_option maxRecDepth 100000 in
theorem frX12_argument {S : MS} {y1 : Int64} {Q : Int32 → MS → Prop} (hw : wfC S) (h : wX12_argument S y1 Q) : wX12_argument S y1 (fun r u => Q r u ∧ cfr [403] [(45, 7)] S u) := by
  have f : cfr [403] [(45, 7)] S S := cfr.rf
  unfold wX12_argument at h ⊢
  obtain ⟨Q9, h0, h⟩ := h
  refine ⟨_, frX5_addArgument hw h0, ?_⟩
  intro r2 S3 q1_ y2_ y3_
  replace h := h r2 S3 q1_.1 y2_ y3_
  replace f := f.tr (q1_.2.mo (by decide) (by decide))
  exact ⟨h, f⟩
set_option maxRecDepth 100000 in
theorem fr_X12_unitAt_J12 {S0 : MS} {Q : Option Nat → MS → Prop} {U12 : MS} (f : cfr [] [] S0 U12) (h : w_X12_unitAt_J12 Q U12) : w_X12_unitAt_J12 (fun r u => Q r u ∧ cfr [] [] S0 u) U12 := by
  unfold w_X12_unitAt_J12 at h ⊢
  intro y1_
  replace h := h y1_
  exact ⟨h, f⟩
set_option maxRecDepth 100000 in
theorem frX12_unitAt {S : MS} {x1 : Int32} {Q : Option Nat → MS → Prop} (hw : wfC S) (h : wX12_unitAt S x1 Q) : wX12_unitAt S x1 (fun r u => Q r u ∧ cfr [] [] S u) := by
  have f : cfr [] [] S S := cfr.rf
  unfold wX12_unitAt at h ⊢
  refine ⟨fun c => ?_, fun c => ?_⟩
  · replace h := h.1 c
    exact fr_X12_unitAt_J12 f h
  · replace h := h.2 c
    refine ⟨fun c => ?_, fun c => ?_⟩
    · replace h := h.1 c
      refine ⟨h.1, ?_⟩
      replace h := h.2
      refine ⟨fun c => ?_, fun c => ?_⟩
      · replace h := h.1 c
        exact ⟨h, f⟩
      · replace h := h.2 c
        exact ⟨h, f⟩
    · replace h := h.2 c
      exact fr_X12_unitAt_J12 f h
set_option maxRecDepth 100000 in
theorem fr_X12_soundUnitAt_J24 {S0 : MS} {Q : Option Nat → MS → Prop} {U24 : MS} (f : cfr [] [] S0 U24) (h : w_X12_soundUnitAt_J24 Q U24) : w_X12_soundUnitAt_J24 (fun r u => Q r u ∧ cfr [] [] S0 u) U24 := by
  unfold w_X12_soundUnitAt_J24 at h ⊢
  intro y1_
  replace h := h y1_
  exact ⟨h, f⟩
set_option maxRecDepth 100000 in
theorem frX12_soundUnitAt {S : MS} {x1 : Int32} {Q : Option Nat → MS → Prop} (hw : wfC S) (h : wX12_soundUnitAt S x1 Q) : wX12_soundUnitAt S x1 (fun r u => Q r u ∧ cfr [] [] S u) := by
  have f : cfr [] [] S S := cfr.rf
  unfold wX12_soundUnitAt at h ⊢
  obtain ⟨Q9, h0, h⟩ := h
  refine ⟨_, frX12_unitAt hw h0, ?_⟩
  intro b5 S3 q2_ y3_ y4_ y5_
  replace h := h b5 S3 q2_.1 y3_ y4_ y5_
  replace f := f.tr (q2_.2.mo (by decide) (by decide))
  refine ⟨fun c => ?_, fun c => ?_⟩
  · replace h := h.1 c
    exact fr_X12_soundUnitAt_J24 f h
  · replace h := h.2 c
    refine ⟨fun c => ?_, fun c => ?_⟩
    · replace h := h.1 c
      exact fr_X12_soundUnitAt_J24 f h
    · replace h := h.2 c
      refine ⟨fun c => ?_, fun c => ?_⟩
      · replace h := h.1 c
        exact ⟨h, f⟩
      · replace h := h.2 c
        exact fr_X12_soundUnitAt_J24 f h
set_option maxRecDepth 100000 in
theorem frX12_rowAt {S : MS} {x1 : Int32} {x2 : Int32} {Q : Option Nat → MS → Prop} (hw : wfC S) (h : wX12_rowAt S x1 x2 Q) : wX12_rowAt S x1 x2 (fun r u => Q r u ∧ cfr [] [] S u) := by
  have f : cfr [] [] S S := cfr.rf
  unfold wX12_rowAt at h ⊢
  obtain ⟨Q9, h0, h⟩ := h
  refine ⟨_, frX12_unitAt hw h0, ?_⟩
  intro b5 S3 q1_ y2_ y3_ y4_
  replace h := h b5 S3 q1_.1 y2_ y3_ y4_
  replace f := f.tr (q1_.2.mo (by decide) (by decide))
  refine ⟨fun c => ?_, fun c => ?_⟩
  · replace h := h.1 c
    exact ⟨h, f⟩
  · replace h := h.2 c
    intro y5_
    replace h := h y5_
    obtain ⟨Q9, h0, h⟩ := h
    refine ⟨_, frX10_rowAt y2_ h0, ?_⟩
    intro b11 S9 q6_ y7_ y8_ y9_
    replace h := h b11 S9 q6_.1 y7_ y8_ y9_
    replace f := f.tr (q6_.2.mo (by decide) (by decide))
    refine ⟨fun c => ?_, fun c => ?_⟩
    · replace h := h.1 c
      exact ⟨h, f⟩
    · replace h := h.2 c
      exact ⟨h, f⟩
set_option maxRecDepth 100000 in
theorem frX12_keep {S : MS} {p1 : Option Nat} {x2 : Int32} {Q : Int32 → MS → Prop} (hw : wfC S) (h : wX12_keep S p1 x2 Q) : wX12_keep S p1 x2 (fun r u => Q r u ∧ cfr [5] [(51, 11)] S u) := by
  have f : cfr [5] [(51, 11)] S S := cfr.rf
  unfold wX12_keep at h ⊢
  refine ⟨fun c => ?_, fun c => ?_⟩
  · replace h := h.1 c
    exact ⟨h, f⟩
  · replace h := h.2 c
    refine ⟨fun c => ?_, fun c => ?_⟩
    · replace h := h.1 c
      refine ⟨h.1, ?_⟩
      replace h := h.2
      intro S4 eS4 y1_ y2_
      replace h := h S4 eS4 y1_ y2_
      replace f := f.tr (show cfr [5] [(51, 11)] S S4 by rw [eS4]; exact cfr.aR y1_ (by decide))
      intro S6 eS6 y3_ y4_
      replace h := h S6 eS6 y3_ y4_
      replace f := f.tr (show cfr [5] [(51, 11)] S4 S6 by rw [eS6]; exact cfr.oI y3_ (by decide))
      exact ⟨h, f⟩
    · replace h := h.2 c
      exact ⟨h, f⟩
set_option maxRecDepth 100000 in
theorem fr_X1_comeTo_J152 {S0 : MS} {Q : MS → Prop} {U152 : MS} {v152_1 : Int32} (f : cfr [102, 301, 302] [(41, 7)] S0 U152) (h : w_X1_comeTo_J152 Q U152 v152_1) : w_X1_comeTo_J152 (fun u => Q u ∧ cfr [102, 301, 302] [(41, 7)] S0 u) U152 v152_1 := by
  unfold w_X1_comeTo_J152 at h ⊢
  intro y1_
  replace h := h y1_
  refine ⟨h.1, ?_⟩
  replace h := h.2
  intro S18 eS18 y2_ y3_
  replace h := h S18 eS18 y2_ y3_
  replace f := f.tr (show cfr [102, 301, 302] [(41, 7)] U152 S18 by rw [eS18]; exact cfr.aI y2_ (by decide))
  exact ⟨h, f⟩
set_option maxRecDepth 100000 in
theorem fr_X1_comeTo_J146 {S0 : MS} {Q : MS → Prop} {k50 k50' : MS → Int32 → Int32 → Int32 → Int32 → Prop} {U146 : MS} {v146_1 : Int32} {v146_2 : Int32} {v146_3 : Int32} {v146_4 : Int32} (hk50 : ∀ (u : MS) (z0) (z1) (z2) (z3), cfr [102, 301, 302] [(41, 7)] S0 u → k50 u z0 z1 z2 z3 → k50' u z0 z1 z2 z3) (f : cfr [102, 301, 302] [(41, 7)] S0 U146) (h : w_X1_comeTo_J146 Q k50 U146 v146_1 v146_2 v146_3 v146_4) : w_X1_comeTo_J146 (fun u => Q u ∧ cfr [102, 301, 302] [(41, 7)] S0 u) k50' U146 v146_1 v146_2 v146_3 v146_4 := by
  unfold w_X1_comeTo_J146 at h ⊢
  intro y4_ y5_
  replace h := h y4_ y5_
  intro a21 ea21 
  replace h := h a21 ea21 
  exact hk50 _ _ _ _ _ f h
set_option maxRecDepth 100000 in
theorem fr_X1_comeTo_J122 {S0 : MS} {Q : MS → Prop} {k50 k50' : MS → Int32 → Int32 → Int32 → Int32 → Prop} {U122 : MS} {v122_1 : Int32} {v122_2 : Int32} {v122_3 : Int32} {v122_4 : Int32} {v122_5 : Int32} (hk50 : ∀ (u : MS) (z0) (z1) (z2) (z3), cfr [102, 301, 302] [(41, 7)] S0 u → k50 u z0 z1 z2 z3 → k50' u z0 z1 z2 z3) (f : cfr [102, 301, 302] [(41, 7)] S0 U122) (h : w_X1_comeTo_J122 Q k50 U122 v122_1 v122_2 v122_3 v122_4 v122_5) : w_X1_comeTo_J122 (fun u => Q u ∧ cfr [102, 301, 302] [(41, 7)] S0 u) k50' U122 v122_1 v122_2 v122_3 v122_4 v122_5 := by
  unfold w_X1_comeTo_J122 at h ⊢
  intro y6_ y7_
  replace h := h y6_ y7_
  refine ⟨h.1, ?_⟩
  replace h := h.2
  intro S25 eS25 y8_ y9_
  replace h := h S25 eS25 y8_ y9_
  replace f := f.tr (show cfr [102, 301, 302] [(41, 7)] U122 S25 by rw [eS25]; exact cfr.aI y8_ (by decide))
  refine ⟨h.1, ?_⟩
  replace h := h.2
  intro S28 eS28 y10_ y11_
  replace h := h S28 eS28 y10_ y11_
  replace f := f.tr (show cfr [102, 301, 302] [(41, 7)] S25 S28 by rw [eS28]; exact cfr.aI y10_ (by decide))
  intro S29 eS29 y12_ y13_
  replace h := h S29 eS29 y12_ y13_
  replace f := f.tr (show cfr [102, 301, 302] [(41, 7)] S28 S29 by rw [eS29]; exact cfr.oI y12_ (by decide))
  exact fr_X1_comeTo_J146 hk50 f h
set_option maxRecDepth 100000 in
theorem fr_X1_comeTo_J102 {S0 : MS} {Q : MS → Prop} {k50 k50' : MS → Int32 → Int32 → Int32 → Int32 → Prop} {U102 : MS} {t102_0 : Int32} {v102_1 : Int32} {v102_2 : Int32} {v102_3 : Int32} {v102_4 : Int32} (hk50 : ∀ (u : MS) (z0) (z1) (z2) (z3), cfr [102, 301, 302] [(41, 7)] S0 u → k50 u z0 z1 z2 z3 → k50' u z0 z1 z2 z3) (f : cfr [102, 301, 302] [(41, 7)] S0 U102) (h : w_X1_comeTo_J102 Q k50 U102 t102_0 v102_1 v102_2 v102_3 v102_4) : w_X1_comeTo_J102 (fun u => Q u ∧ cfr [102, 301, 302] [(41, 7)] S0 u) k50' U102 t102_0 v102_1 v102_2 v102_3 v102_4 := by
  unfold w_X1_comeTo_J102 at h ⊢
  intro y14_ y15_
  replace h := h y14_ y15_
  refine ⟨fun c => ?_, fun c => ?_⟩
  · replace h := h.1 c
    refine ⟨h.1, ?_⟩
    replace h := h.2
    refine ⟨fun c => ?_, fun c => ?_⟩
    · replace h := h.1 c
      exact fr_X1_comeTo_J146 hk50 f h
    · replace h := h.2 c
      exact fr_X1_comeTo_J122 hk50 f h
  · replace h := h.2 c
    exact fr_X1_comeTo_J122 hk50 f h
set_option maxRecDepth 100000 in
theorem fr_X1_comeTo_L50 {S0 : MS} {Q : MS → Prop} : ∀ (n : Nat) {U50 : MS} {v50_1 : Int32} {v50_2 : Int32} {v50_3 : Int32} {v50_4 : Int32}, cfr [102, 301, 302] [(41, 7)] S0 U50 → w_X1_comeTo_L50 Q n U50 v50_1 v50_2 v50_3 v50_4 → w_X1_comeTo_L50 (fun u => Q u ∧ cfr [102, 301, 302] [(41, 7)] S0 u) n U50 v50_1 v50_2 v50_3 v50_4 := by
  intro n
  induction n with
  | zero => intro U50 v50_1 v50_2 v50_3 v50_4 f h; unfold w_X1_comeTo_L50 at h; exact h.elim
  | succ n ih =>
    intro U50 v50_1 v50_2 v50_3 v50_4 f h
    unfold w_X1_comeTo_L50 at h ⊢
    intro y16_ y17_
    replace h := h y16_ y17_
    refine ⟨fun c => ?_, fun c => ?_⟩
    · replace h := h.1 c
      exact fr_X1_comeTo_J152 f h
    · replace h := h.2 c
      refine ⟨fun c => ?_, fun c => ?_⟩
      · replace h := h.1 c
        exact fr_X1_comeTo_J152 f h
      · replace h := h.2 c
        refine ⟨fun c => ?_, fun c => ?_⟩
        · replace h := h.1 c
          refine ⟨h.1, ?_⟩
          replace h := h.2
          refine ⟨h.1, ?_⟩
          replace h := h.2
          refine ⟨h.1, ?_⟩
          replace h := h.2
          exact fr_X1_comeTo_J102 (fun _ _ _ _ _ f h => ih f h) f h
        · replace h := h.2 c
          refine ⟨h.1, ?_⟩
          replace h := h.2
          exact fr_X1_comeTo_J102 (fun _ _ _ _ _ f h => ih f h) f h
set_option maxRecDepth 100000 in
theorem fr_X1_comeTo_J46 {S0 : MS} {Q : MS → Prop} {U46 : MS} {t46_0 : Int32} {v46_1 : Int32} {v46_2 : Int32} (f : cfr [102, 301, 302] [(41, 7)] S0 U46) (h : w_X1_comeTo_J46 Q U46 t46_0 v46_1 v46_2) : w_X1_comeTo_J46 (fun u => Q u ∧ cfr [102, 301, 302] [(41, 7)] S0 u) U46 t46_0 v46_1 v46_2 := by
  unfold w_X1_comeTo_J46 at h ⊢
  intro y18_ y19_
  replace h := h y18_ y19_
  obtain ⟨n9, h⟩ := h
  exact ⟨n9, fr_X1_comeTo_L50 n9 f h⟩
set_option maxRecDepth 100000 in
theorem frX1_comeTo {S : MS} {x1 : Int32} {Q : MS → Prop} (hw : wfC S) (h : wX1_comeTo S x1 Q) : wX1_comeTo S x1 (fun u => Q u ∧ cfr [102, 301, 302] [(41, 7)] S u) := by
  have f : cfr [102, 301, 302] [(41, 7)] S S := cfr.rf
  unfold wX1_comeTo at h ⊢
  refine ⟨fun c => ?_, fun c => ?_⟩
  · replace h := h.1 c
    exact ⟨h, f⟩
  · replace h := h.2 c
    refine ⟨h.1, ?_⟩
    replace h := h.2
    refine ⟨fun c => ?_, fun c => ?_⟩
    · replace h := h.1 c
      exact ⟨h, f⟩
    · replace h := h.2 c
      refine ⟨h.1, ?_⟩
      replace h := h.2
      refine ⟨fun c => ?_, fun c => ?_⟩
      · replace h := h.1 c
        intro a10 ea10 
        replace h := h a10 ea10 
        refine ⟨h.1, ?_⟩
        replace h := h.2
        refine ⟨fun c => ?_, fun c => ?_⟩
        · replace h := h.1 c
          exact fr_X1_comeTo_J46 f h
        · replace h := h.2 c
          exact fr_X1_comeTo_J46 f h
      · replace h := h.2 c
        exact ⟨h, f⟩
set_option maxRecDepth 100000 in
theorem frX1_takeUp {S : MS} {x1 : Int32} {Q : MS → Prop} (hw : wfC S) (h : wX1_takeUp S x1 Q) : wX1_takeUp S x1 (fun u => Q u ∧ cfr [103] [(41, 5)] S u) := by
  have f : cfr [103] [(41, 5)] S S := cfr.rf
  unfold wX1_takeUp at h ⊢
  refine ⟨h.1, ?_⟩
  replace h := h.2
  intro S6 eS6 y1_ y2_
  replace h := h S6 eS6 y1_ y2_
  replace f := f.tr (show cfr [103] [(41, 5)] S S6 by rw [eS6]; exact cfr.oI y1_ (by decide))
  refine ⟨h.1, ?_⟩
  replace h := h.2
  intro S10 eS10 y3_ y4_
  replace h := h S10 eS10 y3_ y4_
  replace f := f.tr (show cfr [103] [(41, 5)] S6 S10 by rw [eS10]; exact cfr.aC y3_ (by decide))
  exact ⟨h, f⟩
set_option maxRecDepth 100000 in
theorem fr_X1_load_J95 {S0 : MS} {Q : MS → Prop} {U95 : MS} {t95_0 : Int32} {t95_1 : Int32} {v95_1 : Int32} (f : cfr [103] [(41, 5), (41, 6)] S0 U95) (h : w_X1_load_J95 Q U95 t95_0 t95_1 v95_1) : w_X1_load_J95 (fun u => Q u ∧ cfr [103] [(41, 5), (41, 6)] S0 u) U95 t95_0 t95_1 v95_1 := by
  unfold w_X1_load_J95 at h ⊢
  intro y1_ y2_
  replace h := h y1_ y2_
  refine ⟨h.1, ?_⟩
  replace h := h.2
  intro S9 eS9 y3_ y4_
  replace h := h S9 eS9 y3_ y4_
  replace f := f.tr (show cfr [103] [(41, 5), (41, 6)] U95 S9 by rw [eS9]; exact cfr.oI y3_ (by decide))
  refine ⟨h.1, ?_⟩
  replace h := h.2
  intro a13 ea13 
  replace h := h a13 ea13 
  obtain ⟨Q9, h0, h⟩ := h
  refine ⟨_, frX1_give y4_ h0, ?_⟩
  intro S15 q5_ y6_ y7_
  replace h := h S15 q5_.1 y6_ y7_
  replace f := f.tr (q5_.2.mo (by decide) (by decide))
  exact ⟨h, f⟩
set_option maxRecDepth 100000 in
theorem fr_X1_load_J90 {S0 : MS} {Q : MS → Prop} {U90 : MS} {t90_0 : Int32} {v90_1 : Int32} (f : cfr [103] [(41, 5), (41, 6)] S0 U90) (h : w_X1_load_J90 Q U90 t90_0 v90_1) : w_X1_load_J90 (fun u => Q u ∧ cfr [103] [(41, 5), (41, 6)] S0 u) U90 t90_0 v90_1 := by
  unfold w_X1_load_J90 at h ⊢
  intro y8_
  replace h := h y8_
  exact fr_X1_load_J95 f h
set_option maxRecDepth 100000 in
theorem fr_X1_load_J29 {S0 : MS} {Q : MS → Prop} {U29 : MS} {t29_0 : Int32} {t29_1 : Int32} {v29_3 : Int32} (f : cfr [103] [(41, 5), (41, 6)] S0 U29) (h : w_X1_load_J29 Q U29 t29_0 t29_1 v29_3) : w_X1_load_J29 (fun u => Q u ∧ cfr [103] [(41, 5), (41, 6)] S0 u) U29 t29_0 t29_1 v29_3 := by
  unfold w_X1_load_J29 at h ⊢
  intro y9_ y10_
  replace h := h y9_ y10_
  refine ⟨h.1, ?_⟩
  replace h := h.2
  intro S33 eS33 y11_ y12_
  replace h := h S33 eS33 y11_ y12_
  replace f := f.tr (show cfr [103] [(41, 5), (41, 6)] U29 S33 by rw [eS33]; exact cfr.oI y11_ (by decide))
  refine ⟨h.1, ?_⟩
  replace h := h.2
  intro a37 ea37 
  replace h := h a37 ea37 
  refine ⟨fun c => ?_, fun c => ?_⟩
  · replace h := h.1 c
    obtain ⟨Q9, h0, h⟩ := h
    refine ⟨_, frX1_push y12_ h0, ?_⟩
    intro S40 q13_ y14_ y15_
    replace h := h S40 q13_.1 y14_ y15_
    replace f := f.tr (q13_.2.mo (by decide) (by decide))
    exact ⟨h, f⟩
  · replace h := h.2 c
    obtain ⟨Q9, h0, h⟩ := h
    refine ⟨_, frX1_push y12_ h0, ?_⟩
    intro S43 q16_ y17_ y18_
    replace h := h S43 q16_.1 y17_ y18_
    replace f := f.tr (q16_.2.mo (by decide) (by decide))
    exact ⟨h, f⟩
set_option maxRecDepth 100000 in
theorem frX1_load {S : MS} {x1 : Int32} {x2 : Int32} {Q : MS → Prop} (hw : wfC S) (h : wX1_load S x1 x2 Q) : wX1_load S x1 x2 (fun u => Q u ∧ cfr [103] [(41, 5), (41, 6)] S u) := by
  have f : cfr [103] [(41, 5), (41, 6)] S S := cfr.rf
  unfold wX1_load at h ⊢
  refine ⟨h.1, ?_⟩
  replace h := h.2
  intro a4 ea4 
  replace h := h a4 ea4 
  refine ⟨fun c => ?_, fun c => ?_⟩
  · replace h := h.1 c
    refine ⟨h.1, ?_⟩
    replace h := h.2
    intro a30 ea30 
    replace h := h a30 ea30 
    refine ⟨fun c => ?_, fun c => ?_⟩
    · replace h := h.1 c
      exact fr_X1_load_J29 f h
    · replace h := h.2 c
      exact fr_X1_load_J29 f h
  · replace h := h.2 c
    refine ⟨fun c => ?_, fun c => ?_⟩
    · replace h := h.1 c
      refine ⟨fun c => ?_, fun c => ?_⟩
      · replace h := h.1 c
        exact fr_X1_load_J95 f h
      · replace h := h.2 c
        exact fr_X1_load_J95 f h
    · replace h := h.2 c
      refine ⟨fun c => ?_, fun c => ?_⟩
      · replace h := h.1 c
        refine ⟨h.1, ?_⟩
        replace h := h.2
        intro a23 ea23 
        replace h := h a23 ea23 
        refine ⟨fun c => ?_, fun c => ?_⟩
        · replace h := h.1 c
          exact fr_X1_load_J95 f h
        · replace h := h.2 c
          exact fr_X1_load_J90 f h
      · replace h := h.2 c
        exact fr_X1_load_J90 f h
set_option maxRecDepth 100000 in
theorem fr_X1_store_J67 {S0 : MS} {Q : MS → Prop} {U67 : MS} {v67_1 : Int32} {v67_2 : Int32} {v67_3 : Int32} {v67_4 : Int32} (f : cfr [103] [(41, 5), (41, 6)] S0 U67) (h : w_X1_store_J67 Q U67 v67_1 v67_2 v67_3 v67_4) : w_X1_store_J67 (fun u => Q u ∧ cfr [103] [(41, 5), (41, 6)] S0 u) U67 v67_1 v67_2 v67_3 v67_4 := by
  unfold w_X1_store_J67 at h ⊢
  intro y1_
  replace h := h y1_
  refine ⟨fun c => ?_, fun c => ?_⟩
  · replace h := h.1 c
    refine ⟨h.1, ?_⟩
    replace h := h.2
    intro a31 ea31 
    replace h := h a31 ea31 
    refine ⟨fun c => ?_, fun c => ?_⟩
    · replace h := h.1 c
      obtain ⟨Q9, h0, h⟩ := h
      refine ⟨_, frX1_setPlace y1_ h0, ?_⟩
      intro S34 q2_ y3_ y4_
      replace h := h S34 q2_.1 y3_ y4_
      replace f := f.tr (q2_.2.mo (by decide) (by decide))
      exact ⟨h, f⟩
    · replace h := h.2 c
      obtain ⟨Q9, h0, h⟩ := h
      refine ⟨_, frX1_setPlace y1_ h0, ?_⟩
      intro S37 q5_ y6_ y7_
      replace h := h S37 q5_.1 y6_ y7_
      replace f := f.tr (q5_.2.mo (by decide) (by decide))
      exact ⟨h, f⟩
  · replace h := h.2 c
    refine ⟨h.1, ?_⟩
    replace h := h.2
    intro a19 ea19 
    replace h := h a19 ea19 
    obtain ⟨Q9, h0, h⟩ := h
    refine ⟨_, frX1_setPlace y1_ h0, ?_⟩
    intro S21 q8_ y9_ y10_
    replace h := h S21 q8_.1 y9_ y10_
    replace f := f.tr (q8_.2.mo (by decide) (by decide))
    refine ⟨fun c => ?_, fun c => ?_⟩
    · replace h := h.1 c
      obtain ⟨Q9, h0, h⟩ := h
      refine ⟨_, frX1_setPlace y9_ h0, ?_⟩
      intro S26 q11_ y12_ y13_
      replace h := h S26 q11_.1 y12_ y13_
      replace f := f.tr (q11_.2.mo (by decide) (by decide))
      exact ⟨h, f⟩
    · replace h := h.2 c
      exact ⟨h, f⟩
set_option maxRecDepth 100000 in
theorem fr_X1_store_J43 {S0 : MS} {Q : MS → Prop} {U43 : MS} {v43_1 : Int32} {v43_2 : Int32} {v43_3 : Int32} {v43_4 : Int32} {v43_5 : Int32} (f : cfr [103] [(41, 5), (41, 6)] S0 U43) (h : w_X1_store_J43 Q U43 v43_1 v43_2 v43_3 v43_4 v43_5) : w_X1_store_J43 (fun u => Q u ∧ cfr [103] [(41, 5), (41, 6)] S0 u) U43 v43_1 v43_2 v43_3 v43_4 v43_5 := by
  unfold w_X1_store_J43 at h ⊢
  intro y14_
  replace h := h y14_
  refine ⟨fun c => ?_, fun c => ?_⟩
  · replace h := h.1 c
    exact fr_X1_store_J67 f h
  · replace h := h.2 c
    refine ⟨h.1, ?_⟩
    replace h := h.2
    intro a43 ea43 
    replace h := h a43 ea43 
    refine ⟨fun c => ?_, fun c => ?_⟩
    · replace h := h.1 c
      obtain ⟨Q9, h0, h⟩ := h
      refine ⟨_, frX1_setPlace y14_ h0, ?_⟩
      intro S46 q15_ y16_ y17_
      replace h := h S46 q15_.1 y16_ y17_
      replace f := f.tr (q15_.2.mo (by decide) (by decide))
      exact fr_X1_store_J67 f h
    · replace h := h.2 c
      exact fr_X1_store_J67 f h
set_option maxRecDepth 100000 in
theorem frX1_store {S : MS} {x1 : Int32} {x2 : Int32} {Q : MS → Prop} (hw : wfC S) (h : wX1_store S x1 x2 Q) : wX1_store S x1 x2 (fun u => Q u ∧ cfr [103] [(41, 5), (41, 6)] S u) := by
  have f : cfr [103] [(41, 5), (41, 6)] S S := cfr.rf
  unfold wX1_store at h ⊢
  refine ⟨h.1, ?_⟩
  replace h := h.2
  intro a4 ea4 
  replace h := h a4 ea4 
  obtain ⟨Q9, h0, h⟩ := h
  refine ⟨_, frX1_take hw h0, ?_⟩
  intro r6 S7 q18_ y19_ y20_
  replace h := h r6 S7 q18_.1 y19_ y20_
  replace f := f.tr (q18_.2.mo (by decide) (by decide))
  refine ⟨h.1, ?_⟩
  replace h := h.2
  intro a12 ea12 
  replace h := h a12 ea12 
  intro a14 ea14 
  replace h := h a14 ea14 
  refine ⟨fun c => ?_, fun c => ?_⟩
  · replace h := h.1 c
    exact fr_X1_store_J43 f h
  · replace h := h.2 c
    refine ⟨h.1, ?_⟩
    replace h := h.2
    intro a53 ea53 
    replace h := h a53 ea53 
    refine ⟨fun c => ?_, fun c => ?_⟩
    · replace h := h.1 c
      obtain ⟨Q9, h0, h⟩ := h
      refine ⟨_, frX1_setPlace y19_ h0, ?_⟩
      intro S57 q21_ y22_ y23_
      replace h := h S57 q21_.1 y22_ y23_
      replace f := f.tr (q21_.2.mo (by decide) (by decide))
      exact fr_X1_store_J43 f h
    · replace h := h.2 c
      exact fr_X1_store_J43 f h
set_option maxRecDepth 100000 in
theorem fr_X1_keepTypes_J161 {S0 : MS} {Q : MS → Prop} {k50 k50' : MS → Int32 → Prop} {U161 : MS} {v161_1 : Int32} (hk50 : ∀ (u : MS) (z0), cfr [104, 407, 408] [(47, 12), (47, 13), (47, 14)] S0 u → k50 u z0 → k50' u z0) (f : cfr [104, 407, 408] [(47, 12), (47, 13), (47, 14)] S0 U161) (h : w_X1_keepTypes_J161 Q k50 U161 v161_1) : w_X1_keepTypes_J161 (fun u => Q u ∧ cfr [104, 407, 408] [(47, 12), (47, 13), (47, 14)] S0 u) k50' U161 v161_1 := by
  unfold w_X1_keepTypes_J161 at h ⊢
  intro y1_
  replace h := h y1_
  intro a47 ea47 
  replace h := h a47 ea47 
  exact hk50 _ _ f h
set_option maxRecDepth 100000 in
theorem fr_X1_keepTypes_J155 {S0 : MS} {Q : MS → Prop} {k81 k81' : MS → Int32 → Int32 → Prop} {U155 : MS} {v155_1 : Int32} {v155_2 : Int32} (hk81 : ∀ (u : MS) (z0) (z1), cfr [104, 407, 408] [(47, 12), (47, 13), (47, 14)] S0 u → k81 u z0 z1 → k81' u z0 z1) (f : cfr [104, 407, 408] [(47, 12), (47, 13), (47, 14)] S0 U155) (h : w_X1_keepTypes_J155 Q k81 U155 v155_1 v155_2) : w_X1_keepTypes_J155 (fun u => Q u ∧ cfr [104, 407, 408] [(47, 12), (47, 13), (47, 14)] S0 u) k81' U155 v155_1 v155_2 := by
  unfold w_X1_keepTypes_J155 at h ⊢
  intro y2_
  replace h := h y2_
  intro a56 ea56 
  replace h := h a56 ea56 
  exact hk81 _ _ _ f h
set_option maxRecDepth 100000 in
theorem fr_X1_keepTypes_L81 {S0 : MS} {Q : MS → Prop} {k50 k50' : MS → Int32 → Prop} (hk50 : ∀ (u : MS) (z0), cfr [104, 407, 408] [(47, 12), (47, 13), (47, 14)] S0 u → k50 u z0 → k50' u z0) : ∀ (n : Nat) {U81 : MS} {v81_1 : Int32} {v81_2 : Int32}, cfr [104, 407, 408] [(47, 12), (47, 13), (47, 14)] S0 U81 → w_X1_keepTypes_L81 Q k50 n U81 v81_1 v81_2 → w_X1_keepTypes_L81 (fun u => Q u ∧ cfr [104, 407, 408] [(47, 12), (47, 13), (47, 14)] S0 u) k50' n U81 v81_1 v81_2 := by
  intro n
  induction n with
  | zero => intro U81 v81_1 v81_2 f h; unfold w_X1_keepTypes_L81 at h; exact h.elim
  | succ n ih =>
    intro U81 v81_1 v81_2 f h
    unfold w_X1_keepTypes_L81 at h ⊢
    intro y3_
    replace h := h y3_
    refine ⟨h.1, ?_⟩
    replace h := h.2
    refine ⟨fun c => ?_, fun c => ?_⟩
    · replace h := h.1 c
      exact fr_X1_keepTypes_J161 hk50 f h
    · replace h := h.2 c
      refine ⟨fun c => ?_, fun c => ?_⟩
      · replace h := h.1 c
        exact fr_X1_keepTypes_J161 hk50 f h
      · replace h := h.2 c
        refine ⟨h.1, ?_⟩
        replace h := h.2
        intro a55 ea55 
        replace h := h a55 ea55 
        refine ⟨fun c => ?_, fun c => ?_⟩
        · replace h := h.1 c
          refine ⟨h.1, ?_⟩
          replace h := h.2
          refine ⟨h.1, ?_⟩
          replace h := h.2
          refine ⟨h.1, ?_⟩
          replace h := h.2
          refine ⟨h.1, ?_⟩
          replace h := h.2
          intro S68 eS68 y4_ y5_
          replace h := h S68 eS68 y4_ y5_
          replace f := f.tr (show cfr [104, 407, 408] [(47, 12), (47, 13), (47, 14)] U81 S68 by rw [eS68]; exact cfr.aJ y4_ (by decide))
          exact fr_X1_keepTypes_J155 (fun _ _ _ f h => ih f h) f h
        · replace h := h.2 c
          refine ⟨h.1, ?_⟩
          replace h := h.2
          refine ⟨h.1, ?_⟩
          replace h := h.2
          refine ⟨h.1, ?_⟩
          replace h := h.2
          refine ⟨h.1, ?_⟩
          replace h := h.2
          intro S78 eS78 y6_ y7_
          replace h := h S78 eS78 y6_ y7_
          replace f := f.tr (show cfr [104, 407, 408] [(47, 12), (47, 13), (47, 14)] U81 S78 by rw [eS78]; exact cfr.aJ y6_ (by decide))
          exact fr_X1_keepTypes_J155 (fun _ _ _ f h => ih f h) f h
set_option maxRecDepth 100000 in
theorem fr_X1_keepTypes_L50 {S0 : MS} {Q : MS → Prop} : ∀ (n : Nat) {U50 : MS} {v50_1 : Int32}, cfr [104, 407, 408] [(47, 12), (47, 13), (47, 14)] S0 U50 → w_X1_keepTypes_L50 Q n U50 v50_1 → w_X1_keepTypes_L50 (fun u => Q u ∧ cfr [104, 407, 408] [(47, 12), (47, 13), (47, 14)] S0 u) n U50 v50_1 := by
  intro n
  induction n with
  | zero => intro U50 v50_1 f h; unfold w_X1_keepTypes_L50 at h; exact h.elim
  | succ n ih =>
    intro U50 v50_1 f h
    unfold w_X1_keepTypes_L50 at h ⊢
    intro y8_
    replace h := h y8_
    refine ⟨h.1, ?_⟩
    replace h := h.2
    refine ⟨fun c => ?_, fun c => ?_⟩
    · replace h := h.1 c
      exact ⟨h, f⟩
    · replace h := h.2 c
      refine ⟨h.1, ?_⟩
      replace h := h.2
      refine ⟨h.1, ?_⟩
      replace h := h.2
      refine ⟨h.1, ?_⟩
      replace h := h.2
      refine ⟨h.1, ?_⟩
      replace h := h.2
      intro S42 eS42 y9_ y10_
      replace h := h S42 eS42 y9_ y10_
      replace f := f.tr (show cfr [104, 407, 408] [(47, 12), (47, 13), (47, 14)] U50 S42 by rw [eS42]; exact cfr.aI y9_ (by decide))
      obtain ⟨n9, h⟩ := h
      exact ⟨n9, fr_X1_keepTypes_L81 (fun _ _ f h => ih f h) n9 f h⟩
set_option maxRecDepth 100000 in
theorem frX1_keepTypes {S : MS} {Q : MS → Prop} (hw : wfC S) (h : wX1_keepTypes S Q) : wX1_keepTypes S (fun u => Q u ∧ cfr [104, 407, 408] [(47, 12), (47, 13), (47, 14)] S u) := by
  have f : cfr [104, 407, 408] [(47, 12), (47, 13), (47, 14)] S S := cfr.rf
  unfold wX1_keepTypes at h ⊢
  refine ⟨h.1, ?_⟩
  replace h := h.2
  refine ⟨h.1, ?_⟩
  replace h := h.2
  refine ⟨h.1, ?_⟩
  replace h := h.2
  intro S8 eS8 y11_
  replace h := h S8 eS8 y11_
  replace f := f.tr (show cfr [104, 407, 408] [(47, 12), (47, 13), (47, 14)] S S8 by rw [eS8]; exact cfr.new hw (eS8 ▸ y11_))
  intro S10 eS10 y12_ y13_
  replace h := h S10 eS10 y12_ y13_
  replace f := f.tr (show cfr [104, 407, 408] [(47, 12), (47, 13), (47, 14)] S8 S10 by rw [eS10]; exact cfr.oR y12_ (by decide))
  refine ⟨h.1, ?_⟩
  replace h := h.2
  refine ⟨h.1, ?_⟩
  replace h := h.2
  refine ⟨h.1, ?_⟩
  replace h := h.2
  intro S18 eS18 y14_
  replace h := h S18 eS18 y14_
  replace f := f.tr (show cfr [104, 407, 408] [(47, 12), (47, 13), (47, 14)] S10 S18 by rw [eS18]; exact cfr.new y13_ (eS18 ▸ y14_))
  intro S20 eS20 y15_ y16_
  replace h := h S20 eS20 y15_ y16_
  replace f := f.tr (show cfr [104, 407, 408] [(47, 12), (47, 13), (47, 14)] S18 S20 by rw [eS20]; exact cfr.oR y15_ (by decide))
  refine ⟨h.1, ?_⟩
  replace h := h.2
  refine ⟨h.1, ?_⟩
  replace h := h.2
  refine ⟨h.1, ?_⟩
  replace h := h.2
  intro S28 eS28 y17_
  replace h := h S28 eS28 y17_
  replace f := f.tr (show cfr [104, 407, 408] [(47, 12), (47, 13), (47, 14)] S20 S28 by rw [eS28]; exact cfr.new y16_ (eS28 ▸ y17_))
  intro S30 eS30 y18_ y19_
  replace h := h S30 eS30 y18_ y19_
  replace f := f.tr (show cfr [104, 407, 408] [(47, 12), (47, 13), (47, 14)] S28 S30 by rw [eS30]; exact cfr.oR y18_ (by decide))
  obtain ⟨n9, h⟩ := h
  exact ⟨n9, fr_X1_keepTypes_L50 n9 f h⟩
