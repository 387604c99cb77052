set_option maxRecDepth 100000 in
theorem fr_X3_addLoop_J79 {S0 : MS} {Q : MS → Prop} {k26 k26' : MS → Int32 → Int32 → Int32 → Prop} {U79 : MS} {v79_1 : Int32} {v79_2 : Int32} {v79_3 : Int32} (hk26 : ∀ (u : MS) (z0) (z1) (z2), cfr [210, 211, 212] [] S0 u → k26 u z0 z1 z2 → k26' u z0 z1 z2) (f : cfr [210, 211, 212] [] S0 U79) (h : w_X3_addLoop_J79 Q k26 U79 v79_1 v79_2 v79_3) : w_X3_addLoop_J79 (fun u => Q u ∧ cfr [210, 211, 212] [] S0 u) k26' U79 v79_1 v79_2 v79_3 := by
  unfold w_X3_addLoop_J79 at h ⊢
  intro y1_
  replace h := h y1_
  intro a51 ea51 
  replace h := h a51 ea51 
  exact hk26 _ _ _ _ f h
set_option maxRecDepth 100000 in
theorem fr_X3_addLoop_L119 {S0 : MS} {Q : MS → Prop} {k87 k87' : MS → Int32 → Int32 → Int32 → Prop} (hk87 : ∀ (u : MS) (z0) (z1) (z2), cfr [210, 211, 212] [] S0 u → k87 u z0 z1 z2 → k87' u z0 z1 z2) : ∀ (n : Nat) {U119 : MS} {v119_1 : Int32} {v119_2 : Int32} {v119_3 : Int32} {v119_4 : Int32} {v119_5 : Int32}, cfr [210, 211, 212] [] S0 U119 → w_X3_addLoop_L119 Q k87 n U119 v119_1 v119_2 v119_3 v119_4 v119_5 → w_X3_addLoop_L119 (fun u => Q u ∧ cfr [210, 211, 212] [] S0 u) k87' n U119 v119_1 v119_2 v119_3 v119_4 v119_5 := by
  intro n
  induction n with
  | zero => intro U119 v119_1 v119_2 v119_3 v119_4 v119_5 f h; unfold w_X3_addLoop_L119 at h; exact h.elim
  | succ n ih =>
    intro U119 v119_1 v119_2 v119_3 v119_4 v119_5 f h
    unfold w_X3_addLoop_L119 at h ⊢
    intro y2_
    replace h := h y2_
    refine ⟨h.1, ?_⟩
    replace h := h.2
    refine ⟨fun c => ?_, fun c => ?_⟩
    · replace h := h.1 c
      intro a35 ea35 
      replace h := h a35 ea35 
      exact hk87 _ _ _ _ f h
    · replace h := h.2 c
      refine ⟨h.1, ?_⟩
      replace h := h.2
      obtain ⟨Q9, h0, h⟩ := h
      refine ⟨_, frX3_addToLoop y2_ h0, ?_⟩
      intro r40 S41 q3_ y4_ y5_
      replace h := h r40 S41 q3_.1 y4_ y5_
      replace f := f.tr (q3_.2.mo (by decide) (by decide))
      intro a43 ea43 
      replace h := h a43 ea43 
      exact ih f h
set_option maxRecDepth 100000 in
theorem fr_X3_addLoop_L87 {S0 : MS} {Q : MS → Prop} : ∀ (n : Nat) {U87 : MS} {v87_1 : Int32} {v87_2 : Int32} {v87_3 : Int32}, cfr [210, 211, 212] [] S0 U87 → w_X3_addLoop_L87 Q n U87 v87_1 v87_2 v87_3 → w_X3_addLoop_L87 (fun u => Q u ∧ cfr [210, 211, 212] [] S0 u) n U87 v87_1 v87_2 v87_3 := by
  intro n
  induction n with
  | zero => intro U87 v87_1 v87_2 v87_3 f h; unfold w_X3_addLoop_L87 at h; exact h.elim
  | succ n ih =>
    intro U87 v87_1 v87_2 v87_3 f h
    unfold w_X3_addLoop_L87 at h ⊢
    intro y6_
    replace h := h y6_
    refine ⟨fun c => ?_, fun c => ?_⟩
    · replace h := h.1 c
      exact ⟨h, f⟩
    · replace h := h.2 c
      refine ⟨fun c => ?_, fun c => ?_⟩
      · replace h := h.1 c
        exact ⟨h, f⟩
      · replace h := h.2 c
        intro a21 ea21 
        replace h := h a21 ea21 
        refine ⟨h.1, ?_⟩
        replace h := h.2
        intro a25 ea25 
        replace h := h a25 ea25 
        refine ⟨h.1, ?_⟩
        replace h := h.2
        intro a29 ea29 
        replace h := h a29 ea29 
        obtain ⟨n9, h⟩ := h
        exact ⟨n9, fr_X3_addLoop_L119 (fun _ _ _ _ f h => ih f h) n9 f h⟩
set_option maxRecDepth 100000 in
theorem fr_X3_addLoop_L26 {S0 : MS} {Q : MS → Prop} : ∀ (n : Nat) {U26 : MS} {v26_1 : Int32} {v26_2 : Int32} {v26_3 : Int32}, cfr [210, 211, 212] [] S0 U26 → w_X3_addLoop_L26 Q n U26 v26_1 v26_2 v26_3 → w_X3_addLoop_L26 (fun u => Q u ∧ cfr [210, 211, 212] [] S0 u) n U26 v26_1 v26_2 v26_3 := by
  intro n
  induction n with
  | zero => intro U26 v26_1 v26_2 v26_3 f h; unfold w_X3_addLoop_L26 at h; exact h.elim
  | succ n ih =>
    intro U26 v26_1 v26_2 v26_3 f h
    unfold w_X3_addLoop_L26 at h ⊢
    intro y7_
    replace h := h y7_
    refine ⟨h.1, ?_⟩
    replace h := h.2
    refine ⟨fun c => ?_, fun c => ?_⟩
    · replace h := h.1 c
      obtain ⟨n9, h⟩ := h
      exact ⟨n9, fr_X3_addLoop_L87 n9 f h⟩
    · replace h := h.2 c
      refine ⟨h.1, ?_⟩
      replace h := h.2
      refine ⟨h.1, ?_⟩
      replace h := h.2
      refine ⟨fun c => ?_, fun c => ?_⟩
      · replace h := h.1 c
        exact fr_X3_addLoop_J79 (fun _ _ _ _ f h => ih f h) f h
      · replace h := h.2 c
        refine ⟨h.1, ?_⟩
        replace h := h.2
        refine ⟨h.1, ?_⟩
        replace h := h.2
        refine ⟨fun c => ?_, fun c => ?_⟩
        · replace h := h.1 c
          exact fr_X3_addLoop_J79 (fun _ _ _ _ f h => ih f h) f h
        · replace h := h.2 c
          refine ⟨h.1, ?_⟩
          replace h := h.2
          obtain ⟨Q9, h0, h⟩ := h
          refine ⟨_, frX3_addToLoop y7_ h0, ?_⟩
          intro r64 S65 q8_ y9_ y10_
          replace h := h r64 S65 q8_.1 y9_ y10_
          replace f := f.tr (q8_.2.mo (by decide) (by decide))
          exact fr_X3_addLoop_J79 (fun _ _ _ _ f h => ih f h) f h
set_option maxRecDepth 100000 in
theorem frX3_addLoop {S : MS} {x1 : Int32} {Q : MS → Prop} (hw : wfC S) (h : wX3_addLoop S x1 Q) : wX3_addLoop S x1 (fun u => Q u ∧ cfr [210, 211, 212] [] S u) := by
  have f : cfr [210, 211, 212] [] S S := cfr.rf
  unfold wX3_addLoop at h ⊢
  refine ⟨h.1, ?_⟩
  replace h := h.2
  intro S3 eS3 y11_ y12_
  replace h := h S3 eS3 y11_ y12_
  replace f := f.tr (show cfr [210, 211, 212] [] S S3 by rw [eS3]; exact cfr.aI y11_ (by decide))
  refine ⟨h.1, ?_⟩
  replace h := h.2
  refine ⟨h.1, ?_⟩
  replace h := h.2
  intro S9 eS9 y13_ y14_
  replace h := h S9 eS9 y13_ y14_
  replace f := f.tr (show cfr [210, 211, 212] [] S3 S9 by rw [eS9]; exact cfr.aI y13_ (by decide))
  refine ⟨h.1, ?_⟩
  replace h := h.2
  intro a13 ea13 
  replace h := h a13 ea13 
  obtain ⟨n9, h⟩ := h
  exact ⟨n9, fr_X3_addLoop_L26 n9 f h⟩
set_option maxRecDepth 100000 in
theorem fr_X4_spread_J102 {S0 : MS} {Q : MS → Prop} {U102 : MS} {v102_0 : Nat} {v102_1 : Int32} (f : cfr [213, 214, 304] [(44, 6), (44, 7)] S0 U102) (h : w_X4_spread_J102 Q U102 v102_0 v102_1) : w_X4_spread_J102 (fun u => Q u ∧ cfr [213, 214, 304] [(44, 6), (44, 7)] S0 u) U102 v102_0 v102_1 := by
  unfold w_X4_spread_J102 at h ⊢
  intro y1_ y2_
  replace h := h y1_ y2_
  refine ⟨h.1, ?_⟩
  replace h := h.2
  refine ⟨h.1, ?_⟩
  replace h := h.2
  intro S43 eS43 y3_ y4_
  replace h := h S43 eS43 y3_ y4_
  replace f := f.tr (show cfr [213, 214, 304] [(44, 6), (44, 7)] U102 S43 by rw [eS43]; exact cfr.aI y3_ (by decide))
  exact ⟨h, f⟩
set_option maxRecDepth 100000 in
theorem fr_X4_spread_J240 {S0 : MS} {Q : MS → Prop} {k195 k195' : MS → Nat → Int32 → Int32 → Int32 → Prop} {U240 : MS} {v240_0 : Nat} {v240_1 : Int32} {v240_5 : Int32} {v240_8 : Int32} (hk195 : ∀ (u : MS) (z0) (z1) (z2) (z3), cfr [213, 214, 304] [(44, 6), (44, 7)] S0 u → k195 u z0 z1 z2 z3 → k195' u z0 z1 z2 z3) (f : cfr [213, 214, 304] [(44, 6), (44, 7)] S0 U240) (h : w_X4_spread_J240 Q k195 U240 v240_0 v240_1 v240_5 v240_8) : w_X4_spread_J240 (fun u => Q u ∧ cfr [213, 214, 304] [(44, 6), (44, 7)] S0 u) k195' U240 v240_0 v240_1 v240_5 v240_8 := by
  unfold w_X4_spread_J240 at h ⊢
  intro y5_ y6_ y7_
  replace h := h y5_ y6_ y7_
  intro a66 ea66 
  replace h := h a66 ea66 
  exact hk195 _ _ _ _ _ f h
set_option maxRecDepth 100000 in
theorem fr_X4_spread_L195 {S0 : MS} {Q : MS → Prop} : ∀ (n : Nat) {U195 : MS} {v195_0 : Nat} {v195_1 : Int32} {v195_5 : Int32} {v195_8 : Int32}, cfr [213, 214, 304] [(44, 6), (44, 7)] S0 U195 → w_X4_spread_L195 Q n U195 v195_0 v195_1 v195_5 v195_8 → w_X4_spread_L195 (fun u => Q u ∧ cfr [213, 214, 304] [(44, 6), (44, 7)] S0 u) n U195 v195_0 v195_1 v195_5 v195_8 := by
  intro n
  induction n with
  | zero => intro U195 v195_0 v195_1 v195_5 v195_8 f h; unfold w_X4_spread_L195 at h; exact h.elim
  | succ n ih =>
    intro U195 v195_0 v195_1 v195_5 v195_8 f h
    unfold w_X4_spread_L195 at h ⊢
    intro y8_ y9_ y10_
    replace h := h y8_ y9_ y10_
    refine ⟨fun c => ?_, fun c => ?_⟩
    · replace h := h.1 c
      exact ⟨h, f⟩
    · replace h := h.2 c
      refine ⟨h.1, ?_⟩
      replace h := h.2
      refine ⟨fun c => ?_, fun c => ?_⟩
      · replace h := h.1 c
        exact ⟨h, f⟩
      · replace h := h.2 c
        refine ⟨h.1, ?_⟩
        replace h := h.2
        refine ⟨h.1, ?_⟩
        replace h := h.2
        intro a65 ea65 
        replace h := h a65 ea65 
        refine ⟨fun c => ?_, fun c => ?_⟩
        · replace h := h.1 c
          exact fr_X4_spread_J240 (fun _ _ _ _ _ f h => ih f h) f h
        · replace h := h.2 c
          refine ⟨h.1, ?_⟩
          replace h := h.2
          refine ⟨h.1, ?_⟩
          replace h := h.2
          refine ⟨h.1, ?_⟩
          replace h := h.2
          intro y11_
          replace h := h y11_
          obtain ⟨Q9, h0, h⟩ := h
          refine ⟨_, frX4_comeTo y8_ h0, ?_⟩
          intro S75 q12_ y13_ y14_
          replace h := h S75 q12_.1 y13_ y14_
          replace f := f.tr (q12_.2.mo (by decide) (by decide))
          exact fr_X4_spread_J240 (fun _ _ _ _ _ f h => ih f h) f h
set_option maxRecDepth 100000 in
theorem fr_X4_spread_L163 {S0 : MS} {Q : MS → Prop} : ∀ (n : Nat) {U163 : MS} {v163_0 : Nat} {v163_1 : Int32} {v163_4 : Int32} {v163_5 : Int32} {v163_7 : Int32} {v163_8 : Int32}, cfr [213, 214, 304] [(44, 6), (44, 7)] S0 U163 → w_X4_spread_L163 Q n U163 v163_0 v163_1 v163_4 v163_5 v163_7 v163_8 → w_X4_spread_L163 (fun u => Q u ∧ cfr [213, 214, 304] [(44, 6), (44, 7)] S0 u) n U163 v163_0 v163_1 v163_4 v163_5 v163_7 v163_8 := by
  intro n
  induction n with
  | zero => intro U163 v163_0 v163_1 v163_4 v163_5 v163_7 v163_8 f h; unfold w_X4_spread_L163 at h; exact h.elim
  | succ n ih =>
    intro U163 v163_0 v163_1 v163_4 v163_5 v163_7 v163_8 f h
    unfold w_X4_spread_L163 at h ⊢
    intro y15_ y16_ y17_
    replace h := h y15_ y16_ y17_
    refine ⟨fun c => ?_, fun c => ?_⟩
    · replace h := h.1 c
      obtain ⟨n9, h⟩ := h
      exact ⟨n9, fr_X4_spread_L195 n9 f h⟩
    · replace h := h.2 c
      refine ⟨h.1, ?_⟩
      replace h := h.2
      refine ⟨h.1, ?_⟩
      replace h := h.2
      intro a82 ea82 
      replace h := h a82 ea82 
      intro y18_
      replace h := h y18_
      obtain ⟨Q9, h0, h⟩ := h
      refine ⟨_, frX4_comeTo y15_ h0, ?_⟩
      intro S84 q19_ y20_ y21_
      replace h := h S84 q19_.1 y20_ y21_
      replace f := f.tr (q19_.2.mo (by decide) (by decide))
      intro a86 ea86 
      replace h := h a86 ea86 
      exact ih f h
set_option maxRecDepth 100000 in
theorem fr_X4_spread_J150 {S0 : MS} {Q : MS → Prop} {U150 : MS} {v150_0 : Nat} {v150_1 : Int32} {v150_4 : Int32} {v150_5 : Int32} (f : cfr [213, 214, 304] [(44, 6), (44, 7)] S0 U150) (h : w_X4_spread_J150 Q U150 v150_0 v150_1 v150_4 v150_5) : w_X4_spread_J150 (fun u => Q u ∧ cfr [213, 214, 304] [(44, 6), (44, 7)] S0 u) U150 v150_0 v150_1 v150_4 v150_5 := by
  unfold w_X4_spread_J150 at h ⊢
  intro y22_ y23_ y24_
  replace h := h y22_ y23_ y24_
  refine ⟨h.1, ?_⟩
  replace h := h.2
  refine ⟨h.1, ?_⟩
  replace h := h.2
  intro a54 ea54 
  replace h := h a54 ea54 
  obtain ⟨n9, h⟩ := h
  exact ⟨n9, fr_X4_spread_L163 n9 f h⟩
set_option maxRecDepth 100000 in
theorem fr_X4_spread_J127 {S0 : MS} {Q : MS → Prop} {U127 : MS} {t127_0 : Int32} {t127_1 : Int32} {t127_2 : Int32} {t127_3 : Nat} {v127_0 : Nat} {v127_1 : Int32} {v127_4 : Int32} {v127_5 : Int32} {v127_6 : Int32} (f : cfr [213, 214, 304] [(44, 6), (44, 7)] S0 U127) (h : w_X4_spread_J127 Q U127 t127_0 t127_1 t127_2 t127_3 v127_0 v127_1 v127_4 v127_5 v127_6) : w_X4_spread_J127 (fun u => Q u ∧ cfr [213, 214, 304] [(44, 6), (44, 7)] S0 u) U127 t127_0 t127_1 t127_2 t127_3 v127_0 v127_1 v127_4 v127_5 v127_6 := by
  unfold w_X4_spread_J127 at h ⊢
  intro y25_ y26_ y27_ y28_ y29_ y30_
  replace h := h y25_ y26_ y27_ y28_ y29_ y30_
  intro S48 eS48 y31_ y32_
  replace h := h S48 eS48 y31_ y32_
  replace f := f.tr (show cfr [213, 214, 304] [(44, 6), (44, 7)] U127 S48 by rw [eS48]; exact cfr.oI y31_ (by decide))
  refine ⟨fun c => ?_, fun c => ?_⟩
  · replace h := h.1 c
    exact fr_X4_spread_J150 f h
  · replace h := h.2 c
    intro y33_
    replace h := h y33_
    obtain ⟨Q9, h0, h⟩ := h
    refine ⟨_, frX4_comeTo y32_ h0, ?_⟩
    intro S90 q34_ y35_ y36_
    replace h := h S90 q34_.1 y35_ y36_
    replace f := f.tr (q34_.2.mo (by decide) (by decide))
    exact fr_X4_spread_J150 f h
set_option maxRecDepth 100000 in
theorem fr_X4_spread_J110 {S0 : MS} {Q : MS → Prop} {U110 : MS} {v110_0 : Nat} {v110_1 : Int32} {v110_4 : Int32} {v110_5 : Int32} {v110_6 : Int32} (f : cfr [213, 214, 304] [(44, 6), (44, 7)] S0 U110) (h : w_X4_spread_J110 Q U110 v110_0 v110_1 v110_4 v110_5 v110_6) : w_X4_spread_J110 (fun u => Q u ∧ cfr [213, 214, 304] [(44, 6), (44, 7)] S0 u) U110 v110_0 v110_1 v110_4 v110_5 v110_6 := by
  unfold w_X4_spread_J110 at h ⊢
  intro y37_ y38_ y39_ y40_
  replace h := h y37_ y38_ y39_ y40_
  refine ⟨fun c => ?_, fun c => ?_⟩
  · replace h := h.1 c
    exact fr_X4_spread_J127 f h
  · replace h := h.2 c
    exact fr_X4_spread_J127 f h
set_option maxRecDepth 100000 in
theorem fr_X4_spread_J84 {S0 : MS} {Q : MS → Prop} {U84 : MS} {v84_0 : Nat} {v84_1 : Int32} {v84_4 : Int32} {v84_5 : Int32} {v84_6 : Int32} (f : cfr [213, 214, 304] [(44, 6), (44, 7)] S0 U84) (h : w_X4_spread_J84 Q U84 v84_0 v84_1 v84_4 v84_5 v84_6) : w_X4_spread_J84 (fun u => Q u ∧ cfr [213, 214, 304] [(44, 6), (44, 7)] S0 u) U84 v84_0 v84_1 v84_4 v84_5 v84_6 := by
  unfold w_X4_spread_J84 at h ⊢
  intro y41_ y42_ y43_ y44_
  replace h := h y41_ y42_ y43_ y44_
  refine ⟨fun c => ?_, fun c => ?_⟩
  · replace h := h.1 c
    exact fr_X4_spread_J110 f h
  · replace h := h.2 c
    refine ⟨h.1, ?_⟩
    replace h := h.2
    refine ⟨fun c => ?_, fun c => ?_⟩
    · replace h := h.1 c
      exact fr_X4_spread_J110 f h
    · replace h := h.2 c
      exact fr_X4_spread_J102 f h
set_option maxRecDepth 100000 in
theorem frX4_spread {S : MS} {p0 : Nat} {x1 : Int32} {x2 : Int32} {Q : MS → Prop} (hw : wfC S) (h : wX4_spread S p0 x1 x2 Q) : wX4_spread S p0 x1 x2 (fun u => Q u ∧ cfr [213, 214, 304] [(44, 6), (44, 7)] S u) := by
  have f : cfr [213, 214, 304] [(44, 6), (44, 7)] S S := cfr.rf
  unfold wX4_spread at h ⊢
  refine ⟨h.1, ?_⟩
  replace h := h.2
  refine ⟨h.1, ?_⟩
  replace h := h.2
  refine ⟨h.1, ?_⟩
  replace h := h.2
  intro a8 ea8 
  replace h := h a8 ea8 
  obtain ⟨Q9, h0, h⟩ := h
  refine ⟨_, frX6_placesOf hw h0, ?_⟩
  intro r10 S11 q45_ y46_ y47_
  replace h := h r10 S11 q45_.1 y46_ y47_
  replace f := f.tr (q45_.2.mo (by decide) (by decide))
  refine ⟨h.1, ?_⟩
  replace h := h.2
  refine ⟨h.1, ?_⟩
  replace h := h.2
  intro y48_ y49_
  replace h := h y48_ y49_
  obtain ⟨Q9, h0, h⟩ := h
  refine ⟨_, frX10_placesGiven y46_ h0, ?_⟩
  intro r19 S20 q50_ y51_ y52_
  replace h := h r19 S20 q50_.1 y51_ y52_
  replace f := f.tr (q50_.2.mo (by decide) (by decide))
  intro a23 ea23 
  replace h := h a23 ea23 
  refine ⟨h.1, ?_⟩
  replace h := h.2
  intro y53_
  replace h := h y53_
  obtain ⟨Q9, h0, h⟩ := h
  refine ⟨_, frX8_isCaught y51_ h0, ?_⟩
  intro r27 S28 q54_ y55_ y56_
  replace h := h r27 S28 q54_.1 y55_ y56_
  replace f := f.tr (q54_.2.mo (by decide) (by decide))
  refine ⟨h.1, ?_⟩
  replace h := h.2
  refine ⟨h.1, ?_⟩
  replace h := h.2
  intro a35 ea35 
  replace h := h a35 ea35 
  refine ⟨h.1, ?_⟩
  replace h := h.2
  intro a39 ea39 
  replace h := h a39 ea39 
  refine ⟨fun c => ?_, fun c => ?_⟩
  · replace h := h.1 c
    exact fr_X4_spread_J102 f h
  · replace h := h.2 c
    refine ⟨fun c => ?_, fun c => ?_⟩
    · replace h := h.1 c
      exact fr_X4_spread_J102 f h
    · replace h := h.2 c
      refine ⟨fun c => ?_, fun c => ?_⟩
      · replace h := h.1 c
        exact fr_X4_spread_J84 f h
      · replace h := h.2 c
        refine ⟨fun c => ?_, fun c => ?_⟩
        · replace h := h.1 c
          exact fr_X4_spread_J102 f h
        · replace h := h.2 c
          exact fr_X4_spread_J84 f h
set_option maxRecDepth 100000 in
theorem fr_X5_elementAt_J13 {S0 : MS} {Q : Int32 → MS → Prop} {U13 : MS} (f : cfr [] [(45, 19)] S0 U13) (h : w_X5_elementAt_J13 Q U13) : w_X5_elementAt_J13 (fun r u => Q r u ∧ cfr [] [(45, 19)] S0 u) U13 := by
  unfold w_X5_elementAt_J13 at h ⊢
  intro y1_
  replace h := h y1_
  exact ⟨h, f⟩
set_option maxRecDepth 100000 in
theorem frX5_elementAt {S : MS} {x1 : Int32} {x2 : Int32} {Q : Int32 → MS → Prop} (hw : wfC S) (h : wX5_elementAt S x1 x2 Q) : wX5_elementAt S x1 x2 (fun r u => Q r u ∧ cfr [] [(45, 19)] S u) := by
  have f : cfr [] [(45, 19)] S S := cfr.rf
  unfold wX5_elementAt at h ⊢
  refine ⟨fun c => ?_, fun c => ?_⟩
  · replace h := h.1 c
    exact fr_X5_elementAt_J13 f h
  · replace h := h.2 c
    refine ⟨h.1, ?_⟩
    replace h := h.2
    refine ⟨fun c => ?_, fun c => ?_⟩
    · replace h := h.1 c
      refine ⟨h.1, ?_⟩
      replace h := h.2
      obtain ⟨Q9, h0, h⟩ := h
      refine ⟨_, frX5_heapAt hw h0, ?_⟩
      intro r11 S12 q2_ y3_ y4_
      replace h := h r11 S12 q2_.1 y3_ y4_
      replace f := f.tr (q2_.2.mo (by decide) (by decide))
      exact ⟨h, f⟩
    · replace h := h.2 c
      exact fr_X5_elementAt_J13 f h
set_option maxRecDepth 100000 in
theorem fr_X5_refusal_J110 {S0 : MS} {Q : Int32 → MS → Prop} {U110 : MS} (f : cfr [] [] S0 U110) (h : w_X5_refusal_J110 Q U110) : w_X5_refusal_J110 (fun r u => Q r u ∧ cfr [] [] S0 u) U110 := by
  unfold w_X5_refusal_J110 at h ⊢
  intro y1_
  replace h := h y1_
  exact ⟨h, f⟩
set_option maxRecDepth 100000 in
theorem fr_X5_refusal_J94 {S0 : MS} {Q : Int32 → MS → Prop} {k46 k46' : MS → Int32 → Int32 → Int32 → Prop} {U94 : MS} {v94_2 : Int32} {v94_3 : Int32} {v94_4 : Int32} (hk46 : ∀ (u : MS) (z0) (z1) (z2), cfr [] [] S0 u → k46 u z0 z1 z2 → k46' u z0 z1 z2) (f : cfr [] [] S0 U94) (h : w_X5_refusal_J94 Q k46 U94 v94_2 v94_3 v94_4) : w_X5_refusal_J94 (fun r u => Q r u ∧ cfr [] [] S0 u) k46' U94 v94_2 v94_3 v94_4 := by
  unfold w_X5_refusal_J94 at h ⊢
  intro y2_
  replace h := h y2_
  intro a29 ea29 
  replace h := h a29 ea29 
  exact hk46 _ _ _ _ f h
set_option maxRecDepth 100000 in
theorem fr_X5_refusal_L46 {S0 : MS} {Q : Int32 → MS → Prop} : ∀ (n : Nat) {U46 : MS} {v46_2 : Int32} {v46_3 : Int32} {v46_4 : Int32}, cfr [] [] S0 U46 → w_X5_refusal_L46 Q n U46 v46_2 v46_3 v46_4 → w_X5_refusal_L46 (fun r u => Q r u ∧ cfr [] [] S0 u) n U46 v46_2 v46_3 v46_4 := by
  intro n
  induction n with
  | zero => intro U46 v46_2 v46_3 v46_4 f h; unfold w_X5_refusal_L46 at h; exact h.elim
  | succ n ih =>
    intro U46 v46_2 v46_3 v46_4 f h
    unfold w_X5_refusal_L46 at h ⊢
    intro y3_
    replace h := h y3_
    refine ⟨fun c => ?_, fun c => ?_⟩
    · replace h := h.1 c
      refine ⟨fun c => ?_, fun c => ?_⟩
      · replace h := h.1 c
        exact fr_X5_refusal_J110 f h
      · replace h := h.2 c
        refine ⟨fun c => ?_, fun c => ?_⟩
        · replace h := h.1 c
          exact ⟨h, f⟩
        · replace h := h.2 c
          exact fr_X5_refusal_J110 f h
    · replace h := h.2 c
      obtain ⟨Q9, h0, h⟩ := h
      refine ⟨_, frX6_kindAt y3_ h0, ?_⟩
      intro r26 S27 q4_ y5_ y6_
      replace h := h r26 S27 q4_.1 y5_ y6_
      replace f := f.tr (q4_.2.mo (by decide) (by decide))
      refine ⟨fun c => ?_, fun c => ?_⟩
      · replace h := h.1 c
        refine ⟨h.1, ?_⟩
        replace h := h.2
        refine ⟨fun c => ?_, fun c => ?_⟩
        · replace h := h.1 c
          exact fr_X5_refusal_J94 (fun _ _ _ _ f h => ih f h) f h
        · replace h := h.2 c
          refine ⟨h.1, ?_⟩
          replace h := h.2
          refine ⟨h.1, ?_⟩
          replace h := h.2
          refine ⟨fun c => ?_, fun c => ?_⟩
          · replace h := h.1 c
            exact ⟨h, f⟩
          · replace h := h.2 c
            exact fr_X5_refusal_J94 (fun _ _ _ _ f h => ih f h) f h
      · replace h := h.2 c
        exact fr_X5_refusal_J94 (fun _ _ _ _ f h => ih f h) f h
set_option maxRecDepth 100000 in
theorem frX5_refusal {S : MS} {x1 : Int32} {x2 : Int32} {Q : Int32 → MS → Prop} (hw : wfC S) (h : wX5_refusal S x1 x2 Q) : wX5_refusal S x1 x2 (fun r u => Q r u ∧ cfr [] [] S u) := by
  have f : cfr [] [] S S := cfr.rf
  unfold wX5_refusal at h ⊢
  refine ⟨fun c => ?_, fun c => ?_⟩
  · replace h := h.1 c
    exact ⟨h, f⟩
  · replace h := h.2 c
    refine ⟨h.1, ?_⟩
    replace h := h.2
    intro y7_
    replace h := h y7_
    obtain ⟨Q9, h0, h⟩ := h
    refine ⟨_, frX10_rowAt hw h0, ?_⟩
    intro b9 S7 q8_ y9_ y10_ y11_
    replace h := h b9 S7 q8_.1 y9_ y10_ y11_
    replace f := f.tr (q8_.2.mo (by decide) (by decide))
    refine ⟨fun c => ?_, fun c => ?_⟩
    · replace h := h.1 c
      exact ⟨h, f⟩
    · replace h := h.2 c
      refine ⟨h.1, ?_⟩
      replace h := h.2
      refine ⟨h.1, ?_⟩
      replace h := h.2
      intro a16 ea16 
      replace h := h a16 ea16 
      obtain ⟨Q9, h0, h⟩ := h
      refine ⟨_, frX6_kindCount y9_ h0, ?_⟩
      intro r18 S19 q12_ y13_ y14_
      replace h := h r18 S19 q12_.1 y13_ y14_
      replace f := f.tr (q12_.2.mo (by decide) (by decide))
      refine ⟨fun c => ?_, fun c => ?_⟩
      · replace h := h.1 c
        obtain ⟨n9, h⟩ := h
        exact ⟨n9, fr_X5_refusal_L46 n9 f h⟩
      · replace h := h.2 c
        exact ⟨h, f⟩
set_option maxRecDepth 100000 in
theorem frX5_openFrame {S : MS} {x1 : Int32} {Q : MS → Prop} (hw : wfC S) (h : wX5_openFrame S x1 Q) : wX5_openFrame S x1 (fun u => Q u ∧ cfr [217] [(45, 12), (45, 13), (45, 14)] S u) := by
  have f : cfr [217] [(45, 12), (45, 13), (45, 14)] S S := cfr.rf
  unfold wX5_openFrame at h ⊢
  refine ⟨h.1, ?_⟩
  replace h := h.2
  intro y1_
  replace h := h y1_
  obtain ⟨Q9, h0, h⟩ := h
  refine ⟨_, frX10_rowAt hw h0, ?_⟩
  intro b7 S5 q2_ y3_ y4_ y5_
  replace h := h b7 S5 q2_.1 y3_ y4_ y5_
  replace f := f.tr (q2_.2.mo (by decide) (by decide))
  intro S8 eS8 y6_ y7_
  replace h := h S8 eS8 y6_ y7_
  replace f := f.tr (show cfr [217] [(45, 12), (45, 13), (45, 14)] S5 S8 by rw [eS8]; exact cfr.oR y6_ (by decide))
  intro S9 eS9 y8_ y9_
  replace h := h S9 eS9 y8_ y9_
  replace f := f.tr (show cfr [217] [(45, 12), (45, 13), (45, 14)] S8 S9 by rw [eS9]; exact cfr.oI y8_ (by decide))
  intro S10 eS10 y10_ y11_
  replace h := h S10 eS10 y10_ y11_
  replace f := f.tr (show cfr [217] [(45, 12), (45, 13), (45, 14)] S9 S10 by rw [eS10]; exact cfr.oI y10_ (by decide))
  obtain ⟨Q9, h0, h⟩ := h
  refine ⟨_, frX5_setFrame y11_ h0, ?_⟩
  intro S12 q12_ y13_ y14_
  replace h := h S12 q12_.1 y13_ y14_
  replace f := f.tr (q12_.2.mo (by decide) (by decide))
  exact ⟨h, f⟩
set_option maxRecDepth 100000 in
theorem fr_X5_passArguments_J59 {S0 : MS} {Q : MS → Prop} {k4 k4' : MS → Int32 → Int32 → Int32 → Prop} {U59 : MS} {t59_0 : Int32} {t59_1 : Int32} {v59_1 : Int32} {v59_3 : Int32} (hk4 : ∀ (u : MS) (z0) (z1) (z2), cfr [404] [(45, 19)] S0 u → k4 u z0 z1 z2 → k4' u z0 z1 z2) (f : cfr [404] [(45, 19)] S0 U59) (h : w_X5_passArguments_J59 Q k4 U59 t59_0 t59_1 v59_1 v59_3) : w_X5_passArguments_J59 (fun u => Q u ∧ cfr [404] [(45, 19)] S0 u) k4' U59 t59_0 t59_1 v59_1 v59_3 := by
  unfold w_X5_passArguments_J59 at h ⊢
  intro y1_
  replace h := h y1_
  intro a10 ea10 
  replace h := h a10 ea10 
  intro a11 ea11 
  replace h := h a11 ea11 
  exact hk4 _ _ _ _ f h
set_option maxRecDepth 100000 in
theorem fr_X5_passArguments_J44 {S0 : MS} {Q : MS → Prop} {k4 k4' : MS → Int32 → Int32 → Int32 → Prop} {U44 : MS} {t44_0 : Int64} {t44_1 : Int32} {v44_1 : Int32} {v44_2 : Int32} {v44_3 : Int32} {v44_4 : Int32} (hk4 : ∀ (u : MS) (z0) (z1) (z2), cfr [404] [(45, 19)] S0 u → k4 u z0 z1 z2 → k4' u z0 z1 z2) (f : cfr [404] [(45, 19)] S0 U44) (h : w_X5_passArguments_J44 Q k4 U44 t44_0 t44_1 v44_1 v44_2 v44_3 v44_4) : w_X5_passArguments_J44 (fun u => Q u ∧ cfr [404] [(45, 19)] S0 u) k4' U44 t44_0 t44_1 v44_1 v44_2 v44_3 v44_4 := by
  unfold w_X5_passArguments_J44 at h ⊢
  intro y2_
  replace h := h y2_
  obtain ⟨Q9, h0, h⟩ := h
  refine ⟨_, frX5_setLocal y2_ h0, ?_⟩
  intro S7 q3_ y4_ y5_
  replace h := h S7 q3_.1 y4_ y5_
  replace f := f.tr (q3_.2.mo (by decide) (by decide))
  refine ⟨fun c => ?_, fun c => ?_⟩
  · replace h := h.1 c
    exact fr_X5_passArguments_J59 hk4 f h
  · replace h := h.2 c
    exact fr_X5_passArguments_J59 hk4 f h
set_option maxRecDepth 100000 in
theorem fr_X5_passArguments_L4 {S0 : MS} {Q : MS → Prop} : ∀ (n : Nat) {U4 : MS} {v4_1 : Int32} {v4_2 : Int32} {v4_3 : Int32}, cfr [404] [(45, 19)] S0 U4 → w_X5_passArguments_L4 Q n U4 v4_1 v4_2 v4_3 → w_X5_passArguments_L4 (fun u => Q u ∧ cfr [404] [(45, 19)] S0 u) n U4 v4_1 v4_2 v4_3 := by
  intro n
  induction n with
  | zero => intro U4 v4_1 v4_2 v4_3 f h; unfold w_X5_passArguments_L4 at h; exact h.elim
  | succ n ih =>
    intro U4 v4_1 v4_2 v4_3 f h
    unfold w_X5_passArguments_L4 at h ⊢
    intro y6_
    replace h := h y6_
    refine ⟨fun c => ?_, fun c => ?_⟩
    · replace h := h.1 c
      exact ⟨h, f⟩
    · replace h := h.2 c
      obtain ⟨Q9, h0, h⟩ := h
      refine ⟨_, frX6_kindAt y6_ h0, ?_⟩
      intro r3 S4 q7_ y8_ y9_
      replace h := h r3 S4 q7_.1 y8_ y9_
      replace f := f.tr (q7_.2.mo (by decide) (by decide))
      refine ⟨fun c => ?_, fun c => ?_⟩
      · replace h := h.1 c
        refine ⟨h.1, ?_⟩
        replace h := h.2
        exact fr_X5_passArguments_J44 (fun _ _ _ _ f h => ih f h) f h
      · replace h := h.2 c
        refine ⟨h.1, ?_⟩
        replace h := h.2
        exact fr_X5_passArguments_J44 (fun _ _ _ _ f h => ih f h) f h
set_option maxRecDepth 100000 in
theorem frX5_passArguments {S : MS} {x1 : Int32} {Q : MS → Prop} (hw : wfC S) (h : wX5_passArguments S x1 Q) : wX5_passArguments S x1 (fun u => Q u ∧ cfr [404] [(45, 19)] S u) := by
  have f : cfr [404] [(45, 19)] S S := cfr.rf
  unfold wX5_passArguments at h ⊢
  obtain ⟨n9, h⟩ := h
  exact ⟨n9, fr_X5_passArguments_L4 n9 f h⟩
set_option maxRecDepth 100000 in
theorem frX5_isJumpTaken {S : MS} {x1 : Int32} {Q : Int32 → MS → Prop} (hw : wfC S) (h : wX5_isJumpTaken S x1 Q) : wX5_isJumpTaken S x1 (fun r u => Q r u ∧ cfr [] [(45, 14), (45, 19)] S u) := by
  have f : cfr [] [(45, 14), (45, 19)] S S := cfr.rf
  unfold wX5_isJumpTaken at h ⊢
  refine ⟨fun c => ?_, fun c => ?_⟩
  · replace h := h.1 c
    exact ⟨h, f⟩
  · replace h := h.2 c
    obtain ⟨Q9, h0, h⟩ := h
    refine ⟨_, frX5_pop hw h0, ?_⟩
    intro r3 S4 q1_ y2_ y3_
    replace h := h r3 S4 q1_.1 y2_ y3_
    replace f := f.tr (q1_.2.mo (by decide) (by decide))
    refine ⟨fun c => ?_, fun c => ?_⟩
    · replace h := h.1 c
      obtain ⟨Q9, h0, h⟩ := h
      refine ⟨_, frX5_pop y2_ h0, ?_⟩
      intro r7 S8 q4_ y5_ y6_
      replace h := h r7 S8 q4_.1 y5_ y6_
      replace f := f.tr (q4_.2.mo (by decide) (by decide))
      refine ⟨fun c => ?_, fun c => ?_⟩
      · replace h := h.1 c
        exact ⟨h, f⟩
      · replace h := h.2 c
        exact ⟨h, f⟩
    · replace h := h.2 c
      refine ⟨fun c => ?_, fun c => ?_⟩
      · replace h := h.1 c
        obtain ⟨Q9, h0, h⟩ := h
        refine ⟨_, frX5_pop y2_ h0, ?_⟩
        intro r13 S14 q7_ y8_ y9_
        replace h := h r13 S14 q7_.1 y8_ y9_
        replace f := f.tr (q7_.2.mo (by decide) (by decide))
        refine ⟨fun c => ?_, fun c => ?_⟩
        · replace h := h.1 c
          exact ⟨h, f⟩
        · replace h := h.2 c
          exact ⟨h, f⟩
      · replace h := h.2 c
        refine ⟨fun c => ?_, fun c => ?_⟩
        · replace h := h.1 c
          refine ⟨fun c => ?_, fun c => ?_⟩
          · replace h := h.1 c
            exact ⟨h, f⟩
          · replace h := h.2 c
            exact ⟨h, f⟩
        · replace h := h.2 c
          refine ⟨fun c => ?_, fun c => ?_⟩
          · replace h := h.1 c
            refine ⟨fun c => ?_, fun c => ?_⟩
            · replace h := h.1 c
              exact ⟨h, f⟩
            · replace h := h.2 c
              exact ⟨h, f⟩
          · replace h := h.2 c
            refine ⟨fun c => ?_, fun c => ?_⟩
            · replace h := h.1 c
              obtain ⟨Q9, h0, h⟩ := h
              refine ⟨_, frX5_pop y2_ h0, ?_⟩
              intro r24 S25 q10_ y11_ y12_
              replace h := h r24 S25 q10_.1 y11_ y12_
              replace f := f.tr (q10_.2.mo (by decide) (by decide))
              refine ⟨h.1, ?_⟩
              replace h := h.2
              exact ⟨h, f⟩
            · replace h := h.2 c
              refine ⟨h.1, ?_⟩
              replace h := h.2
              exact ⟨h, f⟩
set_option maxRecDepth 100000 in
theorem fr_X5_switchChoice_J67 {S0 : MS} {Q : Int32 → MS → Prop} {U67 : MS} (f : cfr [] [] S0 U67) (h : w_X5_switchChoice_J67 Q U67) : w_X5_switchChoice_J67 (fun r u => Q r u ∧ cfr [] [] S0 u) U67 := by
  unfold w_X5_switchChoice_J67 at h ⊢
  intro y1_
  replace h := h y1_
  exact ⟨h, f⟩
set_option maxRecDepth 100000 in
theorem fr_X5_switchChoice_L80 {S0 : MS} {Q : Int32 → MS → Prop} : ∀ (n : Nat) {U80 : MS} {v80_2 : Int32} {v80_3 : Int32} {v80_4 : Int32} {v80_5 : Int32}, cfr [] [] S0 U80 → w_X5_switchChoice_L80 Q n U80 v80_2 v80_3 v80_4 v80_5 → w_X5_switchChoice_L80 (fun r u => Q r u ∧ cfr [] [] S0 u) n U80 v80_2 v80_3 v80_4 v80_5 := by
  intro n
  induction n with
  | zero => intro U80 v80_2 v80_3 v80_4 v80_5 f h; unfold w_X5_switchChoice_L80 at h; exact h.elim
  | succ n ih =>
    intro U80 v80_2 v80_3 v80_4 v80_5 f h
    unfold w_X5_switchChoice_L80 at h ⊢
    intro y2_
    replace h := h y2_
    refine ⟨fun c => ?_, fun c => ?_⟩
    · replace h := h.1 c
      exact ⟨h, f⟩
    · replace h := h.2 c
      refine ⟨h.1, ?_⟩
      replace h := h.2
      refine ⟨h.1, ?_⟩
      replace h := h.2
      refine ⟨fun c => ?_, fun c => ?_⟩
      · replace h := h.1 c
        exact ⟨h, f⟩
      · replace h := h.2 c
        intro a25 ea25 
        replace h := h a25 ea25 
        exact ih f h
set_option maxRecDepth 100000 in
theorem frX5_switchChoice {S : MS} {x1 : Int32} {x2 : Int32} {Q : Int32 → MS → Prop} (hw : wfC S) (h : wX5_switchChoice S x1 x2 Q) : wX5_switchChoice S x1 x2 (fun r u => Q r u ∧ cfr [] [] S u) := by
  have f : cfr [] [] S S := cfr.rf
  unfold wX5_switchChoice at h ⊢
  refine ⟨h.1, ?_⟩
  replace h := h.2
  refine ⟨h.1, ?_⟩
  replace h := h.2
  intro a6 ea6 
  replace h := h a6 ea6 
  refine ⟨h.1, ?_⟩
  replace h := h.2
  refine ⟨h.1, ?_⟩
  replace h := h.2
  intro a13 ea13 
  replace h := h a13 ea13 
  refine ⟨fun c => ?_, fun c => ?_⟩
  · replace h := h.1 c
    refine ⟨h.1, ?_⟩
    replace h := h.2
    refine ⟨h.1, ?_⟩
    replace h := h.2
    intro a33 ea33 
    replace h := h a33 ea33 
    refine ⟨fun c => ?_, fun c => ?_⟩
    · replace h := h.1 c
      exact fr_X5_switchChoice_J67 f h
    · replace h := h.2 c
      refine ⟨fun c => ?_, fun c => ?_⟩
      · replace h := h.1 c
        exact ⟨h, f⟩
      · replace h := h.2 c
        exact fr_X5_switchChoice_J67 f h
  · replace h := h.2 c
    obtain ⟨n9, h⟩ := h
    exact ⟨n9, fr_X5_switchChoice_L80 n9 f h⟩
set_option maxRecDepth 100000 in
theorem fr_X5_move_J29 {S0 : MS} {Q : MS → Prop} {U29 : MS} {v29_1 : Int32} (f : cfr [404, 405] [(45, 14), (45, 19)] S0 U29) (h : w_X5_move_J29 Q U29 v29_1) : w_X5_move_J29 (fun u => Q u ∧ cfr [404, 405] [(45, 14), (45, 19)] S0 u) U29 v29_1 := by
  unfold w_X5_move_J29 at h ⊢
  intro y1_
  replace h := h y1_
  refine ⟨h.1, ?_⟩
  replace h := h.2
  intro a10 ea10 
  replace h := h a10 ea10 
  refine ⟨h.1, ?_⟩
  replace h := h.2
  refine ⟨h.1, ?_⟩
  replace h := h.2
  intro a16 ea16 
  replace h := h a16 ea16 
  obtain ⟨Q9, h0, h⟩ := h
  refine ⟨_, frX5_push_ y1_ h0, ?_⟩
  intro S18 q2_ y3_ y4_
  replace h := h S18 q2_.1 y3_ y4_
  replace f := f.tr (q2_.2.mo (by decide) (by decide))
  exact ⟨h, f⟩
set_option maxRecDepth 100000 in
theorem frX5_move {S : MS} {x1 : Int32} {Q : MS → Prop} (hw : wfC S) (h : wX5_move S x1 Q) : wX5_move S x1 (fun u => Q u ∧ cfr [404, 405] [(45, 14), (45, 19)] S u) := by
  have f : cfr [404, 405] [(45, 14), (45, 19)] S S := cfr.rf
  unfold wX5_move at h ⊢
  refine ⟨h.1, ?_⟩
  replace h := h.2
  refine ⟨h.1, ?_⟩
  replace h := h.2
  intro a6 ea6 
  replace h := h a6 ea6 
  refine ⟨fun c => ?_, fun c => ?_⟩
  · replace h := h.1 c
    exact fr_X5_move_J29 f h
  · replace h := h.2 c
    refine ⟨fun c => ?_, fun c => ?_⟩
    · replace h := h.1 c
      exact fr_X5_move_J29 f h
    · replace h := h.2 c
      refine ⟨fun c => ?_, fun c => ?_⟩
      · replace h := h.1 c
        exact fr_X5_move_J29 f h
      · replace h := h.2 c
        refine ⟨h.1, ?_⟩
        replace h := h.2
        intro a26 ea26 
        replace h := h a26 ea26 
        refine ⟨fun c => ?_, fun c => ?_⟩
        · replace h := h.1 c
          refine ⟨h.1, ?_⟩
          replace h := h.2
          intro a31 ea31 
          replace h := h a31 ea31 
          refine ⟨fun c => ?_, fun c => ?_⟩
          · replace h := h.1 c
            refine ⟨fun c => ?_, fun c => ?_⟩
            · replace h := h.1 c
              obtain ⟨Q9, h0, h⟩ := h
              refine ⟨_, frX5_localAt hw h0, ?_⟩
              intro r38 S39 q5_ y6_ y7_
              replace h := h r38 S39 q5_.1 y6_ y7_
              replace f := f.tr (q5_.2.mo (by decide) (by decide))
              refine ⟨h.1, ?_⟩
              replace h := h.2
              refine ⟨h.1, ?_⟩
              replace h := h.2
              intro a46 ea46 
              replace h := h a46 ea46 
              obtain ⟨Q9, h0, h⟩ := h
              refine ⟨_, frX5_setLocal y6_ h0, ?_⟩
              intro S49 q8_ y9_ y10_
              replace h := h S49 q8_.1 y9_ y10_
              replace f := f.tr (q8_.2.mo (by decide) (by decide))
              exact ⟨h, f⟩
            · replace h := h.2 c
              refine ⟨fun c => ?_, fun c => ?_⟩
              · replace h := h.1 c
                exact ⟨h, f⟩
              · replace h := h.2 c
                intro S36 eS36 y11_ y12_
                replace h := h S36 eS36 y11_ y12_
                replace f := f.tr (show cfr [404, 405] [(45, 14), (45, 19)] S S36 by rw [eS36]; exact cfr.oI y11_ (by decide))
                exact ⟨h, f⟩
          · replace h := h.2 c
            refine ⟨h.1, ?_⟩
            replace h := h.2
            intro a54 ea54 
            replace h := h a54 ea54 
            obtain ⟨Q9, h0, h⟩ := h
            refine ⟨_, frX5_pop_ hw h0, ?_⟩
            intro r56 S57 q13_ y14_ y15_
            replace h := h r56 S57 q13_.1 y14_ y15_
            replace f := f.tr (q13_.2.mo (by decide) (by decide))
            obtain ⟨Q9, h0, h⟩ := h
            refine ⟨_, frX5_setLocal y14_ h0, ?_⟩
            intro S60 q16_ y17_ y18_
            replace h := h S60 q16_.1 y17_ y18_
            replace f := f.tr (q16_.2.mo (by decide) (by decide))
            exact ⟨h, f⟩
        · replace h := h.2 c
          refine ⟨h.1, ?_⟩
          replace h := h.2
          intro a65 ea65 
          replace h := h a65 ea65 
          obtain ⟨Q9, h0, h⟩ := h
          refine ⟨_, frX5_localAt hw h0, ?_⟩
          intro r67 S68 q19_ y20_ y21_
          replace h := h r67 S68 q19_.1 y20_ y21_
          replace f := f.tr (q19_.2.mo (by decide) (by decide))
          obtain ⟨Q9, h0, h⟩ := h
          refine ⟨_, frX5_push_ y20_ h0, ?_⟩
          intro S71 q22_ y23_ y24_
          replace h := h S71 q22_.1 y23_ y24_
          replace f := f.tr (q22_.2.mo (by decide) (by decide))
          exact ⟨h, f⟩
set_option maxRecDepth 100000 in
theorem fr_X5_enter_J95 {S0 : MS} {Q : MS → Prop} {U95 : MS} (f : cfr [217, 404] [(45, 11), (45, 12), (45, 13), (45, 14), (45, 15), (45, 19)] S0 U95) (h : w_X5_enter_J95 Q U95) : w_X5_enter_J95 (fun u => Q u ∧ cfr [217, 404] [(45, 11), (45, 12), (45, 13), (45, 14), (45, 15), (45, 19)] S0 u) U95 := by
  unfold w_X5_enter_J95 at h ⊢
  intro y1_
  replace h := h y1_
  intro S28 eS28 y2_ y3_
  replace h := h S28 eS28 y2_ y3_
  replace f := f.tr (show cfr [217, 404] [(45, 11), (45, 12), (45, 13), (45, 14), (45, 15), (45, 19)] U95 S28 by rw [eS28]; exact cfr.oI y2_ (by decide))
  intro S30 eS30 y4_ y5_
  replace h := h S30 eS30 y4_ y5_
  replace f := f.tr (show cfr [217, 404] [(45, 11), (45, 12), (45, 13), (45, 14), (45, 15), (45, 19)] S28 S30 by rw [eS30]; exact cfr.oI y4_ (by decide))
  exact ⟨h, f⟩
set_option maxRecDepth 100000 in
theorem frX5_enter {S : MS} {x1 : Int32} {Q : MS → Prop} (hw : wfC S) (h : wX5_enter S x1 Q) : wX5_enter S x1 (fun u => Q u ∧ cfr [217, 404] [(45, 11), (45, 12), (45, 13), (45, 14), (45, 15), (45, 19)] S u) := by
  have f : cfr [217, 404] [(45, 11), (45, 12), (45, 13), (45, 14), (45, 15), (45, 19)] S S := cfr.rf
  unfold wX5_enter at h ⊢
  refine ⟨fun c => ?_, fun c => ?_⟩
  · replace h := h.1 c
    refine ⟨h.1, ?_⟩
    replace h := h.2
    refine ⟨h.1, ?_⟩
    replace h := h.2
    intro a8 ea8 
    replace h := h a8 ea8 
    obtain ⟨Q9, h0, h⟩ := h
    refine ⟨_, frX6_placesOf hw h0, ?_⟩
    intro r10 S11 q6_ y7_ y8_
    replace h := h r10 S11 q6_.1 y7_ y8_
    replace f := f.tr (q6_.2.mo (by decide) (by decide))
    intro a16 ea16 
    replace h := h a16 ea16 
    intro a19 ea19 
    replace h := h a19 ea19 
    refine ⟨h.1, ?_⟩
    replace h := h.2
    intro y9_
    replace h := h y9_
    obtain ⟨Q9, h0, h⟩ := h
    refine ⟨_, frX10_rowAt y7_ h0, ?_⟩
    intro b26 S24 q10_ y11_ y12_ y13_
    replace h := h b26 S24 q10_.1 y11_ y12_ y13_
    replace f := f.tr (q10_.2.mo (by decide) (by decide))
    refine ⟨fun c => ?_, fun c => ?_⟩
    · replace h := h.1 c
      exact fr_X5_enter_J95 f h
    · replace h := h.2 c
      refine ⟨fun c => ?_, fun c => ?_⟩
      · replace h := h.1 c
        exact fr_X5_enter_J95 f h
      · replace h := h.2 c
        refine ⟨fun c => ?_, fun c => ?_⟩
        · replace h := h.1 c
          exact fr_X5_enter_J95 f h
        · replace h := h.2 c
          refine ⟨fun c => ?_, fun c => ?_⟩
          · replace h := h.1 c
            refine ⟨h.1, ?_⟩
            replace h := h.2
            intro S41 eS41 y14_ y15_
            replace h := h S41 eS41 y14_ y15_
            replace f := f.tr (show cfr [217, 404] [(45, 11), (45, 12), (45, 13), (45, 14), (45, 15), (45, 19)] S24 S41 by rw [eS41]; exact cfr.aL y14_ (by decide))
            obtain ⟨Q9, h0, h⟩ := h
            refine ⟨_, frX5_setFrame y15_ h0, ?_⟩
            intro S43 q16_ y17_ y18_
            replace h := h S43 q16_.1 y17_ y18_
            replace f := f.tr (q16_.2.mo (by decide) (by decide))
            obtain ⟨Q9, h0, h⟩ := h
            refine ⟨_, frX5_setFrame y17_ h0, ?_⟩
            intro S47 q19_ y20_ y21_
            replace h := h S47 q19_.1 y20_ y21_
            replace f := f.tr (q19_.2.mo (by decide) (by decide))
            intro S50 eS50 y22_ y23_
            replace h := h S50 eS50 y22_ y23_
            replace f := f.tr (show cfr [217, 404] [(45, 11), (45, 12), (45, 13), (45, 14), (45, 15), (45, 19)] S47 S50 by rw [eS50]; exact cfr.oI y22_ (by decide))
            obtain ⟨Q9, h0, h⟩ := h
            refine ⟨_, frX5_openFrame y23_ h0, ?_⟩
            intro S52 q24_ y25_ y26_
            replace h := h S52 q24_.1 y25_ y26_
            replace f := f.tr (q24_.2.mo (by decide) (by decide))
            exact ⟨h, f⟩
          · replace h := h.2 c
            exact fr_X5_enter_J95 f h
  · replace h := h.2 c
    intro S54 eS54 y27_ y28_
    replace h := h S54 eS54 y27_ y28_
    replace f := f.tr (show cfr [217, 404] [(45, 11), (45, 12), (45, 13), (45, 14), (45, 15), (45, 19)] S S54 by rw [eS54]; exact cfr.oI y27_ (by decide))
    exact ⟨h, f⟩
set_option maxRecDepth 100000 in
theorem frX5_closeFrame {S : MS} {Q : MS → Prop} (hw : wfC S) (h : wX5_closeFrame S Q) : wX5_closeFrame S (fun u => Q u ∧ cfr [] [(45, 11), (45, 12), (45, 13), (45, 14)] S u) := by
  have f : cfr [] [(45, 11), (45, 12), (45, 13), (45, 14)] S S := cfr.rf
  unfold wX5_closeFrame at h ⊢
  intro S3 eS3 y1_ y2_
  replace h := h S3 eS3 y1_ y2_
  replace f := f.tr (show cfr [] [(45, 11), (45, 12), (45, 13), (45, 14)] S S3 by rw [eS3]; exact cfr.oI y1_ (by decide))
  refine ⟨h.1, ?_⟩
  replace h := h.2
  refine ⟨h.1, ?_⟩
  replace h := h.2
  intro y3_
  replace h := h y3_
  obtain ⟨Q9, h0, h⟩ := h
  refine ⟨_, frX10_rowAt y2_ h0, ?_⟩
  intro b13 S11 q4_ y5_ y6_ y7_
  replace h := h b13 S11 q4_.1 y5_ y6_ y7_
  replace f := f.tr (q4_.2.mo (by decide) (by decide))
  intro S14 eS14 y8_ y9_
  replace h := h S14 eS14 y8_ y9_
  replace f := f.tr (show cfr [] [(45, 11), (45, 12), (45, 13), (45, 14)] S11 S14 by rw [eS14]; exact cfr.oR y8_ (by decide))
  refine ⟨h.1, ?_⟩
  replace h := h.2
  intro S18 eS18 y10_ y11_
  replace h := h S18 eS18 y10_ y11_
  replace f := f.tr (show cfr [] [(45, 11), (45, 12), (45, 13), (45, 14)] S14 S18 by rw [eS18]; exact cfr.oI y10_ (by decide))
  refine ⟨h.1, ?_⟩
  replace h := h.2
  intro S22 eS22 y12_ y13_
  replace h := h S22 eS22 y12_ y13_
  replace f := f.tr (show cfr [] [(45, 11), (45, 12), (45, 13), (45, 14)] S18 S22 by rw [eS22]; exact cfr.oI y12_ (by decide))
  exact ⟨h, f⟩
set_option maxRecDepth 100000 in
theorem fr_X5_handlerOf_J64 {S0 : MS} {Q : Int32 → MS → Prop} {k2 k2' : MS → Int32 → Int32 → Prop} {U64 : MS} {v64_1 : Int32} {v64_2 : Int32} (hk2 : ∀ (u : MS) (z0) (z1), cfr [] [] S0 u → k2 u z0 z1 → k2' u z0 z1) (f : cfr [] [] S0 U64) (h : w_X5_handlerOf_J64 Q k2 U64 v64_1 v64_2) : w_X5_handlerOf_J64 (fun r u => Q r u ∧ cfr [] [] S0 u) k2' U64 v64_1 v64_2 := by
  unfold w_X5_handlerOf_J64 at h ⊢
  intro y1_
  replace h := h y1_
  intro a9 ea9 
  replace h := h a9 ea9 
  exact hk2 _ _ _ f h
set_option maxRecDepth 100000 in
theorem fr_X5_handlerOf_J54 {S0 : MS} {Q : Int32 → MS → Prop} {U54 : MS} {v54_2 : Int32} (f : cfr [] [] S0 U54) (h : w_X5_handlerOf_J54 Q U54 v54_2) : w_X5_handlerOf_J54 (fun r u => Q r u ∧ cfr [] [] S0 u) U54 v54_2 := by
  unfold w_X5_handlerOf_J54 at h ⊢
  intro y2_
  replace h := h y2_
  refine ⟨h.1, ?_⟩
  replace h := h.2
  refine ⟨h.1, ?_⟩
  replace h := h.2
  refine ⟨h.1, ?_⟩
  replace h := h.2
  exact ⟨h, f⟩
set_option maxRecDepth 100000 in
theorem fr_X5_handlerOf_L2 {S0 : MS} {Q : Int32 → MS → Prop} : ∀ (n : Nat) {U2 : MS} {v2_1 : Int32} {v2_2 : Int32}, cfr [] [] S0 U2 → w_X5_handlerOf_L2 Q n U2 v2_1 v2_2 → w_X5_handlerOf_L2 (fun r u => Q r u ∧ cfr [] [] S0 u) n U2 v2_1 v2_2 := by
  intro n
  induction n with
  | zero => intro U2 v2_1 v2_2 f h; unfold w_X5_handlerOf_L2 at h; exact h.elim
  | succ n ih =>
    intro U2 v2_1 v2_2 f h
    unfold w_X5_handlerOf_L2 at h ⊢
    intro y3_
    replace h := h y3_
    refine ⟨h.1, ?_⟩
    replace h := h.2
    refine ⟨fun c => ?_, fun c => ?_⟩
    · replace h := h.1 c
      exact ⟨h, f⟩
    · replace h := h.2 c
      refine ⟨h.1, ?_⟩
      replace h := h.2
      refine ⟨h.1, ?_⟩
      replace h := h.2
      refine ⟨fun c => ?_, fun c => ?_⟩
      · replace h := h.1 c
        exact fr_X5_handlerOf_J64 (fun _ _ _ f h => ih f h) f h
      · replace h := h.2 c
        refine ⟨h.1, ?_⟩
        replace h := h.2
        refine ⟨h.1, ?_⟩
        replace h := h.2
        refine ⟨h.1, ?_⟩
        replace h := h.2
        refine ⟨fun c => ?_, fun c => ?_⟩
        · replace h := h.1 c
          exact fr_X5_handlerOf_J54 f h
        · replace h := h.2 c
          refine ⟨h.1, ?_⟩
          replace h := h.2
          refine ⟨h.1, ?_⟩
          replace h := h.2
          refine ⟨h.1, ?_⟩
          replace h := h.2
          refine ⟨fun c => ?_, fun c => ?_⟩
          · replace h := h.1 c
            exact fr_X5_handlerOf_J54 f h
          · replace h := h.2 c
            exact fr_X5_handlerOf_J64 (fun _ _ _ f h => ih f h) f h
set_option maxRecDepth 100000 in
theorem frX5_handlerOf {S : MS} {x1 : Int32} {Q : Int32 → MS → Prop} (hw : wfC S) (h : wX5_handlerOf S x1 Q) : wX5_handlerOf S x1 (fun r u => Q r u ∧ cfr [] [] S u) := by
  have f : cfr [] [] S S := cfr.rf
  unfold wX5_handlerOf at h ⊢
  obtain ⟨n9, h⟩ := h
  exact ⟨n9, fr_X5_handlerOf_L2 n9 f h⟩
set_option maxRecDepth 100000 in
theorem frX7_entryFits {S : MS} {Q : Int32 → MS → Prop} (hw : wfC S) (h : wX7_entryFits S Q) : wX7_entryFits S (fun r u => Q r u ∧ cfr [] [(46, 2), (46, 3)] S u) := by
  have f : cfr [] [(46, 2), (46, 3)] S S := cfr.rf
  unfold wX7_entryFits at h ⊢
  obtain ⟨Q9, h0, h⟩ := h
  refine ⟨_, frX7_isThere hw h0, ?_⟩
  intro r2 S3 q1_ y2_ y3_
  replace h := h r2 S3 q1_.1 y2_ y3_
  replace f := f.tr (q1_.2.mo (by decide) (by decide))
  refine ⟨fun c => ?_, fun c => ?_⟩
  · replace h := h.1 c
    exact ⟨h, f⟩
  · replace h := h.2 c
    refine ⟨h.1, ?_⟩
    replace h := h.2
    intro a9 ea9 
    replace h := h a9 ea9 
    refine ⟨fun c => ?_, fun c => ?_⟩
    · replace h := h.1 c
      obtain ⟨Q9, h0, h⟩ := h
      refine ⟨_, frX7_nameFits y2_ h0, ?_⟩
      intro r29 S30 q4_ y5_ y6_
      replace h := h r29 S30 q4_.1 y5_ y6_
      replace f := f.tr (q4_.2.mo (by decide) (by decide))
      exact ⟨h, f⟩
    · replace h := h.2 c
      refine ⟨h.1, ?_⟩
      replace h := h.2
      intro a14 ea14 
      replace h := h a14 ea14 
      refine ⟨fun c => ?_, fun c => ?_⟩
      · replace h := h.1 c
        obtain ⟨Q9, h0, h⟩ := h
        refine ⟨_, frX7_breaks y2_ h0, ?_⟩
        intro r25 S26 q7_ y8_ y9_
        replace h := h r25 S26 q7_.1 y8_ y9_
        replace f := f.tr (q7_.2.mo (by decide) (by decide))
        exact ⟨h, f⟩
      · replace h := h.2 c
        refine ⟨h.1, ?_⟩
        replace h := h.2
        intro a19 ea19 
        replace h := h a19 ea19 
        obtain ⟨Q9, h0, h⟩ := h
        refine ⟨_, frX7_isThere y2_ h0, ?_⟩
        intro r21 S22 q10_ y11_ y12_
        replace h := h r21 S22 q10_.1 y11_ y12_
        replace f := f.tr (q10_.2.mo (by decide) (by decide))
        exact ⟨h, f⟩
set_option maxRecDepth 100000 in
theorem fr_X7_membersFit_L49 {S0 : MS} {Q : Int32 → MS → Prop} : ∀ (n : Nat) {U49 : MS} {v49_1 : Int32} {v49_2 : Int32} {v49_3 : Int32}, cfr [219] [(46, 2), (46, 3), (46, 15)] S0 U49 → w_X7_membersFit_L49 Q n U49 v49_1 v49_2 v49_3 → w_X7_membersFit_L49 (fun r u => Q r u ∧ cfr [219] [(46, 2), (46, 3), (46, 15)] S0 u) n U49 v49_1 v49_2 v49_3 := by
  intro n
  induction n with
  | zero => intro U49 v49_1 v49_2 v49_3 f h; unfold w_X7_membersFit_L49 at h; exact h.elim
  | succ n ih =>
    intro U49 v49_1 v49_2 v49_3 f h
    unfold w_X7_membersFit_L49 at h ⊢
    intro y1_
    replace h := h y1_
    refine ⟨fun c => ?_, fun c => ?_⟩
    · replace h := h.1 c
      exact ⟨h, f⟩
    · replace h := h.2 c
      refine ⟨fun c => ?_, fun c => ?_⟩
      · replace h := h.1 c
        exact ⟨h, f⟩
      · replace h := h.2 c
        refine ⟨h.1, ?_⟩
        replace h := h.2
        intro S17 eS17 y2_ y3_
        replace h := h S17 eS17 y2_ y3_
        replace f := f.tr (show cfr [219] [(46, 2), (46, 3), (46, 15)] U49 S17 by rw [eS17]; exact cfr.aI y2_ (by decide))
        obtain ⟨Q9, h0, h⟩ := h
        refine ⟨_, frX7_isThere y3_ h0, ?_⟩
        intro r19 S20 q4_ y5_ y6_
        replace h := h r19 S20 q4_.1 y5_ y6_
        replace f := f.tr (q4_.2.mo (by decide) (by decide))
        refine ⟨fun c => ?_, fun c => ?_⟩
        · replace h := h.1 c
          exact ⟨h, f⟩
        · replace h := h.2 c
          intro S24 eS24 y7_ y8_
          replace h := h S24 eS24 y7_ y8_
          replace f := f.tr (show cfr [219] [(46, 2), (46, 3), (46, 15)] S20 S24 by rw [eS24]; exact cfr.oI y7_ (by decide))
          obtain ⟨Q9, h0, h⟩ := h
          refine ⟨_, frX7_attributesFit y8_ h0, ?_⟩
          intro r26 S27 q9_ y10_ y11_
          replace h := h r26 S27 q9_.1 y10_ y11_
          replace f := f.tr (q9_.2.mo (by decide) (by decide))
          refine ⟨fun c => ?_, fun c => ?_⟩
          · replace h := h.1 c
            exact ⟨h, f⟩
          · replace h := h.2 c
            intro a30 ea30 
            replace h := h a30 ea30 
            exact ih f h
set_option maxRecDepth 100000 in
theorem frX7_membersFit {S : MS} {x1 : Int32} {Q : Int32 → MS → Prop} (hw : wfC S) (h : wX7_membersFit S x1 Q) : wX7_membersFit S x1 (fun r u => Q r u ∧ cfr [219] [(46, 2), (46, 3), (46, 15)] S u) := by
  have f : cfr [219] [(46, 2), (46, 3), (46, 15)] S S := cfr.rf
  unfold wX7_membersFit at h ⊢
  obtain ⟨Q9, h0, h⟩ := h
  refine ⟨_, frX7_isThere hw h0, ?_⟩
  intro r2 S3 q12_ y13_ y14_
  replace h := h r2 S3 q12_.1 y13_ y14_
  replace f := f.tr (q12_.2.mo (by decide) (by decide))
  refine ⟨fun c => ?_, fun c => ?_⟩
  · replace h := h.1 c
    exact ⟨h, f⟩
  · replace h := h.2 c
    refine ⟨h.1, ?_⟩
    replace h := h.2
    intro a9 ea9 
    replace h := h a9 ea9 
    refine ⟨fun c => ?_, fun c => ?_⟩
    · replace h := h.1 c
      intro S12 eS12 y15_ y16_
      replace h := h S12 eS12 y15_ y16_
      replace f := f.tr (show cfr [219] [(46, 2), (46, 3), (46, 15)] S3 S12 by rw [eS12]; exact cfr.oI y15_ (by decide))
      obtain ⟨n9, h⟩ := h
      exact ⟨n9, fr_X7_membersFit_L49 n9 f h⟩
    · replace h := h.2 c
      obtain ⟨Q9, h0, h⟩ := h
      refine ⟨_, frX7_breaks y13_ h0, ?_⟩
      intro r32 S33 q17_ y18_ y19_
      replace h := h r32 S33 q17_.1 y18_ y19_
      replace f := f.tr (q17_.2.mo (by decide) (by decide))
      exact ⟨h, f⟩
set_option maxRecDepth 100000 in
theorem frX7_fileAttributesFit {S : MS} {Q : Int32 → MS → Prop} (hw : wfC S) (h : wX7_fileAttributesFit S Q) : wX7_fileAttributesFit S (fun r u => Q r u ∧ cfr [] [(46, 2), (46, 3), (46, 15), (46, 16)] S u) := by
  have f : cfr [] [(46, 2), (46, 3), (46, 15), (46, 16)] S S := cfr.rf
  unfold wX7_fileAttributesFit at h ⊢
  intro S1 eS1 y1_ y2_
  replace h := h S1 eS1 y1_ y2_
  replace f := f.tr (show cfr [] [(46, 2), (46, 3), (46, 15), (46, 16)] S S1 by rw [eS1]; exact cfr.oI y1_ (by decide))
  obtain ⟨Q9, h0, h⟩ := h
  refine ⟨_, frX7_attributesFit y2_ h0, ?_⟩
  intro r3 S4 q3_ y4_ y5_
  replace h := h r3 S4 q3_.1 y4_ y5_
  replace f := f.tr (q3_.2.mo (by decide) (by decide))
  exact ⟨h, f⟩
set_option maxRecDepth 100000 in
theorem fr_X7_entriesPoint_L2 {S0 : MS} {Q : Int32 → MS → Prop} : ∀ (n : Nat) {U2 : MS} {v2_1 : Int32}, cfr [] [(46, 2), (46, 3)] S0 U2 → w_X7_entriesPoint_L2 Q n U2 v2_1 → w_X7_entriesPoint_L2 (fun r u => Q r u ∧ cfr [] [(46, 2), (46, 3)] S0 u) n U2 v2_1 := by
  intro n
  induction n with
  | zero => intro U2 v2_1 f h; unfold w_X7_entriesPoint_L2 at h; exact h.elim
  | succ n ih =>
    intro U2 v2_1 f h
    unfold w_X7_entriesPoint_L2 at h ⊢
    intro y1_
    replace h := h y1_
    refine ⟨fun c => ?_, fun c => ?_⟩
    · replace h := h.1 c
      exact ⟨h, f⟩
    · replace h := h.2 c
      obtain ⟨Q9, h0, h⟩ := h
      refine ⟨_, frX7_entryPoints y1_ h0, ?_⟩
      intro r3 S4 q2_ y3_ y4_
      replace h := h r3 S4 q2_.1 y3_ y4_
      replace f := f.tr (q2_.2.mo (by decide) (by decide))
      refine ⟨fun c => ?_, fun c => ?_⟩
      · replace h := h.1 c
        refine ⟨h.1, ?_⟩
        replace h := h.2
        obtain ⟨Q9, h0, h⟩ := h
        refine ⟨_, frX7_breaks y3_ h0, ?_⟩
        intro r12 S13 q5_ y6_ y7_
        replace h := h r12 S13 q5_.1 y6_ y7_
        replace f := f.tr (q5_.2.mo (by decide) (by decide))
        exact ⟨h, f⟩
      · replace h := h.2 c
        intro a7 ea7 
        replace h := h a7 ea7 
        exact ih f h
set_option maxRecDepth 100000 in
theorem frX7_entriesPoint {S : MS} {Q : Int32 → MS → Prop} (hw : wfC S) (h : wX7_entriesPoint S Q) : wX7_entriesPoint S (fun r u => Q r u ∧ cfr [] [(46, 2), (46, 3)] S u) := by
  have f : cfr [] [(46, 2), (46, 3)] S S := cfr.rf
  unfold wX7_entriesPoint at h ⊢
  obtain ⟨n9, h⟩ := h
  exact ⟨n9, fr_X7_entriesPoint_L2 n9 f h⟩
set_option maxRecDepth 100000 in
theorem fr_X7_namesHold_L2 {S0 : MS} {Q : Int32 → MS → Prop} : ∀ (n : Nat) {U2 : MS} {v2_1 : Int32}, cfr [] [(46, 2), (46, 3)] S0 U2 → w_X7_namesHold_L2 Q n U2 v2_1 → w_X7_namesHold_L2 (fun r u => Q r u ∧ cfr [] [(46, 2), (46, 3)] S0 u) n U2 v2_1 := by
  intro n
  induction n with
  | zero => intro U2 v2_1 f h; unfold w_X7_namesHold_L2 at h; exact h.elim
  | succ n ih =>
    intro U2 v2_1 f h
    unfold w_X7_namesHold_L2 at h ⊢
    intro y1_
    replace h := h y1_
    refine ⟨fun c => ?_, fun c => ?_⟩
    · replace h := h.1 c
      obtain ⟨Q9, h0, h⟩ := h
      refine ⟨_, frX7_attributeNamesHold y1_ h0, ?_⟩
      intro r4 S5 q2_ y3_ y4_
      replace h := h r4 S5 q2_.1 y3_ y4_
      replace f := f.tr (q2_.2.mo (by decide) (by decide))
      exact ⟨h, f⟩
    · replace h := h.2 c
      refine ⟨h.1, ?_⟩
      replace h := h.2
      intro a10 ea10 
      replace h := h a10 ea10 
      obtain ⟨Q9, h0, h⟩ := h
      refine ⟨_, frX7_isNameAt y1_ h0, ?_⟩
      intro r13 S14 q5_ y6_ y7_
      replace h := h r13 S14 q5_.1 y6_ y7_
      replace f := f.tr (q5_.2.mo (by decide) (by decide))
      refine ⟨fun c => ?_, fun c => ?_⟩
      · replace h := h.1 c
        exact ⟨h, f⟩
      · replace h := h.2 c
        obtain ⟨Q9, h0, h⟩ := h
        refine ⟨_, frX7_isNameAt y6_ h0, ?_⟩
        intro r19 S20 q8_ y9_ y10_
        replace h := h r19 S20 q8_.1 y9_ y10_
        replace f := f.tr (q8_.2.mo (by decide) (by decide))
        refine ⟨fun c => ?_, fun c => ?_⟩
        · replace h := h.1 c
          exact ⟨h, f⟩
        · replace h := h.2 c
          obtain ⟨Q9, h0, h⟩ := h
          refine ⟨_, frX7_attributeNamesHold y9_ h0, ?_⟩
          intro r25 S26 q11_ y12_ y13_
          replace h := h r25 S26 q11_.1 y12_ y13_
          replace f := f.tr (q11_.2.mo (by decide) (by decide))
          refine ⟨fun c => ?_, fun c => ?_⟩
          · replace h := h.1 c
            exact ⟨h, f⟩
          · replace h := h.2 c
            intro a29 ea29 
            replace h := h a29 ea29 
            exact ih f h
set_option maxRecDepth 100000 in
theorem frX7_namesHold {S : MS} {Q : Int32 → MS → Prop} (hw : wfC S) (h : wX7_namesHold S Q) : wX7_namesHold S (fun r u => Q r u ∧ cfr [] [(46, 2), (46, 3)] S u) := by
  have f : cfr [] [(46, 2), (46, 3)] S S := cfr.rf
  unfold wX7_namesHold at h ⊢
  obtain ⟨n9, h⟩ := h
  exact ⟨n9, fr_X7_namesHold_L2 n9 f h⟩
set_option maxRecDepth 100000 in
theorem fr_X8_remove_J232 {S0 : MS} {Q : MS → Prop} {k138 k138' : MS → Nat → Int32 → Int32 → Int32 → Int32 → Prop} {U232 : MS} {v232_0 : Nat} {v232_1 : Int32} {v232_2 : Int32} {v232_3 : Int32} {v232_4 : Int32} (hk138 : ∀ (u : MS) (z0) (z1) (z2) (z3) (z4), cfr [222, 223, 224, 225, 226, 227, 406] [(47, 2), (47, 9)] S0 u → k138 u z0 z1 z2 z3 z4 → k138' u z0 z1 z2 z3 z4) (f : cfr [222, 223, 224, 225, 226, 227, 406] [(47, 2), (47, 9)] S0 U232) (h : w_X8_remove_J232 Q k138 U232 v232_0 v232_1 v232_2 v232_3 v232_4) : w_X8_remove_J232 (fun u => Q u ∧ cfr [222, 223, 224, 225, 226, 227, 406] [(47, 2), (47, 9)] S0 u) k138' U232 v232_0 v232_1 v232_2 v232_3 v232_4 := by
  unfold w_X8_remove_J232 at h ⊢
  intro y1_ y2_
  replace h := h y1_ y2_
  intro a28 ea28 
  replace h := h a28 ea28 
  exact hk138 _ _ _ _ _ _ f h
set_option maxRecDepth 100000 in
theorem fr_X8_remove_L138 {S0 : MS} {Q : MS → Prop} : ∀ (n : Nat) {U138 : MS} {v138_0 : Nat} {v138_1 : Int32} {v138_2 : Int32} {v138_3 : Int32} {v138_4 : Int32}, cfr [222, 223, 224, 225, 226, 227, 406] [(47, 2), (47, 9)] S0 U138 → w_X8_remove_L138 Q n U138 v138_0 v138_1 v138_2 v138_3 v138_4 → w_X8_remove_L138 (fun u => Q u ∧ cfr [222, 223, 224, 225, 226, 227, 406] [(47, 2), (47, 9)] S0 u) n U138 v138_0 v138_1 v138_2 v138_3 v138_4 := by
  intro n
  induction n with
  | zero => intro U138 v138_0 v138_1 v138_2 v138_3 v138_4 f h; unfold w_X8_remove_L138 at h; exact h.elim
  | succ n ih =>
    intro U138 v138_0 v138_1 v138_2 v138_3 v138_4 f h
    unfold w_X8_remove_L138 at h ⊢
    intro y3_ y4_
    replace h := h y3_ y4_
    refine ⟨fun c => ?_, fun c => ?_⟩
    · replace h := h.1 c
      intro S11 eS11 y5_ y6_
      replace h := h S11 eS11 y5_ y6_
      replace f := f.tr (show cfr [222, 223, 224, 225, 226, 227, 406] [(47, 2), (47, 9)] U138 S11 by rw [eS11]; exact cfr.oI y5_ (by decide))
      exact ⟨h, f⟩
    · replace h := h.2 c
      refine ⟨h.1, ?_⟩
      replace h := h.2
      refine ⟨h.1, ?_⟩
      replace h := h.2
      refine ⟨h.1, ?_⟩
      replace h := h.2
      intro a19 ea19 
      replace h := h a19 ea19 
      refine ⟨h.1, ?_⟩
      replace h := h.2
      refine ⟨h.1, ?_⟩
      replace h := h.2
      refine ⟨h.1, ?_⟩
      replace h := h.2
      intro a27 ea27 
      replace h := h a27 ea27 
      refine ⟨fun c => ?_, fun c => ?_⟩
      · replace h := h.1 c
        exact fr_X8_remove_J232 (fun _ _ _ _ _ _ f h => ih f h) f h
      · replace h := h.2 c
        refine ⟨h.1, ?_⟩
        replace h := h.2
        refine ⟨h.1, ?_⟩
        replace h := h.2
        intro S33 eS33 y7_ y8_
        replace h := h S33 eS33 y7_ y8_
        replace f := f.tr (show cfr [222, 223, 224, 225, 226, 227, 406] [(47, 2), (47, 9)] U138 S33 by rw [eS33]; exact cfr.aI y7_ (by decide))
        refine ⟨h.1, ?_⟩
        replace h := h.2
        refine ⟨h.1, ?_⟩
        replace h := h.2
        intro S37 eS37 y9_ y10_
        replace h := h S37 eS37 y9_ y10_
        replace f := f.tr (show cfr [222, 223, 224, 225, 226, 227, 406] [(47, 2), (47, 9)] S33 S37 by rw [eS37]; exact cfr.aI y9_ (by decide))
        refine ⟨h.1, ?_⟩
        replace h := h.2
        refine ⟨h.1, ?_⟩
        replace h := h.2
        refine ⟨h.1, ?_⟩
        replace h := h.2
        refine ⟨h.1, ?_⟩
        replace h := h.2
        intro a47 ea47 
        replace h := h a47 ea47 
        refine ⟨h.1, ?_⟩
        replace h := h.2
        intro S49 eS49 y11_ y12_
        replace h := h S49 eS49 y11_ y12_
        replace f := f.tr (show cfr [222, 223, 224, 225, 226, 227, 406] [(47, 2), (47, 9)] S37 S49 by rw [eS49]; exact cfr.aI y11_ (by decide))
        refine ⟨h.1, ?_⟩
        replace h := h.2
        refine ⟨h.1, ?_⟩
        replace h := h.2
        refine ⟨h.1, ?_⟩
        replace h := h.2
        refine ⟨h.1, ?_⟩
        replace h := h.2
        intro S57 eS57 y13_ y14_
        replace h := h S57 eS57 y13_ y14_
        replace f := f.tr (show cfr [222, 223, 224, 225, 226, 227, 406] [(47, 2), (47, 9)] S49 S57 by rw [eS57]; exact cfr.aI y13_ (by decide))
        intro a58 ea58 
        replace h := h a58 ea58 
        exact fr_X8_remove_J232 (fun _ _ _ _ _ _ f h => ih f h) f h
set_option maxRecDepth 100000 in
theorem fr_X8_remove_L95 {S0 : MS} {Q : MS → Prop} {k77 k77' : MS → Nat → Int32 → Int32 → Int32 → Prop} (hk77 : ∀ (u : MS) (z0) (z1) (z2) (z3), cfr [222, 223, 224, 225, 226, 227, 406] [(47, 2), (47, 9)] S0 u → k77 u z0 z1 z2 z3 → k77' u z0 z1 z2 z3) : ∀ (n : Nat) {U95 : MS} {v95_0 : Nat} {v95_1 : Int32} {v95_2 : Int32} {v95_3 : Int32} {v95_4 : Int32} {v95_5 : Int32}, cfr [222, 223, 224, 225, 226, 227, 406] [(47, 2), (47, 9)] S0 U95 → w_X8_remove_L95 Q k77 n U95 v95_0 v95_1 v95_2 v95_3 v95_4 v95_5 → w_X8_remove_L95 (fun u => Q u ∧ cfr [222, 223, 224, 225, 226, 227, 406] [(47, 2), (47, 9)] S0 u) k77' n U95 v95_0 v95_1 v95_2 v95_3 v95_4 v95_5 := by
  intro n
  induction n with
  | zero => intro U95 v95_0 v95_1 v95_2 v95_3 v95_4 v95_5 f h; unfold w_X8_remove_L95 at h; exact h.elim
  | succ n ih =>
    intro U95 v95_0 v95_1 v95_2 v95_3 v95_4 v95_5 f h
    unfold w_X8_remove_L95 at h ⊢
    intro y15_ y16_
    replace h := h y15_ y16_
    refine ⟨fun c => ?_, fun c => ?_⟩
    · replace h := h.1 c
      intro a64 ea64 
      replace h := h a64 ea64 
      exact hk77 _ _ _ _ _ f h
    · replace h := h.2 c
      refine ⟨h.1, ?_⟩
      replace h := h.2
      intro a68 ea68 
      replace h := h a68 ea68 
      refine ⟨h.1, ?_⟩
      replace h := h.2
      intro a72 ea72 
      replace h := h a72 ea72 
      intro y17_
      replace h := h y17_
      obtain ⟨Q9, h0, h⟩ := h
      refine ⟨_, frX8_setTarget y15_ h0, ?_⟩
      intro S74 q18_ y19_ y20_
      replace h := h S74 q18_.1 y19_ y20_
      replace f := f.tr (q18_.2.mo (by decide) (by decide))
      intro a76 ea76 
      replace h := h a76 ea76 
      exact ih f h
set_option maxRecDepth 100000 in
theorem fr_X8_remove_L77 {S0 : MS} {Q : MS → Prop} : ∀ (n : Nat) {U77 : MS} {v77_0 : Nat} {v77_1 : Int32} {v77_2 : Int32} {v77_3 : Int32}, cfr [222, 223, 224, 225, 226, 227, 406] [(47, 2), (47, 9)] S0 U77 → w_X8_remove_L77 Q n U77 v77_0 v77_1 v77_2 v77_3 → w_X8_remove_L77 (fun u => Q u ∧ cfr [222, 223, 224, 225, 226, 227, 406] [(47, 2), (47, 9)] S0 u) n U77 v77_0 v77_1 v77_2 v77_3 := by
  intro n
  induction n with
  | zero => intro U77 v77_0 v77_1 v77_2 v77_3 f h; unfold w_X8_remove_L77 at h; exact h.elim
  | succ n ih =>
    intro U77 v77_0 v77_1 v77_2 v77_3 f h
    unfold w_X8_remove_L77 at h ⊢
    intro y21_ y22_
    replace h := h y21_ y22_
    refine ⟨fun c => ?_, fun c => ?_⟩
    · replace h := h.1 c
      obtain ⟨n9, h⟩ := h
      exact ⟨n9, fr_X8_remove_L138 n9 f h⟩
    · replace h := h.2 c
      refine ⟨h.1, ?_⟩
      replace h := h.2
      intro a62 ea62 
      replace h := h a62 ea62 
      obtain ⟨n9, h⟩ := h
      exact ⟨n9, fr_X8_remove_L95 (fun _ _ _ _ _ f h => ih f h) n9 f h⟩
set_option maxRecDepth 100000 in
theorem fr_X8_remove_L21 {S0 : MS} {Q : MS → Prop} : ∀ (n : Nat) {U21 : MS} {v21_0 : Nat} {v21_1 : Int32} {v21_2 : Int32} {v21_3 : Int32}, cfr [222, 223, 224, 225, 226, 227, 406] [(47, 2), (47, 9)] S0 U21 → w_X8_remove_L21 Q n U21 v21_0 v21_1 v21_2 v21_3 → w_X8_remove_L21 (fun u => Q u ∧ cfr [222, 223, 224, 225, 226, 227, 406] [(47, 2), (47, 9)] S0 u) n U21 v21_0 v21_1 v21_2 v21_3 := by
  intro n
  induction n with
  | zero => intro U21 v21_0 v21_1 v21_2 v21_3 f h; unfold w_X8_remove_L21 at h; exact h.elim
  | succ n ih =>
    intro U21 v21_0 v21_1 v21_2 v21_3 f h
    unfold w_X8_remove_L21 at h ⊢
    intro y23_ y24_
    replace h := h y23_ y24_
    refine ⟨fun c => ?_, fun c => ?_⟩
    · replace h := h.1 c
      intro S8 eS8 y25_ y26_
      replace h := h S8 eS8 y25_ y26_
      replace f := f.tr (show cfr [222, 223, 224, 225, 226, 227, 406] [(47, 2), (47, 9)] U21 S8 by rw [eS8]; exact cfr.oI y25_ (by decide))
      obtain ⟨n9, h⟩ := h
      exact ⟨n9, fr_X8_remove_L77 n9 f h⟩
    · replace h := h.2 c
      refine ⟨h.1, ?_⟩
      replace h := h.2
      refine ⟨h.1, ?_⟩
      replace h := h.2
      refine ⟨h.1, ?_⟩
      replace h := h.2
      refine ⟨h.1, ?_⟩
      replace h := h.2
      intro S85 eS85 y27_ y28_
      replace h := h S85 eS85 y27_ y28_
      replace f := f.tr (show cfr [222, 223, 224, 225, 226, 227, 406] [(47, 2), (47, 9)] U21 S85 by rw [eS85]; exact cfr.aI y27_ (by decide))
      refine ⟨h.1, ?_⟩
      replace h := h.2
      refine ⟨h.1, ?_⟩
      replace h := h.2
      refine ⟨h.1, ?_⟩
      replace h := h.2
      refine ⟨h.1, ?_⟩
      replace h := h.2
      intro S94 eS94 y29_ y30_
      replace h := h S94 eS94 y29_ y30_
      replace f := f.tr (show cfr [222, 223, 224, 225, 226, 227, 406] [(47, 2), (47, 9)] S85 S94 by rw [eS94]; exact cfr.aJ y29_ (by decide))
      intro a95 ea95 
      replace h := h a95 ea95 
      exact ih f h
set_option maxRecDepth 100000 in
theorem frX8_remove {S : MS} {p0 : Nat} {x1 : Int32} {x2 : Int32} {Q : MS → Prop} (hw : wfC S) (h : wX8_remove S p0 x1 x2 Q) : wX8_remove S p0 x1 x2 (fun u => Q u ∧ cfr [222, 223, 224, 225, 226, 227, 406] [(47, 2), (47, 9)] S u) := by
  have f : cfr [222, 223, 224, 225, 226, 227, 406] [(47, 2), (47, 9)] S S := cfr.rf
  unfold wX8_remove at h ⊢
  refine ⟨fun c => ?_, fun c => ?_⟩
  · replace h := h.1 c
    exact ⟨h, f⟩
  · replace h := h.2 c
    refine ⟨fun c => ?_, fun c => ?_⟩
    · replace h := h.1 c
      exact ⟨h, f⟩
    · replace h := h.2 c
      refine ⟨fun c => ?_, fun c => ?_⟩
      · replace h := h.1 c
        obtain ⟨n9, h⟩ := h
        exact ⟨n9, fr_X8_remove_L21 n9 f h⟩
      · replace h := h.2 c
        exact ⟨h, f⟩
