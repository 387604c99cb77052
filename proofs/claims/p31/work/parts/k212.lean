set_option maxRecDepth 100000 in
theorem fr_stage_L43 {S0 : MS} {Q : Int32 → MS → Prop} : ∀ (n : Nat) {U43 : MS} {v43_2 : Int32}, frm [37, 38] [80, 85, 86] S0 U43 → w_stage_L43 Q n U43 v43_2 → w_stage_L43 (fun r u => Q r u ∧ frm [37, 38] [80, 85, 86] S0 u) n U43 v43_2 := by
  intro n
  induction n with
  | zero => intro U43 v43_2 f h; unfold w_stage_L43 at h; exact h.elim
  | succ n ih =>
    intro U43 v43_2 f h
    unfold w_stage_L43 at h ⊢
    refine ⟨fun c => ?_, fun c => ?_⟩
    · replace h := h.1 c
      intro S12 eS12
      replace h := h S12 eS12
      replace f := f.tr (show frm [37, 38] [80, 85, 86] U43 S12 by rw [eS12]; exact frm.pI0 (by decide))
      intro S13 eS13
      replace h := h S13 eS13
      replace f := f.tr (show frm [37, 38] [80, 85, 86] S12 S13 by rw [eS13]; exact frm.pI0 (by decide))
      exact ⟨h, f⟩
    · replace h := h.2 c
      refine ⟨h.1, ?_⟩
      replace h := h.2
      intro S15 eS15
      replace h := h S15 eS15
      replace f := f.tr (show frm [37, 38] [80, 85, 86] U43 S15 by rw [eS15]; exact frm.pI (by decide))
      intro a16 ea16
      replace h := h a16 ea16
      exact ih f h
set_option maxRecDepth 100000 in
theorem fr_stage_L22 {S0 : MS} {Q : Int32 → MS → Prop} : ∀ (n : Nat) {U22 : MS} {v22_2 : Int32}, frm [37, 38] [80, 85, 86] S0 U22 → w_stage_L22 Q n U22 v22_2 → w_stage_L22 (fun r u => Q r u ∧ frm [37, 38] [80, 85, 86] S0 u) n U22 v22_2 := by
  intro n
  induction n with
  | zero => intro U22 v22_2 f h; unfold w_stage_L22 at h; exact h.elim
  | succ n ih =>
    intro U22 v22_2 f h
    unfold w_stage_L22 at h ⊢
    refine ⟨fun c => ?_, fun c => ?_⟩
    · replace h := h.1 c
      obtain ⟨n9, h⟩ := h
      exact ⟨n9, fr_stage_L43 n9 f h⟩
    · replace h := h.2 c
      refine ⟨h.1, ?_⟩
      replace h := h.2
      intro S18 eS18
      replace h := h S18 eS18
      replace f := f.tr (show frm [37, 38] [80, 85, 86] U22 S18 by rw [eS18]; exact frm.pJ (by decide))
      intro a19 ea19
      replace h := h a19 ea19
      exact ih f h
set_option maxRecDepth 100000 in
theorem fr_stage {S : MS} {x1 : Int32} {Q : Int32 → MS → Prop} (h : w_stage S x1 Q) : w_stage S x1 (fun r u => Q r u ∧ frm [37, 38] [80, 85, 86] S u) := by
  have f : frm [37, 38] [80, 85, 86] S S := frm.rf
  unfold w_stage at h ⊢
  obtain ⟨Q9, h0, h⟩ := h
  refine ⟨_, fr_isRight h0, ?_⟩
  · intro r2 S3 hq
    replace h := h r2 S3 hq.1
    replace f := f.tr (hq.2.mo (by decide) (by decide))
    refine ⟨fun c => ?_, fun c => ?_⟩
    · replace h := h.1 c
      exact ⟨h, f⟩
    · replace h := h.2 c
      refine ⟨h.1, ?_⟩
      replace h := h.2
      refine ⟨h.1, ?_⟩
      replace h := h.2
      intro S9 eS9
      replace h := h S9 eS9
      replace f := f.tr (show frm [37, 38] [80, 85, 86] S3 S9 by rw [eS9]; exact frm.pR0 (by decide))
      obtain ⟨n9, h⟩ := h
      exact ⟨n9, fr_stage_L22 n9 f h⟩
set_option maxRecDepth 100000 in
theorem fr_take {S : MS} {x1 : Int32} {Q : MS → Prop} (h : w_take S x1 Q) : w_take S x1 (fun u => Q u ∧ frm [] [36, 37] S u) := by
  have f : frm [] [36, 37] S S := frm.rf
  unfold w_take at h ⊢
  refine ⟨h.1, ?_⟩
  replace h := h.2
  intro S3 eS3
  replace h := h S3 eS3
  replace f := f.tr (show frm [] [36, 37] S S3 by rw [eS3]; exact frm.pI0 (by decide))
  refine ⟨h.1, ?_⟩
  replace h := h.2
  intro S6 eS6
  replace h := h S6 eS6
  replace f := f.tr (show frm [] [36, 37] S3 S6 by rw [eS6]; exact frm.pI0 (by decide))
  exact ⟨h, f⟩
set_option maxRecDepth 100000 in
theorem fr_takeMethod_L80 {S0 : MS} {Q : MS → Prop} : ∀ (n : Nat) {U80 : MS} {v80_3 : Int32}, frm [78, 79, 80, 81, 82, 83, 84, 85, 86] [47, 48, 49, 50, 51, 52, 53, 54, 129, 135] S0 U80 → w_takeMethod_L80 Q n U80 v80_3 → w_takeMethod_L80 (fun u => Q u ∧ frm [78, 79, 80, 81, 82, 83, 84, 85, 86] [47, 48, 49, 50, 51, 52, 53, 54, 129, 135] S0 u) n U80 v80_3 := by
  intro n
  induction n with
  | zero => intro U80 v80_3 f h; unfold w_takeMethod_L80 at h; exact h.elim
  | succ n ih =>
    intro U80 v80_3 f h
    unfold w_takeMethod_L80 at h ⊢
    refine ⟨fun c => ?_, fun c => ?_⟩
    · replace h := h.1 c
      exact ⟨h, f⟩
    · replace h := h.2 c
      refine ⟨h.1, ?_⟩
      replace h := h.2
      refine ⟨h.1, ?_⟩
      replace h := h.2
      intro S12 eS12
      replace h := h S12 eS12
      replace f := f.tr (show frm [78, 79, 80, 81, 82, 83, 84, 85, 86] [47, 48, 49, 50, 51, 52, 53, 54, 129, 135] U80 S12 by rw [eS12]; exact frm.pI (by decide))
      refine ⟨h.1, ?_⟩
      replace h := h.2
      refine ⟨h.1, ?_⟩
      replace h := h.2
      intro S17 eS17
      replace h := h S17 eS17
      replace f := f.tr (show frm [78, 79, 80, 81, 82, 83, 84, 85, 86] [47, 48, 49, 50, 51, 52, 53, 54, 129, 135] S12 S17 by rw [eS17]; exact frm.pI (by decide))
      refine ⟨h.1, ?_⟩
      replace h := h.2
      refine ⟨h.1, ?_⟩
      replace h := h.2
      intro S22 eS22
      replace h := h S22 eS22
      replace f := f.tr (show frm [78, 79, 80, 81, 82, 83, 84, 85, 86] [47, 48, 49, 50, 51, 52, 53, 54, 129, 135] S17 S22 by rw [eS22]; exact frm.pI (by decide))
      refine ⟨h.1, ?_⟩
      replace h := h.2
      refine ⟨h.1, ?_⟩
      replace h := h.2
      intro S27 eS27
      replace h := h S27 eS27
      replace f := f.tr (show frm [78, 79, 80, 81, 82, 83, 84, 85, 86] [47, 48, 49, 50, 51, 52, 53, 54, 129, 135] S22 S27 by rw [eS27]; exact frm.pI (by decide))
      refine ⟨h.1, ?_⟩
      replace h := h.2
      intro S29 eS29
      replace h := h S29 eS29
      replace f := f.tr (show frm [78, 79, 80, 81, 82, 83, 84, 85, 86] [47, 48, 49, 50, 51, 52, 53, 54, 129, 135] S27 S29 by rw [eS29]; exact frm.pI (by decide))
      intro a30 ea30
      replace h := h a30 ea30
      exact ih f h
set_option maxRecDepth 100000 in
theorem fr_takeMethod_L16 {S0 : MS} {Q : MS → Prop} : ∀ (n : Nat) {U16 : MS} {v16_3 : Int32}, frm [78, 79, 80, 81, 82, 83, 84, 85, 86] [47, 48, 49, 50, 51, 52, 53, 54, 129, 135] S0 U16 → w_takeMethod_L16 Q n U16 v16_3 → w_takeMethod_L16 (fun u => Q u ∧ frm [78, 79, 80, 81, 82, 83, 84, 85, 86] [47, 48, 49, 50, 51, 52, 53, 54, 129, 135] S0 u) n U16 v16_3 := by
  intro n
  induction n with
  | zero => intro U16 v16_3 f h; unfold w_takeMethod_L16 at h; exact h.elim
  | succ n ih =>
    intro U16 v16_3 f h
    unfold w_takeMethod_L16 at h ⊢
    refine ⟨fun c => ?_, fun c => ?_⟩
    · replace h := h.1 c
      intro S6 eS6
      replace h := h S6 eS6
      replace f := f.tr (show frm [78, 79, 80, 81, 82, 83, 84, 85, 86] [47, 48, 49, 50, 51, 52, 53, 54, 129, 135] U16 S6 by rw [eS6]; exact frm.pI0 (by decide))
      obtain ⟨n9, h⟩ := h
      exact ⟨n9, fr_takeMethod_L80 n9 f h⟩
    · replace h := h.2 c
      refine ⟨h.1, ?_⟩
      replace h := h.2
      refine ⟨h.1, ?_⟩
      replace h := h.2
      intro S35 eS35
      replace h := h S35 eS35
      replace f := f.tr (show frm [78, 79, 80, 81, 82, 83, 84, 85, 86] [47, 48, 49, 50, 51, 52, 53, 54, 129, 135] U16 S35 by rw [eS35]; exact frm.pI (by decide))
      refine ⟨h.1, ?_⟩
      replace h := h.2
      refine ⟨h.1, ?_⟩
      replace h := h.2
      intro S40 eS40
      replace h := h S40 eS40
      replace f := f.tr (show frm [78, 79, 80, 81, 82, 83, 84, 85, 86] [47, 48, 49, 50, 51, 52, 53, 54, 129, 135] S35 S40 by rw [eS40]; exact frm.pI (by decide))
      refine ⟨h.1, ?_⟩
      replace h := h.2
      refine ⟨h.1, ?_⟩
      replace h := h.2
      intro S45 eS45
      replace h := h S45 eS45
      replace f := f.tr (show frm [78, 79, 80, 81, 82, 83, 84, 85, 86] [47, 48, 49, 50, 51, 52, 53, 54, 129, 135] S40 S45 by rw [eS45]; exact frm.pI (by decide))
      refine ⟨h.1, ?_⟩
      replace h := h.2
      intro S47 eS47
      replace h := h S47 eS47
      replace f := f.tr (show frm [78, 79, 80, 81, 82, 83, 84, 85, 86] [47, 48, 49, 50, 51, 52, 53, 54, 129, 135] S45 S47 by rw [eS47]; exact frm.pI (by decide))
      intro a48 ea48
      replace h := h a48 ea48
      exact ih f h
set_option maxRecDepth 100000 in
theorem fr_takeMethod {S : MS} {p1 : Nat} {x2 : Int32} {Q : MS → Prop} (h : w_takeMethod S p1 x2 Q) : w_takeMethod S p1 x2 (fun u => Q u ∧ frm [78, 79, 80, 81, 82, 83, 84, 85, 86] [47, 48, 49, 50, 51, 52, 53, 54, 129, 135] S u) := by
  have f : frm [78, 79, 80, 81, 82, 83, 84, 85, 86] [47, 48, 49, 50, 51, 52, 53, 54, 129, 135] S S := frm.rf
  unfold w_takeMethod at h ⊢
  obtain ⟨Q9, h0, h⟩ := h
  refine ⟨_, fr_look h0, ?_⟩
  · intro S2 hq
    replace h := h S2 hq.1
    replace f := f.tr (hq.2.mo (by decide) (by decide))
    intro S4 eS4
    replace h := h S4 eS4
    replace f := f.tr (show frm [78, 79, 80, 81, 82, 83, 84, 85, 86] [47, 48, 49, 50, 51, 52, 53, 54, 129, 135] S2 S4 by rw [eS4]; exact frm.pI0 (by decide))
    obtain ⟨n9, h⟩ := h
    exact ⟨n9, fr_takeMethod_L16 n9 f h⟩
set_option maxRecDepth 100000 in
theorem fr_twice_J71 {S0 : MS} {Q : MS → Prop} {E : MS → Prop} {k29 k29' : MS → Int32 → Int32 → Prop} {U71 : MS} {t71_0 : Int32} {v71_1 : Int32} {v71_3 : Int32} (hk29 : ∀ (u : MS) (z0) (z1), frm [] [7, 8] S0 u → k29 u z0 z1 → k29' u z0 z1) (f : frm [] [7, 8] S0 U71) (h : w_twice_J71 Q E k29 U71 t71_0 v71_1 v71_3) : w_twice_J71 (fun u => Q u ∧ frm [] [7, 8] S0 u) (fun u => E u ∧ frm [] [7, 8] S0 u) k29' U71 t71_0 v71_1 v71_3 := by
  unfold w_twice_J71 at h ⊢
  refine ⟨h.1, ?_⟩
  replace h := h.2
  obtain ⟨Q9, E9, h0, h⟩ := h
  refine ⟨_, _, fr_must h0, ?_, ?_⟩
  · intro S24 hq
    replace h := h.1 S24 hq.1
    replace f := f.tr (hq.2.mo (by decide) (by decide))
    intro a26 ea26
    replace h := h a26 ea26
    exact hk29 _ _ _ f h
  · intro u9 hq
    exact ⟨h.2 u9 hq.1, f.tr (hq.2.mo (by decide) (by decide))⟩
set_option maxRecDepth 100000 in
theorem fr_twice_L29 {S0 : MS} {Q : MS → Prop} {E : MS → Prop} {k2 k2' : MS → Int32 → Prop} (hk2 : ∀ (u : MS) (z0), frm [] [7, 8] S0 u → k2 u z0 → k2' u z0) : ∀ (n : Nat) {U29 : MS} {v29_1 : Int32} {v29_3 : Int32}, frm [] [7, 8] S0 U29 → w_twice_L29 Q E k2 n U29 v29_1 v29_3 → w_twice_L29 (fun u => Q u ∧ frm [] [7, 8] S0 u) (fun u => E u ∧ frm [] [7, 8] S0 u) k2' n U29 v29_1 v29_3 := by
  intro n
  induction n with
  | zero => intro U29 v29_1 v29_3 f h; unfold w_twice_L29 at h; exact h.elim
  | succ n ih =>
    intro U29 v29_1 v29_3 f h
    unfold w_twice_L29 at h ⊢
    refine ⟨fun c => ?_, fun c => ?_⟩
    · replace h := h.1 c
      intro a3 ea3
      replace h := h a3 ea3
      exact hk2 _ _ f h
    · replace h := h.2 c
      refine ⟨h.1, ?_⟩
      replace h := h.2
      refine ⟨h.1, ?_⟩
      replace h := h.2
      refine ⟨h.1, ?_⟩
      replace h := h.2
      refine ⟨h.1, ?_⟩
      replace h := h.2
      obtain ⟨Q9, h0, h⟩ := h
      refine ⟨_, fr_isSame h0, ?_⟩
      · intro r17 S18 hq
        replace h := h r17 S18 hq.1
        replace f := f.tr (hq.2.mo (by decide) (by decide))
        refine ⟨fun c => ?_, fun c => ?_⟩
        · replace h := h.1 c
          exact fr_twice_J71 (fun _ _ _ f h => ih f h) f h
        · replace h := h.2 c
          exact fr_twice_J71 (fun _ _ _ f h => ih f h) f h
set_option maxRecDepth 100000 in
theorem fr_twice_J26 {S0 : MS} {Q : MS → Prop} {E : MS → Prop} {k2 k2' : MS → Int32 → Prop} {U26 : MS} {t26_0 : Int32} {v26_1 : Int32} (hk2 : ∀ (u : MS) (z0), frm [] [7, 8] S0 u → k2 u z0 → k2' u z0) (f : frm [] [7, 8] S0 U26) (h : w_twice_J26 Q E k2 U26 t26_0 v26_1) : w_twice_J26 (fun u => Q u ∧ frm [] [7, 8] S0 u) (fun u => E u ∧ frm [] [7, 8] S0 u) k2' U26 t26_0 v26_1 := by
  unfold w_twice_J26 at h ⊢
  obtain ⟨n9, h⟩ := h
  exact ⟨n9, fr_twice_L29 hk2 n9 f h⟩
set_option maxRecDepth 100000 in
theorem fr_twice_L2 {S0 : MS} {Q : MS → Prop} {E : MS → Prop} : ∀ (n : Nat) {U2 : MS} {v2_1 : Int32}, frm [] [7, 8] S0 U2 → w_twice_L2 Q E n U2 v2_1 → w_twice_L2 (fun u => Q u ∧ frm [] [7, 8] S0 u) (fun u => E u ∧ frm [] [7, 8] S0 u) n U2 v2_1 := by
  intro n
  induction n with
  | zero => intro U2 v2_1 f h; unfold w_twice_L2 at h; exact h.elim
  | succ n ih =>
    intro U2 v2_1 f h
    unfold w_twice_L2 at h ⊢
    refine ⟨fun c => ?_, fun c => ?_⟩
    · replace h := h.1 c
      exact ⟨h, f⟩
    · replace h := h.2 c
      refine ⟨fun c => ?_, fun c => ?_⟩
      · replace h := h.1 c
        exact fr_twice_J26 (fun _ _ f h => ih f h) f h
      · replace h := h.2 c
        exact fr_twice_J26 (fun _ _ f h => ih f h) f h
set_option maxRecDepth 100000 in
theorem fr_twice {S : MS} {Q : MS → Prop} {E : MS → Prop} (h : w_twice S  Q E) : w_twice S  (fun u => Q u ∧ frm [] [7, 8] S u) (fun u => E u ∧ frm [] [7, 8] S u) := by
  have f : frm [] [7, 8] S S := frm.rf
  unfold w_twice at h ⊢
  obtain ⟨n9, h⟩ := h
  exact ⟨n9, fr_twice_L2 n9 f h⟩
set_option maxRecDepth 100000 in
theorem fr_types_J165 {S0 : MS} {Q : MS → Prop} {E : MS → Prop} {k102 k102' : MS → Int32 → Prop} {U165 : MS} {t165_0 : Int32} {v165_1 : Int32} {v165_2 : Int32} (hk102 : ∀ (u : MS) (z0), frm [] [7, 8] S0 u → k102 u z0 → k102' u z0) (f : frm [] [7, 8] S0 U165) (h : w_types_J165 Q E k102 U165 t165_0 v165_1 v165_2) : w_types_J165 (fun u => Q u ∧ frm [] [7, 8] S0 u) (fun u => E u ∧ frm [] [7, 8] S0 u) k102' U165 t165_0 v165_1 v165_2 := by
  unfold w_types_J165 at h ⊢
  obtain ⟨Q9, E9, h0, h⟩ := h
  refine ⟨_, _, fr_must h0, ?_, ?_⟩
  · intro S15 hq
    replace h := h.1 S15 hq.1
    replace f := f.tr (hq.2.mo (by decide) (by decide))
    intro a17 ea17
    replace h := h a17 ea17
    exact hk102 _ _ f h
  · intro u9 hq
    exact ⟨h.2 u9 hq.1, f.tr (hq.2.mo (by decide) (by decide))⟩
set_option maxRecDepth 100000 in
theorem fr_types_J164 {S0 : MS} {Q : MS → Prop} {E : MS → Prop} {k102 k102' : MS → Int32 → Prop} {U164 : MS} {v164_1 : Int32} {v164_2 : Int32} (hk102 : ∀ (u : MS) (z0), frm [] [7, 8] S0 u → k102 u z0 → k102' u z0) (f : frm [] [7, 8] S0 U164) (h : w_types_J164 Q E k102 U164 v164_1 v164_2) : w_types_J164 (fun u => Q u ∧ frm [] [7, 8] S0 u) (fun u => E u ∧ frm [] [7, 8] S0 u) k102' U164 v164_1 v164_2 := by
  unfold w_types_J164 at h ⊢
  exact fr_types_J165 hk102 f h
set_option maxRecDepth 100000 in
theorem fr_types_J94 {S0 : MS} {Q : MS → Prop} {E : MS → Prop} {k2 k2' : MS → Int32 → Prop} {U94 : MS} {v94_1 : Int32} (hk2 : ∀ (u : MS) (z0), frm [] [7, 8] S0 u → k2 u z0 → k2' u z0) (f : frm [] [7, 8] S0 U94) (h : w_types_J94 Q E k2 U94 v94_1) : w_types_J94 (fun u => Q u ∧ frm [] [7, 8] S0 u) (fun u => E u ∧ frm [] [7, 8] S0 u) k2' U94 v94_1 := by
  unfold w_types_J94 at h ⊢
  intro a31 ea31
  replace h := h a31 ea31
  exact hk2 _ _ f h
set_option maxRecDepth 100000 in
theorem fr_types_J83 {S0 : MS} {Q : MS → Prop} {E : MS → Prop} {k2 k2' : MS → Int32 → Prop} {U83 : MS} {t83_0 : Int32} {v83_1 : Int32} (hk2 : ∀ (u : MS) (z0), frm [] [7, 8] S0 u → k2 u z0 → k2' u z0) (f : frm [] [7, 8] S0 U83) (h : w_types_J83 Q E k2 U83 t83_0 v83_1) : w_types_J83 (fun u => Q u ∧ frm [] [7, 8] S0 u) (fun u => E u ∧ frm [] [7, 8] S0 u) k2' U83 t83_0 v83_1 := by
  unfold w_types_J83 at h ⊢
  refine ⟨h.1, ?_⟩
  replace h := h.2
  obtain ⟨Q9, E9, h0, h⟩ := h
  refine ⟨_, _, fr_must h0, ?_, ?_⟩
  · intro S44 hq
    replace h := h.1 S44 hq.1
    replace f := f.tr (hq.2.mo (by decide) (by decide))
    exact fr_types_J94 hk2 f h
  · intro u9 hq
    exact ⟨h.2 u9 hq.1, f.tr (hq.2.mo (by decide) (by decide))⟩
set_option maxRecDepth 100000 in
theorem fr_types_J48 {S0 : MS} {Q : MS → Prop} {E : MS → Prop} {k2 k2' : MS → Int32 → Prop} {U48 : MS} {v48_1 : Int32} (hk2 : ∀ (u : MS) (z0), frm [] [7, 8] S0 u → k2 u z0 → k2' u z0) (f : frm [] [7, 8] S0 U48) (h : w_types_J48 Q E k2 U48 v48_1) : w_types_J48 (fun u => Q u ∧ frm [] [7, 8] S0 u) (fun u => E u ∧ frm [] [7, 8] S0 u) k2' U48 v48_1 := by
  unfold w_types_J48 at h ⊢
  refine ⟨h.1, ?_⟩
  replace h := h.2
  refine ⟨fun c => ?_, fun c => ?_⟩
  · replace h := h.1 c
    refine ⟨h.1, ?_⟩
    replace h := h.2
    refine ⟨h.1, ?_⟩
    replace h := h.2
    obtain ⟨Q9, h0, h⟩ := h
    refine ⟨_, fr_parameterPlaces h0, ?_⟩
    · intro r38 S39 hq
      replace h := h r38 S39 hq.1
      replace f := f.tr (hq.2.mo (by decide) (by decide))
      refine ⟨fun c => ?_, fun c => ?_⟩
      · replace h := h.1 c
        exact fr_types_J83 hk2 f h
      · replace h := h.2 c
        exact fr_types_J83 hk2 f h
  · replace h := h.2 c
    exact fr_types_J94 hk2 f h
set_option maxRecDepth 100000 in
theorem fr_types_L102 {S0 : MS} {Q : MS → Prop} {E : MS → Prop} : ∀ (n : Nat) {U102 : MS} {v102_1 : Int32}, frm [] [7, 8] S0 U102 → w_types_L102 Q E n U102 v102_1 → w_types_L102 (fun u => Q u ∧ frm [] [7, 8] S0 u) (fun u => E u ∧ frm [] [7, 8] S0 u) n U102 v102_1 := by
  intro n
  induction n with
  | zero => intro U102 v102_1 f h; unfold w_types_L102 at h; exact h.elim
  | succ n ih =>
    intro U102 v102_1 f h
    unfold w_types_L102 at h ⊢
    refine ⟨fun c => ?_, fun c => ?_⟩
    · replace h := h.1 c
      exact ⟨h, f⟩
    · replace h := h.2 c
      refine ⟨h.1, ?_⟩
      replace h := h.2
      intro a6 ea6
      replace h := h a6 ea6
      refine ⟨h.1, ?_⟩
      replace h := h.2
      obtain ⟨Q9, h0, h⟩ := h
      refine ⟨_, fr_parameterPlaces h0, ?_⟩
      · intro r11 S12 hq
        replace h := h r11 S12 hq.1
        replace f := f.tr (hq.2.mo (by decide) (by decide))
        refine ⟨fun c => ?_, fun c => ?_⟩
        · replace h := h.1 c
          refine ⟨fun c => ?_, fun c => ?_⟩
          · replace h := h.1 c
            exact fr_types_J164 (fun _ _ f h => ih f h) f h
          · replace h := h.2 c
            refine ⟨fun c => ?_, fun c => ?_⟩
            · replace h := h.1 c
              exact fr_types_J164 (fun _ _ f h => ih f h) f h
            · replace h := h.2 c
              exact fr_types_J165 (fun _ _ f h => ih f h) f h
        · replace h := h.2 c
          refine ⟨h.1, ?_⟩
          replace h := h.2
          refine ⟨h.1, ?_⟩
          replace h := h.2
          exact fr_types_J165 (fun _ _ f h => ih f h) f h
set_option maxRecDepth 100000 in
theorem fr_types_L2 {S0 : MS} {Q : MS → Prop} {E : MS → Prop} : ∀ (n : Nat) {U2 : MS} {v2_1 : Int32}, frm [] [7, 8] S0 U2 → w_types_L2 Q E n U2 v2_1 → w_types_L2 (fun u => Q u ∧ frm [] [7, 8] S0 u) (fun u => E u ∧ frm [] [7, 8] S0 u) n U2 v2_1 := by
  intro n
  induction n with
  | zero => intro U2 v2_1 f h; unfold w_types_L2 at h; exact h.elim
  | succ n ih =>
    intro U2 v2_1 f h
    unfold w_types_L2 at h ⊢
    refine ⟨fun c => ?_, fun c => ?_⟩
    · replace h := h.1 c
      obtain ⟨n9, h⟩ := h
      exact ⟨n9, fr_types_L102 n9 f h⟩
    · replace h := h.2 c
      refine ⟨h.1, ?_⟩
      replace h := h.2
      refine ⟨fun c => ?_, fun c => ?_⟩
      · replace h := h.1 c
        refine ⟨h.1, ?_⟩
        replace h := h.2
        refine ⟨h.1, ?_⟩
        replace h := h.2
        refine ⟨h.1, ?_⟩
        replace h := h.2
        refine ⟨h.1, ?_⟩
        replace h := h.2
        obtain ⟨Q9, E9, h0, h⟩ := h
        refine ⟨_, _, fr_must h0, ?_, ?_⟩
        · intro S58 hq
          replace h := h.1 S58 hq.1
          replace f := f.tr (hq.2.mo (by decide) (by decide))
          exact fr_types_J48 (fun _ _ f h => ih f h) f h
        · intro u9 hq
          exact ⟨h.2 u9 hq.1, f.tr (hq.2.mo (by decide) (by decide))⟩
      · replace h := h.2 c
        exact fr_types_J48 (fun _ _ f h => ih f h) f h
set_option maxRecDepth 100000 in
theorem fr_types {S : MS} {Q : MS → Prop} {E : MS → Prop} (h : w_types S  Q E) : w_types S  (fun u => Q u ∧ frm [] [7, 8] S u) (fun u => E u ∧ frm [] [7, 8] S u) := by
  have f : frm [] [7, 8] S S := frm.rf
  unfold w_types at h ⊢
  obtain ⟨n9, h⟩ := h
  exact ⟨n9, fr_types_L2 n9 f h⟩
set_option maxRecDepth 100000 in
theorem fr_wholes_J59 {S0 : MS} {Q : MS → Prop} {E : MS → Prop} {k35 k35' : MS → Int32 → Prop} {U59 : MS} {t59_0 : Int32} {v59_2 : Int32} {v59_3 : Int32} (hk35 : ∀ (u : MS) (z0), frm [18] [7, 8, 36, 37, 39] S0 u → k35 u z0 → k35' u z0) (f : frm [18] [7, 8, 36, 37, 39] S0 U59) (h : w_wholes_J59 Q E k35 U59 t59_0 v59_2 v59_3) : w_wholes_J59 (fun u => Q u ∧ frm [18] [7, 8, 36, 37, 39] S0 u) (fun u => E u ∧ frm [18] [7, 8, 36, 37, 39] S0 u) k35' U59 t59_0 v59_2 v59_3 := by
  unfold w_wholes_J59 at h ⊢
  obtain ⟨Q9, E9, h0, h⟩ := h
  refine ⟨_, _, fr_must h0, ?_, ?_⟩
  · intro S15 hq
    replace h := h.1 S15 hq.1
    replace f := f.tr (hq.2.mo (by decide) (by decide))
    refine ⟨h.1, ?_⟩
    replace h := h.2
    intro S18 eS18
    replace h := h S18 eS18
    replace f := f.tr (show frm [18] [7, 8, 36, 37, 39] S15 S18 by rw [eS18]; exact frm.pI (by decide))
    intro S20 eS20
    replace h := h S20 eS20
    replace f := f.tr (show frm [18] [7, 8, 36, 37, 39] S18 S20 by rw [eS20]; exact frm.pI0 (by decide))
    intro a22 ea22
    replace h := h a22 ea22
    exact hk35 _ _ f h
  · intro u9 hq
    exact ⟨h.2 u9 hq.1, f.tr (hq.2.mo (by decide) (by decide))⟩
set_option maxRecDepth 100000 in
theorem fr_wholes_L35 {S0 : MS} {Q : MS → Prop} {E : MS → Prop} : ∀ (n : Nat) {U35 : MS} {v35_2 : Int32}, frm [18] [7, 8, 36, 37, 39] S0 U35 → w_wholes_L35 Q E n U35 v35_2 → w_wholes_L35 (fun u => Q u ∧ frm [18] [7, 8, 36, 37, 39] S0 u) (fun u => E u ∧ frm [18] [7, 8, 36, 37, 39] S0 u) n U35 v35_2 := by
  intro n
  induction n with
  | zero => intro U35 v35_2 f h; unfold w_wholes_L35 at h; exact h.elim
  | succ n ih =>
    intro U35 v35_2 f h
    unfold w_wholes_L35 at h ⊢
    refine ⟨fun c => ?_, fun c => ?_⟩
    · replace h := h.1 c
      refine ⟨h.1, ?_⟩
      replace h := h.2
      intro S8 eS8
      replace h := h S8 eS8
      replace f := f.tr (show frm [18] [7, 8, 36, 37, 39] U35 S8 by rw [eS8]; exact frm.pI (by decide))
      exact ⟨h, f⟩
    · replace h := h.2 c
      obtain ⟨Q9, h0, h⟩ := h
      refine ⟨_, fr_span h0, ?_⟩
      · intro r10 S11 hq
        replace h := h r10 S11 hq.1
        replace f := f.tr (hq.2.mo (by decide) (by decide))
        refine ⟨fun c => ?_, fun c => ?_⟩
        · replace h := h.1 c
          exact fr_wholes_J59 (fun _ _ f h => ih f h) f h
        · replace h := h.2 c
          exact fr_wholes_J59 (fun _ _ f h => ih f h) f h
set_option maxRecDepth 100000 in
theorem fr_wholes_L7 {S0 : MS} {Q : MS → Prop} {E : MS → Prop} : ∀ (n : Nat) {U7 : MS} {v7_2 : Int32}, frm [18] [7, 8, 36, 37, 39] S0 U7 → w_wholes_L7 Q E n U7 v7_2 → w_wholes_L7 (fun u => Q u ∧ frm [18] [7, 8, 36, 37, 39] S0 u) (fun u => E u ∧ frm [18] [7, 8, 36, 37, 39] S0 u) n U7 v7_2 := by
  intro n
  induction n with
  | zero => intro U7 v7_2 f h; unfold w_wholes_L7 at h; exact h.elim
  | succ n ih =>
    intro U7 v7_2 f h
    unfold w_wholes_L7 at h ⊢
    refine ⟨fun c => ?_, fun c => ?_⟩
    · replace h := h.1 c
      intro S5 eS5
      replace h := h S5 eS5
      replace f := f.tr (show frm [18] [7, 8, 36, 37, 39] U7 S5 by rw [eS5]; exact frm.pI0 (by decide))
      obtain ⟨n9, h⟩ := h
      exact ⟨n9, fr_wholes_L35 n9 f h⟩
    · replace h := h.2 c
      refine ⟨h.1, ?_⟩
      replace h := h.2
      intro S25 eS25
      replace h := h S25 eS25
      replace f := f.tr (show frm [18] [7, 8, 36, 37, 39] U7 S25 by rw [eS25]; exact frm.pI (by decide))
      intro a26 ea26
      replace h := h a26 ea26
      exact ih f h
set_option maxRecDepth 100000 in
theorem fr_wholes {S : MS} {x1 : Int32} {Q : MS → Prop} {E : MS → Prop} (h : w_wholes S x1 Q E) : w_wholes S x1 (fun u => Q u ∧ frm [18] [7, 8, 36, 37, 39] S u) (fun u => E u ∧ frm [18] [7, 8, 36, 37, 39] S u) := by
  have f : frm [18] [7, 8, 36, 37, 39] S S := frm.rf
  unfold w_wholes at h ⊢
  obtain ⟨Q9, h0, h⟩ := h
  refine ⟨_, fr_take h0, ?_⟩
  · intro S2 hq
    replace h := h S2 hq.1
    replace f := f.tr (hq.2.mo (by decide) (by decide))
    obtain ⟨n9, h⟩ := h
    exact ⟨n9, fr_wholes_L7 n9 f h⟩
