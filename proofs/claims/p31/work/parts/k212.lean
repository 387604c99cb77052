set_option maxRecDepth 100000 in
theorem fr_take {S : MS} {x1 : Int32} {Q : MS → Prop} (h : w_take S x1 Q) : w_take S x1 (fun u => Q u ∧ frm [] [36, 37] S u) := by
  have f : frm [] [36, 37] S S := frm.rf
  unfold w_take at h ⊢
  refine ⟨h.1, ?_⟩
  replace h := h.2
  intro S3 eS3
  replace h := h S3 eS3
  replace f := f.tr (show frm [] [36, 37] S S3 by rw [eS3]; exact frm.pI0 (by decide))
  refine ⟨h.1, ?_⟩
  replace h := h.2
  intro S6 eS6
  replace h := h S6 eS6
  replace f := f.tr (show frm [] [36, 37] S3 S6 by rw [eS6]; exact frm.pI0 (by decide))
  exact ⟨h, f⟩
set_option maxRecDepth 100000 in
theorem fr_takeMethod_L80 {S0 : MS} {Q : MS → Prop} : ∀ (n : Nat) {U80 : MS} {v80_3 : Int32}, frm [78, 79, 80, 81, 82, 83, 84, 85, 86] [47, 48, 49, 50, 51, 52, 53, 54, 129, 135] S0 U80 → w_takeMethod_L80 Q n U80 v80_3 → w_takeMethod_L80 (fun u => Q u ∧ frm [78, 79, 80, 81, 82, 83, 84, 85, 86] [47, 48, 49, 50, 51, 52, 53, 54, 129, 135] S0 u) n U80 v80_3 := by
  intro n
  induction n with
  | zero => intro U80 v80_3 f h; unfold w_takeMethod_L80 at h; exact h.elim
  | succ n ih =>
    intro U80 v80_3 f h
    unfold w_takeMethod_L80 at h ⊢
    refine ⟨fun c => ?_, fun c => ?_⟩
    · replace h := h.1 c
      exact ⟨h, f⟩
    · replace h := h.2 c
      refine ⟨h.1, ?_⟩
      replace h := h.2
      refine ⟨h.1, ?_⟩
      replace h := h.2
      intro S12 eS12
      replace h := h S12 eS12
      replace f := f.tr (show frm [78, 79, 80, 81, 82, 83, 84, 85, 86] [47, 48, 49, 50, 51, 52, 53, 54, 129, 135] U80 S12 by rw [eS12]; exact frm.pI (by decide))
      refine ⟨h.1, ?_⟩
      replace h := h.2
      refine ⟨h.1, ?_⟩
      replace h := h.2
      intro S17 eS17
      replace h := h S17 eS17
      replace f := f.tr (show frm [78, 79, 80, 81, 82, 83, 84, 85, 86] [47, 48, 49, 50, 51, 52, 53, 54, 129, 135] S12 S17 by rw [eS17]; exact frm.pI (by decide))
      refine ⟨h.1, ?_⟩
      replace h := h.2
      refine ⟨h.1, ?_⟩
      replace h := h.2
      intro S22 eS22
      replace h := h S22 eS22
      replace f := f.tr (show frm [78, 79, 80, 81, 82, 83, 84, 85, 86] [47, 48, 49, 50, 51, 52, 53, 54, 129, 135] S17 S22 by rw [eS22]; exact frm.pI (by decide))
      refine ⟨h.1, ?_⟩
      replace h := h.2
      refine ⟨h.1, ?_⟩
      replace h := h.2
      intro S27 eS27
      replace h := h S27 eS27
      replace f := f.tr (show frm [78, 79, 80, 81, 82, 83, 84, 85, 86] [47, 48, 49, 50, 51, 52, 53, 54, 129, 135] S22 S27 by rw [eS27]; exact frm.pI (by decide))
      refine ⟨h.1, ?_⟩
      replace h := h.2
      intro S29 eS29
      replace h := h S29 eS29
      replace f := f.tr (show frm [78, 79, 80, 81, 82, 83, 84, 85, 86] [47, 48, 49, 50, 51, 52, 53, 54, 129, 135] S27 S29 by rw [eS29]; exact frm.pI (by decide))
      intro a30 ea30
      replace h := h a30 ea30
      exact ih f h
set_option maxRecDepth 100000 in
theorem fr_takeMethod_L16 {S0 : MS} {Q : MS → Prop} : ∀ (n : Nat) {U16 : MS} {v16_3 : Int32}, frm [78, 79, 80, 81, 82, 83, 84, 85, 86] [47, 48, 49, 50, 51, 52, 53, 54, 129, 135] S0 U16 → w_takeMethod_L16 Q n U16 v16_3 → w_takeMethod_L16 (fun u => Q u ∧ frm [78, 79, 80, 81, 82, 83, 84, 85, 86] [47, 48, 49, 50, 51, 52, 53, 54, 129, 135] S0 u) n U16 v16_3 := by
  intro n
  induction n with
  | zero => intro U16 v16_3 f h; unfold w_takeMethod_L16 at h; exact h.elim
  | succ n ih =>
    intro U16 v16_3 f h
    unfold w_takeMethod_L16 at h ⊢
    refine ⟨fun c => ?_, fun c => ?_⟩
    · replace h := h.1 c
      intro S6 eS6
      replace h := h S6 eS6
      replace f := f.tr (show frm [78, 79, 80, 81, 82, 83, 84, 85, 86] [47, 48, 49, 50, 51, 52, 53, 54, 129, 135] U16 S6 by rw [eS6]; exact frm.pI0 (by decide))
      obtain ⟨n9, h⟩ := h
      exact ⟨n9, fr_takeMethod_L80 n9 f h⟩
    · replace h := h.2 c
      refine ⟨h.1, ?_⟩
      replace h := h.2
      refine ⟨h.1, ?_⟩
      replace h := h.2
      intro S35 eS35
      replace h := h S35 eS35
      replace f := f.tr (show frm [78, 79, 80, 81, 82, 83, 84, 85, 86] [47, 48, 49, 50, 51, 52, 53, 54, 129, 135] U16 S35 by rw [eS35]; exact frm.pI (by decide))
      refine ⟨h.1, ?_⟩
      replace h := h.2
      refine ⟨h.1, ?_⟩
      replace h := h.2
      intro S40 eS40
      replace h := h S40 eS40
      replace f := f.tr (show frm [78, 79, 80, 81, 82, 83, 84, 85, 86] [47, 48, 49, 50, 51, 52, 53, 54, 129, 135] S35 S40 by rw [eS40]; exact frm.pI (by decide))
      refine ⟨h.1, ?_⟩
      replace h := h.2
      refine ⟨h.1, ?_⟩
      replace h := h.2
      intro S45 eS45
      replace h := h S45 eS45
      replace f := f.tr (show frm [78, 79, 80, 81, 82, 83, 84, 85, 86] [47, 48, 49, 50, 51, 52, 53, 54, 129, 135] S40 S45 by rw [eS45]; exact frm.pI (by decide))
      refine ⟨h.1, ?_⟩
      replace h := h.2
      intro S47 eS47
      replace h := h S47 eS47
      replace f := f.tr (show frm [78, 79, 80, 81, 82, 83, 84, 85, 86] [47, 48, 49, 50, 51, 52, 53, 54, 129, 135] S45 S47 by rw [eS47]; exact frm.pI (by decide))
      intro a48 ea48
      replace h := h a48 ea48
      exact ih f h
set_option maxRecDepth 100000 in
theorem fr_takeMethod {S : MS} {p1 : Nat} {x2 : Int32} {Q : MS → Prop} (h : w_takeMethod S p1 x2 Q) : w_takeMethod S p1 x2 (fun u => Q u ∧ frm [78, 79, 80, 81, 82, 83, 84, 85, 86] [47, 48, 49, 50, 51, 52, 53, 54, 129, 135] S u) := by
  have f : frm [78, 79, 80, 81, 82, 83, 84, 85, 86] [47, 48, 49, 50, 51, 52, 53, 54, 129, 135] S S := frm.rf
  unfold w_takeMethod at h ⊢
  obtain ⟨Q9, h0, h⟩ := h
  refine ⟨_, fr_look h0, ?_⟩
  · intro S2 hq
    replace h := h S2 hq.1
    replace f := f.tr (hq.2.mo (by decide) (by decide))
    intro S4 eS4
    replace h := h S4 eS4
    replace f := f.tr (show frm [78, 79, 80, 81, 82, 83, 84, 85, 86] [47, 48, 49, 50, 51, 52, 53, 54, 129, 135] S2 S4 by rw [eS4]; exact frm.pI0 (by decide))
    obtain ⟨n9, h⟩ := h
    exact ⟨n9, fr_takeMethod_L16 n9 f h⟩
set_option maxRecDepth 100000 in
theorem fr_twice_J71 {S0 : MS} {Q : MS → Prop} {E : MS → Prop} {k29 k29' : MS → Int32 → Int32 → Prop} {U71 : MS} {t71_0 : Int32} {v71_1 : Int32} {v71_3 : Int32} (hk29 : ∀ (u : MS) (z0) (z1), frm [] [7, 8] S0 u → k29 u z0 z1 → k29' u z0 z1) (f : frm [] [7, 8] S0 U71) (h : w_twice_J71 Q E k29 U71 t71_0 v71_1 v71_3) : w_twice_J71 (fun u => Q u ∧ frm [] [7, 8] S0 u) (fun u => E u ∧ frm [] [7, 8] S0 u) k29' U71 t71_0 v71_1 v71_3 := by
  unfold w_twice_J71 at h ⊢
  refine ⟨h.1, ?_⟩
  replace h := h.2
  obtain ⟨Q9, E9, h0, h⟩ := h
  refine ⟨_, _, fr_must h0, ?_, ?_⟩
  · intro S24 hq
    replace h := h.1 S24 hq.1
    replace f := f.tr (hq.2.mo (by decide) (by decide))
    intro a26 ea26
    replace h := h a26 ea26
    exact hk29 _ _ _ f h
  · intro u9 hq
    exact ⟨h.2 u9 hq.1, f.tr (hq.2.mo (by decide) (by decide))⟩
set_option maxRecDepth 100000 in
theorem fr_twice_L29 {S0 : MS} {Q : MS → Prop} {E : MS → Prop} {k2 k2' : MS → Int32 → Prop} (hk2 : ∀ (u : MS) (z0), frm [] [7, 8] S0 u → k2 u z0 → k2' u z0) : ∀ (n : Nat) {U29 : MS} {v29_1 : Int32} {v29_3 : Int32}, frm [] [7, 8] S0 U29 → w_twice_L29 Q E k2 n U29 v29_1 v29_3 → w_twice_L29 (fun u => Q u ∧ frm [] [7, 8] S0 u) (fun u => E u ∧ frm [] [7, 8] S0 u) k2' n U29 v29_1 v29_3 := by
  intro n
  induction n with
  | zero => intro U29 v29_1 v29_3 f h; unfold w_twice_L29 at h; exact h.elim
  | succ n ih =>
    intro U29 v29_1 v29_3 f h
    unfold w_twice_L29 at h ⊢
    refine ⟨fun c => ?_, fun c => ?_⟩
    · replace h := h.1 c
      intro a3 ea3
      replace h := h a3 ea3
      exact hk2 _ _ f h
    · replace h := h.2 c
      refine ⟨h.1, ?_⟩
      replace h := h.2
      refine ⟨h.1, ?_⟩
      replace h := h.2
      refine ⟨h.1, ?_⟩
      replace h := h.2
      refine ⟨h.1, ?_⟩
      replace h := h.2
      obtain ⟨Q9, h0, h⟩ := h
      refine ⟨_, fr_isSame h0, ?_⟩
      · intro r17 S18 hq
        replace h := h r17 S18 hq.1
        replace f := f.tr (hq.2.mo (by decide) (by decide))
        refine ⟨fun c => ?_, fun c => ?_⟩
        · replace h := h.1 c
          exact fr_twice_J71 (fun _ _ _ f h => ih f h) f h
        · replace h := h.2 c
          exact fr_twice_J71 (fun _ _ _ f h => ih f h) f h
set_option maxRecDepth 100000 in
theorem fr_twice_J26 {S0 : MS} {Q : MS → Prop} {E : MS → Prop} {k2 k2' : MS → Int32 → Prop} {U26 : MS} {t26_0 : Int32} {v26_1 : Int32} (hk2 : ∀ (u : MS) (z0), frm [] [7, 8] S0 u → k2 u z0 → k2' u z0) (f : frm [] [7, 8] S0 U26) (h : w_twice_J26 Q E k2 U26 t26_0 v26_1) : w_twice_J26 (fun u => Q u ∧ frm [] [7, 8] S0 u) (fun u => E u ∧ frm [] [7, 8] S0 u) k2' U26 t26_0 v26_1 := by
  unfold w_twice_J26 at h ⊢
  obtain ⟨n9, h⟩ := h
  exact ⟨n9, fr_twice_L29 hk2 n9 f h⟩
set_option maxRecDepth 100000 in
theorem fr_twice_L2 {S0 : MS} {Q : MS → Prop} {E : MS → Prop} : ∀ (n : Nat) {U2 : MS} {v2_1 : Int32}, frm [] [7, 8] S0 U2 → w_twice_L2 Q E n U2 v2_1 → w_twice_L2 (fun u => Q u ∧ frm [] [7, 8] S0 u) (fun u => E u ∧ frm [] [7, 8] S0 u) n U2 v2_1 := by
  intro n
  induction n with
  | zero => intro U2 v2_1 f h; unfold w_twice_L2 at h; exact h.elim
  | succ n ih =>
    intro U2 v2_1 f h
    unfold w_twice_L2 at h ⊢
    refine ⟨fun c => ?_, fun c => ?_⟩
    · replace h := h.1 c
      exact ⟨h, f⟩
    · replace h := h.2 c
      refine ⟨fun c => ?_, fun c => ?_⟩
      · replace h := h.1 c
        exact fr_twice_J26 (fun _ _ f h => ih f h) f h
      · replace h := h.2 c
        exact fr_twice_J26 (fun _ _ f h => ih f h) f h
set_option maxRecDepth 100000 in
theorem fr_twice {S : MS} {Q : MS → Prop} {E : MS → Prop} (h : w_twice S  Q E) : w_twice S  (fun u => Q u ∧ frm [] [7, 8] S u) (fun u => E u ∧ frm [] [7, 8] S u) := by
  have f : frm [] [7, 8] S S := frm.rf
  unfold w_twice at h ⊢
  obtain ⟨n9, h⟩ := h
  exact ⟨n9, fr_twice_L2 n9 f h⟩
set_option maxRecDepth 100000 in
theorem fr_types_J165 {S0 : MS} {Q : MS → Prop} {E : MS → Prop} {k102 k102' : MS → Int32 → Prop} {U165 : MS} {t165_0 : Int32} {v165_1 : Int32} {v165_2 : Int32} (hk102 : ∀ (u : MS) (z0), frm [] [7, 8] S0 u → k102 u z0 → k102' u z0) (f : frm [] [7, 8] S0 U165) (h : w_types_J165 Q E k102 U165 t165_0 v165_1 v165_2) : w_types_J165 (fun u => Q u ∧ frm [] [7, 8] S0 u) (fun u => E u ∧ frm [] [7, 8] S0 u) k102' U165 t165_0 v165_1 v165_2 := by
  unfold w_types_J165 at h ⊢
  obtain ⟨Q9, E9, h0, h⟩ := h
  refine ⟨_, _, fr_must h0, ?_, ?_⟩
  · intro S15 hq
    replace h := h.1 S15 hq.1
    replace f := f.tr (hq.2.mo (by decide) (by decide))
    intro a17 ea17
    replace h := h a17 ea17
    exact hk102 _ _ f h
  · intro u9 hq
    exact ⟨h.2 u9 hq.1, f.tr (hq.2.mo (by decide) (by decide))⟩
set_option maxRecDepth 100000 in
theorem fr_types_J164 {S0 : MS} {Q : MS → Prop} {E : MS → Prop} {k102 k102' : MS → Int32 → Prop} {U164 : MS} {v164_1 : Int32} {v164_2 : Int32} (hk102 : ∀ (u : MS) (z0), frm [] [7, 8] S0 u → k102 u z0 → k102' u z0) (f : frm [] [7, 8] S0 U164) (h : w_types_J164 Q E k102 U164 v164_1 v164_2) : w_types_J164 (fun u => Q u ∧ frm [] [7, 8] S0 u) (fun u => E u ∧ frm [] [7, 8] S0 u) k102' U164 v164_1 v164_2 := by
  unfold w_types_J164 at h ⊢
  exact fr_types_J165 hk102 f h
set_option maxRecDepth 100000 in
theorem fr_types_J94 {S0 : MS} {Q : MS → Prop} {E : MS → Prop} {k2 k2' : MS → Int32 → Prop} {U94 : MS} {v94_1 : Int32} (hk2 : ∀ (u : MS) (z0), frm [] [7, 8] S0 u → k2 u z0 → k2' u z0) (f : frm [] [7, 8] S0 U94) (h : w_types_J94 Q E k2 U94 v94_1) : w_types_J94 (fun u => Q u ∧ frm [] [7, 8] S0 u) (fun u => E u ∧ frm [] [7, 8] S0 u) k2' U94 v94_1 := by
  unfold w_types_J94 at h ⊢
  intro a31 ea31
  replace h := h a31 ea31
  exact hk2 _ _ f h
set_option maxRecDepth 100000 in
theorem fr_types_J83 {S0 : MS} {Q : MS → Prop} {E : MS → Prop} {k2 k2' : MS → Int32 → Prop} {U83 : MS} {t83_0 : Int32} {v83_1 : Int32} (hk2 : ∀ (u : MS) (z0), frm [] [7, 8] S0 u → k2 u z0 → k2' u z0) (f : frm [] [7, 8] S0 U83) (h : w_types_J83 Q E k2 U83 t83_0 v83_1) : w_types_J83 (fun u => Q u ∧ frm [] [7, 8] S0 u) (fun u => E u ∧ frm [] [7, 8] S0 u) k2' U83 t83_0 v83_1 := by
  unfold w_types_J83 at h ⊢
  refine ⟨h.1, ?_⟩
  replace h := h.2
  obtain ⟨Q9, E9, h0, h⟩ := h
  refine ⟨_, _, fr_must h0, ?_, ?_⟩
  · intro S44 hq
    replace h := h.1 S44 hq.1
    replace f := f.tr (hq.2.mo (by decide) (by decide))
    exact fr_types_J94 hk2 f h
  · intro u9 hq
    exact ⟨h.2 u9 hq.1, f.tr (hq.2.mo (by decide) (by decide))⟩
set_option maxRecDepth 100000 in
theorem fr_types_J48 {S0 : MS} {Q : MS → Prop} {E : MS → Prop} {k2 k2' : MS → Int32 → Prop} {U48 : MS} {v48_1 : Int32} (hk2 : ∀ (u : MS) (z0), frm [] [7, 8] S0 u → k2 u z0 → k2' u z0) (f : frm [] [7, 8] S0 U48) (h : w_types_J48 Q E k2 U48 v48_1) : w_types_J48 (fun u => Q u ∧ frm [] [7, 8] S0 u) (fun u => E u ∧ frm [] [7, 8] S0 u) k2' U48 v48_1 := by
  unfold w_types_J48 at h ⊢
  refine ⟨h.1, ?_⟩
  replace h := h.2
  refine ⟨fun c => ?_, fun c => ?_⟩
  · replace h := h.1 c
    refine ⟨h.1, ?_⟩
    replace h := h.2
    refine ⟨h.1, ?_⟩
    replace h := h.2
    obtain ⟨Q9, h0, h⟩ := h
    refine ⟨_, fr_parameterPlaces h0, ?_⟩
    · intro r38 S39 hq
      replace h := h r38 S39 hq.1
      replace f := f.tr (hq.2.mo (by decide) (by decide))
      refine ⟨fun c => ?_, fun c => ?_⟩
      · replace h := h.1 c
        exact fr_types_J83 hk2 f h
      · replace h := h.2 c
        exact fr_types_J83 hk2 f h
  · replace h := h.2 c
    exact fr_types_J94 hk2 f h
set_option maxRecDepth 100000 in
theorem fr_types_L102 {S0 : MS} {Q : MS → Prop} {E : MS → Prop} : ∀ (n : Nat) {U102 : MS} {v102_1 : Int32}, frm [] [7, 8] S0 U102 → w_types_L102 Q E n U102 v102_1 → w_types_L102 (fun u => Q u ∧ frm [] [7, 8] S0 u) (fun u => E u ∧ frm [] [7, 8] S0 u) n U102 v102_1 := by
  intro n
  induction n with
  | zero => intro U102 v102_1 f h; unfold w_types_L102 at h; exact h.elim
  | succ n ih =>
    intro U102 v102_1 f h
    unfold w_types_L102 at h ⊢
    refine ⟨fun c => ?_, fun c => ?_⟩
    · replace h := h.1 c
      exact ⟨h, f⟩
    · replace h := h.2 c
      refine ⟨h.1, ?_⟩
      replace h := h.2
      intro a6 ea6
      replace h := h a6 ea6
      refine ⟨h.1, ?_⟩
      replace h := h.2
      obtain ⟨Q9, h0, h⟩ := h
      refine ⟨_, fr_parameterPlaces h0, ?_⟩
      · intro r11 S12 hq
        replace h := h r11 S12 hq.1
        replace f := f.tr (hq.2.mo (by decide) (by decide))
        refine ⟨fun c => ?_, fun c => ?_⟩
        · replace h := h.1 c
          refine ⟨fun c => ?_, fun c => ?_⟩
          · replace h := h.1 c
            exact fr_types_J164 (fun _ _ f h => ih f h) f h
          · replace h := h.2 c
            refine ⟨fun c => ?_, fun c => ?_⟩
            · replace h := h.1 c
              exact fr_types_J164 (fun _ _ f h => ih f h) f h
            · replace h := h.2 c
              exact fr_types_J165 (fun _ _ f h => ih f h) f h
        · replace h := h.2 c
          refine ⟨h.1, ?_⟩
          replace h := h.2
          refine ⟨h.1, ?_⟩
          replace h := h.2
          exact fr_types_J165 (fun _ _ f h => ih f h) f h
set_option maxRecDepth 100000 in
theorem fr_types_L2 {S0 : MS} {Q : MS → Prop} {E : MS → Prop} : ∀ (n : Nat) {U2 : MS} {v2_1 : Int32}, frm [] [7, 8] S0 U2 → w_types_L2 Q E n U2 v2_1 → w_types_L2 (fun u => Q u ∧ frm [] [7, 8] S0 u) (fun u => E u ∧ frm [] [7, 8] S0 u) n U2 v2_1 := by
  intro n
  induction n with
  | zero => intro U2 v2_1 f h; unfold w_types_L2 at h; exact h.elim
  | succ n ih =>
    intro U2 v2_1 f h
    unfold w_types_L2 at h ⊢
    refine ⟨fun c => ?_, fun c => ?_⟩
    · replace h := h.1 c
      obtain ⟨n9, h⟩ := h
      exact ⟨n9, fr_types_L102 n9 f h⟩
    · replace h := h.2 c
      refine ⟨h.1, ?_⟩
      replace h := h.2
      refine ⟨fun c => ?_, fun c => ?_⟩
      · replace h := h.1 c
        refine ⟨h.1, ?_⟩
        replace h := h.2
        refine ⟨h.1, ?_⟩
        replace h := h.2
        refine ⟨h.1, ?_⟩
        replace h := h.2
        refine ⟨h.1, ?_⟩
        replace h := h.2
        obtain ⟨Q9, E9, h0, h⟩ := h
        refine ⟨_, _, fr_must h0, ?_, ?_⟩
        · intro S58 hq
          replace h := h.1 S58 hq.1
          replace f := f.tr (hq.2.mo (by decide) (by decide))
          exact fr_types_J48 (fun _ _ f h => ih f h) f h
        · intro u9 hq
          exact ⟨h.2 u9 hq.1, f.tr (hq.2.mo (by decide) (by decide))⟩
      · replace h := h.2 c
        exact fr_types_J48 (fun _ _ f h => ih f h) f h
set_option maxRecDepth 100000 in
theorem fr_types {S : MS} {Q : MS → Prop} {E : MS → Prop} (h : w_types S  Q E) : w_types S  (fun u => Q u ∧ frm [] [7, 8] S u) (fun u => E u ∧ frm [] [7, 8] S u) := by
  have f : frm [] [7, 8] S S := frm.rf
  unfold w_types at h ⊢
  obtain ⟨n9, h⟩ := h
  exact ⟨n9, fr_types_L2 n9 f h⟩
set_option maxRecDepth 100000 in
theorem fr_wholes_J59 {S0 : MS} {Q : MS → Prop} {E : MS → Prop} {k35 k35' : MS → Int32 → Prop} {U59 : MS} {t59_0 : Int32} {v59_2 : Int32} {v59_3 : Int32} (hk35 : ∀ (u : MS) (z0), frm [18] [7, 8, 36, 37, 39] S0 u → k35 u z0 → k35' u z0) (f : frm [18] [7, 8, 36, 37, 39] S0 U59) (h : w_wholes_J59 Q E k35 U59 t59_0 v59_2 v59_3) : w_wholes_J59 (fun u => Q u ∧ frm [18] [7, 8, 36, 37, 39] S0 u) (fun u => E u ∧ frm [18] [7, 8, 36, 37, 39] S0 u) k35' U59 t59_0 v59_2 v59_3 := by
  unfold w_wholes_J59 at h ⊢
  obtain ⟨Q9, E9, h0, h⟩ := h
  refine ⟨_, _, fr_must h0, ?_, ?_⟩
  · intro S15 hq
    replace h := h.1 S15 hq.1
    replace f := f.tr (hq.2.mo (by decide) (by decide))
    refine ⟨h.1, ?_⟩
    replace h := h.2
    intro S18 eS18
    replace h := h S18 eS18
    replace f := f.tr (show frm [18] [7, 8, 36, 37, 39] S15 S18 by rw [eS18]; exact frm.pI (by decide))
    intro S20 eS20
    replace h := h S20 eS20
    replace f := f.tr (show frm [18] [7, 8, 36, 37, 39] S18 S20 by rw [eS20]; exact frm.pI0 (by decide))
    intro a22 ea22
    replace h := h a22 ea22
    exact hk35 _ _ f h
  · intro u9 hq
    exact ⟨h.2 u9 hq.1, f.tr (hq.2.mo (by decide) (by decide))⟩
set_option maxRecDepth 100000 in
theorem fr_wholes_L35 {S0 : MS} {Q : MS → Prop} {E : MS → Prop} : ∀ (n : Nat) {U35 : MS} {v35_2 : Int32}, frm [18] [7, 8, 36, 37, 39] S0 U35 → w_wholes_L35 Q E n U35 v35_2 → w_wholes_L35 (fun u => Q u ∧ frm [18] [7, 8, 36, 37, 39] S0 u) (fun u => E u ∧ frm [18] [7, 8, 36, 37, 39] S0 u) n U35 v35_2 := by
  intro n
  induction n with
  | zero => intro U35 v35_2 f h; unfold w_wholes_L35 at h; exact h.elim
  | succ n ih =>
    intro U35 v35_2 f h
    unfold w_wholes_L35 at h ⊢
    refine ⟨fun c => ?_, fun c => ?_⟩
    · replace h := h.1 c
      refine ⟨h.1, ?_⟩
      replace h := h.2
      intro S8 eS8
      replace h := h S8 eS8
      replace f := f.tr (show frm [18] [7, 8, 36, 37, 39] U35 S8 by rw [eS8]; exact frm.pI (by decide))
      exact ⟨h, f⟩
    · replace h := h.2 c
      obtain ⟨Q9, h0, h⟩ := h
      refine ⟨_, fr_span h0, ?_⟩
      · intro r10 S11 hq
        replace h := h r10 S11 hq.1
        replace f := f.tr (hq.2.mo (by decide) (by decide))
        refine ⟨fun c => ?_, fun c => ?_⟩
        · replace h := h.1 c
          exact fr_wholes_J59 (fun _ _ f h => ih f h) f h
        · replace h := h.2 c
          exact fr_wholes_J59 (fun _ _ f h => ih f h) f h
set_option maxRecDepth 100000 in
theorem fr_wholes_L7 {S0 : MS} {Q : MS → Prop} {E : MS → Prop} : ∀ (n : Nat) {U7 : MS} {v7_2 : Int32}, frm [18] [7, 8, 36, 37, 39] S0 U7 → w_wholes_L7 Q E n U7 v7_2 → w_wholes_L7 (fun u => Q u ∧ frm [18] [7, 8, 36, 37, 39] S0 u) (fun u => E u ∧ frm [18] [7, 8, 36, 37, 39] S0 u) n U7 v7_2 := by
  intro n
  induction n with
  | zero => intro U7 v7_2 f h; unfold w_wholes_L7 at h; exact h.elim
  | succ n ih =>
    intro U7 v7_2 f h
    unfold w_wholes_L7 at h ⊢
    refine ⟨fun c => ?_, fun c => ?_⟩
    · replace h := h.1 c
      intro S5 eS5
      replace h := h S5 eS5
      replace f := f.tr (show frm [18] [7, 8, 36, 37, 39] U7 S5 by rw [eS5]; exact frm.pI0 (by decide))
      obtain ⟨n9, h⟩ := h
      exact ⟨n9, fr_wholes_L35 n9 f h⟩
    · replace h := h.2 c
      refine ⟨h.1, ?_⟩
      replace h := h.2
      intro S25 eS25
      replace h := h S25 eS25
      replace f := f.tr (show frm [18] [7, 8, 36, 37, 39] U7 S25 by rw [eS25]; exact frm.pI (by decide))
      intro a26 ea26
      replace h := h a26 ea26
      exact ih f h
set_option maxRecDepth 100000 in
theorem fr_wholes {S : MS} {x1 : Int32} {Q : MS → Prop} {E : MS → Prop} (h : w_wholes S x1 Q E) : w_wholes S x1 (fun u => Q u ∧ frm [18] [7, 8, 36, 37, 39] S u) (fun u => E u ∧ frm [18] [7, 8, 36, 37, 39] S u) := by
  have f : frm [18] [7, 8, 36, 37, 39] S S := frm.rf
  unfold w_wholes at h ⊢
  obtain ⟨Q9, h0, h⟩ := h
  refine ⟨_, fr_take h0, ?_⟩
  · intro S2 hq
    replace h := h S2 hq.1
    replace f := f.tr (hq.2.mo (by decide) (by decide))
    obtain ⟨n9, h⟩ := h
    exact ⟨n9, fr_wholes_L7 n9 f h⟩
/-! numbers, for the proofs of the preconditions -/
theorem t_add {a b : Int32} (h : -2147483648 ≤ a.toInt + b.toInt ∧ a.toInt + b.toInt ≤ 2147483647) : (a + b).toInt = a.toInt + b.toInt := by
  rw [Int32.toInt_add]
  apply Int.bmod_eq_of_le <;> omega
theorem t_sub {a b : Int32} (h : -2147483648 ≤ a.toInt - b.toInt ∧ a.toInt - b.toInt ≤ 2147483647) : (a - b).toInt = a.toInt - b.toInt := by
  rw [Int32.toInt_sub]
  apply Int.bmod_eq_of_le <;> omega
theorem t_mul {a b : Int32} (h : -2147483648 ≤ a.toInt * b.toInt ∧ a.toInt * b.toInt ≤ 2147483647) : (a * b).toInt = a.toInt * b.toInt := by
  rw [Int32.toInt_mul]
  apply Int.bmod_eq_of_le <;> omega
theorem li_m1 : (-1 : Int32).toInt = -1 := by decide
theorem lo_m1 : (Int32.ofInt (-1)).toInt = -1 := by decide
theorem li_0 : (0 : Int32).toInt = 0 := by decide
theorem lo_0 : (Int32.ofInt (0)).toInt = 0 := by decide
theorem li_1 : (1 : Int32).toInt = 1 := by decide
theorem lo_1 : (Int32.ofInt (1)).toInt = 1 := by decide
theorem li_2 : (2 : Int32).toInt = 2 := by decide
theorem lo_2 : (Int32.ofInt (2)).toInt = 2 := by decide
theorem li_3 : (3 : Int32).toInt = 3 := by decide
theorem li_4 : (4 : Int32).toInt = 4 := by decide
theorem lo_4 : (Int32.ofInt (4)).toInt = 4 := by decide
theorem li_5 : (5 : Int32).toInt = 5 := by decide
theorem lo_5 : (Int32.ofInt (5)).toInt = 5 := by decide
theorem li_6 : (6 : Int32).toInt = 6 := by decide
theorem li_8 : (8 : Int32).toInt = 8 := by decide
theorem lo_8 : (Int32.ofInt (8)).toInt = 8 := by decide
theorem li_20 : (20 : Int32).toInt = 20 := by decide
theorem lo_20 : (Int32.ofInt (20)).toInt = 20 := by decide
theorem li_24 : (24 : Int32).toInt = 24 := by decide
theorem lo_24 : (Int32.ofInt (24)).toInt = 24 := by decide
theorem li_31 : (31 : Int32).toInt = 31 := by decide
theorem lo_31 : (Int32.ofInt (31)).toInt = 31 := by decide
section RDS
variable {S : MS} {h i : Nat} {v : Int32} {w : Int64} {r : Option Nat}
theorem qI_wJ : qI (wJ S h i w) = qI S := rfl
theorem qI_wR : qI (wR S h i r) = qI S := rfl
theorem qJ_wI : qJ (wI S h i v) = qJ S := rfl
theorem qJ_wR : qJ (wR S h i r) = qJ S := rfl
theorem qR_wI : qR (wI S h i v) = qR S := rfl
theorem qR_wJ : qR (wJ S h i w) = qR S := rfl
theorem qT_wI : qT (wI S h i v) = qT S := rfl
theorem qT_wJ : qT (wJ S h i w) = qT S := rfl
theorem qT_wR : qT (wR S h i r) = qT S := rfl
theorem qN_wI : qN (wI S h i v) = qN S := rfl
theorem qN_wJ : qN (wJ S h i w) = qN S := rfl
theorem qN_wR : qN (wR S h i r) = qN S := rfl
theorem qn_wI : qn (wI S h i v) = qn S := rfl
theorem qn_wJ : qn (wJ S h i w) = qn S := rfl
theorem qn_wR : qn (wR S h i r) = qn S := rfl
end RDS

set_option maxHeartbeats 1000000 in
set_option maxRecDepth 10000 in
theorem sp_word {S : MS} {x1 : Int32} {Q : MS → Prop} (h0 : 0 ≤ (qI S 0 4).toInt ∧ (qI S 0 4).toInt + 4 ≤ 16000) (hQ : ∀ (u : MS), (qI u 0 4).toInt = (qI S 0 4).toInt + 4 → Q u) : w_word S x1 Q := by
  unfold w_word
  have lp_2 : ∀ (n : Nat) (U2 : MS) (v2_1 : Int32) (v2_2 : Int32), (0 ≤ v2_2.toInt ∧ v2_2.toInt ≤ 4 ∧ (qI U2 0 4).toInt = (qI S 0 4).toInt + v2_2.toInt) → (4 - v2_2.toInt).toNat < n → w_word_L2 Q n U2 v2_1 v2_2 := by
    intro n
    induction n with
    | zero => intro U2 v2_1 v2_2 _ h9; exact absurd h9 (Nat.not_lt_zero _)
    | succ n2 ih_2 =>
      intro U2 v2_1 v2_2 hi9 hm9
      obtain ⟨i2_0, i2_1, i2_2⟩ := hi9
      unfold w_word_L2
      refine ⟨fun c1 => ?_, fun c1 => ?_⟩
      · (try simp (disch := (first | omega | (simp only [li_0, li_1, li_2, li_4, li_8, li_24, li_31, lo_0, lo_1, lo_2, lo_4, lo_8, lo_24, lo_31]; omega) | (simp (disch := (first | omega | (simp only [li_0, li_1, li_2, li_4, li_8, li_24, li_31, lo_0, lo_1, lo_2, lo_4, lo_8, lo_24, lo_31]; omega))) only [t_add, t_sub, t_mul, li_0, li_1, li_2, li_4, li_8, li_24, li_31, lo_0, lo_1, lo_2, lo_4, lo_8, lo_24, lo_31]; omega))) only [t_add, t_sub, t_mul, li_0, li_1, li_2, li_4, li_8, li_24, li_31, lo_0, lo_1, lo_2, lo_4, lo_8, lo_24, lo_31] at c1)
        exact hQ _ (by first | omega | (simp (disch := (first | omega | (simp only [li_0, li_1, li_2, li_4, li_8, li_24, li_31, lo_0, lo_1, lo_2, lo_4, lo_8, lo_24, lo_31]; omega) | (simp (disch := (first | omega | (simp only [li_0, li_1, li_2, li_4, li_8, li_24, li_31, lo_0, lo_1, lo_2, lo_4, lo_8, lo_24, lo_31]; omega))) only [t_add, t_sub, t_mul, li_0, li_1, li_2, li_4, li_8, li_24, li_31, lo_0, lo_1, lo_2, lo_4, lo_8, lo_24, lo_31]; omega))) only [t_add, t_sub, t_mul, li_0, li_1, li_2, li_4, li_8, li_24, li_31, lo_0, lo_1, lo_2, lo_4, lo_8, lo_24, lo_31]; omega) | (simp (disch := (first | omega | (simp only [li_0, li_1, li_2, li_4, li_8, li_24, li_31, lo_0, lo_1, lo_2, lo_4, lo_8, lo_24, lo_31]; omega) | (simp (disch := (first | omega | (simp only [li_0, li_1, li_2, li_4, li_8, li_24, li_31, lo_0, lo_1, lo_2, lo_4, lo_8, lo_24, lo_31]; omega))) only [t_add, t_sub, t_mul, li_0, li_1, li_2, li_4, li_8, li_24, li_31, lo_0, lo_1, lo_2, lo_4, lo_8, lo_24, lo_31]; omega))) only [qI_wI, qJ_wJ, qR_wR, qI_wJ, qI_wR, qJ_wI, qJ_wR, qR_wI, qR_wJ, qT_wI, qT_wJ, qT_wR, qN_wI, qN_wJ, qN_wR, qn_wI, qn_wJ, qn_wR, eq_self, and_self, ne_eq, not_false_eq_true, not_true_eq_false, false_and, and_false, true_and, and_true, if_false, if_true, reduceIte, Nat.reduceEqDiff, t_add, t_sub, t_mul, li_0, li_1, li_2, li_4, li_8, li_24, li_31, lo_0, lo_1, lo_2, lo_4, lo_8, lo_24, lo_31]; omega) | assumption | exact trivial)
      · (try simp (disch := (first | omega | (simp only [li_0, li_1, li_2, li_4, li_8, li_24, li_31, lo_0, lo_1, lo_2, lo_4, lo_8, lo_24, lo_31]; omega) | (simp (disch := (first | omega | (simp only [li_0, li_1, li_2, li_4, li_8, li_24, li_31, lo_0, lo_1, lo_2, lo_4, lo_8, lo_24, lo_31]; omega))) only [t_add, t_sub, t_mul, li_0, li_1, li_2, li_4, li_8, li_24, li_31, lo_0, lo_1, lo_2, lo_4, lo_8, lo_24, lo_31]; omega))) only [t_add, t_sub, t_mul, li_0, li_1, li_2, li_4, li_8, li_24, li_31, lo_0, lo_1, lo_2, lo_4, lo_8, lo_24, lo_31] at c1)
        have hv2 : ((0 : Int) ≤ (qI U2 0 4).toInt ∧ (qI U2 0 4).toInt < 16000) := by first | omega | (simp (disch := (first | omega | (simp only [li_0, li_1, li_2, li_4, li_8, li_24, li_31, lo_0, lo_1, lo_2, lo_4, lo_8, lo_24, lo_31]; omega) | (simp (disch := (first | omega | (simp only [li_0, li_1, li_2, li_4, li_8, li_24, li_31, lo_0, lo_1, lo_2, lo_4, lo_8, lo_24, lo_31]; omega))) only [t_add, t_sub, t_mul, li_0, li_1, li_2, li_4, li_8, li_24, li_31, lo_0, lo_1, lo_2, lo_4, lo_8, lo_24, lo_31]; omega))) only [t_add, t_sub, t_mul, li_0, li_1, li_2, li_4, li_8, li_24, li_31, lo_0, lo_1, lo_2, lo_4, lo_8, lo_24, lo_31]; omega) | (simp (disch := (first | omega | (simp only [li_0, li_1, li_2, li_4, li_8, li_24, li_31, lo_0, lo_1, lo_2, lo_4, lo_8, lo_24, lo_31]; omega) | (simp (disch := (first | omega | (simp only [li_0, li_1, li_2, li_4, li_8, li_24, li_31, lo_0, lo_1, lo_2, lo_4, lo_8, lo_24, lo_31]; omega))) only [t_add, t_sub, t_mul, li_0, li_1, li_2, li_4, li_8, li_24, li_31, lo_0, lo_1, lo_2, lo_4, lo_8, lo_24, lo_31]; omega))) only [qI_wI, qJ_wJ, qR_wR, qI_wJ, qI_wR, qJ_wI, qJ_wR, qR_wI, qR_wJ, qT_wI, qT_wJ, qT_wR, qN_wI, qN_wJ, qN_wR, qn_wI, qn_wJ, qn_wR, eq_self, and_self, ne_eq, not_false_eq_true, not_true_eq_false, false_and, and_false, true_and, and_true, if_false, if_true, reduceIte, Nat.reduceEqDiff, t_add, t_sub, t_mul, li_0, li_1, li_2, li_4, li_8, li_24, li_31, lo_0, lo_1, lo_2, lo_4, lo_8, lo_24, lo_31]; omega) | assumption | exact trivial
        refine ⟨hv2, ?_⟩
        intro S6 eS6
        subst eS6
        (try simp only [qI_wI, qJ_wJ, qR_wR, qI_wJ, qI_wR, qJ_wI, qJ_wR, qR_wI, qR_wJ, qT_wI, qT_wJ, qT_wR, qN_wI, qN_wJ, qN_wR, qn_wI, qn_wJ, qn_wR, eq_self, and_self, ne_eq, not_false_eq_true, not_true_eq_false, false_and, and_false, true_and, and_true, if_false, if_true, reduceIte, Nat.reduceEqDiff])
        intro S8 eS8
        subst eS8
        (try simp only [qI_wI, qJ_wJ, qR_wR, qI_wJ, qI_wR, qJ_wI, qJ_wR, qR_wI, qR_wJ, qT_wI, qT_wJ, qT_wR, qN_wI, qN_wJ, qN_wR, qn_wI, qn_wJ, qn_wR, eq_self, and_self, ne_eq, not_false_eq_true, not_true_eq_false, false_and, and_false, true_and, and_true, if_false, if_true, reduceIte, Nat.reduceEqDiff])
        intro a9 ea9
        have ta9 := congrArg Int32.toInt ea9
        (try simp (disch := (first | omega | (simp only [li_0, li_1, li_2, li_4, li_8, li_24, li_31, lo_0, lo_1, lo_2, lo_4, lo_8, lo_24, lo_31]; omega) | (simp (disch := (first | omega | (simp only [li_0, li_1, li_2, li_4, li_8, li_24, li_31, lo_0, lo_1, lo_2, lo_4, lo_8, lo_24, lo_31]; omega))) only [t_add, t_sub, t_mul, li_0, li_1, li_2, li_4, li_8, li_24, li_31, lo_0, lo_1, lo_2, lo_4, lo_8, lo_24, lo_31]; omega))) only [t_add, t_sub, t_mul, li_0, li_1, li_2, li_4, li_8, li_24, li_31, lo_0, lo_1, lo_2, lo_4, lo_8, lo_24, lo_31] at ta9)
        exact ih_2 _ _ _ ⟨by first | omega | (simp (disch := (first | omega | (simp only [li_0, li_1, li_2, li_4, li_8, li_24, li_31, lo_0, lo_1, lo_2, lo_4, lo_8, lo_24, lo_31]; omega) | (simp (disch := (first | omega | (simp only [li_0, li_1, li_2, li_4, li_8, li_24, li_31, lo_0, lo_1, lo_2, lo_4, lo_8, lo_24, lo_31]; omega))) only [t_add, t_sub, t_mul, li_0, li_1, li_2, li_4, li_8, li_24, li_31, lo_0, lo_1, lo_2, lo_4, lo_8, lo_24, lo_31]; omega))) only [t_add, t_sub, t_mul, li_0, li_1, li_2, li_4, li_8, li_24, li_31, lo_0, lo_1, lo_2, lo_4, lo_8, lo_24, lo_31]; omega) | (simp (disch := (first | omega | (simp only [li_0, li_1, li_2, li_4, li_8, li_24, li_31, lo_0, lo_1, lo_2, lo_4, lo_8, lo_24, lo_31]; omega) | (simp (disch := (first | omega | (simp only [li_0, li_1, li_2, li_4, li_8, li_24, li_31, lo_0, lo_1, lo_2, lo_4, lo_8, lo_24, lo_31]; omega))) only [t_add, t_sub, t_mul, li_0, li_1, li_2, li_4, li_8, li_24, li_31, lo_0, lo_1, lo_2, lo_4, lo_8, lo_24, lo_31]; omega))) only [qI_wI, qJ_wJ, qR_wR, qI_wJ, qI_wR, qJ_wI, qJ_wR, qR_wI, qR_wJ, qT_wI, qT_wJ, qT_wR, qN_wI, qN_wJ, qN_wR, qn_wI, qn_wJ, qn_wR, eq_self, and_self, ne_eq, not_false_eq_true, not_true_eq_false, false_and, and_false, true_and, and_true, if_false, if_true, reduceIte, Nat.reduceEqDiff, t_add, t_sub, t_mul, li_0, li_1, li_2, li_4, li_8, li_24, li_31, lo_0, lo_1, lo_2, lo_4, lo_8, lo_24, lo_31]; omega) | assumption | exact trivial, by first | omega | (simp (disch := (first | omega | (simp only [li_0, li_1, li_2, li_4, li_8, li_24, li_31, lo_0, lo_1, lo_2, lo_4, lo_8, lo_24, lo_31]; omega) | (simp (disch := (first | omega | (simp only [li_0, li_1, li_2, li_4, li_8, li_24, li_31, lo_0, lo_1, lo_2, lo_4, lo_8, lo_24, lo_31]; omega))) only [t_add, t_sub, t_mul, li_0, li_1, li_2, li_4, li_8, li_24, li_31, lo_0, lo_1, lo_2, lo_4, lo_8, lo_24, lo_31]; omega))) only [t_add, t_sub, t_mul, li_0, li_1, li_2, li_4, li_8, li_24, li_31, lo_0, lo_1, lo_2, lo_4, lo_8, lo_24, lo_31]; omega) | (simp (disch := (first | omega | (simp only [li_0, li_1, li_2, li_4, li_8, li_24, li_31, lo_0, lo_1, lo_2, lo_4, lo_8, lo_24, lo_31]; omega) | (simp (disch := (first | omega | (simp only [li_0, li_1, li_2, li_4, li_8, li_24, li_31, lo_0, lo_1, lo_2, lo_4, lo_8, lo_24, lo_31]; omega))) only [t_add, t_sub, t_mul, li_0, li_1, li_2, li_4, li_8, li_24, li_31, lo_0, lo_1, lo_2, lo_4, lo_8, lo_24, lo_31]; omega))) only [qI_wI, qJ_wJ, qR_wR, qI_wJ, qI_wR, qJ_wI, qJ_wR, qR_wI, qR_wJ, qT_wI, qT_wJ, qT_wR, qN_wI, qN_wJ, qN_wR, qn_wI, qn_wJ, qn_wR, eq_self, and_self, ne_eq, not_false_eq_true, not_true_eq_false, false_and, and_false, true_and, and_true, if_false, if_true, reduceIte, Nat.reduceEqDiff, t_add, t_sub, t_mul, li_0, li_1, li_2, li_4, li_8, li_24, li_31, lo_0, lo_1, lo_2, lo_4, lo_8, lo_24, lo_31]; omega) | assumption | exact trivial, by first | omega | (simp (disch := (first | omega | (simp only [li_0, li_1, li_2, li_4, li_8, li_24, li_31, lo_0, lo_1, lo_2, lo_4, lo_8, lo_24, lo_31]; omega) | (simp (disch := (first | omega | (simp only [li_0, li_1, li_2, li_4, li_8, li_24, li_31, lo_0, lo_1, lo_2, lo_4, lo_8, lo_24, lo_31]; omega))) only [t_add, t_sub, t_mul, li_0, li_1, li_2, li_4, li_8, li_24, li_31, lo_0, lo_1, lo_2, lo_4, lo_8, lo_24, lo_31]; omega))) only [t_add, t_sub, t_mul, li_0, li_1, li_2, li_4, li_8, li_24, li_31, lo_0, lo_1, lo_2, lo_4, lo_8, lo_24, lo_31]; omega) | (simp (disch := (first | omega | (simp only [li_0, li_1, li_2, li_4, li_8, li_24, li_31, lo_0, lo_1, lo_2, lo_4, lo_8, lo_24, lo_31]; omega) | (simp (disch := (first | omega | (simp only [li_0, li_1, li_2, li_4, li_8, li_24, li_31, lo_0, lo_1, lo_2, lo_4, lo_8, lo_24, lo_31]; omega))) only [t_add, t_sub, t_mul, li_0, li_1, li_2, li_4, li_8, li_24, li_31, lo_0, lo_1, lo_2, lo_4, lo_8, lo_24, lo_31]; omega))) only [qI_wI, qJ_wJ, qR_wR, qI_wJ, qI_wR, qJ_wI, qJ_wR, qR_wI, qR_wJ, qT_wI, qT_wJ, qT_wR, qN_wI, qN_wJ, qN_wR, qn_wI, qn_wJ, qn_wR, eq_self, and_self, ne_eq, not_false_eq_true, not_true_eq_false, false_and, and_false, true_and, and_true, if_false, if_true, reduceIte, Nat.reduceEqDiff, t_add, t_sub, t_mul, li_0, li_1, li_2, li_4, li_8, li_24, li_31, lo_0, lo_1, lo_2, lo_4, lo_8, lo_24, lo_31]; omega) | assumption | exact trivial⟩ (by first | omega | (simp (disch := (first | omega | (simp only [li_0, li_1, li_2, li_4, li_8, li_24, li_31, lo_0, lo_1, lo_2, lo_4, lo_8, lo_24, lo_31]; omega) | (simp (disch := (first | omega | (simp only [li_0, li_1, li_2, li_4, li_8, li_24, li_31, lo_0, lo_1, lo_2, lo_4, lo_8, lo_24, lo_31]; omega))) only [t_add, t_sub, t_mul, li_0, li_1, li_2, li_4, li_8, li_24, li_31, lo_0, lo_1, lo_2, lo_4, lo_8, lo_24, lo_31]; omega))) only [t_add, t_sub, t_mul, li_0, li_1, li_2, li_4, li_8, li_24, li_31, lo_0, lo_1, lo_2, lo_4, lo_8, lo_24, lo_31]; omega) | (simp (disch := (first | omega | (simp only [li_0, li_1, li_2, li_4, li_8, li_24, li_31, lo_0, lo_1, lo_2, lo_4, lo_8, lo_24, lo_31]; omega) | (simp (disch := (first | omega | (simp only [li_0, li_1, li_2, li_4, li_8, li_24, li_31, lo_0, lo_1, lo_2, lo_4, lo_8, lo_24, lo_31]; omega))) only [t_add, t_sub, t_mul, li_0, li_1, li_2, li_4, li_8, li_24, li_31, lo_0, lo_1, lo_2, lo_4, lo_8, lo_24, lo_31]; omega))) only [qI_wI, qJ_wJ, qR_wR, qI_wJ, qI_wR, qJ_wI, qJ_wR, qR_wI, qR_wJ, qT_wI, qT_wJ, qT_wR, qN_wI, qN_wJ, qN_wR, qn_wI, qn_wJ, qn_wR, eq_self, and_self, ne_eq, not_false_eq_true, not_true_eq_false, false_and, and_false, true_and, and_true, if_false, if_true, reduceIte, Nat.reduceEqDiff, t_add, t_sub, t_mul, li_0, li_1, li_2, li_4, li_8, li_24, li_31, lo_0, lo_1, lo_2, lo_4, lo_8, lo_24, lo_31]; omega) | assumption | exact trivial)
  exact ⟨_, lp_2 _ _ _ _ ⟨by first | omega | (simp (disch := (first | omega | (simp only [li_0, li_1, li_2, li_4, li_8, li_24, li_31, lo_0, lo_1, lo_2, lo_4, lo_8, lo_24, lo_31]; omega) | (simp (disch := (first | omega | (simp only [li_0, li_1, li_2, li_4, li_8, li_24, li_31, lo_0, lo_1, lo_2, lo_4, lo_8, lo_24, lo_31]; omega))) only [t_add, t_sub, t_mul, li_0, li_1, li_2, li_4, li_8, li_24, li_31, lo_0, lo_1, lo_2, lo_4, lo_8, lo_24, lo_31]; omega))) only [t_add, t_sub, t_mul, li_0, li_1, li_2, li_4, li_8, li_24, li_31, lo_0, lo_1, lo_2, lo_4, lo_8, lo_24, lo_31]; omega) | (simp (disch := (first | omega | (simp only [li_0, li_1, li_2, li_4, li_8, li_24, li_31, lo_0, lo_1, lo_2, lo_4, lo_8, lo_24, lo_31]; omega) | (simp (disch := (first | omega | (simp only [li_0, li_1, li_2, li_4, li_8, li_24, li_31, lo_0, lo_1, lo_2, lo_4, lo_8, lo_24, lo_31]; omega))) only [t_add, t_sub, t_mul, li_0, li_1, li_2, li_4, li_8, li_24, li_31, lo_0, lo_1, lo_2, lo_4, lo_8, lo_24, lo_31]; omega))) only [qI_wI, qJ_wJ, qR_wR, qI_wJ, qI_wR, qJ_wI, qJ_wR, qR_wI, qR_wJ, qT_wI, qT_wJ, qT_wR, qN_wI, qN_wJ, qN_wR, qn_wI, qn_wJ, qn_wR, eq_self, and_self, ne_eq, not_false_eq_true, not_true_eq_false, false_and, and_false, true_and, and_true, if_false, if_true, reduceIte, Nat.reduceEqDiff, t_add, t_sub, t_mul, li_0, li_1, li_2, li_4, li_8, li_24, li_31, lo_0, lo_1, lo_2, lo_4, lo_8, lo_24, lo_31]; omega) | assumption | exact trivial, by first | omega | (simp (disch := (first | omega | (simp only [li_0, li_1, li_2, li_4, li_8, li_24, li_31, lo_0, lo_1, lo_2, lo_4, lo_8, lo_24, lo_31]; omega) | (simp (disch := (first | omega | (simp only [li_0, li_1, li_2, li_4, li_8, li_24, li_31, lo_0, lo_1, lo_2, lo_4, lo_8, lo_24, lo_31]; omega))) only [t_add, t_sub, t_mul, li_0, li_1, li_2, li_4, li_8, li_24, li_31, lo_0, lo_1, lo_2, lo_4, lo_8, lo_24, lo_31]; omega))) only [t_add, t_sub, t_mul, li_0, li_1, li_2, li_4, li_8, li_24, li_31, lo_0, lo_1, lo_2, lo_4, lo_8, lo_24, lo_31]; omega) | (simp (disch := (first | omega | (simp only [li_0, li_1, li_2, li_4, li_8, li_24, li_31, lo_0, lo_1, lo_2, lo_4, lo_8, lo_24, lo_31]; omega) | (simp (disch := (first | omega | (simp only [li_0, li_1, li_2, li_4, li_8, li_24, li_31, lo_0, lo_1, lo_2, lo_4, lo_8, lo_24, lo_31]; omega))) only [t_add, t_sub, t_mul, li_0, li_1, li_2, li_4, li_8, li_24, li_31, lo_0, lo_1, lo_2, lo_4, lo_8, lo_24, lo_31]; omega))) only [qI_wI, qJ_wJ, qR_wR, qI_wJ, qI_wR, qJ_wI, qJ_wR, qR_wI, qR_wJ, qT_wI, qT_wJ, qT_wR, qN_wI, qN_wJ, qN_wR, qn_wI, qn_wJ, qn_wR, eq_self, and_self, ne_eq, not_false_eq_true, not_true_eq_false, false_and, and_false, true_and, and_true, if_false, if_true, reduceIte, Nat.reduceEqDiff, t_add, t_sub, t_mul, li_0, li_1, li_2, li_4, li_8, li_24, li_31, lo_0, lo_1, lo_2, lo_4, lo_8, lo_24, lo_31]; omega) | assumption | exact trivial, by first | omega | (simp (disch := (first | omega | (simp only [li_0, li_1, li_2, li_4, li_8, li_24, li_31, lo_0, lo_1, lo_2, lo_4, lo_8, lo_24, lo_31]; omega) | (simp (disch := (first | omega | (simp only [li_0, li_1, li_2, li_4, li_8, li_24, li_31, lo_0, lo_1, lo_2, lo_4, lo_8, lo_24, lo_31]; omega))) only [t_add, t_sub, t_mul, li_0, li_1, li_2, li_4, li_8, li_24, li_31, lo_0, lo_1, lo_2, lo_4, lo_8, lo_24, lo_31]; omega))) only [t_add, t_sub, t_mul, li_0, li_1, li_2, li_4, li_8, li_24, li_31, lo_0, lo_1, lo_2, lo_4, lo_8, lo_24, lo_31]; omega) | (simp (disch := (first | omega | (simp only [li_0, li_1, li_2, li_4, li_8, li_24, li_31, lo_0, lo_1, lo_2, lo_4, lo_8, lo_24, lo_31]; omega) | (simp (disch := (first | omega | (simp only [li_0, li_1, li_2, li_4, li_8, li_24, li_31, lo_0, lo_1, lo_2, lo_4, lo_8, lo_24, lo_31]; omega))) only [t_add, t_sub, t_mul, li_0, li_1, li_2, li_4, li_8, li_24, li_31, lo_0, lo_1, lo_2, lo_4, lo_8, lo_24, lo_31]; omega))) only [qI_wI, qJ_wJ, qR_wR, qI_wJ, qI_wR, qJ_wI, qJ_wR, qR_wI, qR_wJ, qT_wI, qT_wJ, qT_wR, qN_wI, qN_wJ, qN_wR, qn_wI, qn_wJ, qn_wR, eq_self, and_self, ne_eq, not_false_eq_true, not_true_eq_false, false_and, and_false, true_and, and_true, if_false, if_true, reduceIte, Nat.reduceEqDiff, t_add, t_sub, t_mul, li_0, li_1, li_2, li_4, li_8, li_24, li_31, lo_0, lo_1, lo_2, lo_4, lo_8, lo_24, lo_31]; omega) | assumption | exact trivial⟩ (Nat.lt_succ_self _)⟩
set_option maxHeartbeats 1000000 in
set_option maxRecDepth 10000 in
theorem sp_feed {S : MS} {x1 : Int32} {x2 : Int32} {x3 : Int32} {x4 : Int32} {x5 : Int32} {Q : Int32 → MS → Prop} (h0 : 0 ≤ (qI S 0 4).toInt ∧ (qI S 0 4).toInt ≤ 16000) (h1 : 0 ≤ (qI S 0 5).toInt ∧ (qI S 0 5).toInt ≤ 65536) (hQ : ∀ (r : Int32) (u : MS), (0 ≤ (qI u 0 4).toInt ∧ (qI u 0 4).toInt ≤ 16000) ∧ (0 ≤ (qI u 0 5).toInt ∧ (qI u 0 5).toInt ≤ 65536) → Q r u) : w_feed S x1 x2 x3 x4 x5 Q := by
  unfold w_feed
  refine ⟨fun c1 => ?_, fun c1 => ?_⟩
  · (try simp (disch := (first | omega | (simp only [li_m1, li_0, li_4, li_5, li_20, lo_m1, lo_0, lo_4, lo_5, lo_20]; omega) | (simp (disch := (first | omega | (simp only [li_m1, li_0, li_4, li_5, li_20, lo_m1, lo_0, lo_4, lo_5, lo_20]; omega))) only [t_add, t_sub, t_mul, li_m1, li_0, li_4, li_5, li_20, lo_m1, lo_0, lo_4, lo_5, lo_20]; omega))) only [t_add, t_sub, t_mul, li_m1, li_0, li_4, li_5, li_20, lo_m1, lo_0, lo_4, lo_5, lo_20] at c1)
    exact hQ _ _ (by first | omega | (simp (disch := (first | omega | (simp only [li_m1, li_0, li_4, li_5, li_20, lo_m1, lo_0, lo_4, lo_5, lo_20]; omega) | (simp (disch := (first | omega | (simp only [li_m1, li_0, li_4, li_5, li_20, lo_m1, lo_0, lo_4, lo_5, lo_20]; omega))) only [t_add, t_sub, t_mul, li_m1, li_0, li_4, li_5, li_20, lo_m1, lo_0, lo_4, lo_5, lo_20]; omega))) only [t_add, t_sub, t_mul, li_m1, li_0, li_4, li_5, li_20, lo_m1, lo_0, lo_4, lo_5, lo_20]; omega) | (simp (disch := (first | omega | (simp only [li_m1, li_0, li_4, li_5, li_20, lo_m1, lo_0, lo_4, lo_5, lo_20]; omega) | (simp (disch := (first | omega | (simp only [li_m1, li_0, li_4, li_5, li_20, lo_m1, lo_0, lo_4, lo_5, lo_20]; omega))) only [t_add, t_sub, t_mul, li_m1, li_0, li_4, li_5, li_20, lo_m1, lo_0, lo_4, lo_5, lo_20]; omega))) only [qI_wI, qJ_wJ, qR_wR, qI_wJ, qI_wR, qJ_wI, qJ_wR, qR_wI, qR_wJ, qT_wI, qT_wJ, qT_wR, qN_wI, qN_wJ, qN_wR, qn_wI, qn_wJ, qn_wR, eq_self, and_self, ne_eq, not_false_eq_true, not_true_eq_false, false_and, and_false, true_and, and_true, if_false, if_true, reduceIte, Nat.reduceEqDiff, t_add, t_sub, t_mul, li_m1, li_0, li_4, li_5, li_20, lo_m1, lo_0, lo_4, lo_5, lo_20]; omega) | assumption | exact trivial)
  · (try simp (disch := (first | omega | (simp only [li_m1, li_0, li_4, li_5, li_20, lo_m1, lo_0, lo_4, lo_5, lo_20]; omega) | (simp (disch := (first | omega | (simp only [li_m1, li_0, li_4, li_5, li_20, lo_m1, lo_0, lo_4, lo_5, lo_20]; omega))) only [t_add, t_sub, t_mul, li_m1, li_0, li_4, li_5, li_20, lo_m1, lo_0, lo_4, lo_5, lo_20]; omega))) only [t_add, t_sub, t_mul, li_m1, li_0, li_4, li_5, li_20, lo_m1, lo_0, lo_4, lo_5, lo_20] at c1)
    refine ⟨fun c2 => ?_, fun c2 => ?_⟩
    · (try simp (disch := (first | omega | (simp only [li_m1, li_0, li_4, li_5, li_20, lo_m1, lo_0, lo_4, lo_5, lo_20]; omega) | (simp (disch := (first | omega | (simp only [li_m1, li_0, li_4, li_5, li_20, lo_m1, lo_0, lo_4, lo_5, lo_20]; omega))) only [t_add, t_sub, t_mul, li_m1, li_0, li_4, li_5, li_20, lo_m1, lo_0, lo_4, lo_5, lo_20]; omega))) only [t_add, t_sub, t_mul, li_m1, li_0, li_4, li_5, li_20, lo_m1, lo_0, lo_4, lo_5, lo_20] at c2)
      refine ⟨_, fr_word (sp_word (by first | omega | (simp (disch := (first | omega | (simp only [li_m1, li_0, li_4, li_5, li_20, lo_m1, lo_0, lo_4, lo_5, lo_20]; omega) | (simp (disch := (first | omega | (simp only [li_m1, li_0, li_4, li_5, li_20, lo_m1, lo_0, lo_4, lo_5, lo_20]; omega))) only [t_add, t_sub, t_mul, li_m1, li_0, li_4, li_5, li_20, lo_m1, lo_0, lo_4, lo_5, lo_20]; omega))) only [t_add, t_sub, t_mul, li_m1, li_0, li_4, li_5, li_20, lo_m1, lo_0, lo_4, lo_5, lo_20]; omega) | (simp (disch := (first | omega | (simp only [li_m1, li_0, li_4, li_5, li_20, lo_m1, lo_0, lo_4, lo_5, lo_20]; omega) | (simp (disch := (first | omega | (simp only [li_m1, li_0, li_4, li_5, li_20, lo_m1, lo_0, lo_4, lo_5, lo_20]; omega))) only [t_add, t_sub, t_mul, li_m1, li_0, li_4, li_5, li_20, lo_m1, lo_0, lo_4, lo_5, lo_20]; omega))) only [qI_wI, qJ_wJ, qR_wR, qI_wJ, qI_wR, qJ_wI, qJ_wR, qR_wI, qR_wJ, qT_wI, qT_wJ, qT_wR, qN_wI, qN_wJ, qN_wR, qn_wI, qn_wJ, qn_wR, eq_self, and_self, ne_eq, not_false_eq_true, not_true_eq_false, false_and, and_false, true_and, and_true, if_false, if_true, reduceIte, Nat.reduceEqDiff, t_add, t_sub, t_mul, li_m1, li_0, li_4, li_5, li_20, lo_m1, lo_0, lo_4, lo_5, lo_20]; omega) | assumption | exact trivial) (fun _ h => h)), ?_⟩
      intro S6 hq3
      obtain ⟨hq3, hq3f⟩ := hq3
      have hq35 := congrArg Int32.toInt (hq3f.2.2.2.2.2 5 (by decide)).1
      refine ⟨_, fr_word (sp_word (by first | omega | (simp (disch := (first | omega | (simp only [li_m1, li_0, li_4, li_5, li_20, lo_m1, lo_0, lo_4, lo_5, lo_20]; omega) | (simp (disch := (first | omega | (simp only [li_m1, li_0, li_4, li_5, li_20, lo_m1, lo_0, lo_4, lo_5, lo_20]; omega))) only [t_add, t_sub, t_mul, li_m1, li_0, li_4, li_5, li_20, lo_m1, lo_0, lo_4, lo_5, lo_20]; omega))) only [t_add, t_sub, t_mul, li_m1, li_0, li_4, li_5, li_20, lo_m1, lo_0, lo_4, lo_5, lo_20]; omega) | (simp (disch := (first | omega | (simp only [li_m1, li_0, li_4, li_5, li_20, lo_m1, lo_0, lo_4, lo_5, lo_20]; omega) | (simp (disch := (first | omega | (simp only [li_m1, li_0, li_4, li_5, li_20, lo_m1, lo_0, lo_4, lo_5, lo_20]; omega))) only [t_add, t_sub, t_mul, li_m1, li_0, li_4, li_5, li_20, lo_m1, lo_0, lo_4, lo_5, lo_20]; omega))) only [qI_wI, qJ_wJ, qR_wR, qI_wJ, qI_wR, qJ_wI, qJ_wR, qR_wI, qR_wJ, qT_wI, qT_wJ, qT_wR, qN_wI, qN_wJ, qN_wR, qn_wI, qn_wJ, qn_wR, eq_self, and_self, ne_eq, not_false_eq_true, not_true_eq_false, false_and, and_false, true_and, and_true, if_false, if_true, reduceIte, Nat.reduceEqDiff, t_add, t_sub, t_mul, li_m1, li_0, li_4, li_5, li_20, lo_m1, lo_0, lo_4, lo_5, lo_20]; omega) | assumption | exact trivial) (fun _ h => h)), ?_⟩
      intro S9 hq4
      obtain ⟨hq4, hq4f⟩ := hq4
      have hq45 := congrArg Int32.toInt (hq4f.2.2.2.2.2 5 (by decide)).1
      refine ⟨_, fr_word (sp_word (by first | omega | (simp (disch := (first | omega | (simp only [li_m1, li_0, li_4, li_5, li_20, lo_m1, lo_0, lo_4, lo_5, lo_20]; omega) | (simp (disch := (first | omega | (simp only [li_m1, li_0, li_4, li_5, li_20, lo_m1, lo_0, lo_4, lo_5, lo_20]; omega))) only [t_add, t_sub, t_mul, li_m1, li_0, li_4, li_5, li_20, lo_m1, lo_0, lo_4, lo_5, lo_20]; omega))) only [t_add, t_sub, t_mul, li_m1, li_0, li_4, li_5, li_20, lo_m1, lo_0, lo_4, lo_5, lo_20]; omega) | (simp (disch := (first | omega | (simp only [li_m1, li_0, li_4, li_5, li_20, lo_m1, lo_0, lo_4, lo_5, lo_20]; omega) | (simp (disch := (first | omega | (simp only [li_m1, li_0, li_4, li_5, li_20, lo_m1, lo_0, lo_4, lo_5, lo_20]; omega))) only [t_add, t_sub, t_mul, li_m1, li_0, li_4, li_5, li_20, lo_m1, lo_0, lo_4, lo_5, lo_20]; omega))) only [qI_wI, qJ_wJ, qR_wR, qI_wJ, qI_wR, qJ_wI, qJ_wR, qR_wI, qR_wJ, qT_wI, qT_wJ, qT_wR, qN_wI, qN_wJ, qN_wR, qn_wI, qn_wJ, qn_wR, eq_self, and_self, ne_eq, not_false_eq_true, not_true_eq_false, false_and, and_false, true_and, and_true, if_false, if_true, reduceIte, Nat.reduceEqDiff, t_add, t_sub, t_mul, li_m1, li_0, li_4, li_5, li_20, lo_m1, lo_0, lo_4, lo_5, lo_20]; omega) | assumption | exact trivial) (fun _ h => h)), ?_⟩
      intro S12 hq5
      obtain ⟨hq5, hq5f⟩ := hq5
      have hq55 := congrArg Int32.toInt (hq5f.2.2.2.2.2 5 (by decide)).1
      refine ⟨_, fr_word (sp_word (by first | omega | (simp (disch := (first | omega | (simp only [li_m1, li_0, li_4, li_5, li_20, lo_m1, lo_0, lo_4, lo_5, lo_20]; omega) | (simp (disch := (first | omega | (simp only [li_m1, li_0, li_4, li_5, li_20, lo_m1, lo_0, lo_4, lo_5, lo_20]; omega))) only [t_add, t_sub, t_mul, li_m1, li_0, li_4, li_5, li_20, lo_m1, lo_0, lo_4, lo_5, lo_20]; omega))) only [t_add, t_sub, t_mul, li_m1, li_0, li_4, li_5, li_20, lo_m1, lo_0, lo_4, lo_5, lo_20]; omega) | (simp (disch := (first | omega | (simp only [li_m1, li_0, li_4, li_5, li_20, lo_m1, lo_0, lo_4, lo_5, lo_20]; omega) | (simp (disch := (first | omega | (simp only [li_m1, li_0, li_4, li_5, li_20, lo_m1, lo_0, lo_4, lo_5, lo_20]; omega))) only [t_add, t_sub, t_mul, li_m1, li_0, li_4, li_5, li_20, lo_m1, lo_0, lo_4, lo_5, lo_20]; omega))) only [qI_wI, qJ_wJ, qR_wR, qI_wJ, qI_wR, qJ_wI, qJ_wR, qR_wI, qR_wJ, qT_wI, qT_wJ, qT_wR, qN_wI, qN_wJ, qN_wR, qn_wI, qn_wJ, qn_wR, eq_self, and_self, ne_eq, not_false_eq_true, not_true_eq_false, false_and, and_false, true_and, and_true, if_false, if_true, reduceIte, Nat.reduceEqDiff, t_add, t_sub, t_mul, li_m1, li_0, li_4, li_5, li_20, lo_m1, lo_0, lo_4, lo_5, lo_20]; omega) | assumption | exact trivial) (fun _ h => h)), ?_⟩
      intro S15 hq6
      obtain ⟨hq6, hq6f⟩ := hq6
      have hq65 := congrArg Int32.toInt (hq6f.2.2.2.2.2 5 (by decide)).1
      refine ⟨_, fr_word (sp_word (by first | omega | (simp (disch := (first | omega | (simp only [li_m1, li_0, li_4, li_5, li_20, lo_m1, lo_0, lo_4, lo_5, lo_20]; omega) | (simp (disch := (first | omega | (simp only [li_m1, li_0, li_4, li_5, li_20, lo_m1, lo_0, lo_4, lo_5, lo_20]; omega))) only [t_add, t_sub, t_mul, li_m1, li_0, li_4, li_5, li_20, lo_m1, lo_0, lo_4, lo_5, lo_20]; omega))) only [t_add, t_sub, t_mul, li_m1, li_0, li_4, li_5, li_20, lo_m1, lo_0, lo_4, lo_5, lo_20]; omega) | (simp (disch := (first | omega | (simp only [li_m1, li_0, li_4, li_5, li_20, lo_m1, lo_0, lo_4, lo_5, lo_20]; omega) | (simp (disch := (first | omega | (simp only [li_m1, li_0, li_4, li_5, li_20, lo_m1, lo_0, lo_4, lo_5, lo_20]; omega))) only [t_add, t_sub, t_mul, li_m1, li_0, li_4, li_5, li_20, lo_m1, lo_0, lo_4, lo_5, lo_20]; omega))) only [qI_wI, qJ_wJ, qR_wR, qI_wJ, qI_wR, qJ_wI, qJ_wR, qR_wI, qR_wJ, qT_wI, qT_wJ, qT_wR, qN_wI, qN_wJ, qN_wR, qn_wI, qn_wJ, qn_wR, eq_self, and_self, ne_eq, not_false_eq_true, not_true_eq_false, false_and, and_false, true_and, and_true, if_false, if_true, reduceIte, Nat.reduceEqDiff, t_add, t_sub, t_mul, li_m1, li_0, li_4, li_5, li_20, lo_m1, lo_0, lo_4, lo_5, lo_20]; omega) | assumption | exact trivial) (fun _ h => h)), ?_⟩
      intro S18 hq7
      obtain ⟨hq7, hq7f⟩ := hq7
      have hq75 := congrArg Int32.toInt (hq7f.2.2.2.2.2 5 (by decide)).1
      intro S21 eS21
      subst eS21
      (try simp only [qI_wI, qJ_wJ, qR_wR, qI_wJ, qI_wR, qJ_wI, qJ_wR, qR_wI, qR_wJ, qT_wI, qT_wJ, qT_wR, qN_wI, qN_wJ, qN_wR, qn_wI, qn_wJ, qn_wR, eq_self, and_self, ne_eq, not_false_eq_true, not_true_eq_false, false_and, and_false, true_and, and_true, if_false, if_true, reduceIte, Nat.reduceEqDiff])
      exact hQ _ _ (by first | omega | (simp (disch := (first | omega | (simp only [li_m1, li_0, li_4, li_5, li_20, lo_m1, lo_0, lo_4, lo_5, lo_20]; omega) | (simp (disch := (first | omega | (simp only [li_m1, li_0, li_4, li_5, li_20, lo_m1, lo_0, lo_4, lo_5, lo_20]; omega))) only [t_add, t_sub, t_mul, li_m1, li_0, li_4, li_5, li_20, lo_m1, lo_0, lo_4, lo_5, lo_20]; omega))) only [t_add, t_sub, t_mul, li_m1, li_0, li_4, li_5, li_20, lo_m1, lo_0, lo_4, lo_5, lo_20]; omega) | (simp (disch := (first | omega | (simp only [li_m1, li_0, li_4, li_5, li_20, lo_m1, lo_0, lo_4, lo_5, lo_20]; omega) | (simp (disch := (first | omega | (simp only [li_m1, li_0, li_4, li_5, li_20, lo_m1, lo_0, lo_4, lo_5, lo_20]; omega))) only [t_add, t_sub, t_mul, li_m1, li_0, li_4, li_5, li_20, lo_m1, lo_0, lo_4, lo_5, lo_20]; omega))) only [qI_wI, qJ_wJ, qR_wR, qI_wJ, qI_wR, qJ_wI, qJ_wR, qR_wI, qR_wJ, qT_wI, qT_wJ, qT_wR, qN_wI, qN_wJ, qN_wR, qn_wI, qn_wJ, qn_wR, eq_self, and_self, ne_eq, not_false_eq_true, not_true_eq_false, false_and, and_false, true_and, and_true, if_false, if_true, reduceIte, Nat.reduceEqDiff, t_add, t_sub, t_mul, li_m1, li_0, li_4, li_5, li_20, lo_m1, lo_0, lo_4, lo_5, lo_20]; omega) | assumption | exact trivial)
    · (try simp (disch := (first | omega | (simp only [li_m1, li_0, li_4, li_5, li_20, lo_m1, lo_0, lo_4, lo_5, lo_20]; omega) | (simp (disch := (first | omega | (simp only [li_m1, li_0, li_4, li_5, li_20, lo_m1, lo_0, lo_4, lo_5, lo_20]; omega))) only [t_add, t_sub, t_mul, li_m1, li_0, li_4, li_5, li_20, lo_m1, lo_0, lo_4, lo_5, lo_20]; omega))) only [t_add, t_sub, t_mul, li_m1, li_0, li_4, li_5, li_20, lo_m1, lo_0, lo_4, lo_5, lo_20] at c2)
      exact hQ _ _ (by first | omega | (simp (disch := (first | omega | (simp only [li_m1, li_0, li_4, li_5, li_20, lo_m1, lo_0, lo_4, lo_5, lo_20]; omega) | (simp (disch := (first | omega | (simp only [li_m1, li_0, li_4, li_5, li_20, lo_m1, lo_0, lo_4, lo_5, lo_20]; omega))) only [t_add, t_sub, t_mul, li_m1, li_0, li_4, li_5, li_20, lo_m1, lo_0, lo_4, lo_5, lo_20]; omega))) only [t_add, t_sub, t_mul, li_m1, li_0, li_4, li_5, li_20, lo_m1, lo_0, lo_4, lo_5, lo_20]; omega) | (simp (disch := (first | omega | (simp only [li_m1, li_0, li_4, li_5, li_20, lo_m1, lo_0, lo_4, lo_5, lo_20]; omega) | (simp (disch := (first | omega | (simp only [li_m1, li_0, li_4, li_5, li_20, lo_m1, lo_0, lo_4, lo_5, lo_20]; omega))) only [t_add, t_sub, t_mul, li_m1, li_0, li_4, li_5, li_20, lo_m1, lo_0, lo_4, lo_5, lo_20]; omega))) only [qI_wI, qJ_wJ, qR_wR, qI_wJ, qI_wR, qJ_wI, qJ_wR, qR_wI, qR_wJ, qT_wI, qT_wJ, qT_wR, qN_wI, qN_wJ, qN_wR, qn_wI, qn_wJ, qn_wR, eq_self, and_self, ne_eq, not_false_eq_true, not_true_eq_false, false_and, and_false, true_and, and_true, if_false, if_true, reduceIte, Nat.reduceEqDiff, t_add, t_sub, t_mul, li_m1, li_0, li_4, li_5, li_20, lo_m1, lo_0, lo_4, lo_5, lo_20]; omega) | assumption | exact trivial)
/-! what stands before a reader: the pure phase, by hand -/
theorem c_cmp {x y : Int64} : ((lg_cmp x y).toInt = 1 ∧ y.toInt < x.toInt) ∨ ((lg_cmp x y).toInt = 0 ∧ x.toInt = y.toInt) ∨ ((lg_cmp x y).toInt = -1 ∧ x.toInt < y.toInt) := by
  unfold lg_cmp
  split
  · rename_i q
    exact Or.inl ⟨by decide, Int64.lt_iff_toInt_lt.mp q⟩
  · split
    · rename_i q1 q
      exact Or.inr (Or.inl ⟨by decide, by rw [q]⟩)
    · rename_i q1 q2
      refine Or.inr (Or.inr ⟨by decide, ?_⟩)
      have h5 : x.toInt ≠ y.toInt := fun e => q2 (Int64.toInt_inj.mp e)
      have h4 : ¬ y.toInt < x.toInt := fun e => q1 (Int64.lt_iff_toInt_lt.mpr e)
      omega
theorem c_le {x y : Int64} : (lg_cmp x y).toInt ≤ 0 ↔ x.toInt ≤ y.toInt := by
  have := c_cmp (x := x) (y := y)
  omega
theorem tl_add {a b : Int64} (h : -9223372036854775808 ≤ a.toInt + b.toInt ∧ a.toInt + b.toInt ≤ 9223372036854775807) : (a + b).toInt = a.toInt + b.toInt := by
  rw [Int64.toInt_add]
  apply Int.bmod_eq_of_le <;> omega
theorem tl_of {a : Int32} : a.toInt64.toInt = a.toInt := Int32.toInt_toInt64 a
theorem tl_to {a : Int64} (h : -2147483648 ≤ a.toInt ∧ a.toInt ≤ 2147483647) : a.toInt32.toInt = a.toInt := by
  rw [Int64.toInt_toInt32]
  apply Int.bmod_eq_of_le <;> omega
/-- the bytes that are read: there, and long enough -/
def RdI (S : MS) : Prop := ∃ b : Nat, qR S 0 11 = some b ∧ qT S b = 1 ∧ (qT S 0 = 10 ∧ ∀ q ∈ finL, qT S q.2.1 = q.2.2.1) ∧ 0 ≤ (qI S 0 13).toInt ∧ (qI S 0 13).toInt ≤ (qI S 0 12).toInt ∧ (qI S 0 12).toInt ≤ (qN S b : Int) ∧ qN S b ≤ 131072
theorem RdI.oct {S : MS} (h : RdI S) {x : Int32} (h0 : 0 ≤ x.toInt) (h1 : x.toInt < (qI S 0 12).toInt) : d_octet S x := by
  obtain ⟨b, h2, h3, h4, h5, h6, h7, h8⟩ := h
  unfold d_octet
  rw [show qO S 0 11 = b by unfold qO; rw [h2]; rfl]
  exact ⟨h2, ⟨h0, by omega⟩, trivial⟩
theorem RdI.bnd {S : MS} (h : RdI S) : 0 ≤ (qI S 0 13).toInt ∧ (qI S 0 13).toInt ≤ (qI S 0 12).toInt ∧ (qI S 0 12).toInt ≤ 131072 := by
  obtain ⟨b, h2, h3, h4, h5, h6, h7, h8⟩ := h
  omega
theorem RdI.two {S : MS} (h : RdI S) {x : Int32} (h0 : 0 ≤ x.toInt) (h1 : x.toInt + 2 ≤ (qI S 0 12).toInt) : d_two S x := by
  have hb := h.bnd
  have e : (x + (1 : Int32)).toInt = x.toInt + 1 := by rw [t_add (by rw [li_1]; omega), li_1]
  exact ⟨h.oct h0 (by omega), h.oct (by omega) (by omega), trivial⟩
theorem RdI.four {S : MS} (h : RdI S) {x : Int32} (h0 : 0 ≤ x.toInt) (h1 : x.toInt + 4 ≤ (qI S 0 12).toInt) : d_four S x := by
  have hb := h.bnd
  have e : (x + (2 : Int32)).toInt = x.toInt + 2 := by rw [t_add (by rw [li_2]; omega), li_2]
  exact ⟨h.two h0 (by omega), h.two (by omega) (by omega), trivial⟩
theorem c_and {z x m : Int32} {k b : Nat} (h : z = x &&& m) (hm : m.toBitVec.toNat = 2 ^ k - 1) (hk : k ≤ 30) (hb : 2 ^ k = b) : 0 ≤ z.toInt ∧ z.toInt < b := by
  obtain ⟨j, hj, e⟩ := pk_andE x k hm
  have h2 : 2 ^ k ≤ 2 ^ 30 := Nat.pow_le_pow_right (by decide) hk
  have h3 : (2 : Nat) ^ 30 < 2 ^ 31 := by decide
  rw [h, e, nI_toInt (by omega)]
  omega
theorem c_or {z x y : Int32} {k b : Nat} (h : z = x ||| y) (hb : 2 ^ k = b) (hk : k ≤ 30) (hx : 0 ≤ x.toInt ∧ x.toInt < b) (hy : 0 ≤ y.toInt ∧ y.toInt < b) : 0 ≤ z.toInt ∧ z.toInt < b := by
  have h2 : 2 ^ k ≤ 2 ^ 30 := Nat.pow_le_pow_right (by decide) hk
  have h3 : (2 : Nat) ^ 30 < 2 ^ 31 := by decide
  have ex : x = nI x.toInt.toNat := by
    apply Int32.toInt_inj.mp
    rw [nI_toInt (by omega)]
    omega
  have ey : y = nI y.toInt.toNat := by
    apply Int32.toInt_inj.mp
    rw [nI_toInt (by omega)]
    omega
  have hn : x.toInt.toNat ||| y.toInt.toNat < 2 ^ k := Nat.or_lt_two_pow (by omega) (by omega)
  have ez : z = nI (x.toInt.toNat ||| y.toInt.toNat) := by
    apply Int32.toBitVec_inj.mp
    apply BitVec.eq_of_toNat_eq
    rw [h, Int32.toBitVec_or, BitVec.toNat_or, pk_tn (by omega)]
    conv => lhs; rw [ex, ey]
    rw [pk_tn (by omega), pk_tn (by omega)]
  rw [ez, nI_toInt (by omega)]
  omega
theorem c_shl {z x y : Int32} {k j b c : Nat} (h : z = x <<< (y &&& 31)) (hs : ((y &&& 31).toBitVec.smod 32).toNat = k) (hb : 2 ^ j = b) (hc : 2 ^ (j + k) = c) (hk : j + k ≤ 30) (hx : 0 ≤ x.toInt ∧ x.toInt < b) : 0 ≤ z.toInt ∧ z.toInt < c := by
  have h2 : 2 ^ (j + k) ≤ 2 ^ 30 := Nat.pow_le_pow_right (by decide) hk
  have h3 : (2 : Nat) ^ 30 < 2 ^ 31 := by decide
  have ex : x = nI x.toInt.toNat := by
    apply Int32.toInt_inj.mp
    have : (2 : Nat) ^ j ≤ 2 ^ (j + k) := Nat.pow_le_pow_right (by decide) (by omega)
    rw [nI_toInt (by omega)]
    omega
  have hm : x.toInt.toNat * 2 ^ k < 2 ^ (j + k) := by
    rw [Nat.pow_add]
    exact Nat.mul_lt_mul_of_pos_right (by omega) (Nat.two_pow_pos k)
  have ez : z = nI (x.toInt.toNat * 2 ^ k) := by
    rw [h]
    conv => lhs; rw [ex]
    exact pk_shlN _ k hs (by omega)
  rw [ez, nI_toInt (by omega)]
  omega
theorem c_and64 {a : Int64} : 0 ≤ (a &&& (4294967295 : Int64)).toInt ∧ (a &&& (4294967295 : Int64)).toInt ≤ 4294967295 := by
  have h1 : (a &&& (4294967295 : Int64)).toBitVec.toNat ≤ 4294967295 := by
    rw [Int64.toBitVec_and, BitVec.toNat_and]
    exact Nat.and_le_right
  have h2 : (a &&& (4294967295 : Int64)).toInt = ((a &&& (4294967295 : Int64)).toBitVec.toNat : Int) := by
    rw [← Int64.toInt_toBitVec]
    exact BitVec.toInt_eq_toNat_of_lt (by omega)
  omega
theorem b_oct {S : MS} {x : Int32} : 0 ≤ (f_octet S x).toInt ∧ (f_octet S x).toInt < 256 := c_and (k := 8) (b := 256) rfl (by decide) (by decide) rfl
theorem b_two {S : MS} {x : Int32} : 0 ≤ (f_two S x).toInt ∧ (f_two S x).toInt < 65536 := by
  have h1 := b_oct (S := S) (x := x)
  have h2 := b_oct (S := S) (x := x + 1)
  have h3 := c_shl (z := (f_octet S x) <<< ((8 : Int32) &&& 31)) (k := 8) (j := 8) (b := 256) (c := 65536) rfl (by decide) rfl rfl (by decide) h1
  exact c_or (k := 16) (b := 65536) rfl rfl (by decide) h3 ⟨h2.1, by omega⟩
theorem RdI.rd {S : MS} (h : RdI S) {x : Int32} (h0 : 0 ≤ x.toInt) (h1 : x.toInt < (qI S 0 12).toInt) : qR S 0 11 = some (qO S 0 11) ∧ ((0 : Int) ≤ x.toInt ∧ x.toInt < (qN S (qO S 0 11) : Int)) := ⟨(h.oct h0 h1).1, (h.oct h0 h1).2.1⟩
theorem wI_wI {S : MS} {h i : Nat} {v w : Int32} : wI (wI S h i v) h i w = wI S h i w := by
  unfold wI
  refine Prod.ext ?_ rfl
  funext a
  by_cases e : a = h
  · subst e
    simp only [if_pos]
    funext j
    unfold upd
    by_cases e2 : j = i
    · simp only [if_pos e2]
    · simp only [if_neg e2]
      show (if a = a then upd (qI S a) i v else qI S a) j = _
      rw [if_pos rfl]
      exact if_neg e2
  · simp only [if_neg e]
    exact if_neg e
theorem wI_id {S : MS} {h i : Nat} : wI S h i (qI S h i) = S := by
  refine Prod.ext ?_ rfl
  funext a
  show (if a = h then upd (qI S h) i (qI S h i) else qI S a) = qI S a
  by_cases e : a = h
  · subst e
    rw [if_pos rfl]
    funext j
    unfold upd
    by_cases e2 : j = i
    · rw [if_pos e2, e2]
    · rw [if_neg e2]
  · rw [if_neg e]
theorem rdH {S : MS} {a h i : Nat} {v : Int32} (ha : a ≠ h) : qI (wI S h i v) a = qI S a := if_neg ha
theorem sp_broken {S : MS} {x1 x2 : Int32} {Q : Nat → MS → Prop} (hQ : Q 3 (wI (wI S 0 7 x1) 0 8 x2)) : w_broken S x1 x2 Q := by
  unfold w_broken
  intro S1 e1 S2 e2
  subst e1
  subst e2
  exact hQ
theorem sp_must {S : MS} {x1 x2 x3 : Int32} : w_must S x1 x2 x3 (fun u => u = S ∧ x1.toInt ≠ 0) (fun _ => True) := by
  unfold w_must
  exact ⟨fun _ => ⟨_, sp_broken (Q := fun _ _ => True) trivial, fun _ _ _ => trivial⟩, fun h => ⟨rfl, h⟩⟩
theorem sp_over {S : MS} {y1 : Int64} (h : RdI S) (hy : 0 ≤ y1.toInt ∧ y1.toInt ≤ 4294967296) : w_over S y1 (fun r u => r = qI S 0 13 ∧ ∃ v : Int32, u = wI S 0 13 v ∧ v.toInt = (qI S 0 13).toInt + y1.toInt ∧ v.toInt ≤ (qI S 0 12).toInt) (fun _ => True) := by
  have hb := h.bnd
  have e0 : ((qI S 0 13).toInt64 + y1).toInt = (qI S 0 13).toInt + y1.toInt := by rw [tl_add (by rw [tl_of]; omega), tl_of]
  have e1 : (lg_cmp ((qI S 0 13).toInt64 + y1) ((qI S 0 12).toInt64)).toInt ≤ 0 ↔ (qI S 0 13).toInt + y1.toInt ≤ (qI S 0 12).toInt := by rw [c_le, e0, tl_of]
  unfold w_over
  refine ⟨fun c => ?_, fun _ => ?_⟩
  · have c' := e1.mp c
    intro a ea S6 e6
    subst ea
    subst e6
    have e2 : (qI S 0 13 + y1.toInt32).toInt = (qI S 0 13).toInt + y1.toInt := by rw [t_add (by rw [tl_to (by omega)]; omega), tl_to (by omega)]
    exact ⟨rfl, _, rfl, e2, by omega⟩
  · exact ⟨_, sp_broken (Q := fun _ _ => True) trivial, fun _ _ _ => trivial⟩
theorem RdI.nx {S : MS} (h : RdI S) {v : Int32} (h0 : 0 ≤ v.toInt) (h1 : v.toInt ≤ (qI S 0 12).toInt) : RdI (wI S 0 13 v) := by
  obtain ⟨b, h2, h3, h4, h5, h6, h7, h8⟩ := h
  have e1 : qI (wI S 0 13 v) 0 13 = v := by rw [qI_wI, if_pos ⟨rfl, rfl⟩]
  have e2 : qI (wI S 0 13 v) 0 12 = qI S 0 12 := by rw [qI_wI, if_neg (by decide)]
  refine ⟨b, h2, h3, h4, ?_, ?_, ?_, h8⟩
  · rw [e1]; exact h0
  · rw [e1, e2]; exact h1
  · rw [e2]; exact h7

theorem n_13 {S : MS} {v : Int32} : qI (wI S 0 13 v) 0 13 = v := by rw [qI_wI, if_pos ⟨rfl, rfl⟩]
theorem n_12 {S : MS} {v : Int32} : qI (wI S 0 13 v) 0 12 = qI S 0 12 := by rw [qI_wI, if_neg (by decide)]
/-- a row that isn't read is written -/
theorem RdI.row {S : MS} (h : RdI S) {a j : Nat} {v : Int32} (ha : a ≠ 0) : RdI (wI S a j v) := by
  obtain ⟨b, h2, h3, h4, h5, h6, h7, h8⟩ := h
  have e : ∀ i : Nat, qI (wI S a j v) 0 i = qI S 0 i := fun i => by rw [qI_wI, if_neg (fun q => ha q.1.symm)]
  exact ⟨b, h2, h3, h4, by rw [e]; exact h5, by rw [e, e]; exact h6, by rw [e]; exact h7, h8⟩
theorem RdI.b0 {S : MS} (h : RdI S) : qO S 0 11 ≠ 0 := by
  obtain ⟨b, h2, h3, h4, -⟩ := h
  rw [show qO S 0 11 = b by unfold qO; rw [h2]; rfl]
  intro q
  have := h4.1
  rw [q] at h3
  omega
/-- letters from a on -/
def ltO (B : Nat → Int32) (a n : Int32) : Prop := ∀ j : Nat, (j : Int) < n.toInt → 33 ≤ (B (a.toInt.toNat + j)).toInt ∧ (B (a.toInt.toNat + j)).toInt ≤ 126
/-- a name that was read -/
def NE (S : MS) (k : Nat) (u : MS) : Prop := RdI u ∧ (qI S 0 13).toInt + 3 ≤ (qI u 0 13).toInt ∧ qI u 0 12 = qI S 0 12 ∧ (∀ j : Nat, j ≠ k → qI u 6 j = qI S 6 j ∧ qI u 7 j = qI S 7 j) ∧ 0 ≤ (qI u 6 k).toInt ∧ 1 ≤ (qI u 7 k).toInt ∧ (qI u 7 k).toInt ≤ 100 ∧ (qI u 6 k).toInt + (qI u 7 k).toInt ≤ (qI u 0 12).toInt ∧ ltO (qI u (qO u 0 11)) (qI u 6 k) (qI u 7 k)
theorem sp_nameEntry_L {S : MS} {Q : MS → Prop} {x2 n : Int32} (h : RdI S) (hn : 0 ≤ n.toInt ∧ n.toInt ≤ 100) (hQ : ∀ v : Int32, v.toInt = (qI S 0 13).toInt + n.toInt → v.toInt ≤ (qI S 0 12).toInt → ltO (qI S (qO S 0 11)) (qI S 0 13) n → Q (wI S 0 13 v)) :
    ∀ (m : Nat) (U : MS) (i : Int32), (0 ≤ i.toInt ∧ i.toInt ≤ n.toInt ∧ ltO (qI S (qO S 0 11)) (qI S 0 13) i ∧ ∃ v : Int32, U = wI S 0 13 v ∧ v.toInt = (qI S 0 13).toInt + i.toInt ∧ v.toInt ≤ (qI S 0 12).toInt) → (n.toInt - i.toInt).toNat < m → w_nameEntry_L54 Q (fun _ => True) m U x2 n i := by
  have hb := h.bnd
  intro m
  induction m with
  | zero => intro U i _ h9; exact absurd h9 (Nat.not_lt_zero _)
  | succ m ih =>
    rintro U i ⟨i0, i1, hlt, v, rfl, hv, hv2⟩ hm
    unfold w_nameEntry_L54
    refine ⟨fun c => hQ v (by omega) hv2 (fun j hj => hlt j (by omega)), fun c => ?_⟩
    have h1 : RdI (wI S 0 13 v) := h.nx (by omega) hv2
    refine ⟨_, _, sp_over h1 (by decide), ?_, fun _ _ => trivial⟩
    rintro r U2 ⟨er, v2, rfl, e2, e3⟩
    rw [n_13] at e2 er
    rw [n_12] at e3
    have e4 : (1 : Int64).toInt = 1 := by decide
    rw [e4] at e2
    rw [er, wI_wI]
    have h2 : RdI (wI S 0 13 v2) := h.nx (by omega) e3
    have g := h2.rd (x := v) (by omega) (by rw [n_12]; omega)
    have ei : (i + Int32.ofInt 1).toInt = i.toInt + 1 := by rw [t_add (by rw [lo_1]; omega), lo_1]
    have eb : qI (wI S 0 13 v2) (qO (wI S 0 13 v2) 0 11) = qI S (qO S 0 11) := rdH h.b0
    have st : ∀ t : Int32, (t.toInt ≠ 0 → 33 ≤ (qI S (qO S 0 11) v.toInt.toNat).toInt ∧ (qI S (qO S 0 11) v.toInt.toNat).toInt ≤ 126) → w_nameEntry_J97 Q (fun _ => True) (w_nameEntry_L54 Q (fun _ => True) m) (wI S 0 13 v2) t x2 n i := fun t ht => by
      unfold w_nameEntry_J97
      refine ⟨_, _, sp_must, ?_, fun _ _ => trivial⟩
      rintro U3 ⟨rfl, hz⟩ a ea
      subst ea
      refine ih _ _ ⟨by omega, by omega, fun j hj => ?_, v2, rfl, by omega, e3⟩ (by omega)
      by_cases q : (j : Int) < i.toInt
      · exact hlt j q
      · rw [show (qI S 0 13).toInt.toNat + j = v.toInt.toNat by omega]
        exact ht hz
    rw [eb]
    refine ⟨g.1, g.2, fun _ => ?_, fun c1 => ⟨g.1, g.2, fun _ => ?_, fun c2 => ?_⟩⟩
    · unfold w_nameEntry_J96; exact st 0 (fun q => absurd rfl q)
    · unfold w_nameEntry_J96; exact st 0 (fun q => absurd rfl q)
    · exact st 1 (fun _ => ⟨by omega, by omega⟩)
theorem sp_nameEntry {S : MS} {x1 x2 : Int32} (h : RdI S) (h1 : 0 ≤ x1.toInt ∧ x1.toInt < 502) : w_nameEntry S x1 x2 (NE S x1.toInt.toNat) (fun _ => True) := by
  have hb := h.bnd
  unfold w_nameEntry
  refine ⟨_, _, sp_over h (by decide), ?_, fun _ _ => trivial⟩
  rintro r S3 ⟨er, v, rfl, hv, hv2⟩
  have e4 : (2 : Int64).toInt = 2 := by decide
  rw [e4] at hv
  have h3 : RdI (wI S 0 13 v) := h.nx (by omega) hv2
  refine ⟨h3.two (by rw [er]; omega) (by rw [er, n_12]; omega), fun a e8 => ?_⟩
  have b8 := b_two (S := wI S 0 13 v) (x := r)
  rw [← e8] at b8
  have st : ∀ t : Int32, (t.toInt ≠ 0 → 1 ≤ a.toInt ∧ a.toInt ≤ 100) → w_nameEntry_J29 (NE S x1.toInt.toNat) (fun _ => True) (wI S 0 13 v) t x1 x2 a := fun t ht => by
    unfold w_nameEntry_J29
    refine ⟨_, _, sp_must, ?_, fun _ _ => trivial⟩
    rintro U3 ⟨rfl, hz⟩
    obtain ⟨a0, a1⟩ := ht hz
    refine ⟨h1, fun S5 e5 => ⟨h1, fun S6 e6 => ?_⟩⟩
    have h6 : RdI S6 := by rw [e6, e5]; exact (h3.row (by decide)).row (by decide)
    have q13 : qI S6 0 13 = v := by rw [e6, rdH (by decide), e5, rdH (by decide), n_13]
    have q12 : qI S6 0 12 = qI S 0 12 := by rw [e6, rdH (by decide), e5, rdH (by decide), n_12]
    have q6 : ∀ j : Nat, qI S6 6 j = if j = x1.toInt.toNat then v else qI S 6 j := fun j => by
      rw [e6, rdH (by decide), e5, qI_wI, n_13]
      by_cases e : j = x1.toInt.toNat
      · rw [if_pos ⟨rfl, e⟩, if_pos e]
      · rw [if_neg (fun q => e q.2), if_neg e, rdH (by decide)]
    have q7 : ∀ j : Nat, qI S6 7 j = if j = x1.toInt.toNat then a else qI S 7 j := fun j => by
      rw [e6, qI_wI]
      by_cases e : j = x1.toInt.toNat
      · rw [if_pos ⟨rfl, e⟩, if_pos e]
      · rw [if_neg (fun q => e q.2), if_neg e, e5, rdH (by decide), rdH (by decide)]
    refine ⟨_, sp_nameEntry_L (S := S6) h6 ⟨by omega, by omega⟩ (fun w hw hw2 hw3 => ?_) _ S6 0 ⟨by decide, by rw [li_0]; omega, fun j hj => by rw [li_0] at hj; omega, v, ?_, by rw [q13, li_0]; omega, by rw [q12]; exact hv2⟩ (Nat.lt_succ_self _)⟩
    · rw [q13] at hw
      rw [q12] at hw2
      have r6 : ∀ j : Nat, qI (wI S6 0 13 w) 6 j = qI S6 6 j := fun j => by rw [rdH (by decide)]
      have r7 : ∀ j : Nat, qI (wI S6 0 13 w) 7 j = qI S6 7 j := fun j => by rw [rdH (by decide)]
      refine ⟨h6.nx (by omega) (by rw [q12]; exact hw2), by rw [n_13]; omega, by rw [n_12, q12], fun j hj => ⟨by rw [r6, q6, if_neg hj], by rw [r7, q7, if_neg hj]⟩, ?_, ?_, ?_, ?_, ?_⟩
      · rw [r6, q6, if_pos rfl]; omega
      · rw [r7, q7, if_pos rfl]; exact a0
      · rw [r7, q7, if_pos rfl]; exact a1
      · rw [r6, r7, q6, q7, if_pos rfl, if_pos rfl, n_12, q12]; omega
      · rw [r6, r7, q6, q7, if_pos rfl, if_pos rfl, show qI (wI S6 0 13 w) (qO (wI S6 0 13 w) 0 11) = qI S6 (qO S6 0 11) from rdH h6.b0]
        rw [q13] at hw3
        exact hw3
    · rw [← q13]
      exact (wI_id).symm
  refine ⟨fun _ => ?_, fun c => ⟨fun _ => ?_, fun c2 => ?_⟩⟩
  · unfold w_nameEntry_J28; exact st 0 (fun q => absurd rfl q)
  · unfold w_nameEntry_J28; exact st 0 (fun q => absurd rfl q)
  · exact st 1 (fun _ => ⟨by omega, by omega⟩)
/-! attributes -/
theorem f_same {S u : MS} (h : qR u 0 11 = qR S 0 11) (h2 : qI u (qO S 0 11) = qI S (qO S 0 11)) (x : Int32) : f_four u x = f_four S x := by
  have e : qO u 0 11 = qO S 0 11 := by unfold qO; rw [h]
  unfold f_four f_two f_octet
  rw [e, h2]
/-- the bytes are the same -/
def smB (S u : MS) : Prop := qR u 0 11 = qR S 0 11 ∧ qI u (qO S 0 11) = qI S (qO S 0 11)
theorem smB.rf {S : MS} : smB S S := ⟨rfl, rfl⟩
theorem smB.bt {S u : MS} (h : smB S u) : qI u (qO u 0 11) = qI S (qO S 0 11) := by
  rw [show qO u 0 11 = qO S 0 11 by unfold qO; rw [h.1]]
  exact h.2
theorem smB.tr {S u v : MS} (h : smB S u) (k : smB u v) : smB S v := by
  have e : qO u 0 11 = qO S 0 11 := by unfold qO; rw [h.1]
  refine ⟨k.1.trans h.1, ?_⟩
  have k2 := k.2
  rw [e] at k2
  exact k2.trans h.2
theorem RdI.ne {S : MS} (h : RdI S) {a t : Nat} (e : qT S a = t) (ht : t ≠ 1) : qO S 0 11 ≠ a := by
  obtain ⟨b, h2, h3, -⟩ := h
  rw [show qO S 0 11 = b by unfold qO; rw [h2]; rfl]
  intro q
  exact ht (by rw [← e, ← q, h3])
theorem RdI.fin {S : MS} (h : RdI S) {q : Nat × Nat × Nat × Nat} (hq : q ∈ finL) : qT S q.2.1 = q.2.2.1 := by
  obtain ⟨b, h2, h3, h4, -⟩ := h
  exact h4.2 q hq
theorem RdI.z {S : MS} (h : RdI S) : qT S 0 = 10 := by
  obtain ⟨b, h2, h3, h4, -⟩ := h
  exact h4.1
theorem RdI.ss {S : MS} (h : RdI S) {a t j : Nat} {v : Int32} (e : qT S a = t) (ht : t ≠ 1) : smB S (wI S a j v) := ⟨rfl, rdH (h.ne e ht)⟩
theorem RdI.fld {S : MS} (h : RdI S) {j : Nat} {v : Int32} (hj : j ≠ 12 ∧ j ≠ 13) : RdI (wI S 0 j v) := by
  obtain ⟨b, h2, h3, h4, h5, h6, h7, h8⟩ := h
  have e1 : qI (wI S 0 j v) 0 13 = qI S 0 13 := by rw [qI_wI, if_neg (fun q => hj.2 q.2.symm)]
  have e2 : qI (wI S 0 j v) 0 12 = qI S 0 12 := by rw [qI_wI, if_neg (fun q => hj.1 q.2.symm)]
  exact ⟨b, h2, h3, h4, by rw [e1]; exact h5, by rw [e1, e2]; exact h6, by rw [e2]; exact h7, h8⟩
/-- a tray is read: few attributes -/
def AtI (S : MS) : Prop := RdI S ∧ (qI S 0 12).toInt ≤ 16000 ∧ 0 ≤ (qI S 0 25).toInt ∧ 6 * (qI S 0 25).toInt ≤ (qI S 0 13).toInt
/-- an attribute lies within the bytes -/
def aOK (S : MS) (a : Nat) : Prop := 0 ≤ (qI S 10 a).toInt ∧ (qI S 10 a).toInt + 6 + ((f_four S (qI S 10 a + 2)).toInt64 &&& 4294967295).toInt ≤ (qI S 0 12).toInt
theorem aOK.mv {S u : MS} {a : Nat} (h : aOK S a) (k : smB S u) (e1 : qI u 10 a = qI S 10 a) (e2 : qI u 0 12 = qI S 0 12) : aOK u a := by
  unfold aOK
  rw [e1, e2, f_same k.1 k.2]
  exact h
def ATp (S : MS) (o : Int32) (u : MS) : Prop := AtI u ∧ smB S u ∧ qI u 0 12 = qI S 0 12 ∧ (qI S 0 13).toInt ≤ (qI u 0 13).toInt ∧ (qI S 0 25).toInt ≤ (qI u 0 25).toInt ∧ (∀ a : Nat, (a : Int) < (qI S 0 25).toInt → qI u 10 a = qI S 10 a ∧ qI u 11 a = qI S 11 a) ∧ ∀ a : Nat, (qI S 0 25).toInt ≤ a → (a : Int) < (qI u 0 25).toInt → aOK u a ∧ qI u 11 a = o
theorem ATp.step {S U : MS} {o v : Int32} (h : ATp S o U) (hv : (qI U 0 13).toInt + 6 ≤ v.toInt) (hv2 : v.toInt ≤ (qI U 0 12).toInt) (hf : ∀ w : Int32, w.toInt = (qI U 0 13).toInt + 2 → (qI U 0 13).toInt + 6 + ((f_four U w).toInt64 &&& 4294967295).toInt ≤ (qI U 0 12).toInt) :
    ATp S o (wI (wI (wI (wI U 0 13 v) 10 (qI U 0 25).toInt.toNat (qI U 0 13)) 11 (qI U 0 25).toInt.toNat o) 0 25 (qI U 0 25 + 1)) := by
  obtain ⟨⟨hR, h16, hA, h6⟩, hs, e12, h13, h25, hold, hnew⟩ := h
  have hb := hR.bnd
  have t10 : qT U 10 = 2 := hR.fin fin_26
  have t11 : qT U 11 = 2 := hR.fin fin_27
  have e1 : (qI U 0 25 + (1 : Int32)).toInt = (qI U 0 25).toInt + 1 := by rw [t_add (by rw [li_1]; omega), li_1]
  obtain ⟨u, eu⟩ : ∃ u, u = wI (wI (wI (wI U 0 13 v) 10 (qI U 0 25).toInt.toNat (qI U 0 13)) 11 (qI U 0 25).toInt.toNat o) 0 25 (qI U 0 25 + 1) := ⟨_, rfl⟩
  rw [← eu]
  have q25 : qI u 0 25 = qI U 0 25 + 1 := by rw [eu, qI_wI, if_pos ⟨rfl, rfl⟩]
  have q13 : qI u 0 13 = v := by rw [eu, qI_wI, if_neg (by decide), rdH (by decide), rdH (by decide), n_13]
  have q12 : qI u 0 12 = qI U 0 12 := by rw [eu, qI_wI, if_neg (by decide), rdH (by decide), rdH (by decide), n_12]
  have q10 : ∀ j : Nat, qI u 10 j = if j = (qI U 0 25).toInt.toNat then qI U 0 13 else qI U 10 j := fun j => by
    rw [eu, rdH (by decide), rdH (by decide), qI_wI]
    by_cases e : j = (qI U 0 25).toInt.toNat
    · rw [if_pos ⟨rfl, e⟩, if_pos e]
    · rw [if_neg (fun q => e q.2), if_neg e, rdH (by decide)]
  have q11 : ∀ j : Nat, qI u 11 j = if j = (qI U 0 25).toInt.toNat then o else qI U 11 j := fun j => by
    rw [eu, rdH (by decide), qI_wI]
    by_cases e : j = (qI U 0 25).toInt.toNat
    · rw [if_pos ⟨rfl, e⟩, if_pos e]
    · rw [if_neg (fun q => e q.2), if_neg e, rdH (by decide), rdH (by decide)]
  have r1 : RdI (wI U 0 13 v) := hR.nx (by omega) hv2
  have r2 := r1.row (a := 10) (j := (qI U 0 25).toInt.toNat) (v := qI U 0 13) (by decide)
  have r3 := r2.row (a := 11) (j := (qI U 0 25).toInt.toNat) (v := o) (by decide)
  have hs2 : smB U u := by
    rw [eu]
    exact (hR.ss (a := 0) hR.z (by decide)).tr ((r1.ss (a := 10) (t := 2) t10 (by decide)).tr ((r2.ss (a := 11) (t := 2) t11 (by decide)).tr (r3.ss (a := 0) (t := 10) r3.z (by decide))))
  refine ⟨⟨by rw [eu]; exact r3.fld (by decide), by rw [q12]; exact h16, by rw [q25, e1]; omega, by rw [q25, q13, e1]; omega⟩, hs.tr hs2, by rw [q12, e12], by rw [q13]; omega, by rw [q25, e1]; omega, fun a ha => ?_, fun a ha ha2 => ?_⟩
  · have ne : a ≠ (qI U 0 25).toInt.toNat := by omega
    rw [q10, q11, if_neg ne, if_neg ne]
    exact hold a ha
  · rw [q25, e1] at ha2
    by_cases e : a = (qI U 0 25).toInt.toNat
    · refine ⟨?_, by rw [q11, if_pos e]⟩
      unfold aOK
      rw [q10, if_pos e, q12, f_same hs2.1 hs2.2]
      exact ⟨hb.1, hf _ (by rw [t_add (by rw [li_2]; omega), li_2])⟩
    · obtain ⟨k1, k2⟩ := hnew a ha (by omega)
      exact ⟨k1.mv hs2 (by rw [q10, if_neg e]) q12, by rw [q11, if_neg e]; exact k2⟩
theorem sp_attributesOf_L {S : MS} {Q : MS → Prop} {o n : Int32} (hn : n.toInt ≤ 65535) (hQ : ∀ u, ATp S o u → Q u) :
    ∀ (m : Nat) (U : MS) (i : Int32), (0 ≤ i.toInt ∧ i.toInt ≤ 65535 ∧ ATp S o U) → (65536 - i.toInt).toNat < m → w_attributesOf_L14 Q (fun _ => True) m U o n i := by
  intro m
  induction m with
  | zero => intro U i _ h9; exact absurd h9 (Nat.not_lt_zero _)
  | succ m ih =>
    rintro U i ⟨i0, i1, hI⟩ hm
    unfold w_attributesOf_L14
    refine ⟨fun _ => hQ U hI, fun c => ?_⟩
    have hI' := hI
    obtain ⟨⟨hR, h16, hA, h6⟩, -⟩ := hI'
    have hb := hR.bnd
    have l2 : (2 : Int64).toInt = 2 := by decide
    have l4 : (4 : Int64).toInt = 4 := by decide
    refine ⟨_, _, sp_over hR (by decide), ?_, fun _ _ => trivial⟩
    rintro r11 S1 ⟨e11, v1, rfl, a1, b1⟩
    rw [l2] at a1
    have h1 : RdI (wI U 0 13 v1) := hR.nx (by omega) b1
    refine ⟨_, _, sp_over h1 (by decide), ?_, fun _ _ => trivial⟩
    rintro r15 S2 ⟨e15, v2, e2, a2, b2⟩
    rw [wI_wI] at e2
    subst e2
    rw [n_13, l4] at a2
    rw [n_12] at b2
    rw [n_13] at e15
    have h2 : RdI (wI U 0 13 v2) := hR.nx (by omega) b2
    refine ⟨h2.four (by rw [e15]; omega) (by rw [e15, n_12]; omega), ?_⟩
    have bl := c_and64 (a := (f_four (wI U 0 13 v2) r15).toInt64)
    refine ⟨_, _, sp_over h2 ⟨bl.1, by omega⟩, ?_, fun _ _ => trivial⟩
    rintro r23 S3 ⟨-, v3, e3, a3, b3⟩
    rw [wI_wI] at e3
    subst e3
    rw [n_13] at a3
    rw [n_12] at b3
    have q25 : qI (wI U 0 13 v3) 0 25 = qI U 0 25 := by rw [qI_wI, if_neg (by decide)]
    rw [q25]
    refine ⟨⟨hA, by omega⟩, fun S4 e4 => ?_⟩
    subst e4
    have q25b : qI (wI (wI U 0 13 v3) 10 (qI U 0 25).toInt.toNat r11) 0 25 = qI U 0 25 := by rw [rdH (by decide), q25]
    rw [q25b]
    refine ⟨⟨hA, by omega⟩, fun S5 e5 S6 e6 a32 e32 => ?_⟩
    subst e5
    have q25c : qI (wI (wI (wI U 0 13 v3) 10 (qI U 0 25).toInt.toNat r11) 11 (qI U 0 25).toInt.toNat o) 0 25 = qI U 0 25 := by rw [rdH (by decide), q25b]
    rw [q25c] at e6
    have e33 : a32.toInt = i.toInt + 1 := by rw [e32, t_add (by rw [lo_1]; omega), lo_1]
    refine ih S6 a32 ⟨by omega, by omega, ?_⟩ (by omega)
    rw [e6, e11]
    refine hI.step (v := v3) (by omega) b3 (fun w hw => ?_)
    have ew : w = r15 := by rw [e15]; exact Int32.toInt_inj.mp (by omega)
    have k9 : smB U (wI U 0 13 v2) := hR.ss (a := 0) (t := 10) (j := 13) (v := v2) hR.z (by decide)
    have ef : f_four (wI U 0 13 v2) r15 = f_four U r15 := f_same (S := U) (u := wI U 0 13 v2) k9.1 k9.2 r15
    rw [ew, ← ef]
    omega
theorem ATp.rf {S : MS} {o : Int32} (h : AtI S) : ATp S o S := ⟨h, smB.rf, rfl, Int.le_refl _, Int.le_refl _, fun _ _ => ⟨rfl, rfl⟩, fun a h1 h2 => absurd h2 (by omega)⟩
theorem sp_attributesOf {S : MS} {o : Int32} (h : AtI S) : w_attributesOf S o (ATp S o) (fun _ => True) := by
  have hR := h.1
  have hb := hR.bnd
  unfold w_attributesOf
  refine ⟨_, _, sp_over hR (by decide), ?_, fun _ _ => trivial⟩
  rintro r2 S3 ⟨e2, v, rfl, a1, b1⟩
  have l2 : (2 : Int64).toInt = 2 := by decide
  rw [l2] at a1
  have h1 : RdI (wI S 0 13 v) := hR.nx (by omega) b1
  refine ⟨h1.two (by rw [e2]; omega) (by rw [e2, n_12]; omega), fun a8 e8 => ?_⟩
  have b8 := b_two (S := wI S 0 13 v) (x := r2)
  rw [← e8] at b8
  have q25 : qI (wI S 0 13 v) 0 25 = qI S 0 25 := by rw [qI_wI, if_neg (by decide)]
  have hA : AtI (wI S 0 13 v) := ⟨h1, by rw [n_12]; exact h.2.1, by rw [q25]; exact h.2.2.1, by rw [q25, n_13]; have := h.2.2.2; omega⟩
  have k9 : smB S (wI S 0 13 v) := hR.ss (a := 0) (t := 10) (j := 13) (v := v) hR.z (by decide)
  refine ⟨_, sp_attributesOf_L (S := wI S 0 13 v) (by omega) (fun u hu => ?_) _ _ 0 ⟨by decide, by decide, ATp.rf hA⟩ (Nat.lt_succ_self _)⟩
  obtain ⟨p1, p2, p3, p4, p5, p6, p7⟩ := hu
  rw [q25] at p5 p6 p7
  rw [n_12] at p3
  rw [n_13] at p4
  refine ⟨p1, k9.tr p2, p3, by omega, p5, fun a ha => ?_, p7⟩
  obtain ⟨z1, z2⟩ := p6 a ha
  exact ⟨by rw [z1, rdH (by decide)], by rw [z2, rdH (by decide)]⟩
/-! members -/
def mOK (S : MS) (i : Nat) : Prop := 0 ≤ (qI S 9 i).toInt ∧ (qI S 9 i).toInt + 6 ≤ (qI S 0 12).toInt
def MBp (S : MS) (k : Int) (u : MS) : Prop := AtI u ∧ smB S u ∧ qI u 0 12 = qI S 0 12 ∧ (qI S 0 13).toInt ≤ (qI u 0 13).toInt ∧ (qI u 0 21).toInt = (qI S 0 21).toInt + k ∧ (qI S 0 25).toInt ≤ (qI u 0 25).toInt ∧ (∀ i : Nat, (i : Int) < (qI S 0 21).toInt → qI u 9 i = qI S 9 i) ∧ (∀ i : Nat, (qI S 0 21).toInt ≤ i → (i : Int) < (qI u 0 21).toInt → mOK u i) ∧ (∀ a : Nat, (a : Int) < (qI S 0 25).toInt → qI u 10 a = qI S 10 a) ∧ ∀ a : Nat, (qI S 0 25).toInt ≤ a → (a : Int) < (qI u 0 25).toInt → aOK u a
theorem MBp.rf {S : MS} (h : AtI S) : MBp S 0 S := ⟨h, smB.rf, rfl, Int.le_refl _, by omega, Int.le_refl _, fun _ _ => rfl, fun a h1 h2 => absurd h2 (by omega), fun _ _ => rfl, fun a h1 h2 => absurd h2 (by omega)⟩
theorem AtI.nx {S : MS} (h : AtI S) {v : Int32} (h0 : (qI S 0 13).toInt ≤ v.toInt) (h1 : v.toInt ≤ (qI S 0 12).toInt) : AtI (wI S 0 13 v) := by
  have hb := h.1.bnd
  have q25 : qI (wI S 0 13 v) 0 25 = qI S 0 25 := by rw [qI_wI, if_neg (by decide)]
  exact ⟨h.1.nx (by omega) h1, by rw [n_12]; exact h.2.1, by rw [q25]; exact h.2.2.1, by rw [q25, n_13]; have := h.2.2.2; omega⟩
theorem AtI.row {S : MS} (h : AtI S) {a j : Nat} {v : Int32} (ha : a ≠ 0) : AtI (wI S a j v) := by
  have e : qI (wI S a j v) 0 = qI S 0 := rdH (Ne.symm ha)
  exact ⟨h.1.row ha, by rw [e]; exact h.2.1, by rw [e]; exact h.2.2.1, by rw [e]; exact h.2.2.2⟩
theorem AtI.fld {S : MS} (h : AtI S) {j : Nat} {v : Int32} (hj : j ≠ 12 ∧ j ≠ 13 ∧ j ≠ 25) : AtI (wI S 0 j v) := by
  have e1 : qI (wI S 0 j v) 0 13 = qI S 0 13 := by rw [qI_wI, if_neg (fun q => hj.2.1 q.2.symm)]
  have e2 : qI (wI S 0 j v) 0 12 = qI S 0 12 := by rw [qI_wI, if_neg (fun q => hj.1 q.2.symm)]
  have e3 : qI (wI S 0 j v) 0 25 = qI S 0 25 := by rw [qI_wI, if_neg (fun q => hj.2.2 q.2.symm)]
  exact ⟨h.1.fld ⟨hj.1, hj.2.1⟩, by rw [e2]; exact h.2.1, by rw [e3]; exact h.2.2.1, by rw [e1, e3]; exact h.2.2.2⟩
theorem sp_members_L {S : MS} {Q : MS → Prop} {n : Int32} (hn : n.toInt ≤ 24) (h0 : 0 ≤ (qI S 0 21).toInt ∧ (qI S 0 21).toInt ≤ 24) (hQ : ∀ (u : MS) (k : Int), 0 ≤ k → k ≤ 24 → MBp S k u → Q u) :
    ∀ (m : Nat) (U : MS) (i : Int32), (0 ≤ i.toInt ∧ i.toInt ≤ 24 ∧ MBp S i.toInt U) → (25 - i.toInt).toNat < m → w_members_L33 Q (fun _ => True) m U n i := by
  intro m
  induction m with
  | zero => intro U i _ h9; exact absurd h9 (Nat.not_lt_zero _)
  | succ m ih =>
    rintro U i ⟨i0, i1, hI⟩ hm
    unfold w_members_L33
    refine ⟨fun _ => hQ U _ i0 i1 hI, fun c => ?_⟩
    obtain ⟨hA, hs, e12, h13, h21, h25, hmo, hmn, hao, han⟩ := hI
    have hR := hA.1
    have hb := hR.bnd
    have l2 : (2 : Int64).toInt = 2 := by decide
    have l4 : (4 : Int64).toInt = 4 := by decide
    refine ⟨_, _, sp_over hR (by decide), ?_, fun _ _ => trivial⟩
    rintro r14 S1 ⟨e14, v1, rfl, a1, b1⟩
    rw [l2] at a1
    refine ⟨⟨by omega, by omega⟩, fun S2 e2 => ?_⟩
    have hA1 : AtI (wI U 0 13 v1) := hA.nx (by omega) b1
    have hA2 : AtI S2 := by rw [e2]; exact hA1.row (by decide)
    have x13 : qI S2 0 13 = v1 := by rw [e2, rdH (by decide), n_13]
    have x12 : qI S2 0 12 = qI U 0 12 := by rw [e2, rdH (by decide), n_12]
    refine ⟨_, _, sp_over hA2.1 (by decide), ?_, fun _ _ => trivial⟩
    rintro r20 S3 ⟨-, v2, e3, a2, b2⟩
    rw [x13, l4] at a2
    rw [x12] at b2
    have hA3 : AtI S3 := by rw [e3]; exact hA2.nx (by rw [x13]; omega) (by rw [x12]; exact b2)
    refine ⟨_, _, fr_attributesOf (sp_attributesOf hA3), ?_, fun _ _ => trivial⟩
    rintro S4 ⟨⟨p1, p2, p3, p4, p5, p6, p7⟩, hf⟩ S5 e5 a28 e28
    have y13 : qI S3 0 13 = v2 := by rw [e3, n_13]
    have y12 : qI S3 0 12 = qI U 0 12 := by rw [e3, n_12, x12]
    have y21 : qI S3 0 21 = qI U 0 21 := by rw [e3, qI_wI, if_neg (by decide), e2, rdH (by decide), qI_wI, if_neg (by decide)]
    have y25 : qI S3 0 25 = qI U 0 25 := by rw [e3, qI_wI, if_neg (by decide), e2, rdH (by decide), qI_wI, if_neg (by decide)]
    have y9 : ∀ j : Nat, qI S3 9 j = if j = (qI U 0 21).toInt.toNat then r14 else qI U 9 j := fun j => by
      rw [e3, rdH (by decide), e2, qI_wI]
      by_cases e : j = (qI U 0 21).toInt.toNat
      · rw [if_pos ⟨rfl, e⟩, if_pos e]
      · rw [if_neg (fun q => e q.2), if_neg e, rdH (by decide)]
    have y10 : qI S3 10 = qI U 10 := by rw [e3, rdH (by decide), e2, rdH (by decide), rdH (by decide)]
    have t9 : qT (wI U 0 13 v1) 9 = 2 := hA1.1.fin fin_24
    have s3 : smB U S3 := by
      rw [e3, e2]
      exact (hR.ss (a := 0) (t := 10) hR.z (by decide)).tr ((hA1.1.ss (a := 9) (t := 2) t9 (by decide)).tr ((hA1.row (a := 9) (by decide)).1.ss (a := 0) (t := 10) (hA1.row (a := 9) (by decide)).1.z (by decide)))
    have z9 : qI S4 9 = qI S3 9 := (hf.2.2.2.2.1 9 (by decide) (by decide)).1
    have z21 : qI S4 0 21 = qI S3 0 21 := (hf.2.2.2.2.2 21 (by decide)).1
    have e1 : (qI U 0 21 + (1 : Int32)).toInt = (qI U 0 21).toInt + 1 := by rw [t_add (by rw [li_1]; omega), li_1]
    have w21 : qI S5 0 21 = qI U 0 21 + 1 := by rw [e5, qI_wI, if_pos ⟨rfl, rfl⟩, z21, y21]
    have w12 : qI S5 0 12 = qI U 0 12 := by rw [e5, qI_wI, if_neg (by decide), p3, y12]
    have w13 : qI S5 0 13 = qI S4 0 13 := by rw [e5, qI_wI, if_neg (by decide)]
    have w25 : qI S5 0 25 = qI S4 0 25 := by rw [e5, qI_wI, if_neg (by decide)]
    have w9 : qI S5 9 = qI S3 9 := by rw [e5, rdH (by decide), z9]
    have w10 : qI S5 10 = qI S4 10 := by rw [e5, rdH (by decide)]
    have s5 : smB S4 S5 := by rw [e5]; exact p1.1.ss (a := 0) (t := 10) p1.1.z (by decide)
    have e33 : a28.toInt = i.toInt + 1 := by rw [e28, t_add (by rw [lo_1]; omega), lo_1]
    refine ih S5 a28 ⟨by omega, by omega, ?_⟩ (by omega)
    refine ⟨by rw [e5]; exact p1.fld (by decide), hs.tr (s3.tr (p2.tr s5)), by rw [w12, e12], by rw [w13]; rw [y13] at p4; omega, by rw [w21, e1, e33]; omega, by rw [w25]; rw [y25] at p5; omega, fun j hj => ?_, fun j hj hj2 => ?_, fun a ha => ?_, fun a ha ha2 => ?_⟩
    · rw [w9, y9, if_neg (by omega)]
      exact hmo j hj
    · rw [w21, e1] at hj2
      unfold mOK
      rw [w9, w12, y9]
      by_cases e : j = (qI U 0 21).toInt.toNat
      · rw [if_pos e, e14]; omega
      · rw [if_neg e]
        exact hmn j hj (by omega)
    · rw [w10, (p6 a (by rw [y25]; omega)).1, y10]
      exact hao a ha
    · rw [w25] at ha2
      by_cases e : (a : Int) < (qI U 0 25).toInt
      · refine (han a ha e).mv (s3.tr (p2.tr s5)) ?_ w12
        rw [w10, (p6 a (by rw [y25]; exact e)).1, y10]
      · exact (p7 a (by rw [y25]; omega) ha2).1.mv s5 (by rw [w10]) (by rw [e5, qI_wI, if_neg (by decide)])
theorem sp_members {S : MS} (h : AtI S) (h0 : 0 ≤ (qI S 0 21).toInt ∧ (qI S 0 21).toInt ≤ 24) : w_members S (fun u => ∃ k : Int, (0 ≤ k ∧ k ≤ 24) ∧ MBp S k u) (fun _ => True) := by
  have hR := h.1
  have hb := hR.bnd
  unfold w_members
  refine ⟨_, _, sp_over hR (by decide), ?_, fun _ _ => trivial⟩
  rintro r2 S3 ⟨e2, v, rfl, a1, b1⟩
  have l2 : (2 : Int64).toInt = 2 := by decide
  rw [l2] at a1
  have h1 : AtI (wI S 0 13 v) := h.nx (by omega) b1
  refine ⟨h1.1.two (by rw [e2]; omega) (by rw [e2, n_12]; omega), fun a8 e8 => ?_⟩
  have b8 := b_two (S := wI S 0 13 v) (x := r2)
  rw [← e8] at b8
  have q21 : qI (wI S 0 13 v) 0 21 = qI S 0 21 := by rw [qI_wI, if_neg (by decide)]
  have q25 : qI (wI S 0 13 v) 0 25 = qI S 0 25 := by rw [qI_wI, if_neg (by decide)]
  have k9 : smB S (wI S 0 13 v) := hR.ss (a := 0) (t := 10) (j := 13) (v := v) hR.z (by decide)
  have st : ∀ t : Int32, (t.toInt ≠ 0 → a8.toInt ≤ 24) → w_members_J26 (fun u => ∃ k : Int, (0 ≤ k ∧ k ≤ 24) ∧ MBp S k u) (fun _ => True) (wI S 0 13 v) t r2 a8 := fun t ht => by
    unfold w_members_J26
    refine ⟨_, _, sp_must, ?_, fun _ _ => trivial⟩
    rintro U3 ⟨rfl, hz⟩
    refine ⟨_, sp_members_L (S := wI S 0 13 v) (ht hz) (by rw [q21]; exact h0) (fun u k hk0 hk hu => ⟨k, ⟨hk0, hk⟩, ?_⟩) _ _ 0 ⟨by decide, by decide, MBp.rf h1⟩ (Nat.lt_succ_self _)⟩
    obtain ⟨p1, p2, p3, p4, p5, p6, p7, p8, p9, p10⟩ := hu
    rw [q21] at p5 p7 p8
    rw [q25] at p6 p9 p10
    rw [n_12] at p3
    rw [n_13] at p4
    exact ⟨p1, k9.tr p2, p3, by omega, p5, p6, fun j hj => by rw [p7 j hj, rdH (by decide)], p8, fun a ha => by rw [p9 a ha, rdH (by decide)], p10⟩
  refine ⟨fun _ => st 0 (fun q => absurd rfl q), fun c => st 1 (fun _ => by omega)⟩
/-! entries -/
def eOK (S : MS) (k : Nat) : Prop := ((qI S 4 k).toInt = 1 ∨ (qI S 4 k).toInt = 3 ∨ (qI S 4 k).toInt = 5 ∨ (qI S 4 k).toInt = 7 ∨ (qI S 4 k).toInt = 9 ∨ (qI S 4 k).toInt = 10 ∨ (qI S 4 k).toInt = 12) ∧ ((qI S 4 k).toInt = 1 → 0 ≤ (qI S 6 k).toInt ∧ 1 ≤ (qI S 7 k).toInt ∧ (qI S 7 k).toInt ≤ 100 ∧ (qI S 6 k).toInt + (qI S 7 k).toInt ≤ (qI S 0 12).toInt ∧ ltO (qI S (qO S 0 11)) (qI S 6 k) (qI S 7 k)) ∧ ((qI S 4 k).toInt = 7 → 0 ≤ (qI S 6 k).toInt ∧ (qI S 6 k).toInt < 65536) ∧ ((qI S 4 k).toInt = 9 ∨ (qI S 4 k).toInt = 10 ∨ (qI S 4 k).toInt = 12 → (0 ≤ (qI S 6 k).toInt ∧ (qI S 6 k).toInt < 65536) ∧ 0 ≤ (qI S 7 k).toInt ∧ (qI S 7 k).toInt < 65536)
def ENp (S : MS) (k : Nat) (u : MS) : Prop := RdI u ∧ smB S u ∧ qI u 0 12 = qI S 0 12 ∧ (qI S 0 13).toInt + 1 ≤ (qI u 0 13).toInt ∧ (∀ j : Nat, j ≠ k → qI u 4 j = qI S 4 j ∧ qI u 6 j = qI S 6 j ∧ qI u 7 j = qI S 7 j) ∧ eOK u k
/-- what is known on the way of an entry -/
def ENq (S : MS) (k : Nat) (u : MS) : Prop := RdI u ∧ smB S u ∧ qI u 0 12 = qI S 0 12 ∧ (qI S 0 13).toInt + 1 ≤ (qI u 0 13).toInt ∧ qI u 4 = qI S 4 ∧ ∀ j : Nat, j ≠ k → qI u 6 j = qI S 6 j ∧ qI u 7 j = qI S 7 j
theorem ENq.over {S U : MS} {k : Nat} {v : Int32} (h : ENq S k U) (h0 : (qI U 0 13).toInt ≤ v.toInt) (h1 : v.toInt ≤ (qI U 0 12).toInt) : ENq S k (wI U 0 13 v) := by
  obtain ⟨a, b, c, d, e, f⟩ := h
  have hb := a.bnd
  exact ⟨a.nx (by omega) h1, b.tr (a.ss (a := 0) (t := 10) a.z (by decide)), by rw [n_12, c], by rw [n_13]; omega, by rw [rdH (by decide), e], fun j hj => by rw [rdH (by decide), rdH (by decide)]; exact f j hj⟩
theorem ENq.p6 {S U : MS} {k : Nat} {v : Int32} (h : ENq S k U) : ENq S k (wI U 6 k v) := by
  obtain ⟨a, b, c, d, e, f⟩ := h
  have t6 : qT U 6 = 2 := a.fin fin_17
  refine ⟨a.row (by decide), b.tr (a.ss (a := 6) (t := 2) t6 (by decide)), by rw [rdH (by decide), c], by rw [rdH (by decide)]; exact d, by rw [rdH (by decide), e], fun j hj => ?_⟩
  rw [rdH (a := 7) (by decide), qI_wI, if_neg (fun q => hj q.2)]
  exact f j hj
theorem ENq.p7 {S U : MS} {k : Nat} {v : Int32} (h : ENq S k U) : ENq S k (wI U 7 k v) := by
  obtain ⟨a, b, c, d, e, f⟩ := h
  have t7 : qT U 7 = 2 := a.fin fin_18
  refine ⟨a.row (by decide), b.tr (a.ss (a := 7) (t := 2) t7 (by decide)), by rw [rdH (by decide), c], by rw [rdH (by decide)]; exact d, by rw [rdH (by decide), e], fun j hj => ?_⟩
  rw [rdH (a := 6) (by decide), qI_wI, if_neg (fun q => hj q.2)]
  exact f j hj
theorem ENq.fin {S U : MS} {x1 a : Int32} (h : ENq S x1.toInt.toNat U) (h1 : 0 ≤ x1.toInt ∧ x1.toInt < 502) (ht : a.toInt = 1 ∨ a.toInt = 3 ∨ a.toInt = 5 ∨ a.toInt = 7 ∨ a.toInt = 9 ∨ a.toInt = 10 ∨ a.toInt = 12) (k1 : a.toInt = 1 → 0 ≤ (qI U 6 x1.toInt.toNat).toInt ∧ 1 ≤ (qI U 7 x1.toInt.toNat).toInt ∧ (qI U 7 x1.toInt.toNat).toInt ≤ 100 ∧ (qI U 6 x1.toInt.toNat).toInt + (qI U 7 x1.toInt.toNat).toInt ≤ (qI U 0 12).toInt ∧ ltO (qI U (qO U 0 11)) (qI U 6 x1.toInt.toNat) (qI U 7 x1.toInt.toNat))
    (k7 : a.toInt = 7 → 0 ≤ (qI U 6 x1.toInt.toNat).toInt ∧ (qI U 6 x1.toInt.toNat).toInt < 65536) (k9 : a.toInt = 9 ∨ a.toInt = 10 ∨ a.toInt = 12 → (0 ≤ (qI U 6 x1.toInt.toNat).toInt ∧ (qI U 6 x1.toInt.toNat).toInt < 65536) ∧ 0 ≤ (qI U 7 x1.toInt.toNat).toInt ∧ (qI U 7 x1.toInt.toNat).toInt < 65536) : w_entry_J220 (ENp S x1.toInt.toNat) (fun _ => True) U x1 a := by
  obtain ⟨p, q, c, d, e, f⟩ := h
  unfold w_entry_J220
  refine ⟨h1, fun u eu => ?_⟩
  have t4 : qT U 4 = 2 := p.fin fin_15
  have u4 : qI u 4 x1.toInt.toNat = a := by rw [eu, qI_wI, if_pos ⟨rfl, rfl⟩]
  have u6 : qI u 6 = qI U 6 := by rw [eu, rdH (by decide)]
  have u7 : qI u 7 = qI U 7 := by rw [eu, rdH (by decide)]
  have u0 : qI u 0 = qI U 0 := by rw [eu, rdH (by decide)]
  refine ⟨by rw [eu]; exact p.row (by decide), by rw [eu]; exact q.tr (p.ss (a := 4) (t := 2) t4 (by decide)), by rw [u0, c], by rw [u0]; exact d, fun j hj => ?_, ?_⟩
  · rw [u6, u7, eu, qI_wI, if_neg (fun z => hj z.2), e]
    exact ⟨rfl, f j hj⟩
  · unfold eOK
    rw [u4, u6, u7, u0, show qI u (qO u 0 11) = qI U (qO U 0 11) by rw [eu]; exact (p.ss (a := 4) (t := 2) t4 (by decide)).2]
    exact ⟨ht, k1, k7, k9⟩
theorem frm.smB {W J : List Nat} {S u : MS} (h : frm W J S u) (h0 : qO S 0 11 ≠ 0) (hW : qO S 0 11 ∉ W) (hJ : 11 ∉ J) : smB S u := ⟨(h.2.2.2.2.2 11 hJ).2.2, (h.2.2.2.2.1 _ h0 hW).1⟩
/-- two bytes are read into a row -/
theorem en_two {S U : MS} {x1 : Int32} {P : Int32 → MS → Prop} (h : ENq S x1.toInt.toNat U) (hP : ∀ (r v : Int32), ENq S x1.toInt.toNat (wI U 0 13 v) → d_two (wI U 0 13 v) r → P r (wI U 0 13 v)) : ∃ Q9 E9, w_over U (2 : Int64) Q9 E9 ∧ (∀ r u, Q9 r u → P r u) ∧ ∀ u9 : MS, E9 u9 → True := by
  have l2 : (2 : Int64).toInt = 2 := by decide
  have hb := h.1.bnd
  refine ⟨_, _, sp_over h.1 (by decide), ?_, fun _ _ => trivial⟩
  rintro r u ⟨er, v, rfl, a1, b1⟩
  rw [l2] at a1
  have k := h.over (v := v) (by omega) b1
  exact hP r v k (k.1.two (by rw [er]; omega) (by rw [er, n_12]; omega))
theorem sp_entry {S : MS} {x1 : Int32} (h : RdI S) (h1 : 0 ≤ x1.toInt ∧ x1.toInt < 502) : w_entry S x1 (ENp S x1.toInt.toNat) (fun _ => True) := by
  have hb := h.bnd
  have l1 : (1 : Int64).toInt = 1 := by decide
  have l4 : (4 : Int64).toInt = 4 := by decide
  have l8 : (8 : Int64).toInt = 8 := by decide
  have br : ∀ {U : MS} {a b : Int32}, ∃ Q9, w_broken U a b Q9 ∧ ∀ (b9 : Nat) (u : MS), Q9 b9 u → True := fun {U a b} => ⟨_, sp_broken (Q := fun _ _ => True) trivial, fun _ _ _ => trivial⟩
  unfold w_entry
  refine ⟨_, _, sp_over h (by decide), ?_, fun _ _ => trivial⟩
  rintro r2 S3 ⟨e2, v, rfl, a1, b1⟩
  rw [l1] at a1
  have h3 : RdI (wI S 0 13 v) := h.nx (by omega) b1
  refine ⟨h1, fun S6 e6 => ?_⟩
  have t5 : qT (wI S 0 13 v) 5 = 2 := h3.fin fin_16
  have q6 : ENq S x1.toInt.toNat S6 := by
    rw [e6]
    exact ⟨h3.row (by decide), (h.ss (a := 0) (t := 10) h.z (by decide)).tr (h3.ss (a := 5) (t := 2) t5 (by decide)), by rw [rdH (by decide), n_12], by rw [rdH (by decide), n_13]; omega, by rw [rdH (by decide), rdH (by decide)], fun j _ => by rw [rdH (by decide), rdH (by decide), rdH (by decide), rdH (by decide)]; exact ⟨rfl, rfl⟩⟩
  have x12 : qI S6 0 12 = qI S 0 12 := q6.2.2.1
  have x13 : qI S6 0 13 = v := by rw [e6, rdH (by decide), n_13]
  refine ⟨q6.1.oct (by rw [e2]; omega) (by rw [e2, x12]; omega), fun a e10 => ?_⟩
  have pair : (a.toInt = 9 ∨ a.toInt = 10 ∨ a.toInt = 12) → ∃ Q9 E9, w_over S6 (2 : Int64) Q9 E9 ∧ (∀ r u, Q9 r u → d_two u r ∧ (((0 : Int) ≤ x1.toInt ∧ x1.toInt < 502) ∧ (∀ S7, S7 = wI u 6 x1.toInt.toNat (f_two u r) → (∃ Q8 E8, w_over S7 (2 : Int64) Q8 E8 ∧ (∀ r8 u8, Q8 r8 u8 → (d_two u8 r8 ∧ (((0 : Int) ≤ x1.toInt ∧ x1.toInt < 502) ∧ (∀ S8, S8 = wI u8 7 x1.toInt.toNat (f_two u8 r8) → w_entry_J220 (ENp S x1.toInt.toNat) (fun _ => True) S8 x1 a)))) ∧ (∀ u9 : MS, E8 u9 → True))))) ∧ (∀ u9 : MS, E9 u9 → True) := fun hc => by
    refine en_two q6 (fun r w k d => ⟨d, h1, fun S7 e7 => ?_⟩)
    have k7 : ENq S x1.toInt.toNat S7 := by rw [e7]; exact k.p6
    refine en_two k7 (fun r8 w8 k8 d8 => ⟨d8, h1, fun S8 e8 => ?_⟩)
    have k9 : ENq S x1.toInt.toNat S8 := by rw [e8]; exact k8.p7
    have f6 : qI S8 6 x1.toInt.toNat = f_two (wI S6 0 13 w) r := by rw [e8, rdH (by decide), rdH (by decide), e7, qI_wI, if_pos ⟨rfl, rfl⟩]
    have f7 : qI S8 7 x1.toInt.toNat = f_two (wI S7 0 13 w8) r8 := by rw [e8, qI_wI, if_pos ⟨rfl, rfl⟩]
    refine k9.fin h1 (by omega) (fun q => by omega) (fun q => by omega) (fun _ => ?_)
    rw [f6, f7]
    exact ⟨b_two, b_two⟩
  refine ⟨fun c1 => ?_, fun n1 => ⟨fun _ => br, fun n2 => ⟨fun c3 => ?_, fun n3 => ⟨fun _ => br, fun n4 => ⟨fun c5 => ?_, fun n5 => ⟨fun _ => br, fun n6 => ⟨fun c7 => ?_, fun n7 => ⟨fun _ => br, fun n8 => ⟨fun c9 => pair (by omega), fun n9 => ⟨fun c10 => pair (by omega), fun n10 => ⟨fun _ => br, fun n11 => ⟨fun c12 => pair (by omega), fun _ => br⟩⟩⟩⟩⟩⟩⟩⟩⟩⟩⟩⟩
  · refine ⟨_, _, fr_nameEntry (sp_nameEntry q6.1 h1), ?_, fun _ _ => trivial⟩
    rintro u ⟨⟨p1, p2, p3, p4, p5, p6, p7, p8, p9⟩, hf⟩
    have y4 : qI u 4 = qI S6 4 := (hf.2.2.2.2.1 4 (by decide) (by decide)).1
    have b0 := q6.1.ne q6.1.z (by decide)
    have b6 := q6.1.ne (q6.1.fin fin_17) (by decide)
    have b7 := q6.1.ne (q6.1.fin fin_18) (by decide)
    have sb : smB S6 u := hf.smB b0 (fun q => by simp only [List.mem_cons, List.not_mem_nil, or_false] at q; rcases q with q | q; exact b6 q; exact b7 q) (by decide)
    obtain ⟨z1, z2, z3, z4, z5, z6⟩ := q6
    refine ENq.fin ⟨p1, z2.tr sb, by rw [p3, z3], by omega, by rw [y4, z5], fun j hj => ⟨(p4 j hj).1.trans (z6 j hj).1, (p4 j hj).2.trans (z6 j hj).2⟩⟩ h1 (Or.inl c1) (fun _ => ⟨p5, p6, p7, p8, p9⟩) (fun q => by omega) (fun q => by omega)
  · refine ⟨_, _, sp_over q6.1 (by decide), ?_, fun _ _ => trivial⟩
    rintro r u ⟨er, w, rfl, a4, b4⟩
    rw [l4] at a4
    have k := q6.over (v := w) (by omega) b4
    refine ⟨k.1.four (by rw [er, x13]; omega) (by rw [er, n_12]; omega), h1, fun S8 e8 => ?_⟩
    have k8 : ENq S x1.toInt.toNat S8 := by rw [e8]; exact k
    exact k8.fin h1 (by omega) (fun q => by omega) (fun q => by omega) (fun q => by omega)
  · refine ⟨_, _, sp_over q6.1 (by decide), ?_, fun _ _ => trivial⟩
    rintro r u ⟨er, w, rfl, a4, b4⟩
    rw [l8] at a4
    have hb6 := q6.1.bnd
    have k := q6.over (v := w) (by omega) b4
    have e4 : (r + (4 : Int32)).toInt = r.toInt + 4 := by rw [t_add (by rw [li_4, er]; omega), li_4]
    refine ⟨k.1.four (by rw [er, x13]; omega) (by rw [er, n_12]; omega), k.1.four (by rw [e4, er, x13]; omega) (by rw [e4, er, n_12]; omega), h1, fun S8 e8 => ?_⟩
    have k8 : ENq S x1.toInt.toNat S8 := by rw [e8]; exact k
    exact k8.fin h1 (by omega) (fun q => by omega) (fun q => by omega) (fun q => by omega)
  · refine en_two q6 (fun r w k d => ⟨d, h1, fun S7 e7 => ?_⟩)
    have k7 : ENq S x1.toInt.toNat S7 := by rw [e7]; exact k.p6
    have f6 : qI S7 6 x1.toInt.toNat = f_two (wI S6 0 13 w) r := by rw [e7, qI_wI, if_pos ⟨rfl, rfl⟩]
    refine k7.fin h1 (by omega) (fun q => by omega) (fun _ => ?_) (fun q => by omega)
    rw [f6]
    exact b_two
