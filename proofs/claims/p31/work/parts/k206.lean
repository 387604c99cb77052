set_option maxRecDepth 100000 in
theorem fr_word_L2 {S0 : MS} {Q : MS → Prop} : ∀ (n : Nat) {U2 : MS} {v2_1 : Int32} {v2_2 : Int32}, frm [2] [4] S0 U2 → w_word_L2 Q n U2 v2_1 v2_2 → w_word_L2 (fun u => Q u ∧ frm [2] [4] S0 u) n U2 v2_1 v2_2 := by
  intro n
  induction n with
  | zero => intro U2 v2_1 v2_2 f h; unfold w_word_L2 at h; exact h.elim
  | succ n ih =>
    intro U2 v2_1 v2_2 f h
    unfold w_word_L2 at h ⊢
    refine ⟨fun c => ?_, fun c => ?_⟩
    · replace h := h.1 c
      exact ⟨h, f⟩
    · replace h := h.2 c
      refine ⟨h.1, ?_⟩
      replace h := h.2
      intro S6 eS6
      replace h := h S6 eS6
      replace f := f.tr (show frm [2] [4] U2 S6 by rw [eS6]; exact frm.pI (by decide))
      intro S8 eS8
      replace h := h S8 eS8
      replace f := f.tr (show frm [2] [4] S6 S8 by rw [eS8]; exact frm.pI0 (by decide))
      intro a9 ea9
      replace h := h a9 ea9
      exact ih f h
set_option maxRecDepth 100000 in
theorem fr_word {S : MS} {x1 : Int32} {Q : MS → Prop} (h : w_word S x1 Q) : w_word S x1 (fun u => Q u ∧ frm [2] [4] S u) := by
  have f : frm [2] [4] S S := frm.rf
  unfold w_word at h ⊢
  obtain ⟨n9, h⟩ := h
  exact ⟨n9, fr_word_L2 n9 f h⟩
set_option maxRecDepth 100000 in
theorem fr_feed {S : MS} {x1 : Int32} {x2 : Int32} {x3 : Int32} {x4 : Int32} {x5 : Int32} {Q : Int32 → MS → Prop} (h : w_feed S x1 x2 x3 x4 x5 Q) : w_feed S x1 x2 x3 x4 x5 (fun r u => Q r u ∧ frm [2] [4, 5] S u) := by
  have f : frm [2] [4, 5] S S := frm.rf
  unfold w_feed at h ⊢
  refine ⟨fun c => ?_, fun c => ?_⟩
  · replace h := h.1 c
    exact ⟨h, f⟩
  · replace h := h.2 c
    refine ⟨fun c => ?_, fun c => ?_⟩
    · replace h := h.1 c
      obtain ⟨Q9, h0, h⟩ := h
      refine ⟨_, fr_word h0, ?_⟩
      · intro S6 hq
        replace h := h S6 hq.1
        replace f := f.tr (hq.2.mo (by decide) (by decide))
        obtain ⟨Q9, h0, h⟩ := h
        refine ⟨_, fr_word h0, ?_⟩
        · intro S9 hq
          replace h := h S9 hq.1
          replace f := f.tr (hq.2.mo (by decide) (by decide))
          obtain ⟨Q9, h0, h⟩ := h
          refine ⟨_, fr_word h0, ?_⟩
          · intro S12 hq
            replace h := h S12 hq.1
            replace f := f.tr (hq.2.mo (by decide) (by decide))
            obtain ⟨Q9, h0, h⟩ := h
            refine ⟨_, fr_word h0, ?_⟩
            · intro S15 hq
              replace h := h S15 hq.1
              replace f := f.tr (hq.2.mo (by decide) (by decide))
              obtain ⟨Q9, h0, h⟩ := h
              refine ⟨_, fr_word h0, ?_⟩
              · intro S18 hq
                replace h := h S18 hq.1
                replace f := f.tr (hq.2.mo (by decide) (by decide))
                intro S21 eS21
                replace h := h S21 eS21
                replace f := f.tr (show frm [2] [4, 5] S18 S21 by rw [eS21]; exact frm.pI0 (by decide))
                exact ⟨h, f⟩
    · replace h := h.2 c
      exact ⟨h, f⟩
set_option maxRecDepth 100000 in
theorem fr_hasCatch_L2 {S0 : MS} {Q : Int32 → MS → Prop} : ∀ (n : Nat) {U2 : MS} {v2_1 : Int32} {v2_2 : Int32}, frm [] [] S0 U2 → w_hasCatch_L2 Q n U2 v2_1 v2_2 → w_hasCatch_L2 (fun r u => Q r u ∧ frm [] [] S0 u) n U2 v2_1 v2_2 := by
  intro n
  induction n with
  | zero => intro U2 v2_1 v2_2 f h; unfold w_hasCatch_L2 at h; exact h.elim
  | succ n ih =>
    intro U2 v2_1 v2_2 f h
    unfold w_hasCatch_L2 at h ⊢
    refine ⟨fun c => ?_, fun c => ?_⟩
    · replace h := h.1 c
      exact ⟨h, f⟩
    · replace h := h.2 c
      refine ⟨h.1, ?_⟩
      replace h := h.2
      refine ⟨fun c => ?_, fun c => ?_⟩
      · replace h := h.1 c
        intro a6 ea6
        replace h := h a6 ea6
        exact ih f h
      · replace h := h.2 c
        exact ⟨h, f⟩
set_option maxRecDepth 100000 in
theorem fr_hasCatch {S : MS} {x1 : Int32} {Q : Int32 → MS → Prop} (h : w_hasCatch S x1 Q) : w_hasCatch S x1 (fun r u => Q r u ∧ frm [] [] S u) := by
  have f : frm [] [] S S := frm.rf
  unfold w_hasCatch at h ⊢
  obtain ⟨n9, h⟩ := h
  exact ⟨n9, fr_hasCatch_L2 n9 f h⟩
set_option maxRecDepth 100000 in
theorem fr_heightBehind_J28 {S0 : MS} {Q : Int32 → MS → Prop} {U28 : MS} {t28_0 : Int32} {v28_1 : Int32} {v28_2 : Int32} {v28_3 : Int32} (f : frm [] [] S0 U28) (h : w_heightBehind_J28 Q U28 t28_0 v28_1 v28_2 v28_3) : w_heightBehind_J28 (fun r u => Q r u ∧ frm [] [] S0 u) U28 t28_0 v28_1 v28_2 v28_3 := by
  unfold w_heightBehind_J28 at h ⊢
  refine ⟨fun c => ?_, fun c => ?_⟩
  · replace h := h.1 c
    refine ⟨h.1, ?_⟩
    replace h := h.2
    refine ⟨fun c => ?_, fun c => ?_⟩
    · replace h := h.1 c
      refine ⟨h.1, ?_⟩
      replace h := h.2
      obtain ⟨Q9, h0, h⟩ := h
      refine ⟨_, fr_placesOf h0, ?_⟩
      · intro r18 S19 hq
        replace h := h r18 S19 hq.1
        replace f := f.tr (hq.2.mo (by decide) (by decide))
        exact ⟨h, f⟩
    · replace h := h.2 c
      refine ⟨h.1, ?_⟩
      replace h := h.2
      exact ⟨h, f⟩
  · replace h := h.2 c
    exact ⟨h, f⟩
set_option maxRecDepth 100000 in
theorem fr_heightBehind {S : MS} {x1 : Int32} {x2 : Int32} {Q : Int32 → MS → Prop} (h : w_heightBehind S x1 x2 Q) : w_heightBehind S x1 x2 (fun r u => Q r u ∧ frm [] [] S u) := by
  have f : frm [] [] S S := frm.rf
  unfold w_heightBehind at h ⊢
  refine ⟨h.1, ?_⟩
  replace h := h.2
  intro a4 ea4
  replace h := h a4 ea4
  refine ⟨h.1, ?_⟩
  replace h := h.2
  refine ⟨fun c => ?_, fun c => ?_⟩
  · replace h := h.1 c
    refine ⟨h.1, ?_⟩
    replace h := h.2
    obtain ⟨Q9, h0, h⟩ := h
    refine ⟨_, fr_placesOf h0, ?_⟩
    · intro r31 S32 hq
      replace h := h r31 S32 hq.1
      replace f := f.tr (hq.2.mo (by decide) (by decide))
      exact fr_heightBehind_J28 f h
  · replace h := h.2 c
    refine ⟨h.1, ?_⟩
    replace h := h.2
    exact fr_heightBehind_J28 f h
set_option maxRecDepth 100000 in
theorem fr_isRightHeight_J59 {S0 : MS} {Q : Int32 → MS → Prop} {U59 : MS} (f : frm [] [] S0 U59) (h : w_isRightHeight_J59 Q U59) : w_isRightHeight_J59 (fun r u => Q r u ∧ frm [] [] S0 u) U59 := by
  unfold w_isRightHeight_J59 at h ⊢
  exact ⟨h, f⟩
set_option maxRecDepth 100000 in
theorem fr_isRightHeight_J55 {S0 : MS} {Q : Int32 → MS → Prop} {U55 : MS} (f : frm [] [] S0 U55) (h : w_isRightHeight_J55 Q U55) : w_isRightHeight_J55 (fun r u => Q r u ∧ frm [] [] S0 u) U55 := by
  unfold w_isRightHeight_J55 at h ⊢
  exact ⟨h, f⟩
set_option maxRecDepth 100000 in
theorem fr_isRightHeight_J34 {S0 : MS} {Q : Int32 → MS → Prop} {U34 : MS} {v34_1 : Int32} (f : frm [] [] S0 U34) (h : w_isRightHeight_J34 Q U34 v34_1) : w_isRightHeight_J34 (fun r u => Q r u ∧ frm [] [] S0 u) U34 v34_1 := by
  unfold w_isRightHeight_J34 at h ⊢
  refine ⟨h.1, ?_⟩
  replace h := h.2
  refine ⟨h.1, ?_⟩
  replace h := h.2
  refine ⟨fun c => ?_, fun c => ?_⟩
  · replace h := h.1 c
    exact fr_isRightHeight_J55 f h
  · replace h := h.2 c
    refine ⟨fun c => ?_, fun c => ?_⟩
    · replace h := h.1 c
      exact fr_isRightHeight_J59 f h
    · replace h := h.2 c
      exact fr_isRightHeight_J55 f h
set_option maxRecDepth 100000 in
theorem fr_isRightHeight {S : MS} {x1 : Int32} {x2 : Int32} {Q : Int32 → MS → Prop} (h : w_isRightHeight S x1 x2 Q) : w_isRightHeight S x1 x2 (fun r u => Q r u ∧ frm [] [] S u) := by
  have f : frm [] [] S S := frm.rf
  unfold w_isRightHeight at h ⊢
  obtain ⟨Q9, h0, h⟩ := h
  refine ⟨_, fr_heightBehind h0, ?_⟩
  · intro r2 S3 hq
    replace h := h r2 S3 hq.1
    replace f := f.tr (hq.2.mo (by decide) (by decide))
    refine ⟨fun c => ?_, fun c => ?_⟩
    · replace h := h.1 c
      exact fr_isRightHeight_J59 f h
    · replace h := h.2 c
      refine ⟨fun c => ?_, fun c => ?_⟩
      · replace h := h.1 c
        exact fr_isRightHeight_J59 f h
      · replace h := h.2 c
        refine ⟨fun c => ?_, fun c => ?_⟩
        · replace h := h.1 c
          exact fr_isRightHeight_J34 f h
        · replace h := h.2 c
          obtain ⟨Q9, h0, h⟩ := h
          refine ⟨_, fr_hasCatch h0, ?_⟩
          · intro r18 S19 hq
            replace h := h r18 S19 hq.1
            replace f := f.tr (hq.2.mo (by decide) (by decide))
            refine ⟨fun c => ?_, fun c => ?_⟩
            · replace h := h.1 c
              exact fr_isRightHeight_J34 f h
            · replace h := h.2 c
              exact fr_isRightHeight_J59 f h
set_option maxRecDepth 100000 in
theorem fr_spread_J91 {S0 : MS} {Q : MS → Prop} {k60 k60' : MS → Int32 → Int32 → Prop} {U91 : MS} {v91_1 : Int32} {v91_4 : Int32} (hk60 : ∀ (u : MS) (z0) (z1), frm [22] [57] S0 u → k60 u z0 z1 → k60' u z0 z1) (f : frm [22] [57] S0 U91) (h : w_spread_J91 Q k60 U91 v91_1 v91_4) : w_spread_J91 (fun u => Q u ∧ frm [22] [57] S0 u) k60' U91 v91_1 v91_4 := by
  unfold w_spread_J91 at h ⊢
  intro a19 ea19
  replace h := h a19 ea19
  exact hk60 _ _ _ f h
set_option maxRecDepth 100000 in
theorem fr_spread_L60 {S0 : MS} {Q : MS → Prop} : ∀ (n : Nat) {U60 : MS} {v60_1 : Int32} {v60_4 : Int32}, frm [22] [57] S0 U60 → w_spread_L60 Q n U60 v60_1 v60_4 → w_spread_L60 (fun u => Q u ∧ frm [22] [57] S0 u) n U60 v60_1 v60_4 := by
  intro n
  induction n with
  | zero => intro U60 v60_1 v60_4 f h; unfold w_spread_L60 at h; exact h.elim
  | succ n ih =>
    intro U60 v60_1 v60_4 f h
    unfold w_spread_L60 at h ⊢
    refine ⟨fun c => ?_, fun c => ?_⟩
    · replace h := h.1 c
      exact ⟨h, f⟩
    · replace h := h.2 c
      refine ⟨h.1, ?_⟩
      replace h := h.2
      refine ⟨fun c => ?_, fun c => ?_⟩
      · replace h := h.1 c
        exact fr_spread_J91 (fun _ _ _ f h => ih f h) f h
      · replace h := h.2 c
        refine ⟨h.1, ?_⟩
        replace h := h.2
        obtain ⟨Q9, h0, h⟩ := h
        refine ⟨_, fr_come h0, ?_⟩
        · intro S25 hq
          replace h := h S25 hq.1
          replace f := f.tr (hq.2.mo (by decide) (by decide))
          exact fr_spread_J91 (fun _ _ _ f h => ih f h) f h
set_option maxRecDepth 100000 in
theorem fr_spread_L29 {S0 : MS} {Q : MS → Prop} : ∀ (n : Nat) {U29 : MS} {v29_1 : Int32} {v29_3 : Int32} {v29_4 : Int32}, frm [22] [57] S0 U29 → w_spread_L29 Q n U29 v29_1 v29_3 v29_4 → w_spread_L29 (fun u => Q u ∧ frm [22] [57] S0 u) n U29 v29_1 v29_3 v29_4 := by
  intro n
  induction n with
  | zero => intro U29 v29_1 v29_3 v29_4 f h; unfold w_spread_L29 at h; exact h.elim
  | succ n ih =>
    intro U29 v29_1 v29_3 v29_4 f h
    unfold w_spread_L29 at h ⊢
    refine ⟨h.1, ?_⟩
    replace h := h.2
    refine ⟨fun c => ?_, fun c => ?_⟩
    · replace h := h.1 c
      obtain ⟨n9, h⟩ := h
      exact ⟨n9, fr_spread_L60 n9 f h⟩
    · replace h := h.2 c
      refine ⟨h.1, ?_⟩
      replace h := h.2
      obtain ⟨Q9, h0, h⟩ := h
      refine ⟨_, fr_come h0, ?_⟩
      · intro S31 hq
        replace h := h S31 hq.1
        replace f := f.tr (hq.2.mo (by decide) (by decide))
        intro a33 ea33
        replace h := h a33 ea33
        exact ih f h
set_option maxRecDepth 100000 in
theorem fr_spread_J26 {S0 : MS} {Q : MS → Prop} {U26 : MS} {v26_1 : Int32} {v26_3 : Int32} (f : frm [22] [57] S0 U26) (h : w_spread_J26 Q U26 v26_1 v26_3) : w_spread_J26 (fun u => Q u ∧ frm [22] [57] S0 u) U26 v26_1 v26_3 := by
  unfold w_spread_J26 at h ⊢
  obtain ⟨n9, h⟩ := h
  exact ⟨n9, fr_spread_L29 n9 f h⟩
set_option maxRecDepth 100000 in
theorem fr_spread {S : MS} {x1 : Int32} {x2 : Int32} {Q : MS → Prop} (h : w_spread S x1 x2 Q) : w_spread S x1 x2 (fun u => Q u ∧ frm [22] [57] S u) := by
  have f : frm [22] [57] S S := frm.rf
  unfold w_spread at h ⊢
  obtain ⟨Q9, h0, h⟩ := h
  refine ⟨_, fr_heightBehind h0, ?_⟩
  · intro r2 S3 hq
    replace h := h r2 S3 hq.1
    replace f := f.tr (hq.2.mo (by decide) (by decide))
    refine ⟨h.1, ?_⟩
    replace h := h.2
    refine ⟨h.1, ?_⟩
    replace h := h.2
    refine ⟨fun c => ?_, fun c => ?_⟩
    · replace h := h.1 c
      exact fr_spread_J26 f h
    · replace h := h.2 c
      obtain ⟨Q9, h0, h⟩ := h
      refine ⟨_, fr_come h0, ?_⟩
      · intro S37 hq
        replace h := h S37 hq.1
        replace f := f.tr (hq.2.mo (by decide) (by decide))
        exact fr_spread_J26 f h
set_option maxRecDepth 100000 in
theorem fr_findHeights_J98 {S0 : MS} {Q : MS → Prop} {k64 k64' : MS → Int32 → Int32 → Int32 → Prop} {U98 : MS} {v98_1 : Int32} {v98_2 : Int32} {v98_3 : Int32} (hk64 : ∀ (u : MS) (z0) (z1) (z2), frm [22] [56, 57] S0 u → k64 u z0 z1 z2 → k64' u z0 z1 z2) (f : frm [22] [56, 57] S0 U98) (h : w_findHeights_J98 Q k64 U98 v98_1 v98_2 v98_3) : w_findHeights_J98 (fun u => Q u ∧ frm [22] [56, 57] S0 u) k64' U98 v98_1 v98_2 v98_3 := by
  unfold w_findHeights_J98 at h ⊢
  intro a14 ea14
  replace h := h a14 ea14
  exact hk64 _ _ _ _ f h
set_option maxRecDepth 100000 in
theorem fr_findHeights_L64 {S0 : MS} {Q : MS → Prop} {k54 k54' : MS → Int32 → Int32 → Prop} (hk54 : ∀ (u : MS) (z0) (z1), frm [22] [56, 57] S0 u → k54 u z0 z1 → k54' u z0 z1) : ∀ (n : Nat) {U64 : MS} {v64_1 : Int32} {v64_2 : Int32} {v64_3 : Int32}, frm [22] [56, 57] S0 U64 → w_findHeights_L64 Q k54 n U64 v64_1 v64_2 v64_3 → w_findHeights_L64 (fun u => Q u ∧ frm [22] [56, 57] S0 u) k54' n U64 v64_1 v64_2 v64_3 := by
  intro n
  induction n with
  | zero => intro U64 v64_1 v64_2 v64_3 f h; unfold w_findHeights_L64 at h; exact h.elim
  | succ n ih =>
    intro U64 v64_1 v64_2 v64_3 f h
    unfold w_findHeights_L64 at h ⊢
    refine ⟨fun c => ?_, fun c => ?_⟩
    · replace h := h.1 c
      intro a9 ea9
      replace h := h a9 ea9
      exact hk54 _ _ _ f h
    · replace h := h.2 c
      refine ⟨h.1, ?_⟩
      replace h := h.2
      refine ⟨fun c => ?_, fun c => ?_⟩
      · replace h := h.1 c
        obtain ⟨Q9, h0, h⟩ := h
        refine ⟨_, fr_isRightHeight h0, ?_⟩
        · intro r17 S18 hq
          replace h := h r17 S18 hq.1
          replace f := f.tr (hq.2.mo (by decide) (by decide))
          refine ⟨fun c => ?_, fun c => ?_⟩
          · replace h := h.1 c
            exact fr_findHeights_J98 (fun _ _ _ _ f h => ih f h) f h
          · replace h := h.2 c
            obtain ⟨Q9, h0, h⟩ := h
            refine ⟨_, fr_spread h0, ?_⟩
            · intro S22 hq
              replace h := h S22 hq.1
              replace f := f.tr (hq.2.mo (by decide) (by decide))
              exact fr_findHeights_J98 (fun _ _ _ _ f h => ih f h) f h
      · replace h := h.2 c
        exact fr_findHeights_J98 (fun _ _ _ _ f h => ih f h) f h
set_option maxRecDepth 100000 in
theorem fr_findHeights_L54 {S0 : MS} {Q : MS → Prop} {k40 k40' : MS → Int32 → Prop} (hk40 : ∀ (u : MS) (z0), frm [22] [56, 57] S0 u → k40 u z0 → k40' u z0) : ∀ (n : Nat) {U54 : MS} {v54_1 : Int32} {v54_2 : Int32}, frm [22] [56, 57] S0 U54 → w_findHeights_L54 Q k40 n U54 v54_1 v54_2 → w_findHeights_L54 (fun u => Q u ∧ frm [22] [56, 57] S0 u) k40' n U54 v54_1 v54_2 := by
  intro n
  induction n with
  | zero => intro U54 v54_1 v54_2 f h; unfold w_findHeights_L54 at h; exact h.elim
  | succ n ih =>
    intro U54 v54_1 v54_2 f h
    unfold w_findHeights_L54 at h ⊢
    refine ⟨fun c => ?_, fun c => ?_⟩
    · replace h := h.1 c
      exact hk40 _ _ f h
    · replace h := h.2 c
      obtain ⟨n9, h⟩ := h
      exact ⟨n9, fr_findHeights_L64 (fun _ _ _ f h => ih f h) n9 f h⟩
set_option maxRecDepth 100000 in
theorem fr_findHeights_L40 {S0 : MS} {Q : MS → Prop} : ∀ (n : Nat) {U40 : MS} {v40_1 : Int32}, frm [22] [56, 57] S0 U40 → w_findHeights_L40 Q n U40 v40_1 → w_findHeights_L40 (fun u => Q u ∧ frm [22] [56, 57] S0 u) n U40 v40_1 := by
  intro n
  induction n with
  | zero => intro U40 v40_1 f h; unfold w_findHeights_L40 at h; exact h.elim
  | succ n ih =>
    intro U40 v40_1 f h
    unfold w_findHeights_L40 at h ⊢
    refine ⟨fun c => ?_, fun c => ?_⟩
    · replace h := h.1 c
      exact ⟨h, f⟩
    · replace h := h.2 c
      intro S6 eS6
      replace h := h S6 eS6
      replace f := f.tr (show frm [22] [56, 57] U40 S6 by rw [eS6]; exact frm.pI0 (by decide))
      obtain ⟨n9, h⟩ := h
      exact ⟨n9, fr_findHeights_L54 (fun _ _ f h => ih f h) n9 f h⟩
set_option maxRecDepth 100000 in
theorem fr_findHeights_L7 {S0 : MS} {Q : MS → Prop} : ∀ (n : Nat) {U7 : MS} {v7_1 : Int32} {v7_2 : Int32}, frm [22] [56, 57] S0 U7 → w_findHeights_L7 Q n U7 v7_1 v7_2 → w_findHeights_L7 (fun u => Q u ∧ frm [22] [56, 57] S0 u) n U7 v7_1 v7_2 := by
  intro n
  induction n with
  | zero => intro U7 v7_1 v7_2 f h; unfold w_findHeights_L7 at h; exact h.elim
  | succ n ih =>
    intro U7 v7_1 v7_2 f h
    unfold w_findHeights_L7 at h ⊢
    refine ⟨fun c => ?_, fun c => ?_⟩
    · replace h := h.1 c
      intro S3 eS3
      replace h := h S3 eS3
      replace f := f.tr (show frm [22] [56, 57] U7 S3 by rw [eS3]; exact frm.pI (by decide))
      intro S4 eS4
      replace h := h S4 eS4
      replace f := f.tr (show frm [22] [56, 57] S3 S4 by rw [eS4]; exact frm.pI0 (by decide))
      obtain ⟨n9, h⟩ := h
      exact ⟨n9, fr_findHeights_L40 n9 f h⟩
    · replace h := h.2 c
      refine ⟨h.1, ?_⟩
      replace h := h.2
      intro S25 eS25
      replace h := h S25 eS25
      replace f := f.tr (show frm [22] [56, 57] U7 S25 by rw [eS25]; exact frm.pI (by decide))
      intro a26 ea26
      replace h := h a26 ea26
      exact ih f h
set_option maxRecDepth 100000 in
theorem fr_findHeights {S : MS} {x1 : Int32} {Q : MS → Prop} (h : w_findHeights S x1 Q) : w_findHeights S x1 (fun u => Q u ∧ frm [22] [56, 57] S u) := by
  have f : frm [22] [56, 57] S S := frm.rf
  unfold w_findHeights at h ⊢
  intro S1 eS1
  replace h := h S1 eS1
  replace f := f.tr (show frm [22] [56, 57] S S1 by rw [eS1]; exact frm.pI0 (by decide))
  obtain ⟨n9, h⟩ := h
  exact ⟨n9, fr_findHeights_L7 n9 f h⟩
set_option maxRecDepth 100000 in
theorem fr_liveAt_J117 {S0 : MS} {Q : Int32 → MS → Prop} {k82 k82' : MS → Int32 → Int32 → Int32 → Prop} {U117 : MS} {v117_1 : Int32} {v117_2 : Int32} {v117_3 : Int32} (hk82 : ∀ (u : MS) (z0) (z1) (z2), frm [] [] S0 u → k82 u z0 z1 z2 → k82' u z0 z1 z2) (f : frm [] [] S0 U117) (h : w_liveAt_J117 Q k82 U117 v117_1 v117_2 v117_3) : w_liveAt_J117 (fun r u => Q r u ∧ frm [] [] S0 u) k82' U117 v117_1 v117_2 v117_3 := by
  unfold w_liveAt_J117 at h ⊢
  intro a19 ea19
  replace h := h a19 ea19
  exact hk82 _ _ _ _ f h
set_option maxRecDepth 100000 in
theorem fr_liveAt_L82 {S0 : MS} {Q : Int32 → MS → Prop} : ∀ (n : Nat) {U82 : MS} {v82_1 : Int32} {v82_2 : Int32} {v82_3 : Int32}, frm [] [] S0 U82 → w_liveAt_L82 Q n U82 v82_1 v82_2 v82_3 → w_liveAt_L82 (fun r u => Q r u ∧ frm [] [] S0 u) n U82 v82_1 v82_2 v82_3 := by
  intro n
  induction n with
  | zero => intro U82 v82_1 v82_2 v82_3 f h; unfold w_liveAt_L82 at h; exact h.elim
  | succ n ih =>
    intro U82 v82_1 v82_2 v82_3 f h
    unfold w_liveAt_L82 at h ⊢
    refine ⟨fun c => ?_, fun c => ?_⟩
    · replace h := h.1 c
      exact ⟨h, f⟩
    · replace h := h.2 c
      refine ⟨h.1, ?_⟩
      replace h := h.2
      refine ⟨fun c => ?_, fun c => ?_⟩
      · replace h := h.1 c
        exact fr_liveAt_J117 (fun _ _ _ _ f h => ih f h) f h
      · replace h := h.2 c
        refine ⟨h.1, ?_⟩
        replace h := h.2
        obtain ⟨Q9, h0, h⟩ := h
        refine ⟨_, fr_here h0, ?_⟩
        · intro r24 S25 hq
          replace h := h r24 S25 hq.1
          replace f := f.tr (hq.2.mo (by decide) (by decide))
          refine ⟨h.1, ?_⟩
          replace h := h.2
          intro a30 ea30
          replace h := h a30 ea30
          exact fr_liveAt_J117 (fun _ _ _ _ f h => ih f h) f h
set_option maxRecDepth 100000 in
theorem fr_liveAt_J80 {S0 : MS} {Q : Int32 → MS → Prop} {U80 : MS} {v80_1 : Int32} {v80_2 : Int32} (f : frm [] [] S0 U80) (h : w_liveAt_J80 Q U80 v80_1 v80_2) : w_liveAt_J80 (fun r u => Q r u ∧ frm [] [] S0 u) U80 v80_1 v80_2 := by
  unfold w_liveAt_J80 at h ⊢
  obtain ⟨n9, h⟩ := h
  exact ⟨n9, fr_liveAt_L82 n9 f h⟩
set_option maxRecDepth 100000 in
theorem fr_liveAt_J62 {S0 : MS} {Q : Int32 → MS → Prop} {U62 : MS} {v62_1 : Int32} {v62_2 : Int32} (f : frm [] [] S0 U62) (h : w_liveAt_J62 Q U62 v62_1 v62_2) : w_liveAt_J62 (fun r u => Q r u ∧ frm [] [] S0 u) U62 v62_1 v62_2 := by
  unfold w_liveAt_J62 at h ⊢
  refine ⟨h.1, ?_⟩
  replace h := h.2
  refine ⟨h.1, ?_⟩
  replace h := h.2
  refine ⟨h.1, ?_⟩
  replace h := h.2
  intro a39 ea39
  replace h := h a39 ea39
  exact fr_liveAt_J80 f h
set_option maxRecDepth 100000 in
theorem fr_liveAt_J38 {S0 : MS} {Q : Int32 → MS → Prop} {U38 : MS} {v38_1 : Int32} {v38_2 : Int32} (f : frm [] [] S0 U38) (h : w_liveAt_J38 Q U38 v38_1 v38_2) : w_liveAt_J38 (fun r u => Q r u ∧ frm [] [] S0 u) U38 v38_1 v38_2 := by
  unfold w_liveAt_J38 at h ⊢
  refine ⟨h.1, ?_⟩
  replace h := h.2
  refine ⟨h.1, ?_⟩
  replace h := h.2
  refine ⟨fun c => ?_, fun c => ?_⟩
  · replace h := h.1 c
    refine ⟨h.1, ?_⟩
    replace h := h.2
    refine ⟨fun c => ?_, fun c => ?_⟩
    · replace h := h.1 c
      exact fr_liveAt_J62 f h
    · replace h := h.2 c
      exact fr_liveAt_J80 f h
  · replace h := h.2 c
    exact fr_liveAt_J62 f h
set_option maxRecDepth 100000 in
theorem fr_liveAt {S : MS} {x1 : Int32} {Q : Int32 → MS → Prop} (h : w_liveAt S x1 Q) : w_liveAt S x1 (fun r u => Q r u ∧ frm [] [] S u) := by
  have f : frm [] [] S S := frm.rf
  unfold w_liveAt at h ⊢
  obtain ⟨Q9, h0, h⟩ := h
  refine ⟨_, fr_liveBehind h0, ?_⟩
  · intro r2 S3 hq
    replace h := h r2 S3 hq.1
    replace f := f.tr (hq.2.mo (by decide) (by decide))
    refine ⟨h.1, ?_⟩
    replace h := h.2
    refine ⟨h.1, ?_⟩
    replace h := h.2
    refine ⟨fun c => ?_, fun c => ?_⟩
    · replace h := h.1 c
      exact fr_liveAt_J38 f h
    · replace h := h.2 c
      refine ⟨h.1, ?_⟩
      replace h := h.2
      refine ⟨h.1, ?_⟩
      replace h := h.2
      refine ⟨h.1, ?_⟩
      replace h := h.2
      intro a54 ea54
      replace h := h a54 ea54
      exact fr_liveAt_J38 f h
set_option maxRecDepth 100000 in
theorem fr_findLive_J87 {S0 : MS} {Q : MS → Prop} {k38 k38' : MS → Int32 → Int32 → Prop} {U87 : MS} {v87_1 : Int32} {v87_2 : Int32} (hk38 : ∀ (u : MS) (z0) (z1), frm [90] [] S0 u → k38 u z0 z1 → k38' u z0 z1) (f : frm [90] [] S0 U87) (h : w_findLive_J87 Q k38 U87 v87_1 v87_2) : w_findLive_J87 (fun u => Q u ∧ frm [90] [] S0 u) k38' U87 v87_1 v87_2 := by
  unfold w_findLive_J87 at h ⊢
  intro a8 ea8
  replace h := h a8 ea8
  exact hk38 _ _ _ f h
set_option maxRecDepth 100000 in
theorem fr_findLive_J79 {S0 : MS} {Q : MS → Prop} {k38 k38' : MS → Int32 → Int32 → Prop} {U79 : MS} {t79_0 : Int32} {v79_2 : Int32} {v79_3 : Int32} (hk38 : ∀ (u : MS) (z0) (z1), frm [90] [] S0 u → k38 u z0 z1 → k38' u z0 z1) (f : frm [90] [] S0 U79) (h : w_findLive_J79 Q k38 U79 t79_0 v79_2 v79_3) : w_findLive_J79 (fun u => Q u ∧ frm [90] [] S0 u) k38' U79 t79_0 v79_2 v79_3 := by
  unfold w_findLive_J79 at h ⊢
  refine ⟨h.1, ?_⟩
  replace h := h.2
  intro S15 eS15
  replace h := h S15 eS15
  replace f := f.tr (show frm [90] [] U79 S15 by rw [eS15]; exact frm.pI (by decide))
  exact fr_findLive_J87 hk38 f h
set_option maxRecDepth 100000 in
theorem fr_findLive_J74 {S0 : MS} {Q : MS → Prop} {k38 k38' : MS → Int32 → Int32 → Prop} {U74 : MS} {v74_2 : Int32} {v74_3 : Int32} (hk38 : ∀ (u : MS) (z0) (z1), frm [90] [] S0 u → k38 u z0 z1 → k38' u z0 z1) (f : frm [90] [] S0 U74) (h : w_findLive_J74 Q k38 U74 v74_2 v74_3) : w_findLive_J74 (fun u => Q u ∧ frm [90] [] S0 u) k38' U74 v74_2 v74_3 := by
  unfold w_findLive_J74 at h ⊢
  exact fr_findLive_J79 hk38 f h
set_option maxRecDepth 100000 in
theorem fr_findLive_L38 {S0 : MS} {Q : MS → Prop} {k25 k25' : MS → Int32 → Prop} (hk25 : ∀ (u : MS) (z0), frm [90] [] S0 u → k25 u z0 → k25' u z0) : ∀ (n : Nat) {U38 : MS} {v38_1 : Int32} {v38_2 : Int32}, frm [90] [] S0 U38 → w_findLive_L38 Q k25 n U38 v38_1 v38_2 → w_findLive_L38 (fun u => Q u ∧ frm [90] [] S0 u) k25' n U38 v38_1 v38_2 := by
  intro n
  induction n with
  | zero => intro U38 v38_1 v38_2 f h; unfold w_findLive_L38 at h; exact h.elim
  | succ n ih =>
    intro U38 v38_1 v38_2 f h
    unfold w_findLive_L38 at h ⊢
    refine ⟨fun c => ?_, fun c => ?_⟩
    · replace h := h.1 c
      exact hk25 _ _ f h
    · replace h := h.2 c
      refine ⟨h.1, ?_⟩
      replace h := h.2
      refine ⟨fun c => ?_, fun c => ?_⟩
      · replace h := h.1 c
        obtain ⟨Q9, h0, h⟩ := h
        refine ⟨_, fr_liveAt h0, ?_⟩
        · intro r11 S12 hq
          replace h := h r11 S12 hq.1
          replace f := f.tr (hq.2.mo (by decide) (by decide))
          refine ⟨fun c => ?_, fun c => ?_⟩
          · replace h := h.1 c
            refine ⟨h.1, ?_⟩
            replace h := h.2
            refine ⟨fun c => ?_, fun c => ?_⟩
            · replace h := h.1 c
              exact fr_findLive_J79 (fun _ _ _ f h => ih f h) f h
            · replace h := h.2 c
              exact fr_findLive_J74 (fun _ _ _ f h => ih f h) f h
          · replace h := h.2 c
            exact fr_findLive_J74 (fun _ _ _ f h => ih f h) f h
      · replace h := h.2 c
        exact fr_findLive_J87 (fun _ _ _ f h => ih f h) f h
set_option maxRecDepth 100000 in
theorem fr_findLive_L25 {S0 : MS} {Q : MS → Prop} : ∀ (n : Nat) {U25 : MS} {v25_1 : Int32}, frm [90] [] S0 U25 → w_findLive_L25 Q n U25 v25_1 → w_findLive_L25 (fun u => Q u ∧ frm [90] [] S0 u) n U25 v25_1 := by
  intro n
  induction n with
  | zero => intro U25 v25_1 f h; unfold w_findLive_L25 at h; exact h.elim
  | succ n ih =>
    intro U25 v25_1 f h
    unfold w_findLive_L25 at h ⊢
    refine ⟨fun c => ?_, fun c => ?_⟩
    · replace h := h.1 c
      exact ⟨h, f⟩
    · replace h := h.2 c
      intro a4 ea4
      replace h := h a4 ea4
      obtain ⟨n9, h⟩ := h
      exact ⟨n9, fr_findLive_L38 (fun _ _ f h => ih f h) n9 f h⟩
set_option maxRecDepth 100000 in
theorem fr_findLive_L2 {S0 : MS} {Q : MS → Prop} : ∀ (n : Nat) {U2 : MS} {v2_1 : Int32}, frm [90] [] S0 U2 → w_findLive_L2 Q n U2 v2_1 → w_findLive_L2 (fun u => Q u ∧ frm [90] [] S0 u) n U2 v2_1 := by
  intro n
  induction n with
  | zero => intro U2 v2_1 f h; unfold w_findLive_L2 at h; exact h.elim
  | succ n ih =>
    intro U2 v2_1 f h
    unfold w_findLive_L2 at h ⊢
    refine ⟨fun c => ?_, fun c => ?_⟩
    · replace h := h.1 c
      obtain ⟨n9, h⟩ := h
      exact ⟨n9, fr_findLive_L25 n9 f h⟩
    · replace h := h.2 c
      refine ⟨h.1, ?_⟩
      replace h := h.2
      intro S21 eS21
      replace h := h S21 eS21
      replace f := f.tr (show frm [90] [] U2 S21 by rw [eS21]; exact frm.pI (by decide))
      intro a22 ea22
      replace h := h a22 ea22
      exact ih f h
set_option maxRecDepth 100000 in
theorem fr_findLive {S : MS} {Q : MS → Prop} (h : w_findLive S  Q) : w_findLive S  (fun u => Q u ∧ frm [90] [] S u) := by
  have f : frm [90] [] S S := frm.rf
  unfold w_findLive at h ⊢
  obtain ⟨n9, h⟩ := h
  exact ⟨n9, fr_findLive_L2 n9 f h⟩
set_option maxRecDepth 100000 in
theorem fr_heightAt_L31 {S0 : MS} {Q : Int32 → MS → Prop} : ∀ (n : Nat) {U31 : MS} {v31_1 : Int32} {v31_2 : Int32}, frm [] [] S0 U31 → w_heightAt_L31 Q n U31 v31_1 v31_2 → w_heightAt_L31 (fun r u => Q r u ∧ frm [] [] S0 u) n U31 v31_1 v31_2 := by
  intro n
  induction n with
  | zero => intro U31 v31_1 v31_2 f h; unfold w_heightAt_L31 at h; exact h.elim
  | succ n ih =>
    intro U31 v31_1 v31_2 f h
    unfold w_heightAt_L31 at h ⊢
    refine ⟨h.1, ?_⟩
    replace h := h.2
    refine ⟨fun c => ?_, fun c => ?_⟩
    · replace h := h.1 c
      intro a16 ea16
      replace h := h a16 ea16
      exact ih f h
    · replace h := h.2 c
      exact ⟨h, f⟩
set_option maxRecDepth 100000 in
theorem fr_heightAt {S : MS} {x1 : Int32} {Q : Int32 → MS → Prop} (h : w_heightAt S x1 Q) : w_heightAt S x1 (fun r u => Q r u ∧ frm [] [] S u) := by
  have f : frm [] [] S S := frm.rf
  unfold w_heightAt at h ⊢
  refine ⟨h.1, ?_⟩
  replace h := h.2
  refine ⟨fun c => ?_, fun c => ?_⟩
  · replace h := h.1 c
    exact ⟨h, f⟩
  · replace h := h.2 c
    refine ⟨h.1, ?_⟩
    replace h := h.2
    refine ⟨h.1, ?_⟩
    replace h := h.2
    refine ⟨fun c => ?_, fun c => ?_⟩
    · replace h := h.1 c
      obtain ⟨n9, h⟩ := h
      exact ⟨n9, fr_heightAt_L31 n9 f h⟩
    · replace h := h.2 c
      exact ⟨h, f⟩
set_option maxRecDepth 100000 in
theorem fr_join_J200 {S0 : MS} {Q : MS → Prop} {U200 : MS} {t200_0 : Int32} {v200_1 : Int32} (f : frm [23, 24] [57] S0 U200) (h : w_join_J200 Q U200 t200_0 v200_1) : w_join_J200 (fun u => Q u ∧ frm [23, 24] [57] S0 u) U200 t200_0 v200_1 := by
  unfold w_join_J200 at h ⊢
  intro S12 eS12
  replace h := h S12 eS12
  replace f := f.tr (show frm [23, 24] [57] U200 S12 by rw [eS12]; exact frm.pI0 (by decide))
  refine ⟨h.1, ?_⟩
  replace h := h.2
  intro S14 eS14
  replace h := h S14 eS14
  replace f := f.tr (show frm [23, 24] [57] S12 S14 by rw [eS14]; exact frm.pI (by decide))
  exact ⟨h, f⟩
set_option maxRecDepth 100000 in
theorem fr_join_J195 {S0 : MS} {Q : MS → Prop} {U195 : MS} {v195_1 : Int32} (f : frm [23, 24] [57] S0 U195) (h : w_join_J195 Q U195 v195_1) : w_join_J195 (fun u => Q u ∧ frm [23, 24] [57] S0 u) U195 v195_1 := by
  unfold w_join_J195 at h ⊢
  exact fr_join_J200 f h
set_option maxRecDepth 100000 in
theorem fr_join_J172 {S0 : MS} {Q : MS → Prop} {k50 k50' : MS → Int32 → Int32 → Int32 → Int32 → Prop} {U172 : MS} {v172_1 : Int32} {v172_2 : Int32} {v172_3 : Int32} {v172_4 : Int32} (hk50 : ∀ (u : MS) (z0) (z1) (z2) (z3), frm [23, 24] [57] S0 u → k50 u z0 z1 z2 z3 → k50' u z0 z1 z2 z3) (f : frm [23, 24] [57] S0 U172) (h : w_join_J172 Q k50 U172 v172_1 v172_2 v172_3 v172_4) : w_join_J172 (fun u => Q u ∧ frm [23, 24] [57] S0 u) k50' U172 v172_1 v172_2 v172_3 v172_4 := by
  unfold w_join_J172 at h ⊢
  intro a28 ea28
  replace h := h a28 ea28
  exact hk50 _ _ _ _ _ f h
set_option maxRecDepth 100000 in
theorem fr_join_J152 {S0 : MS} {Q : MS → Prop} {k50 k50' : MS → Int32 → Int32 → Int32 → Int32 → Prop} {U152 : MS} {v152_1 : Int32} {v152_2 : Int32} {v152_3 : Int32} {v152_4 : Int32} {v152_7 : Int32} (hk50 : ∀ (u : MS) (z0) (z1) (z2) (z3), frm [23, 24] [57] S0 u → k50 u z0 z1 z2 z3 → k50' u z0 z1 z2 z3) (f : frm [23, 24] [57] S0 U152) (h : w_join_J152 Q k50 U152 v152_1 v152_2 v152_3 v152_4 v152_7) : w_join_J152 (fun u => Q u ∧ frm [23, 24] [57] S0 u) k50' U152 v152_1 v152_2 v152_3 v152_4 v152_7 := by
  unfold w_join_J152 at h ⊢
  refine ⟨h.1, ?_⟩
  replace h := h.2
  intro S32 eS32
  replace h := h S32 eS32
  replace f := f.tr (show frm [23, 24] [57] U152 S32 by rw [eS32]; exact frm.pI (by decide))
  intro S33 eS33
  replace h := h S33 eS33
  replace f := f.tr (show frm [23, 24] [57] S32 S33 by rw [eS33]; exact frm.pI0 (by decide))
  exact fr_join_J172 hk50 f h
set_option maxRecDepth 100000 in
theorem fr_join_J131 {S0 : MS} {Q : MS → Prop} {k50 k50' : MS → Int32 → Int32 → Int32 → Int32 → Prop} {U131 : MS} {t131_0 : Int32} {v131_1 : Int32} {v131_2 : Int32} {v131_3 : Int32} {v131_4 : Int32} {v131_6 : Int32} (hk50 : ∀ (u : MS) (z0) (z1) (z2) (z3), frm [23, 24] [57] S0 u → k50 u z0 z1 z2 z3 → k50' u z0 z1 z2 z3) (f : frm [23, 24] [57] S0 U131) (h : w_join_J131 Q k50 U131 t131_0 v131_1 v131_2 v131_3 v131_4 v131_6) : w_join_J131 (fun u => Q u ∧ frm [23, 24] [57] S0 u) k50' U131 t131_0 v131_1 v131_2 v131_3 v131_4 v131_6 := by
  unfold w_join_J131 at h ⊢
  refine ⟨h.1, ?_⟩
  replace h := h.2
  refine ⟨fun c => ?_, fun c => ?_⟩
  · replace h := h.1 c
    exact fr_join_J152 hk50 f h
  · replace h := h.2 c
    refine ⟨fun c => ?_, fun c => ?_⟩
    · replace h := h.1 c
      exact fr_join_J172 hk50 f h
    · replace h := h.2 c
      exact fr_join_J152 hk50 f h
set_option maxRecDepth 100000 in
theorem fr_join_J94 {S0 : MS} {Q : MS → Prop} {k50 k50' : MS → Int32 → Int32 → Int32 → Int32 → Prop} {U94 : MS} {t94_0 : Int32} {v94_1 : Int32} {v94_2 : Int32} {v94_3 : Int32} {v94_4 : Int32} (hk50 : ∀ (u : MS) (z0) (z1) (z2) (z3), frm [23, 24] [57] S0 u → k50 u z0 z1 z2 z3 → k50' u z0 z1 z2 z3) (f : frm [23, 24] [57] S0 U94) (h : w_join_J94 Q k50 U94 t94_0 v94_1 v94_2 v94_3 v94_4) : w_join_J94 (fun u => Q u ∧ frm [23, 24] [57] S0 u) k50' U94 t94_0 v94_1 v94_2 v94_3 v94_4 := by
  unfold w_join_J94 at h ⊢
  refine ⟨h.1, ?_⟩
  replace h := h.2
  intro a23 ea23
  replace h := h a23 ea23
  refine ⟨h.1, ?_⟩
  replace h := h.2
  refine ⟨fun c => ?_, fun c => ?_⟩
  · replace h := h.1 c
    exact fr_join_J131 hk50 f h
  · replace h := h.2 c
    refine ⟨h.1, ?_⟩
    replace h := h.2
    exact fr_join_J131 hk50 f h
set_option maxRecDepth 100000 in
theorem fr_join_J30 {S0 : MS} {Q : MS → Prop} {U30 : MS} {t30_0 : Int32} {v30_1 : Int32} (f : frm [23, 24] [57] S0 U30) (h : w_join_J30 Q U30 t30_0 v30_1) : w_join_J30 (fun u => Q u ∧ frm [23, 24] [57] S0 u) U30 t30_0 v30_1 := by
  unfold w_join_J30 at h ⊢
  intro S47 eS47
  replace h := h S47 eS47
  replace f := f.tr (show frm [23, 24] [57] U30 S47 by rw [eS47]; exact frm.pI0 (by decide))
  refine ⟨h.1, ?_⟩
  replace h := h.2
  intro S49 eS49
  replace h := h S49 eS49
  replace f := f.tr (show frm [23, 24] [57] S47 S49 by rw [eS49]; exact frm.pI (by decide))
  exact ⟨h, f⟩
set_option maxRecDepth 100000 in
theorem fr_join_J25 {S0 : MS} {Q : MS → Prop} {U25 : MS} {v25_1 : Int32} (f : frm [23, 24] [57] S0 U25) (h : w_join_J25 Q U25 v25_1) : w_join_J25 (fun u => Q u ∧ frm [23, 24] [57] S0 u) U25 v25_1 := by
  unfold w_join_J25 at h ⊢
  exact fr_join_J30 f h
set_option maxRecDepth 100000 in
theorem fr_join_L50 {S0 : MS} {Q : MS → Prop} : ∀ (n : Nat) {U50 : MS} {v50_1 : Int32} {v50_2 : Int32} {v50_3 : Int32} {v50_4 : Int32}, frm [23, 24] [57] S0 U50 → w_join_L50 Q n U50 v50_1 v50_2 v50_3 v50_4 → w_join_L50 (fun u => Q u ∧ frm [23, 24] [57] S0 u) n U50 v50_1 v50_2 v50_3 v50_4 := by
  intro n
  induction n with
  | zero => intro U50 v50_1 v50_2 v50_3 v50_4 f h; unfold w_join_L50 at h; exact h.elim
  | succ n ih =>
    intro U50 v50_1 v50_2 v50_3 v50_4 f h
    unfold w_join_L50 at h ⊢
    refine ⟨fun c => ?_, fun c => ?_⟩
    · replace h := h.1 c
      refine ⟨fun c => ?_, fun c => ?_⟩
      · replace h := h.1 c
        refine ⟨h.1, ?_⟩
        replace h := h.2
        refine ⟨fun c => ?_, fun c => ?_⟩
        · replace h := h.1 c
          exact fr_join_J195 f h
        · replace h := h.2 c
          exact fr_join_J200 f h
      · replace h := h.2 c
        exact fr_join_J195 f h
    · replace h := h.2 c
      refine ⟨fun c => ?_, fun c => ?_⟩
      · replace h := h.1 c
        refine ⟨fun c => ?_, fun c => ?_⟩
        · replace h := h.1 c
          refine ⟨h.1, ?_⟩
          replace h := h.2
          exact fr_join_J94 (fun _ _ _ _ _ f h => ih f h) f h
        · replace h := h.2 c
          exact fr_join_J94 (fun _ _ _ _ _ f h => ih f h) f h
      · replace h := h.2 c
        refine ⟨h.1, ?_⟩
        replace h := h.2
        exact fr_join_J94 (fun _ _ _ _ _ f h => ih f h) f h
set_option maxRecDepth 100000 in
theorem fr_join {S : MS} {x1 : Int32} {x2 : Int32} {Q : MS → Prop} (h : w_join S x1 x2 Q) : w_join S x1 x2 (fun u => Q u ∧ frm [23, 24] [57] S u) := by
  have f : frm [23, 24] [57] S S := frm.rf
  unfold w_join at h ⊢
  obtain ⟨Q9, h0, h⟩ := h
  refine ⟨_, fr_heightAt h0, ?_⟩
  · intro r2 S3 hq
    replace h := h r2 S3 hq.1
    replace f := f.tr (hq.2.mo (by decide) (by decide))
    refine ⟨fun c => ?_, fun c => ?_⟩
    · replace h := h.1 c
      obtain ⟨Q9, h0, h⟩ := h
      refine ⟨_, fr_heightAt h0, ?_⟩
      · intro r7 S8 hq
        replace h := h r7 S8 hq.1
        replace f := f.tr (hq.2.mo (by decide) (by decide))
        obtain ⟨n9, h⟩ := h
        exact ⟨n9, fr_join_L50 n9 f h⟩
    · replace h := h.2 c
      refine ⟨fun c => ?_, fun c => ?_⟩
      · replace h := h.1 c
        refine ⟨h.1, ?_⟩
        replace h := h.2
        refine ⟨fun c => ?_, fun c => ?_⟩
        · replace h := h.1 c
          exact fr_join_J25 f h
        · replace h := h.2 c
          exact fr_join_J30 f h
      · replace h := h.2 c
        exact fr_join_J25 f h
set_option maxRecDepth 100000 in
theorem fr_takeOf_L33 {S0 : MS} {Q : MS → Prop} : ∀ (n : Nat) {U33 : MS} {v33_1 : Int32} {v33_2 : Int32} {v33_3 : Int32}, frm [25, 26] [62] S0 U33 → w_takeOf_L33 Q n U33 v33_1 v33_2 v33_3 → w_takeOf_L33 (fun u => Q u ∧ frm [25, 26] [62] S0 u) n U33 v33_1 v33_2 v33_3 := by
  intro n
  induction n with
  | zero => intro U33 v33_1 v33_2 v33_3 f h; unfold w_takeOf_L33 at h; exact h.elim
  | succ n ih =>
    intro U33 v33_1 v33_2 v33_3 f h
    unfold w_takeOf_L33 at h ⊢
    refine ⟨fun c => ?_, fun c => ?_⟩
    · replace h := h.1 c
      intro S3 eS3
      replace h := h S3 eS3
      replace f := f.tr (show frm [25, 26] [62] U33 S3 by rw [eS3]; exact frm.pI0 (by decide))
      exact ⟨h, f⟩
    · replace h := h.2 c
      refine ⟨h.1, ?_⟩
      replace h := h.2
      refine ⟨h.1, ?_⟩
      replace h := h.2
      intro S10 eS10
      replace h := h S10 eS10
      replace f := f.tr (show frm [25, 26] [62] U33 S10 by rw [eS10]; exact frm.pI (by decide))
      intro a11 ea11
      replace h := h a11 ea11
      exact ih f h
set_option maxRecDepth 100000 in
theorem fr_takeOf_L2 {S0 : MS} {Q : MS → Prop} : ∀ (n : Nat) {U2 : MS} {v2_1 : Int32} {v2_2 : Int32} {v2_3 : Int32}, frm [25, 26] [62] S0 U2 → w_takeOf_L2 Q n U2 v2_1 v2_2 v2_3 → w_takeOf_L2 (fun u => Q u ∧ frm [25, 26] [62] S0 u) n U2 v2_1 v2_2 v2_3 := by
  intro n
  induction n with
  | zero => intro U2 v2_1 v2_2 v2_3 f h; unfold w_takeOf_L2 at h; exact h.elim
  | succ n ih =>
    intro U2 v2_1 v2_2 v2_3 f h
    unfold w_takeOf_L2 at h ⊢
    refine ⟨fun c => ?_, fun c => ?_⟩
    · replace h := h.1 c
      obtain ⟨n9, h⟩ := h
      exact ⟨n9, fr_takeOf_L33 n9 f h⟩
    · replace h := h.2 c
      refine ⟨h.1, ?_⟩
      replace h := h.2
      refine ⟨h.1, ?_⟩
      replace h := h.2
      intro S17 eS17
      replace h := h S17 eS17
      replace f := f.tr (show frm [25, 26] [62] U2 S17 by rw [eS17]; exact frm.pI (by decide))
      intro a18 ea18
      replace h := h a18 ea18
      exact ih f h
set_option maxRecDepth 100000 in
theorem fr_takeOf {S : MS} {x1 : Int32} {x2 : Int32} {Q : MS → Prop} (h : w_takeOf S x1 x2 Q) : w_takeOf S x1 x2 (fun u => Q u ∧ frm [25, 26] [62] S u) := by
  have f : frm [25, 26] [62] S S := frm.rf
  unfold w_takeOf at h ⊢
  obtain ⟨n9, h⟩ := h
  exact ⟨n9, fr_takeOf_L2 n9 f h⟩
set_option maxRecDepth 100000 in
theorem fr_push {S : MS} {x1 : Int32} {Q : MS → Prop} (h : w_push S x1 Q) : w_push S x1 (fun u => Q u ∧ frm [26] [62] S u) := by
  have f : frm [26] [62] S S := frm.rf
  unfold w_push at h ⊢
  refine ⟨h.1, ?_⟩
  replace h := h.2
  intro S2 eS2
  replace h := h S2 eS2
  replace f := f.tr (show frm [26] [62] S S2 by rw [eS2]; exact frm.pI (by decide))
  intro S4 eS4
  replace h := h S4 eS4
  replace f := f.tr (show frm [26] [62] S2 S4 by rw [eS4]; exact frm.pI0 (by decide))
  exact ⟨h, f⟩
set_option maxRecDepth 100000 in
theorem fr_giveLetters_J76 {S0 : MS} {Q : MS → Prop} {k2 k2' : MS → Nat → Int32 → Int32 → Prop} {U76 : MS} {v76_1 : Nat} {v76_2 : Int32} {v76_3 : Int32} (hk2 : ∀ (u : MS) (z0) (z1) (z2), frm [26] [62] S0 u → k2 u z0 z1 z2 → k2' u z0 z1 z2) (f : frm [26] [62] S0 U76) (h : w_giveLetters_J76 Q k2 U76 v76_1 v76_2 v76_3) : w_giveLetters_J76 (fun u => Q u ∧ frm [26] [62] S0 u) k2' U76 v76_1 v76_2 v76_3 := by
  unfold w_giveLetters_J76 at h ⊢
  intro a6 ea6
  replace h := h a6 ea6
  exact hk2 _ _ _ _ f h
set_option maxRecDepth 100000 in
theorem fr_giveLetters_J73 {S0 : MS} {Q : MS → Prop} {k2 k2' : MS → Nat → Int32 → Int32 → Prop} {U73 : MS} {t73_0 : Int32} {v73_1 : Nat} {v73_2 : Int32} {v73_3 : Int32} (hk2 : ∀ (u : MS) (z0) (z1) (z2), frm [26] [62] S0 u → k2 u z0 z1 z2 → k2' u z0 z1 z2) (f : frm [26] [62] S0 U73) (h : w_giveLetters_J73 Q k2 U73 t73_0 v73_1 v73_2 v73_3) : w_giveLetters_J73 (fun u => Q u ∧ frm [26] [62] S0 u) k2' U73 t73_0 v73_1 v73_2 v73_3 := by
  unfold w_giveLetters_J73 at h ⊢
  obtain ⟨Q9, h0, h⟩ := h
  refine ⟨_, fr_push h0, ?_⟩
  · intro S9 hq
    replace h := h S9 hq.1
    replace f := f.tr (hq.2.mo (by decide) (by decide))
    exact fr_giveLetters_J76 hk2 f h
set_option maxRecDepth 100000 in
theorem fr_giveLetters_L2 {S0 : MS} {Q : MS → Prop} : ∀ (n : Nat) {U2 : MS} {v2_1 : Nat} {v2_2 : Int32} {v2_3 : Int32}, frm [26] [62] S0 U2 → w_giveLetters_L2 Q n U2 v2_1 v2_2 v2_3 → w_giveLetters_L2 (fun u => Q u ∧ frm [26] [62] S0 u) n U2 v2_1 v2_2 v2_3 := by
  intro n
  induction n with
  | zero => intro U2 v2_1 v2_2 v2_3 f h; unfold w_giveLetters_L2 at h; exact h.elim
  | succ n ih =>
    intro U2 v2_1 v2_2 v2_3 f h
    unfold w_giveLetters_L2 at h ⊢
    refine ⟨fun c => ?_, fun c => ?_⟩
    · replace h := h.1 c
      exact ⟨h, f⟩
    · replace h := h.2 c
      refine ⟨h.1, ?_⟩
      replace h := h.2
      intro a5 ea5
      replace h := h a5 ea5
      refine ⟨fun c => ?_, fun c => ?_⟩
      · replace h := h.1 c
        obtain ⟨Q9, h0, h⟩ := h
        refine ⟨_, fr_push h0, ?_⟩
        · intro S15 hq
          replace h := h S15 hq.1
          replace f := f.tr (hq.2.mo (by decide) (by decide))
          obtain ⟨Q9, h0, h⟩ := h
          refine ⟨_, fr_push h0, ?_⟩
          · intro S18 hq
            replace h := h S18 hq.1
            replace f := f.tr (hq.2.mo (by decide) (by decide))
            exact fr_giveLetters_J76 (fun _ _ _ _ f h => ih f h) f h
      · replace h := h.2 c
        refine ⟨fun c => ?_, fun c => ?_⟩
        · replace h := h.1 c
          exact fr_giveLetters_J73 (fun _ _ _ _ f h => ih f h) f h
        · replace h := h.2 c
          refine ⟨fun c => ?_, fun c => ?_⟩
          · replace h := h.1 c
            exact fr_giveLetters_J73 (fun _ _ _ _ f h => ih f h) f h
          · replace h := h.2 c
            refine ⟨fun c => ?_, fun c => ?_⟩
            · replace h := h.1 c
              exact fr_giveLetters_J73 (fun _ _ _ _ f h => ih f h) f h
            · replace h := h.2 c
              exact fr_giveLetters_J73 (fun _ _ _ _ f h => ih f h) f h
set_option maxRecDepth 100000 in
theorem fr_giveLetters {S : MS} {p1 : Nat} {x2 : Int32} {Q : MS → Prop} (h : w_giveLetters S p1 x2 Q) : w_giveLetters S p1 x2 (fun u => Q u ∧ frm [26] [62] S u) := by
  have f : frm [26] [62] S S := frm.rf
  unfold w_giveLetters at h ⊢
  obtain ⟨n9, h⟩ := h
  exact ⟨n9, fr_giveLetters_L2 n9 f h⟩
set_option maxRecDepth 100000 in
theorem fr_need_J16 {S0 : MS} {Q : MS → Prop} {U16 : MS} (f : frm [] [63] S0 U16) (h : w_need_J16 Q U16) : w_need_J16 (fun u => Q u ∧ frm [] [63] S0 u) U16 := by
  unfold w_need_J16 at h ⊢
  intro S1 eS1
  replace h := h S1 eS1
  replace f := f.tr (show frm [] [63] U16 S1 by rw [eS1]; exact frm.pI0 (by decide))
  exact ⟨h, f⟩
set_option maxRecDepth 100000 in
theorem fr_need {S : MS} {x1 : Int32} {Q : MS → Prop} (h : w_need S x1 Q) : w_need S x1 (fun u => Q u ∧ frm [] [63] S u) := by
  have f : frm [] [63] S S := frm.rf
  unfold w_need at h ⊢
  refine ⟨fun c => ?_, fun c => ?_⟩
  · replace h := h.1 c
    exact fr_need_J16 f h
  · replace h := h.2 c
    refine ⟨fun c => ?_, fun c => ?_⟩
    · replace h := h.1 c
      exact fr_need_J16 f h
    · replace h := h.2 c
      intro S4 eS4
      replace h := h S4 eS4
      replace f := f.tr (show frm [] [63] S S4 by rw [eS4]; exact frm.pI0 (by decide))
      exact ⟨h, f⟩
set_option maxRecDepth 100000 in
theorem fr_pull {S : MS} {Q : Int32 → MS → Prop} (h : w_pull S  Q) : w_pull S  (fun r u => Q r u ∧ frm [] [62] S u) := by
  have f : frm [] [62] S S := frm.rf
  unfold w_pull at h ⊢
  intro S2 eS2
  replace h := h S2 eS2
  replace f := f.tr (show frm [] [62] S S2 by rw [eS2]; exact frm.pI0 (by decide))
  refine ⟨h.1, ?_⟩
  replace h := h.2
  exact ⟨h, f⟩
set_option maxRecDepth 100000 in
theorem fr_move_J194 {S0 : MS} {Q : MS → Prop} {U194 : MS} {v194_2 : Int32} (f : frm [26] [62, 63] S0 U194) (h : w_move_J194 Q U194 v194_2) : w_move_J194 (fun u => Q u ∧ frm [26] [62, 63] S0 u) U194 v194_2 := by
  unfold w_move_J194 at h ⊢
  obtain ⟨Q9, h0, h⟩ := h
  refine ⟨_, fr_push h0, ?_⟩
  · intro S14 hq
    replace h := h S14 hq.1
    replace f := f.tr (hq.2.mo (by decide) (by decide))
    exact ⟨h, f⟩
set_option maxRecDepth 100000 in
theorem fr_move_J182 {S0 : MS} {Q : MS → Prop} {U182 : MS} {v182_1 : Int32} {v182_2 : Int32} (f : frm [26] [62, 63] S0 U182) (h : w_move_J182 Q U182 v182_1 v182_2) : w_move_J182 (fun u => Q u ∧ frm [26] [62, 63] S0 u) U182 v182_1 v182_2 := by
  unfold w_move_J182 at h ⊢
  refine ⟨fun c => ?_, fun c => ?_⟩
  · replace h := h.1 c
    exact fr_move_J194 f h
  · replace h := h.2 c
    refine ⟨fun c => ?_, fun c => ?_⟩
    · replace h := h.1 c
      exact fr_move_J194 f h
    · replace h := h.2 c
      exact ⟨h, f⟩
set_option maxRecDepth 100000 in
theorem fr_move_J171 {S0 : MS} {Q : MS → Prop} {U171 : MS} {v171_1 : Int32} {v171_2 : Int32} {v171_3 : Int32} (f : frm [26] [62, 63] S0 U171) (h : w_move_J171 Q U171 v171_1 v171_2 v171_3) : w_move_J171 (fun u => Q u ∧ frm [26] [62, 63] S0 u) U171 v171_1 v171_2 v171_3 := by
  unfold w_move_J171 at h ⊢
  refine ⟨fun c => ?_, fun c => ?_⟩
  · replace h := h.1 c
    obtain ⟨Q9, h0, h⟩ := h
    refine ⟨_, fr_push h0, ?_⟩
    · intro S20 hq
      replace h := h S20 hq.1
      replace f := f.tr (hq.2.mo (by decide) (by decide))
      exact fr_move_J182 f h
  · replace h := h.2 c
    exact fr_move_J182 f h
set_option maxRecDepth 100000 in
theorem fr_move_J160 {S0 : MS} {Q : MS → Prop} {U160 : MS} {v160_1 : Int32} {v160_2 : Int32} {v160_3 : Int32} (f : frm [26] [62, 63] S0 U160) (h : w_move_J160 Q U160 v160_1 v160_2 v160_3) : w_move_J160 (fun u => Q u ∧ frm [26] [62, 63] S0 u) U160 v160_1 v160_2 v160_3 := by
  unfold w_move_J160 at h ⊢
  refine ⟨fun c => ?_, fun c => ?_⟩
  · replace h := h.1 c
    exact fr_move_J171 f h
  · replace h := h.2 c
    obtain ⟨Q9, h0, h⟩ := h
    refine ⟨_, fr_push h0, ?_⟩
    · intro S24 hq
      replace h := h S24 hq.1
      replace f := f.tr (hq.2.mo (by decide) (by decide))
      exact fr_move_J171 f h
set_option maxRecDepth 100000 in
theorem fr_move_J155 {S0 : MS} {Q : MS → Prop} {U155 : MS} {v155_1 : Int32} {v155_2 : Int32} {v155_3 : Int32} (f : frm [26] [62, 63] S0 U155) (h : w_move_J155 Q U155 v155_1 v155_2 v155_3) : w_move_J155 (fun u => Q u ∧ frm [26] [62, 63] S0 u) U155 v155_1 v155_2 v155_3 := by
  unfold w_move_J155 at h ⊢
  obtain ⟨Q9, h0, h⟩ := h
  refine ⟨_, fr_push h0, ?_⟩
  · intro S27 hq
    replace h := h S27 hq.1
    replace f := f.tr (hq.2.mo (by decide) (by decide))
    exact fr_move_J160 f h
set_option maxRecDepth 100000 in
theorem fr_move_J137 {S0 : MS} {Q : MS → Prop} {U137 : MS} {v137_1 : Int32} {v137_2 : Int32} {v137_3 : Int32} (f : frm [26] [62, 63] S0 U137) (h : w_move_J137 Q U137 v137_1 v137_2 v137_3) : w_move_J137 (fun u => Q u ∧ frm [26] [62, 63] S0 u) U137 v137_1 v137_2 v137_3 := by
  unfold w_move_J137 at h ⊢
  refine ⟨fun c => ?_, fun c => ?_⟩
  · replace h := h.1 c
    exact fr_move_J155 f h
  · replace h := h.2 c
    refine ⟨fun c => ?_, fun c => ?_⟩
    · replace h := h.1 c
      exact fr_move_J155 f h
    · replace h := h.2 c
      refine ⟨fun c => ?_, fun c => ?_⟩
      · replace h := h.1 c
        exact fr_move_J155 f h
      · replace h := h.2 c
        exact fr_move_J160 f h
set_option maxRecDepth 100000 in
theorem fr_move_J132 {S0 : MS} {Q : MS → Prop} {U132 : MS} {v132_1 : Int32} {v132_2 : Int32} {v132_3 : Int32} (f : frm [26] [62, 63] S0 U132) (h : w_move_J132 Q U132 v132_1 v132_2 v132_3) : w_move_J132 (fun u => Q u ∧ frm [26] [62, 63] S0 u) U132 v132_1 v132_2 v132_3 := by
  unfold w_move_J132 at h ⊢
  obtain ⟨Q9, h0, h⟩ := h
  refine ⟨_, fr_push h0, ?_⟩
  · intro S33 hq
    replace h := h S33 hq.1
    replace f := f.tr (hq.2.mo (by decide) (by decide))
    exact fr_move_J137 f h
set_option maxRecDepth 100000 in
theorem fr_move_J107 {S0 : MS} {Q : MS → Prop} {U107 : MS} {v107_1 : Int32} {v107_2 : Int32} {v107_3 : Int32} (f : frm [26] [62, 63] S0 U107) (h : w_move_J107 Q U107 v107_1 v107_2 v107_3) : w_move_J107 (fun u => Q u ∧ frm [26] [62, 63] S0 u) U107 v107_1 v107_2 v107_3 := by
  unfold w_move_J107 at h ⊢
  refine ⟨fun c => ?_, fun c => ?_⟩
  · replace h := h.1 c
    exact ⟨h, f⟩
  · replace h := h.2 c
    refine ⟨fun c => ?_, fun c => ?_⟩
    · replace h := h.1 c
      exact ⟨h, f⟩
    · replace h := h.2 c
      refine ⟨fun c => ?_, fun c => ?_⟩
      · replace h := h.1 c
        exact fr_move_J132 f h
      · replace h := h.2 c
        refine ⟨fun c => ?_, fun c => ?_⟩
        · replace h := h.1 c
          exact fr_move_J132 f h
        · replace h := h.2 c
          exact fr_move_J137 f h
set_option maxRecDepth 100000 in
theorem fr_move_J93 {S0 : MS} {Q : MS → Prop} {U93 : MS} {v93_1 : Int32} {v93_2 : Int32} {v93_3 : Int32} {v93_4 : Int32} (f : frm [26] [62, 63] S0 U93) (h : w_move_J93 Q U93 v93_1 v93_2 v93_3 v93_4) : w_move_J93 (fun u => Q u ∧ frm [26] [62, 63] S0 u) U93 v93_1 v93_2 v93_3 v93_4 := by
  unfold w_move_J93 at h ⊢
  refine ⟨fun c => ?_, fun c => ?_⟩
  · replace h := h.1 c
    refine ⟨h.1, ?_⟩
    replace h := h.2
    refine ⟨fun c => ?_, fun c => ?_⟩
    · replace h := h.1 c
      exact fr_move_J107 f h
    · replace h := h.2 c
      exact fr_move_J107 f h
  · replace h := h.2 c
    exact fr_move_J107 f h
set_option maxRecDepth 100000 in
theorem fr_move_J76 {S0 : MS} {Q : MS → Prop} {U76 : MS} {t76_0 : Int32} {v76_1 : Int32} {v76_2 : Int32} {v76_3 : Int32} {v76_4 : Int32} (f : frm [26] [62, 63] S0 U76) (h : w_move_J76 Q U76 t76_0 v76_1 v76_2 v76_3 v76_4) : w_move_J76 (fun u => Q u ∧ frm [26] [62, 63] S0 u) U76 t76_0 v76_1 v76_2 v76_3 v76_4 := by
  unfold w_move_J76 at h ⊢
  obtain ⟨Q9, h0, h⟩ := h
  refine ⟨_, fr_need h0, ?_⟩
  · intro S9 hq
    replace h := h S9 hq.1
    replace f := f.tr (hq.2.mo (by decide) (by decide))
    refine ⟨fun c => ?_, fun c => ?_⟩
    · replace h := h.1 c
      refine ⟨h.1, ?_⟩
      replace h := h.2
      refine ⟨fun c => ?_, fun c => ?_⟩
      · replace h := h.1 c
        exact fr_move_J93 f h
      · replace h := h.2 c
        exact fr_move_J93 f h
    · replace h := h.2 c
      exact fr_move_J93 f h
set_option maxRecDepth 100000 in
theorem fr_move_J71 {S0 : MS} {Q : MS → Prop} {U71 : MS} {v71_1 : Int32} {v71_2 : Int32} {v71_3 : Int32} {v71_4 : Int32} (f : frm [26] [62, 63] S0 U71) (h : w_move_J71 Q U71 v71_1 v71_2 v71_3 v71_4) : w_move_J71 (fun u => Q u ∧ frm [26] [62, 63] S0 u) U71 v71_1 v71_2 v71_3 v71_4 := by
  unfold w_move_J71 at h ⊢
  exact fr_move_J76 f h
set_option maxRecDepth 100000 in
theorem fr_move_J75 {S0 : MS} {Q : MS → Prop} {U75 : MS} {v75_1 : Int32} {v75_2 : Int32} {v75_3 : Int32} {v75_4 : Int32} (f : frm [26] [62, 63] S0 U75) (h : w_move_J75 Q U75 v75_1 v75_2 v75_3 v75_4) : w_move_J75 (fun u => Q u ∧ frm [26] [62, 63] S0 u) U75 v75_1 v75_2 v75_3 v75_4 := by
  unfold w_move_J75 at h ⊢
  exact fr_move_J76 f h
set_option maxRecDepth 100000 in
theorem fr_move_J49 {S0 : MS} {Q : MS → Prop} {U49 : MS} {t49_0 : Int32} {v49_1 : Int32} {v49_2 : Int32} {v49_3 : Int32} (f : frm [26] [62, 63] S0 U49) (h : w_move_J49 Q U49 t49_0 v49_1 v49_2 v49_3) : w_move_J49 (fun u => Q u ∧ frm [26] [62, 63] S0 u) U49 t49_0 v49_1 v49_2 v49_3 := by
  unfold w_move_J49 at h ⊢
  refine ⟨fun c => ?_, fun c => ?_⟩
  · replace h := h.1 c
    refine ⟨h.1, ?_⟩
    replace h := h.2
    refine ⟨fun c => ?_, fun c => ?_⟩
    · replace h := h.1 c
      exact fr_move_J75 f h
    · replace h := h.2 c
      refine ⟨h.1, ?_⟩
      replace h := h.2
      refine ⟨fun c => ?_, fun c => ?_⟩
      · replace h := h.1 c
        exact fr_move_J75 f h
      · replace h := h.2 c
        exact fr_move_J71 f h
  · replace h := h.2 c
    exact fr_move_J71 f h
set_option maxRecDepth 100000 in
theorem fr_move_J48 {S0 : MS} {Q : MS → Prop} {U48 : MS} {v48_1 : Int32} {v48_2 : Int32} {v48_3 : Int32} (f : frm [26] [62, 63] S0 U48) (h : w_move_J48 Q U48 v48_1 v48_2 v48_3) : w_move_J48 (fun u => Q u ∧ frm [26] [62, 63] S0 u) U48 v48_1 v48_2 v48_3 := by
  unfold w_move_J48 at h ⊢
  exact fr_move_J49 f h
set_option maxRecDepth 100000 in
theorem fr_move_J34 {S0 : MS} {Q : MS → Prop} {U34 : MS} {v34_1 : Int32} {v34_2 : Int32} {v34_3 : Int32} (f : frm [26] [62, 63] S0 U34) (h : w_move_J34 Q U34 v34_1 v34_2 v34_3) : w_move_J34 (fun u => Q u ∧ frm [26] [62, 63] S0 u) U34 v34_1 v34_2 v34_3 := by
  unfold w_move_J34 at h ⊢
  refine ⟨fun c => ?_, fun c => ?_⟩
  · replace h := h.1 c
    refine ⟨fun c => ?_, fun c => ?_⟩
    · replace h := h.1 c
      exact fr_move_J49 f h
    · replace h := h.2 c
      exact fr_move_J48 f h
  · replace h := h.2 c
    exact fr_move_J48 f h
set_option maxRecDepth 100000 in
theorem fr_move_J21 {S0 : MS} {Q : MS → Prop} {U21 : MS} {t21_0 : Int32} {v21_1 : Int32} {v21_2 : Int32} (f : frm [26] [62, 63] S0 U21) (h : w_move_J21 Q U21 t21_0 v21_1 v21_2) : w_move_J21 (fun u => Q u ∧ frm [26] [62, 63] S0 u) U21 t21_0 v21_1 v21_2 := by
  unfold w_move_J21 at h ⊢
  refine ⟨fun c => ?_, fun c => ?_⟩
  · replace h := h.1 c
    exact fr_move_J34 f h
  · replace h := h.2 c
    refine ⟨fun c => ?_, fun c => ?_⟩
    · replace h := h.1 c
      exact fr_move_J34 f h
    · replace h := h.2 c
      exact fr_move_J48 f h
set_option maxRecDepth 100000 in
theorem fr_move {S : MS} {x1 : Int32} {Q : MS → Prop} (h : w_move S x1 Q) : w_move S x1 (fun u => Q u ∧ frm [26] [62, 63] S u) := by
  have f : frm [26] [62, 63] S S := frm.rf
  unfold w_move at h ⊢
  obtain ⟨Q9, h0, h⟩ := h
  refine ⟨_, fr_pull h0, ?_⟩
  · intro r2 S3 hq
    replace h := h r2 S3 hq.1
    replace f := f.tr (hq.2.mo (by decide) (by decide))
    refine ⟨h.1, ?_⟩
    replace h := h.2
    refine ⟨fun c => ?_, fun c => ?_⟩
    · replace h := h.1 c
      obtain ⟨Q9, h0, h⟩ := h
      refine ⟨_, fr_pull h0, ?_⟩
      · intro r62 S63 hq
        replace h := h r62 S63 hq.1
        replace f := f.tr (hq.2.mo (by decide) (by decide))
        exact fr_move_J21 f h
    · replace h := h.2 c
      exact fr_move_J21 f h
set_option maxRecDepth 100000 in
theorem fr_setLocal {S : MS} {x1 : Int32} {x2 : Int32} {Q : MS → Prop} (h : w_setLocal S x1 x2 Q) : w_setLocal S x1 x2 (fun u => Q u ∧ frm [25] [] S u) := by
  have f : frm [25] [] S S := frm.rf
  unfold w_setLocal at h ⊢
  refine ⟨h.1, ?_⟩
  replace h := h.2
  intro S2 eS2
  replace h := h S2 eS2
  replace f := f.tr (show frm [25] [] S S2 by rw [eS2]; exact frm.pI (by decide))
  exact ⟨h, f⟩
set_option maxRecDepth 100000 in
theorem fr_store_J91 {S0 : MS} {Q : MS → Prop} {U91 : MS} {t91_0 : Int32} {t91_1 : Int32} {v91_2 : Int32} {v91_4 : Int32} (f : frm [25] [] S0 U91) (h : w_store_J91 Q U91 t91_0 t91_1 v91_2 v91_4) : w_store_J91 (fun u => Q u ∧ frm [25] [] S0 u) U91 t91_0 t91_1 v91_2 v91_4 := by
  unfold w_store_J91 at h ⊢
  obtain ⟨Q9, h0, h⟩ := h
  refine ⟨_, fr_setLocal h0, ?_⟩
  · intro S3 hq
    replace h := h S3 hq.1
    replace f := f.tr (hq.2.mo (by decide) (by decide))
    refine ⟨fun c => ?_, fun c => ?_⟩
    · replace h := h.1 c
      obtain ⟨Q9, h0, h⟩ := h
      refine ⟨_, fr_setLocal h0, ?_⟩
      · intro S8 hq
        replace h := h S8 hq.1
        replace f := f.tr (hq.2.mo (by decide) (by decide))
        exact ⟨h, f⟩
    · replace h := h.2 c
      exact ⟨h, f⟩
set_option maxRecDepth 100000 in
theorem fr_store_J68 {S0 : MS} {Q : MS → Prop} {U68 : MS} {v68_1 : Int32} {v68_2 : Int32} {v68_3 : Int32} {v68_4 : Int32} (f : frm [25] [] S0 U68) (h : w_store_J68 Q U68 v68_1 v68_2 v68_3 v68_4) : w_store_J68 (fun u => Q u ∧ frm [25] [] S0 u) U68 v68_1 v68_2 v68_3 v68_4 := by
  unfold w_store_J68 at h ⊢
  refine ⟨fun c => ?_, fun c => ?_⟩
  · replace h := h.1 c
    exact fr_store_J91 f h
  · replace h := h.2 c
    refine ⟨fun c => ?_, fun c => ?_⟩
    · replace h := h.1 c
      exact fr_store_J91 f h
    · replace h := h.2 c
      exact fr_store_J91 f h
set_option maxRecDepth 100000 in
theorem fr_store_J37 {S0 : MS} {Q : MS → Prop} {U37 : MS} {v37_1 : Int32} {v37_2 : Int32} {v37_3 : Int32} {v37_4 : Int32} (f : frm [25] [] S0 U37) (h : w_store_J37 Q U37 v37_1 v37_2 v37_3 v37_4) : w_store_J37 (fun u => Q u ∧ frm [25] [] S0 u) U37 v37_1 v37_2 v37_3 v37_4 := by
  unfold w_store_J37 at h ⊢
  refine ⟨fun c => ?_, fun c => ?_⟩
  · replace h := h.1 c
    exact fr_store_J68 f h
  · replace h := h.2 c
    refine ⟨h.1, ?_⟩
    replace h := h.2
    refine ⟨fun c => ?_, fun c => ?_⟩
    · replace h := h.1 c
      obtain ⟨Q9, h0, h⟩ := h
      refine ⟨_, fr_setLocal h0, ?_⟩
      · intro S19 hq
        replace h := h S19 hq.1
        replace f := f.tr (hq.2.mo (by decide) (by decide))
        exact fr_store_J68 f h
    · replace h := h.2 c
      exact fr_store_J68 f h
set_option maxRecDepth 100000 in
theorem fr_store_J11 {S0 : MS} {Q : MS → Prop} {U11 : MS} {t11_0 : Int32} {v11_1 : Int32} {v11_2 : Int32} {v11_3 : Int32} (f : frm [25] [] S0 U11) (h : w_store_J11 Q U11 t11_0 v11_1 v11_2 v11_3) : w_store_J11 (fun u => Q u ∧ frm [25] [] S0 u) U11 t11_0 v11_1 v11_2 v11_3 := by
  unfold w_store_J11 at h ⊢
  refine ⟨fun c => ?_, fun c => ?_⟩
  · replace h := h.1 c
    exact fr_store_J37 f h
  · replace h := h.2 c
    refine ⟨h.1, ?_⟩
    replace h := h.2
    refine ⟨fun c => ?_, fun c => ?_⟩
    · replace h := h.1 c
      obtain ⟨Q9, h0, h⟩ := h
      refine ⟨_, fr_setLocal h0, ?_⟩
      · intro S28 hq
        replace h := h S28 hq.1
        replace f := f.tr (hq.2.mo (by decide) (by decide))
        exact fr_store_J37 f h
    · replace h := h.2 c
      exact fr_store_J37 f h
set_option maxRecDepth 100000 in
theorem fr_store {S : MS} {x1 : Int32} {x2 : Int32} {x3 : Int32} {Q : MS → Prop} (h : w_store S x1 x2 x3 Q) : w_store S x1 x2 x3 (fun u => Q u ∧ frm [25] [] S u) := by
  have f : frm [25] [] S S := frm.rf
  unfold w_store at h ⊢
  refine ⟨fun c => ?_, fun c => ?_⟩
  · replace h := h.1 c
    exact fr_store_J11 f h
  · replace h := h.2 c
    exact fr_store_J11 f h
set_option maxRecDepth 100000 in
theorem fr_takeLetter_J124 {S0 : MS} {Q : MS → Prop} {U124 : MS} {t124_0 : Int32} (f : frm [] [62, 63] S0 U124) (h : w_takeLetter_J124 Q U124 t124_0) : w_takeLetter_J124 (fun u => Q u ∧ frm [] [62, 63] S0 u) U124 t124_0 := by
  unfold w_takeLetter_J124 at h ⊢
  obtain ⟨Q9, h0, h⟩ := h
  refine ⟨_, fr_need h0, ?_⟩
  · intro S14 hq
    replace h := h S14 hq.1
    replace f := f.tr (hq.2.mo (by decide) (by decide))
    exact ⟨h, f⟩
set_option maxRecDepth 100000 in
theorem fr_takeLetter_J123 {S0 : MS} {Q : MS → Prop} {U123 : MS} (f : frm [] [62, 63] S0 U123) (h : w_takeLetter_J123 Q U123) : w_takeLetter_J123 (fun u => Q u ∧ frm [] [62, 63] S0 u) U123 := by
  unfold w_takeLetter_J123 at h ⊢
  exact fr_takeLetter_J124 f h
set_option maxRecDepth 100000 in
theorem fr_takeLetter_J80 {S0 : MS} {Q : MS → Prop} {U80 : MS} {t80_0 : Int32} (f : frm [] [62, 63] S0 U80) (h : w_takeLetter_J80 Q U80 t80_0) : w_takeLetter_J80 (fun u => Q u ∧ frm [] [62, 63] S0 u) U80 t80_0 := by
  unfold w_takeLetter_J80 at h ⊢
  obtain ⟨Q9, h0, h⟩ := h
  refine ⟨_, fr_need h0, ?_⟩
  · intro S25 hq
    replace h := h S25 hq.1
    replace f := f.tr (hq.2.mo (by decide) (by decide))
    exact ⟨h, f⟩
set_option maxRecDepth 100000 in
theorem fr_takeLetter_J75 {S0 : MS} {Q : MS → Prop} {U75 : MS} (f : frm [] [62, 63] S0 U75) (h : w_takeLetter_J75 Q U75) : w_takeLetter_J75 (fun u => Q u ∧ frm [] [62, 63] S0 u) U75 := by
  unfold w_takeLetter_J75 at h ⊢
  exact fr_takeLetter_J80 f h
set_option maxRecDepth 100000 in
theorem fr_takeLetter_J51 {S0 : MS} {Q : MS → Prop} {U51 : MS} {t51_0 : Int32} (f : frm [] [62, 63] S0 U51) (h : w_takeLetter_J51 Q U51 t51_0) : w_takeLetter_J51 (fun u => Q u ∧ frm [] [62, 63] S0 u) U51 t51_0 := by
  unfold w_takeLetter_J51 at h ⊢
  obtain ⟨Q9, h0, h⟩ := h
  refine ⟨_, fr_need h0, ?_⟩
  · intro S30 hq
    replace h := h S30 hq.1
    replace f := f.tr (hq.2.mo (by decide) (by decide))
    exact ⟨h, f⟩
set_option maxRecDepth 100000 in
theorem fr_takeLetter_J46 {S0 : MS} {Q : MS → Prop} {U46 : MS} (f : frm [] [62, 63] S0 U46) (h : w_takeLetter_J46 Q U46) : w_takeLetter_J46 (fun u => Q u ∧ frm [] [62, 63] S0 u) U46 := by
  unfold w_takeLetter_J46 at h ⊢
  exact fr_takeLetter_J51 f h
set_option maxRecDepth 100000 in
theorem fr_takeLetter_J22 {S0 : MS} {Q : MS → Prop} {U22 : MS} {t22_0 : Int32} (f : frm [] [62, 63] S0 U22) (h : w_takeLetter_J22 Q U22 t22_0) : w_takeLetter_J22 (fun u => Q u ∧ frm [] [62, 63] S0 u) U22 t22_0 := by
  unfold w_takeLetter_J22 at h ⊢
  obtain ⟨Q9, h0, h⟩ := h
  refine ⟨_, fr_need h0, ?_⟩
  · intro S35 hq
    replace h := h S35 hq.1
    replace f := f.tr (hq.2.mo (by decide) (by decide))
    exact ⟨h, f⟩
set_option maxRecDepth 100000 in
theorem fr_takeLetter {S : MS} {x1 : Int32} {Q : MS → Prop} (h : w_takeLetter S x1 Q) : w_takeLetter S x1 (fun u => Q u ∧ frm [] [62, 63] S u) := by
  have f : frm [] [62, 63] S S := frm.rf
  unfold w_takeLetter at h ⊢
  obtain ⟨Q9, h0, h⟩ := h
  refine ⟨_, fr_pull h0, ?_⟩
  · intro r2 S3 hq
    replace h := h r2 S3 hq.1
    replace f := f.tr (hq.2.mo (by decide) (by decide))
    refine ⟨fun c => ?_, fun c => ?_⟩
    · replace h := h.1 c
      refine ⟨fun c => ?_, fun c => ?_⟩
      · replace h := h.1 c
        exact fr_takeLetter_J22 f h
      · replace h := h.2 c
        exact fr_takeLetter_J22 f h
    · replace h := h.2 c
      refine ⟨fun c => ?_, fun c => ?_⟩
      · replace h := h.1 c
        refine ⟨fun c => ?_, fun c => ?_⟩
        · replace h := h.1 c
          exact fr_takeLetter_J46 f h
        · replace h := h.2 c
          refine ⟨fun c => ?_, fun c => ?_⟩
          · replace h := h.1 c
            exact fr_takeLetter_J46 f h
          · replace h := h.2 c
            exact fr_takeLetter_J51 f h
      · replace h := h.2 c
        refine ⟨fun c => ?_, fun c => ?_⟩
        · replace h := h.1 c
          refine ⟨fun c => ?_, fun c => ?_⟩
          · replace h := h.1 c
            exact fr_takeLetter_J75 f h
          · replace h := h.2 c
            refine ⟨fun c => ?_, fun c => ?_⟩
            · replace h := h.1 c
              exact fr_takeLetter_J75 f h
            · replace h := h.2 c
              exact fr_takeLetter_J80 f h
        · replace h := h.2 c
          refine ⟨fun c => ?_, fun c => ?_⟩
          · replace h := h.1 c
            refine ⟨h.1, ?_⟩
            replace h := h.2
            obtain ⟨Q9, h0, h⟩ := h
            refine ⟨_, fr_need h0, ?_⟩
            · intro S22 hq
              replace h := h S22 hq.1
              replace f := f.tr (hq.2.mo (by decide) (by decide))
              exact ⟨h, f⟩
          · replace h := h.2 c
            obtain ⟨Q9, h0, h⟩ := h
            refine ⟨_, fr_pull h0, ?_⟩
            · intro r10 S11 hq
              replace h := h r10 S11 hq.1
              replace f := f.tr (hq.2.mo (by decide) (by decide))
              refine ⟨fun c => ?_, fun c => ?_⟩
              · replace h := h.1 c
                refine ⟨fun c => ?_, fun c => ?_⟩
                · replace h := h.1 c
                  exact fr_takeLetter_J124 f h
                · replace h := h.2 c
                  exact fr_takeLetter_J123 f h
              · replace h := h.2 c
                exact fr_takeLetter_J123 f h
set_option maxRecDepth 100000 in
theorem fr_work_J312 {S0 : MS} {Q : MS → Prop} {U312 : MS} {v312_1 : Int32} {v312_4 : Int32} (f : frm [25, 26] [62, 63] S0 U312) (h : w_work_J312 Q U312 v312_1 v312_4) : w_work_J312 (fun u => Q u ∧ frm [25, 26] [62, 63] S0 u) U312 v312_1 v312_4 := by
  unfold w_work_J312 at h ⊢
  refine ⟨h.1, ?_⟩
  replace h := h.2
  obtain ⟨Q9, h0, h⟩ := h
  refine ⟨_, fr_giveLetters h0, ?_⟩
  · intro S24 hq
    replace h := h S24 hq.1
    replace f := f.tr (hq.2.mo (by decide) (by decide))
    exact ⟨h, f⟩
set_option maxRecDepth 100000 in
theorem fr_work_J300 {S0 : MS} {Q : MS → Prop} {U300 : MS} {v300_1 : Int32} {v300_3 : Int32} {v300_4 : Int32} (f : frm [25, 26] [62, 63] S0 U300) (h : w_work_J300 Q U300 v300_1 v300_3 v300_4) : w_work_J300 (fun u => Q u ∧ frm [25, 26] [62, 63] S0 u) U300 v300_1 v300_3 v300_4 := by
  unfold w_work_J300 at h ⊢
  refine ⟨h.1, ?_⟩
  replace h := h.2
  obtain ⟨Q9, h0, h⟩ := h
  refine ⟨_, fr_store h0, ?_⟩
  · intro S30 hq
    replace h := h S30 hq.1
    replace f := f.tr (hq.2.mo (by decide) (by decide))
    exact fr_work_J312 f h
set_option maxRecDepth 100000 in
theorem fr_work_L260 {S0 : MS} {Q : MS → Prop} : ∀ (n : Nat) {U260 : MS} {v260_1 : Int32} {v260_3 : Int32} {v260_4 : Int32} {v260_5 : Nat} {v260_6 : Int32}, frm [25, 26] [62, 63] S0 U260 → w_work_L260 Q n U260 v260_1 v260_3 v260_4 v260_5 v260_6 → w_work_L260 (fun u => Q u ∧ frm [25, 26] [62, 63] S0 u) n U260 v260_1 v260_3 v260_4 v260_5 v260_6 := by
  intro n
  induction n with
  | zero => intro U260 v260_1 v260_3 v260_4 v260_5 v260_6 f h; unfold w_work_L260 at h; exact h.elim
  | succ n ih =>
    intro U260 v260_1 v260_3 v260_4 v260_5 v260_6 f h
    unfold w_work_L260 at h ⊢
    refine ⟨fun c => ?_, fun c => ?_⟩
    · replace h := h.1 c
      refine ⟨fun c => ?_, fun c => ?_⟩
      · replace h := h.1 c
        exact fr_work_J300 f h
      · replace h := h.2 c
        refine ⟨fun c => ?_, fun c => ?_⟩
        · replace h := h.1 c
          exact fr_work_J300 f h
        · replace h := h.2 c
          refine ⟨fun c => ?_, fun c => ?_⟩
          · replace h := h.1 c
            exact fr_work_J300 f h
          · replace h := h.2 c
            exact fr_work_J312 f h
    · replace h := h.2 c
      refine ⟨h.1, ?_⟩
      replace h := h.2
      obtain ⟨Q9, h0, h⟩ := h
      refine ⟨_, fr_takeLetter h0, ?_⟩
      · intro S38 hq
        replace h := h S38 hq.1
        replace f := f.tr (hq.2.mo (by decide) (by decide))
        intro a40 ea40
        replace h := h a40 ea40
        exact ih f h
set_option maxRecDepth 100000 in
theorem fr_work_J244 {S0 : MS} {Q : MS → Prop} {U244 : MS} {v244_1 : Int32} {v244_3 : Int32} {v244_4 : Int32} (f : frm [25, 26] [62, 63] S0 U244) (h : w_work_J244 Q U244 v244_1 v244_3 v244_4) : w_work_J244 (fun u => Q u ∧ frm [25, 26] [62, 63] S0 u) U244 v244_1 v244_3 v244_4 := by
  unfold w_work_J244 at h ⊢
  refine ⟨h.1, ?_⟩
  replace h := h.2
  intro a18 ea18
  replace h := h a18 ea18
  obtain ⟨n9, h⟩ := h
  exact ⟨n9, fr_work_L260 n9 f h⟩
set_option maxRecDepth 100000 in
theorem fr_work_J238 {S0 : MS} {Q : MS → Prop} {U238 : MS} {t238_0 : Nat} {t238_1 : Nat} {v238_1 : Int32} {v238_3 : Int32} {v238_4 : Int32} (f : frm [25, 26] [62, 63] S0 U238) (h : w_work_J238 Q U238 t238_0 t238_1 v238_1 v238_3 v238_4) : w_work_J238 (fun u => Q u ∧ frm [25, 26] [62, 63] S0 u) U238 t238_0 t238_1 v238_1 v238_3 v238_4 := by
  unfold w_work_J238 at h ⊢
  obtain ⟨Q9, h0, h⟩ := h
  refine ⟨_, fr_need h0, ?_⟩
  · intro S43 hq
    replace h := h S43 hq.1
    replace f := f.tr (hq.2.mo (by decide) (by decide))
    exact fr_work_J244 f h
set_option maxRecDepth 100000 in
theorem fr_work_J194 {S0 : MS} {Q : MS → Prop} {U194 : MS} {v194_1 : Int32} {v194_2 : Nat} {v194_3 : Int32} {v194_4 : Int32} (f : frm [25, 26] [62, 63] S0 U194) (h : w_work_J194 Q U194 v194_1 v194_2 v194_3 v194_4) : w_work_J194 (fun u => Q u ∧ frm [25, 26] [62, 63] S0 u) U194 v194_1 v194_2 v194_3 v194_4 := by
  unfold w_work_J194 at h ⊢
  refine ⟨fun c => ?_, fun c => ?_⟩
  · replace h := h.1 c
    exact fr_work_J238 f h
  · replace h := h.2 c
    refine ⟨fun c => ?_, fun c => ?_⟩
    · replace h := h.1 c
      exact fr_work_J238 f h
    · replace h := h.2 c
      refine ⟨fun c => ?_, fun c => ?_⟩
      · replace h := h.1 c
        exact fr_work_J238 f h
      · replace h := h.2 c
        exact fr_work_J238 f h
set_option maxRecDepth 100000 in
theorem fr_work_J166 {S0 : MS} {Q : MS → Prop} {U166 : MS} {v166_1 : Int32} {v166_2 : Nat} {v166_3 : Int32} {v166_4 : Int32} (f : frm [25, 26] [62, 63] S0 U166) (h : w_work_J166 Q U166 v166_1 v166_2 v166_3 v166_4) : w_work_J166 (fun u => Q u ∧ frm [25, 26] [62, 63] S0 u) U166 v166_1 v166_2 v166_3 v166_4 := by
  unfold w_work_J166 at h ⊢
  refine ⟨fun c => ?_, fun c => ?_⟩
  · replace h := h.1 c
    exact fr_work_J194 f h
  · replace h := h.2 c
    refine ⟨fun c => ?_, fun c => ?_⟩
    · replace h := h.1 c
      exact fr_work_J194 f h
    · replace h := h.2 c
      refine ⟨fun c => ?_, fun c => ?_⟩
      · replace h := h.1 c
        exact fr_work_J194 f h
      · replace h := h.2 c
        refine ⟨fun c => ?_, fun c => ?_⟩
        · replace h := h.1 c
          exact fr_work_J194 f h
        · replace h := h.2 c
          exact fr_work_J244 f h
set_option maxRecDepth 100000 in
theorem fr_work_J163 {S0 : MS} {Q : MS → Prop} {U163 : MS} {t163_0 : Int32} {v163_1 : Int32} {v163_2 : Nat} {v163_3 : Int32} {v163_4 : Int32} (f : frm [25, 26] [62, 63] S0 U163) (h : w_work_J163 Q U163 t163_0 v163_1 v163_2 v163_3 v163_4) : w_work_J163 (fun u => Q u ∧ frm [25, 26] [62, 63] S0 u) U163 t163_0 v163_1 v163_2 v163_3 v163_4 := by
  unfold w_work_J163 at h ⊢
  obtain ⟨Q9, h0, h⟩ := h
  refine ⟨_, fr_need h0, ?_⟩
  · intro S63 hq
    replace h := h S63 hq.1
    replace f := f.tr (hq.2.mo (by decide) (by decide))
    exact fr_work_J166 f h
set_option maxRecDepth 100000 in
theorem fr_work_J162 {S0 : MS} {Q : MS → Prop} {U162 : MS} {v162_1 : Int32} {v162_2 : Nat} {v162_3 : Int32} {v162_4 : Int32} (f : frm [25, 26] [62, 63] S0 U162) (h : w_work_J162 Q U162 v162_1 v162_2 v162_3 v162_4) : w_work_J162 (fun u => Q u ∧ frm [25, 26] [62, 63] S0 u) U162 v162_1 v162_2 v162_3 v162_4 := by
  unfold w_work_J162 at h ⊢
  exact fr_work_J163 f h
set_option maxRecDepth 100000 in
theorem fr_work_J121 {S0 : MS} {Q : MS → Prop} {U121 : MS} {v121_1 : Int32} {v121_2 : Nat} {v121_3 : Int32} {v121_4 : Int32} (f : frm [25, 26] [62, 63] S0 U121) (h : w_work_J121 Q U121 v121_1 v121_2 v121_3 v121_4) : w_work_J121 (fun u => Q u ∧ frm [25, 26] [62, 63] S0 u) U121 v121_1 v121_2 v121_3 v121_4 := by
  unfold w_work_J121 at h ⊢
  refine ⟨fun c => ?_, fun c => ?_⟩
  · replace h := h.1 c
    refine ⟨h.1, ?_⟩
    replace h := h.2
    refine ⟨h.1, ?_⟩
    replace h := h.2
    refine ⟨fun c => ?_, fun c => ?_⟩
    · replace h := h.1 c
      refine ⟨h.1, ?_⟩
      replace h := h.2
      refine ⟨h.1, ?_⟩
      replace h := h.2
      refine ⟨fun c => ?_, fun c => ?_⟩
      · replace h := h.1 c
        exact fr_work_J163 f h
      · replace h := h.2 c
        exact fr_work_J162 f h
    · replace h := h.2 c
      exact fr_work_J162 f h
  · replace h := h.2 c
    exact fr_work_J166 f h
set_option maxRecDepth 100000 in
theorem fr_work_J118 {S0 : MS} {Q : MS → Prop} {U118 : MS} {t118_0 : Int32} {v118_1 : Int32} {v118_2 : Nat} {v118_3 : Int32} {v118_4 : Int32} (f : frm [25, 26] [62, 63] S0 U118) (h : w_work_J118 Q U118 t118_0 v118_1 v118_2 v118_3 v118_4) : w_work_J118 (fun u => Q u ∧ frm [25, 26] [62, 63] S0 u) U118 t118_0 v118_1 v118_2 v118_3 v118_4 := by
  unfold w_work_J118 at h ⊢
  obtain ⟨Q9, h0, h⟩ := h
  refine ⟨_, fr_need h0, ?_⟩
  · intro S79 hq
    replace h := h S79 hq.1
    replace f := f.tr (hq.2.mo (by decide) (by decide))
    exact fr_work_J121 f h
set_option maxRecDepth 100000 in
theorem fr_work_J98 {S0 : MS} {Q : MS → Prop} {U98 : MS} {v98_1 : Int32} {v98_2 : Nat} {v98_3 : Int32} {v98_4 : Int32} (f : frm [25, 26] [62, 63] S0 U98) (h : w_work_J98 Q U98 v98_1 v98_2 v98_3 v98_4) : w_work_J98 (fun u => Q u ∧ frm [25, 26] [62, 63] S0 u) U98 v98_1 v98_2 v98_3 v98_4 := by
  unfold w_work_J98 at h ⊢
  refine ⟨h.1, ?_⟩
  replace h := h.2
  refine ⟨h.1, ?_⟩
  replace h := h.2
  refine ⟨fun c => ?_, fun c => ?_⟩
  · replace h := h.1 c
    exact fr_work_J118 f h
  · replace h := h.2 c
    exact fr_work_J118 f h
set_option maxRecDepth 100000 in
theorem fr_work_J85 {S0 : MS} {Q : MS → Prop} {U85 : MS} {v85_1 : Int32} {v85_2 : Nat} {v85_3 : Int32} {v85_4 : Int32} (f : frm [25, 26] [62, 63] S0 U85) (h : w_work_J85 Q U85 v85_1 v85_2 v85_3 v85_4) : w_work_J85 (fun u => Q u ∧ frm [25, 26] [62, 63] S0 u) U85 v85_1 v85_2 v85_3 v85_4 := by
  unfold w_work_J85 at h ⊢
  refine ⟨fun c => ?_, fun c => ?_⟩
  · replace h := h.1 c
    exact fr_work_J98 f h
  · replace h := h.2 c
    refine ⟨fun c => ?_, fun c => ?_⟩
    · replace h := h.1 c
      exact fr_work_J98 f h
    · replace h := h.2 c
      exact fr_work_J121 f h
set_option maxRecDepth 100000 in
theorem fr_work_J74 {S0 : MS} {Q : MS → Prop} {U74 : MS} {v74_1 : Int32} {v74_2 : Nat} {v74_3 : Int32} {v74_4 : Int32} (f : frm [25, 26] [62, 63] S0 U74) (h : w_work_J74 Q U74 v74_1 v74_2 v74_3 v74_4) : w_work_J74 (fun u => Q u ∧ frm [25, 26] [62, 63] S0 u) U74 v74_1 v74_2 v74_3 v74_4 := by
  unfold w_work_J74 at h ⊢
  refine ⟨h.1, ?_⟩
  replace h := h.2
  refine ⟨fun c => ?_, fun c => ?_⟩
  · replace h := h.1 c
    exact fr_work_J85 f h
  · replace h := h.2 c
    exact fr_work_J85 f h
set_option maxRecDepth 100000 in
theorem fr_work_J45 {S0 : MS} {Q : MS → Prop} {U45 : MS} {t45_0 : Int32} {v45_1 : Int32} {v45_2 : Nat} {v45_3 : Int32} (f : frm [25, 26] [62, 63] S0 U45) (h : w_work_J45 Q U45 t45_0 v45_1 v45_2 v45_3) : w_work_J45 (fun u => Q u ∧ frm [25, 26] [62, 63] S0 u) U45 t45_0 v45_1 v45_2 v45_3 := by
  unfold w_work_J45 at h ⊢
  refine ⟨fun c => ?_, fun c => ?_⟩
  · replace h := h.1 c
    refine ⟨h.1, ?_⟩
    replace h := h.2
    refine ⟨h.1, ?_⟩
    replace h := h.2
    intro a91 ea91
    replace h := h a91 ea91
    refine ⟨h.1, ?_⟩
    replace h := h.2
    obtain ⟨Q9, h0, h⟩ := h
    refine ⟨_, fr_need h0, ?_⟩
    · intro S96 hq
      replace h := h S96 hq.1
      replace f := f.tr (hq.2.mo (by decide) (by decide))
      exact fr_work_J74 f h
  · replace h := h.2 c
    exact fr_work_J74 f h
set_option maxRecDepth 100000 in
theorem fr_work {S : MS} {x1 : Int32} {p2 : Nat} {Q : MS → Prop} (h : w_work S x1 p2 Q) : w_work S x1 p2 (fun u => Q u ∧ frm [25, 26] [62, 63] S u) := by
  have f : frm [25, 26] [62, 63] S S := frm.rf
  unfold w_work at h ⊢
  intro S1 eS1
  replace h := h S1 eS1
  replace f := f.tr (show frm [25, 26] [62, 63] S S1 by rw [eS1]; exact frm.pI0 (by decide))
  refine ⟨h.1, ?_⟩
  replace h := h.2
  intro a5 ea5
  replace h := h a5 ea5
  refine ⟨h.1, ?_⟩
  replace h := h.2
  refine ⟨fun c => ?_, fun c => ?_⟩
  · replace h := h.1 c
    refine ⟨fun c => ?_, fun c => ?_⟩
    · replace h := h.1 c
      refine ⟨h.1, ?_⟩
      replace h := h.2
      exact fr_work_J45 f h
    · replace h := h.2 c
      exact fr_work_J45 f h
  · replace h := h.2 c
    obtain ⟨Q9, h0, h⟩ := h
    refine ⟨_, fr_move h0, ?_⟩
    · intro S103 hq
      replace h := h S103 hq.1
      replace f := f.tr (hq.2.mo (by decide) (by decide))
      exact ⟨h, f⟩
set_option maxRecDepth 100000 in
theorem fr_flow_L73 {S0 : MS} {Q : MS → Prop} : ∀ (n : Nat) {U73 : MS} {v73_1 : Int32} {v73_3 : Int32}, frm [23, 24, 25, 26] [57, 62, 63] S0 U73 → w_flow_L73 Q n U73 v73_1 v73_3 → w_flow_L73 (fun u => Q u ∧ frm [23, 24, 25, 26] [57, 62, 63] S0 u) n U73 v73_1 v73_3 := by
  intro n
  induction n with
  | zero => intro U73 v73_1 v73_3 f h; unfold w_flow_L73 at h; exact h.elim
  | succ n ih =>
    intro U73 v73_1 v73_3 f h
    unfold w_flow_L73 at h ⊢
    refine ⟨h.1, ?_⟩
    replace h := h.2
    refine ⟨fun c => ?_, fun c => ?_⟩
    · replace h := h.1 c
      exact ⟨h, f⟩
    · replace h := h.2 c
      refine ⟨h.1, ?_⟩
      replace h := h.2
      obtain ⟨Q9, h0, h⟩ := h
      refine ⟨_, fr_join h0, ?_⟩
      · intro S26 hq
        replace h := h S26 hq.1
        replace f := f.tr (hq.2.mo (by decide) (by decide))
        intro a28 ea28
        replace h := h a28 ea28
        exact ih f h
set_option maxRecDepth 100000 in
theorem fr_flow_J71 {S0 : MS} {Q : MS → Prop} {U71 : MS} {v71_1 : Int32} (f : frm [23, 24, 25, 26] [57, 62, 63] S0 U71) (h : w_flow_J71 Q U71 v71_1) : w_flow_J71 (fun u => Q u ∧ frm [23, 24, 25, 26] [57, 62, 63] S0 u) U71 v71_1 := by
  unfold w_flow_J71 at h ⊢
  obtain ⟨n9, h⟩ := h
  exact ⟨n9, fr_flow_L73 n9 f h⟩
set_option maxRecDepth 100000 in
theorem fr_flow_J40 {S0 : MS} {Q : MS → Prop} {k12 k12' : MS → Int32 → Nat → Int32 → Prop} {U40 : MS} {v40_1 : Int32} {v40_2 : Nat} {v40_3 : Int32} (hk12 : ∀ (u : MS) (z0) (z1) (z2), frm [23, 24, 25, 26] [57, 62, 63] S0 u → k12 u z0 z1 z2 → k12' u z0 z1 z2) (f : frm [23, 24, 25, 26] [57, 62, 63] S0 U40) (h : w_flow_J40 Q k12 U40 v40_1 v40_2 v40_3) : w_flow_J40 (fun u => Q u ∧ frm [23, 24, 25, 26] [57, 62, 63] S0 u) k12' U40 v40_1 v40_2 v40_3 := by
  unfold w_flow_J40 at h ⊢
  intro a37 ea37
  replace h := h a37 ea37
  exact hk12 _ _ _ _ f h
set_option maxRecDepth 100000 in
theorem fr_flow_L12 {S0 : MS} {Q : MS → Prop} : ∀ (n : Nat) {U12 : MS} {v12_1 : Int32} {v12_2 : Nat} {v12_3 : Int32}, frm [23, 24, 25, 26] [57, 62, 63] S0 U12 → w_flow_L12 Q n U12 v12_1 v12_2 v12_3 → w_flow_L12 (fun u => Q u ∧ frm [23, 24, 25, 26] [57, 62, 63] S0 u) n U12 v12_1 v12_2 v12_3 := by
  intro n
  induction n with
  | zero => intro U12 v12_1 v12_2 v12_3 f h; unfold w_flow_L12 at h; exact h.elim
  | succ n ih =>
    intro U12 v12_1 v12_2 v12_3 f h
    unfold w_flow_L12 at h ⊢
    refine ⟨fun c => ?_, fun c => ?_⟩
    · replace h := h.1 c
      obtain ⟨Q9, h0, h⟩ := h
      refine ⟨_, fr_work h0, ?_⟩
      · intro S10 hq
        replace h := h S10 hq.1
        replace f := f.tr (hq.2.mo (by decide) (by decide))
        refine ⟨h.1, ?_⟩
        replace h := h.2
        refine ⟨h.1, ?_⟩
        replace h := h.2
        refine ⟨fun c => ?_, fun c => ?_⟩
        · replace h := h.1 c
          exact fr_flow_J71 f h
        · replace h := h.2 c
          obtain ⟨Q9, h0, h⟩ := h
          refine ⟨_, fr_join h0, ?_⟩
          · intro S32 hq
            replace h := h S32 hq.1
            replace f := f.tr (hq.2.mo (by decide) (by decide))
            exact fr_flow_J71 f h
    · replace h := h.2 c
      refine ⟨h.1, ?_⟩
      replace h := h.2
      refine ⟨fun c => ?_, fun c => ?_⟩
      · replace h := h.1 c
        exact fr_flow_J40 (fun _ _ _ _ f h => ih f h) f h
      · replace h := h.2 c
        refine ⟨h.1, ?_⟩
        replace h := h.2
        obtain ⟨Q9, h0, h⟩ := h
        refine ⟨_, fr_join h0, ?_⟩
        · intro S43 hq
          replace h := h S43 hq.1
          replace f := f.tr (hq.2.mo (by decide) (by decide))
          exact fr_flow_J40 (fun _ _ _ _ f h => ih f h) f h
set_option maxRecDepth 100000 in
theorem fr_flow {S : MS} {x1 : Int32} {p2 : Nat} {Q : MS → Prop} (h : w_flow S x1 p2 Q) : w_flow S x1 p2 (fun u => Q u ∧ frm [23, 24, 25, 26] [57, 62, 63] S u) := by
  have f : frm [23, 24, 25, 26] [57, 62, 63] S S := frm.rf
  unfold w_flow at h ⊢
  obtain ⟨Q9, h0, h⟩ := h
  refine ⟨_, fr_heightAt h0, ?_⟩
  · intro r2 S3 hq
    replace h := h r2 S3 hq.1
    replace f := f.tr (hq.2.mo (by decide) (by decide))
    obtain ⟨Q9, h0, h⟩ := h
    refine ⟨_, fr_takeOf h0, ?_⟩
    · intro S6 hq
      replace h := h S6 hq.1
      replace f := f.tr (hq.2.mo (by decide) (by decide))
      obtain ⟨n9, h⟩ := h
      exact ⟨n9, fr_flow_L12 n9 f h⟩
set_option maxRecDepth 100000 in
theorem fr_isHeightFault_J34 {S0 : MS} {Q : Int32 → MS → Prop} {U34 : MS} (f : frm [] [] S0 U34) (h : w_isHeightFault_J34 Q U34) : w_isHeightFault_J34 (fun r u => Q r u ∧ frm [] [] S0 u) U34 := by
  unfold w_isHeightFault_J34 at h ⊢
  exact ⟨h, f⟩
set_option maxRecDepth 100000 in
theorem fr_isHeightFault_J30 {S0 : MS} {Q : Int32 → MS → Prop} {U30 : MS} (f : frm [] [] S0 U30) (h : w_isHeightFault_J30 Q U30) : w_isHeightFault_J30 (fun r u => Q r u ∧ frm [] [] S0 u) U30 := by
  unfold w_isHeightFault_J30 at h ⊢
  exact ⟨h, f⟩
set_option maxRecDepth 100000 in
theorem fr_isHeightFault {S : MS} {x1 : Int32} {Q : Int32 → MS → Prop} (h : w_isHeightFault S x1 Q) : w_isHeightFault S x1 (fun r u => Q r u ∧ frm [] [] S u) := by
  have f : frm [] [] S S := frm.rf
  unfold w_isHeightFault at h ⊢
  refine ⟨h.1, ?_⟩
  replace h := h.2
  refine ⟨fun c => ?_, fun c => ?_⟩
  · replace h := h.1 c
    exact fr_isHeightFault_J34 f h
  · replace h := h.2 c
    obtain ⟨Q9, h0, h⟩ := h
    refine ⟨_, fr_heightAt h0, ?_⟩
    · intro r5 S6 hq
      replace h := h r5 S6 hq.1
      replace f := f.tr (hq.2.mo (by decide) (by decide))
      refine ⟨fun c => ?_, fun c => ?_⟩
      · replace h := h.1 c
        exact fr_isHeightFault_J30 f h
      · replace h := h.2 c
        obtain ⟨Q9, h0, h⟩ := h
        refine ⟨_, fr_heightAt h0, ?_⟩
        · intro r10 S11 hq
          replace h := h r10 S11 hq.1
          replace f := f.tr (hq.2.mo (by decide) (by decide))
          obtain ⟨Q9, h0, h⟩ := h
          refine ⟨_, fr_isRightHeight h0, ?_⟩
          · intro r14 S15 hq
            replace h := h r14 S15 hq.1
            replace f := f.tr (hq.2.mo (by decide) (by decide))
            refine ⟨fun c => ?_, fun c => ?_⟩
            · replace h := h.1 c
              exact fr_isHeightFault_J30 f h
            · replace h := h.2 c
              exact fr_isHeightFault_J34 f h
set_option maxRecDepth 100000 in
theorem fr_firstFault_J307 {S0 : MS} {Q : Int32 → MS → Prop} {k239 k239' : MS → Nat → Int32 → Int32 → Prop} {U307 : MS} {v307_1 : Nat} {v307_2 : Int32} {v307_5 : Int32} (hk239 : ∀ (u : MS) (z0) (z1) (z2), frm [22, 23, 24, 25, 26] [47, 48, 49, 50, 51, 52, 53, 54, 56, 57, 62, 63] S0 u → k239 u z0 z1 z2 → k239' u z0 z1 z2) (f : frm [22, 23, 24, 25, 26] [47, 48, 49, 50, 51, 52, 53, 54, 56, 57, 62, 63] S0 U307) (h : w_firstFault_J307 Q k239 U307 v307_1 v307_2 v307_5) : w_firstFault_J307 (fun r u => Q r u ∧ frm [22, 23, 24, 25, 26] [47, 48, 49, 50, 51, 52, 53, 54, 56, 57, 62, 63] S0 u) k239' U307 v307_1 v307_2 v307_5 := by
  unfold w_firstFault_J307 at h ⊢
  intro a33 ea33
  replace h := h a33 ea33
  exact hk239 _ _ _ _ f h
set_option maxRecDepth 100000 in
theorem fr_firstFault_J227 {S0 : MS} {Q : Int32 → MS → Prop} {k187 k187' : MS → Nat → Int32 → Int32 → Prop} {U227 : MS} {v227_1 : Nat} {v227_2 : Int32} {v227_5 : Int32} (hk187 : ∀ (u : MS) (z0) (z1) (z2), frm [22, 23, 24, 25, 26] [47, 48, 49, 50, 51, 52, 53, 54, 56, 57, 62, 63] S0 u → k187 u z0 z1 z2 → k187' u z0 z1 z2) (f : frm [22, 23, 24, 25, 26] [47, 48, 49, 50, 51, 52, 53, 54, 56, 57, 62, 63] S0 U227) (h : w_firstFault_J227 Q k187 U227 v227_1 v227_2 v227_5) : w_firstFault_J227 (fun r u => Q r u ∧ frm [22, 23, 24, 25, 26] [47, 48, 49, 50, 51, 52, 53, 54, 56, 57, 62, 63] S0 u) k187' U227 v227_1 v227_2 v227_5 := by
  unfold w_firstFault_J227 at h ⊢
  intro a55 ea55
  replace h := h a55 ea55
  exact hk187 _ _ _ _ f h
set_option maxRecDepth 100000 in
theorem fr_firstFault_J152 {S0 : MS} {Q : Int32 → MS → Prop} {k73 k73' : MS → Nat → Int32 → Nat → Int32 → Int32 → Prop} {U152 : MS} {t152_0 : Int32} {t152_1 : Int32} {v152_1 : Nat} {v152_2 : Int32} {v152_3 : Nat} {v152_5 : Int32} (hk73 : ∀ (u : MS) (z0) (z1) (z2) (z3) (z4), frm [22, 23, 24, 25, 26] [47, 48, 49, 50, 51, 52, 53, 54, 56, 57, 62, 63] S0 u → k73 u z0 z1 z2 z3 z4 → k73' u z0 z1 z2 z3 z4) (f : frm [22, 23, 24, 25, 26] [47, 48, 49, 50, 51, 52, 53, 54, 56, 57, 62, 63] S0 U152) (h : w_firstFault_J152 Q k73 U152 t152_0 t152_1 v152_1 v152_2 v152_3 v152_5) : w_firstFault_J152 (fun r u => Q r u ∧ frm [22, 23, 24, 25, 26] [47, 48, 49, 50, 51, 52, 53, 54, 56, 57, 62, 63] S0 u) k73' U152 t152_0 t152_1 v152_1 v152_2 v152_3 v152_5 := by
  unfold w_firstFault_J152 at h ⊢
  intro a76 ea76
  replace h := h a76 ea76
  intro a77 ea77
  replace h := h a77 ea77
  exact hk73 _ _ _ _ _ _ f h
set_option maxRecDepth 100000 in
theorem fr_firstFault_J138 {S0 : MS} {Q : Int32 → MS → Prop} {k73 k73' : MS → Nat → Int32 → Nat → Int32 → Int32 → Prop} {U138 : MS} {v138_1 : Nat} {v138_2 : Int32} {v138_3 : Nat} {v138_4 : Int32} {v138_5 : Int32} {v138_6 : Int32} (hk73 : ∀ (u : MS) (z0) (z1) (z2) (z3) (z4), frm [22, 23, 24, 25, 26] [47, 48, 49, 50, 51, 52, 53, 54, 56, 57, 62, 63] S0 u → k73 u z0 z1 z2 z3 z4 → k73' u z0 z1 z2 z3 z4) (f : frm [22, 23, 24, 25, 26] [47, 48, 49, 50, 51, 52, 53, 54, 56, 57, 62, 63] S0 U138) (h : w_firstFault_J138 Q k73 U138 v138_1 v138_2 v138_3 v138_4 v138_5 v138_6) : w_firstFault_J138 (fun r u => Q r u ∧ frm [22, 23, 24, 25, 26] [47, 48, 49, 50, 51, 52, 53, 54, 56, 57, 62, 63] S0 u) k73' U138 v138_1 v138_2 v138_3 v138_4 v138_5 v138_6 := by
  unfold w_firstFault_J138 at h ⊢
  refine ⟨fun c => ?_, fun c => ?_⟩
  · replace h := h.1 c
    exact fr_firstFault_J152 hk73 f h
  · replace h := h.2 c
    exact fr_firstFault_J152 hk73 f h
set_option maxRecDepth 100000 in
theorem fr_firstFault_J119 {S0 : MS} {Q : Int32 → MS → Prop} {k73 k73' : MS → Nat → Int32 → Nat → Int32 → Int32 → Prop} {U119 : MS} {t119_0 : Int32} {t119_1 : Int32} {v119_1 : Nat} {v119_2 : Int32} {v119_3 : Nat} {v119_4 : Int32} {v119_5 : Int32} {v119_6 : Int32} (hk73 : ∀ (u : MS) (z0) (z1) (z2) (z3) (z4), frm [22, 23, 24, 25, 26] [47, 48, 49, 50, 51, 52, 53, 54, 56, 57, 62, 63] S0 u → k73 u z0 z1 z2 z3 z4 → k73' u z0 z1 z2 z3 z4) (f : frm [22, 23, 24, 25, 26] [47, 48, 49, 50, 51, 52, 53, 54, 56, 57, 62, 63] S0 U119) (h : w_firstFault_J119 Q k73 U119 t119_0 t119_1 v119_1 v119_2 v119_3 v119_4 v119_5 v119_6) : w_firstFault_J119 (fun r u => Q r u ∧ frm [22, 23, 24, 25, 26] [47, 48, 49, 50, 51, 52, 53, 54, 56, 57, 62, 63] S0 u) k73' U119 t119_0 t119_1 v119_1 v119_2 v119_3 v119_4 v119_5 v119_6 := by
  unfold w_firstFault_J119 at h ⊢
  refine ⟨h.1, ?_⟩
  replace h := h.2
  intro S74 eS74
  replace h := h S74 eS74
  replace f := f.tr (show frm [22, 23, 24, 25, 26] [47, 48, 49, 50, 51, 52, 53, 54, 56, 57, 62, 63] U119 S74 by rw [eS74]; exact frm.pI (by decide))
  refine ⟨fun c => ?_, fun c => ?_⟩
  · replace h := h.1 c
    refine ⟨h.1, ?_⟩
    replace h := h.2
    intro S82 eS82
    replace h := h S82 eS82
    replace f := f.tr (show frm [22, 23, 24, 25, 26] [47, 48, 49, 50, 51, 52, 53, 54, 56, 57, 62, 63] S74 S82 by rw [eS82]; exact frm.pI (by decide))
    exact fr_firstFault_J138 hk73 f h
  · replace h := h.2 c
    exact fr_firstFault_J138 hk73 f h
set_option maxRecDepth 100000 in
theorem fr_firstFault_L239 {S0 : MS} {Q : Int32 → MS → Prop} : ∀ (n : Nat) {U239 : MS} {v239_1 : Nat} {v239_2 : Int32} {v239_5 : Int32}, frm [22, 23, 24, 25, 26] [47, 48, 49, 50, 51, 52, 53, 54, 56, 57, 62, 63] S0 U239 → w_firstFault_L239 Q n U239 v239_1 v239_2 v239_5 → w_firstFault_L239 (fun r u => Q r u ∧ frm [22, 23, 24, 25, 26] [47, 48, 49, 50, 51, 52, 53, 54, 56, 57, 62, 63] S0 u) n U239 v239_1 v239_2 v239_5 := by
  intro n
  induction n with
  | zero => intro U239 v239_1 v239_2 v239_5 f h; unfold w_firstFault_L239 at h; exact h.elim
  | succ n ih =>
    intro U239 v239_1 v239_2 v239_5 f h
    unfold w_firstFault_L239 at h ⊢
    refine ⟨fun c => ?_, fun c => ?_⟩
    · replace h := h.1 c
      exact ⟨h, f⟩
    · replace h := h.2 c
      obtain ⟨Q9, h0, h⟩ := h
      refine ⟨_, fr_isHeightFault h0, ?_⟩
      · intro r27 S28 hq
        replace h := h r27 S28 hq.1
        replace f := f.tr (hq.2.mo (by decide) (by decide))
        refine ⟨fun c => ?_, fun c => ?_⟩
        · replace h := h.1 c
          refine ⟨h.1, ?_⟩
          replace h := h.2
          refine ⟨fun c => ?_, fun c => ?_⟩
          · replace h := h.1 c
            exact fr_firstFault_J307 (fun _ _ _ _ f h => ih f h) f h
          · replace h := h.2 c
            obtain ⟨Q9, h0, h⟩ := h
            refine ⟨_, fr_heightAt h0, ?_⟩
            · intro r36 S37 hq
              replace h := h r36 S37 hq.1
              replace f := f.tr (hq.2.mo (by decide) (by decide))
              obtain ⟨Q9, h0, h⟩ := h
              refine ⟨_, fr_takeOf h0, ?_⟩
              · intro S40 hq
                replace h := h S40 hq.1
                replace f := f.tr (hq.2.mo (by decide) (by decide))
                refine ⟨h.1, ?_⟩
                replace h := h.2
                refine ⟨h.1, ?_⟩
                replace h := h.2
                refine ⟨h.1, ?_⟩
                replace h := h.2
                obtain ⟨Q9, h0, h⟩ := h
                refine ⟨_, fr_work h0, ?_⟩
                · intro S48 hq
                  replace h := h S48 hq.1
                  replace f := f.tr (hq.2.mo (by decide) (by decide))
                  refine ⟨fun c => ?_, fun c => ?_⟩
                  · replace h := h.1 c
                    exact ⟨h, f⟩
                  · replace h := h.2 c
                    exact fr_firstFault_J307 (fun _ _ _ _ f h => ih f h) f h
        · replace h := h.2 c
          exact ⟨h, f⟩
set_option maxRecDepth 100000 in
theorem fr_firstFault_L187 {S0 : MS} {Q : Int32 → MS → Prop} {k172 k172' : MS → Nat → Int32 → Prop} (hk172 : ∀ (u : MS) (z0) (z1), frm [22, 23, 24, 25, 26] [47, 48, 49, 50, 51, 52, 53, 54, 56, 57, 62, 63] S0 u → k172 u z0 z1 → k172' u z0 z1) : ∀ (n : Nat) {U187 : MS} {v187_1 : Nat} {v187_2 : Int32} {v187_5 : Int32}, frm [22, 23, 24, 25, 26] [47, 48, 49, 50, 51, 52, 53, 54, 56, 57, 62, 63] S0 U187 → w_firstFault_L187 Q k172 n U187 v187_1 v187_2 v187_5 → w_firstFault_L187 (fun r u => Q r u ∧ frm [22, 23, 24, 25, 26] [47, 48, 49, 50, 51, 52, 53, 54, 56, 57, 62, 63] S0 u) k172' n U187 v187_1 v187_2 v187_5 := by
  intro n
  induction n with
  | zero => intro U187 v187_1 v187_2 v187_5 f h; unfold w_firstFault_L187 at h; exact h.elim
  | succ n ih =>
    intro U187 v187_1 v187_2 v187_5 f h
    unfold w_firstFault_L187 at h ⊢
    refine ⟨fun c => ?_, fun c => ?_⟩
    · replace h := h.1 c
      exact hk172 _ _ _ f h
    · replace h := h.2 c
      refine ⟨h.1, ?_⟩
      replace h := h.2
      refine ⟨fun c => ?_, fun c => ?_⟩
      · replace h := h.1 c
        exact fr_firstFault_J227 (fun _ _ _ _ f h => ih f h) f h
      · replace h := h.2 c
        obtain ⟨Q9, h0, h⟩ := h
        refine ⟨_, fr_isHeightFault h0, ?_⟩
        · intro r58 S59 hq
          replace h := h r58 S59 hq.1
          replace f := f.tr (hq.2.mo (by decide) (by decide))
          refine ⟨fun c => ?_, fun c => ?_⟩
          · replace h := h.1 c
            refine ⟨h.1, ?_⟩
            replace h := h.2
            refine ⟨h.1, ?_⟩
            replace h := h.2
            refine ⟨h.1, ?_⟩
            replace h := h.2
            obtain ⟨Q9, h0, h⟩ := h
            refine ⟨_, fr_flow h0, ?_⟩
            · intro S68 hq
              replace h := h S68 hq.1
              replace f := f.tr (hq.2.mo (by decide) (by decide))
              exact fr_firstFault_J227 (fun _ _ _ _ f h => ih f h) f h
          · replace h := h.2 c
            exact fr_firstFault_J227 (fun _ _ _ _ f h => ih f h) f h
set_option maxRecDepth 100000 in
theorem fr_firstFault_L172 {S0 : MS} {Q : Int32 → MS → Prop} : ∀ (n : Nat) {U172 : MS} {v172_1 : Nat} {v172_2 : Int32}, frm [22, 23, 24, 25, 26] [47, 48, 49, 50, 51, 52, 53, 54, 56, 57, 62, 63] S0 U172 → w_firstFault_L172 Q n U172 v172_1 v172_2 → w_firstFault_L172 (fun r u => Q r u ∧ frm [22, 23, 24, 25, 26] [47, 48, 49, 50, 51, 52, 53, 54, 56, 57, 62, 63] S0 u) n U172 v172_1 v172_2 := by
  intro n
  induction n with
  | zero => intro U172 v172_1 v172_2 f h; unfold w_firstFault_L172 at h; exact h.elim
  | succ n ih =>
    intro U172 v172_1 v172_2 f h
    unfold w_firstFault_L172 at h ⊢
    refine ⟨fun c => ?_, fun c => ?_⟩
    · replace h := h.1 c
      obtain ⟨n9, h⟩ := h
      exact ⟨n9, fr_firstFault_L239 n9 f h⟩
    · replace h := h.2 c
      intro S51 eS51
      replace h := h S51 eS51
      replace f := f.tr (show frm [22, 23, 24, 25, 26] [47, 48, 49, 50, 51, 52, 53, 54, 56, 57, 62, 63] U172 S51 by rw [eS51]; exact frm.pI0 (by decide))
      obtain ⟨n9, h⟩ := h
      exact ⟨n9, fr_firstFault_L187 (fun _ _ _ f h => ih f h) n9 f h⟩
set_option maxRecDepth 100000 in
theorem fr_firstFault_L73 {S0 : MS} {Q : Int32 → MS → Prop} : ∀ (n : Nat) {U73 : MS} {v73_1 : Nat} {v73_2 : Int32} {v73_3 : Nat} {v73_4 : Int32} {v73_5 : Int32}, frm [22, 23, 24, 25, 26] [47, 48, 49, 50, 51, 52, 53, 54, 56, 57, 62, 63] S0 U73 → w_firstFault_L73 Q n U73 v73_1 v73_2 v73_3 v73_4 v73_5 → w_firstFault_L73 (fun r u => Q r u ∧ frm [22, 23, 24, 25, 26] [47, 48, 49, 50, 51, 52, 53, 54, 56, 57, 62, 63] S0 u) n U73 v73_1 v73_2 v73_3 v73_4 v73_5 := by
  intro n
  induction n with
  | zero => intro U73 v73_1 v73_2 v73_3 v73_4 v73_5 f h; unfold w_firstFault_L73 at h; exact h.elim
  | succ n ih =>
    intro U73 v73_1 v73_2 v73_3 v73_4 v73_5 f h
    unfold w_firstFault_L73 at h ⊢
    refine ⟨fun c => ?_, fun c => ?_⟩
    · replace h := h.1 c
      obtain ⟨Q9, h0, h⟩ := h
      refine ⟨_, fr_join h0, ?_⟩
      · intro S21 hq
        replace h := h S21 hq.1
        replace f := f.tr (hq.2.mo (by decide) (by decide))
        intro S23 eS23
        replace h := h S23 eS23
        replace f := f.tr (show frm [22, 23, 24, 25, 26] [47, 48, 49, 50, 51, 52, 53, 54, 56, 57, 62, 63] S21 S23 by rw [eS23]; exact frm.pI0 (by decide))
        obtain ⟨n9, h⟩ := h
        exact ⟨n9, fr_firstFault_L172 n9 f h⟩
    · replace h := h.2 c
      refine ⟨h.1, ?_⟩
      replace h := h.2
      intro a72 ea72
      replace h := h a72 ea72
      refine ⟨fun c => ?_, fun c => ?_⟩
      · replace h := h.1 c
        exact fr_firstFault_J119 (fun _ _ _ _ _ _ f h => ih f h) f h
      · replace h := h.2 c
        refine ⟨fun c => ?_, fun c => ?_⟩
        · replace h := h.1 c
          exact fr_firstFault_J119 (fun _ _ _ _ _ _ f h => ih f h) f h
        · replace h := h.2 c
          exact fr_firstFault_J119 (fun _ _ _ _ _ _ f h => ih f h) f h
set_option maxRecDepth 100000 in
theorem fr_firstFault_L41 {S0 : MS} {Q : Int32 → MS → Prop} : ∀ (n : Nat) {U41 : MS} {v41_1 : Nat} {v41_2 : Int32} {v41_3 : Int32}, frm [22, 23, 24, 25, 26] [47, 48, 49, 50, 51, 52, 53, 54, 56, 57, 62, 63] S0 U41 → w_firstFault_L41 Q n U41 v41_1 v41_2 v41_3 → w_firstFault_L41 (fun r u => Q r u ∧ frm [22, 23, 24, 25, 26] [47, 48, 49, 50, 51, 52, 53, 54, 56, 57, 62, 63] S0 u) n U41 v41_1 v41_2 v41_3 := by
  intro n
  induction n with
  | zero => intro U41 v41_1 v41_2 v41_3 f h; unfold w_firstFault_L41 at h; exact h.elim
  | succ n ih =>
    intro U41 v41_1 v41_2 v41_3 f h
    unfold w_firstFault_L41 at h ⊢
    refine ⟨fun c => ?_, fun c => ?_⟩
    · replace h := h.1 c
      refine ⟨h.1, ?_⟩
      replace h := h.2
      refine ⟨h.1, ?_⟩
      replace h := h.2
      refine ⟨h.1, ?_⟩
      replace h := h.2
      obtain ⟨n9, h⟩ := h
      exact ⟨n9, fr_firstFault_L73 n9 f h⟩
    · replace h := h.2 c
      refine ⟨h.1, ?_⟩
      replace h := h.2
      intro S86 eS86
      replace h := h S86 eS86
      replace f := f.tr (show frm [22, 23, 24, 25, 26] [47, 48, 49, 50, 51, 52, 53, 54, 56, 57, 62, 63] U41 S86 by rw [eS86]; exact frm.pI (by decide))
      intro a87 ea87
      replace h := h a87 ea87
      exact ih f h
set_option maxRecDepth 100000 in
theorem fr_firstFault_L18 {S0 : MS} {Q : Int32 → MS → Prop} : ∀ (n : Nat) {U18 : MS} {v18_1 : Nat} {v18_2 : Int32} {v18_3 : Int32}, frm [22, 23, 24, 25, 26] [47, 48, 49, 50, 51, 52, 53, 54, 56, 57, 62, 63] S0 U18 → w_firstFault_L18 Q n U18 v18_1 v18_2 v18_3 → w_firstFault_L18 (fun r u => Q r u ∧ frm [22, 23, 24, 25, 26] [47, 48, 49, 50, 51, 52, 53, 54, 56, 57, 62, 63] S0 u) n U18 v18_1 v18_2 v18_3 := by
  intro n
  induction n with
  | zero => intro U18 v18_1 v18_2 v18_3 f h; unfold w_firstFault_L18 at h; exact h.elim
  | succ n ih =>
    intro U18 v18_1 v18_2 v18_3 f h
    unfold w_firstFault_L18 at h ⊢
    refine ⟨fun c => ?_, fun c => ?_⟩
    · replace h := h.1 c
      obtain ⟨n9, h⟩ := h
      exact ⟨n9, fr_firstFault_L41 n9 f h⟩
    · replace h := h.2 c
      refine ⟨h.1, ?_⟩
      replace h := h.2
      intro S89 eS89
      replace h := h S89 eS89
      replace f := f.tr (show frm [22, 23, 24, 25, 26] [47, 48, 49, 50, 51, 52, 53, 54, 56, 57, 62, 63] U18 S89 by rw [eS89]; exact frm.pI (by decide))
      intro a90 ea90
      replace h := h a90 ea90
      exact ih f h
set_option maxRecDepth 100000 in
theorem fr_firstFault {S : MS} {p1 : Nat} {x2 : Int32} {Q : Int32 → MS → Prop} (h : w_firstFault S p1 x2 Q) : w_firstFault S p1 x2 (fun r u => Q r u ∧ frm [22, 23, 24, 25, 26] [47, 48, 49, 50, 51, 52, 53, 54, 56, 57, 62, 63] S u) := by
  have f : frm [22, 23, 24, 25, 26] [47, 48, 49, 50, 51, 52, 53, 54, 56, 57, 62, 63] S S := frm.rf
  unfold w_firstFault at h ⊢
  obtain ⟨Q9, h0, h⟩ := h
  refine ⟨_, fr_look h0, ?_⟩
  · intro S2 hq
    replace h := h S2 hq.1
    replace f := f.tr (hq.2.mo (by decide) (by decide))
    refine ⟨h.1, ?_⟩
    replace h := h.2
    refine ⟨h.1, ?_⟩
    replace h := h.2
    obtain ⟨Q9, h0, h⟩ := h
    refine ⟨_, fr_findHeights h0, ?_⟩
    · intro S9 hq
      replace h := h S9 hq.1
      replace f := f.tr (hq.2.mo (by decide) (by decide))
      obtain ⟨n9, h⟩ := h
      exact ⟨n9, fr_firstFault_L18 n9 f h⟩
set_option maxRecDepth 100000 in
theorem fr_flags_J59 {S0 : MS} {Q : MS → Prop} {E : MS → Prop} {k30 k30' : MS → Int32 → Prop} {U59 : MS} {t59_0 : Int32} {v59_1 : Int32} (hk30 : ∀ (u : MS) (z0), frm [] [7, 8] S0 u → k30 u z0 → k30' u z0) (f : frm [] [7, 8] S0 U59) (h : w_flags_J59 Q E k30 U59 t59_0 v59_1) : w_flags_J59 (fun u => Q u ∧ frm [] [7, 8] S0 u) (fun u => E u ∧ frm [] [7, 8] S0 u) k30' U59 t59_0 v59_1 := by
  unfold w_flags_J59 at h ⊢
  refine ⟨h.1, ?_⟩
  replace h := h.2
  obtain ⟨Q9, E9, h0, h⟩ := h
  refine ⟨_, _, fr_must h0, ?_, ?_⟩
  · intro S16 hq
    replace h := h.1 S16 hq.1
    replace f := f.tr (hq.2.mo (by decide) (by decide))
    intro a18 ea18
    replace h := h a18 ea18
    exact hk30 _ _ f h
  · intro u9 hq
    exact ⟨h.2 u9 hq.1, f.tr (hq.2.mo (by decide) (by decide))⟩
set_option maxRecDepth 100000 in
theorem fr_flags_L30 {S0 : MS} {Q : MS → Prop} {E : MS → Prop} : ∀ (n : Nat) {U30 : MS} {v30_1 : Int32}, frm [] [7, 8] S0 U30 → w_flags_L30 Q E n U30 v30_1 → w_flags_L30 (fun u => Q u ∧ frm [] [7, 8] S0 u) (fun u => E u ∧ frm [] [7, 8] S0 u) n U30 v30_1 := by
  intro n
  induction n with
  | zero => intro U30 v30_1 f h; unfold w_flags_L30 at h; exact h.elim
  | succ n ih =>
    intro U30 v30_1 f h
    unfold w_flags_L30 at h ⊢
    refine ⟨fun c => ?_, fun c => ?_⟩
    · replace h := h.1 c
      exact ⟨h, f⟩
    · replace h := h.2 c
      refine ⟨h.1, ?_⟩
      replace h := h.2
      refine ⟨h.1, ?_⟩
      replace h := h.2
      refine ⟨fun c => ?_, fun c => ?_⟩
      · replace h := h.1 c
        exact fr_flags_J59 (fun _ _ f h => ih f h) f h
      · replace h := h.2 c
        exact fr_flags_J59 (fun _ _ f h => ih f h) f h
set_option maxRecDepth 100000 in
theorem fr_flags_J19 {S0 : MS} {Q : MS → Prop} {E : MS → Prop} {U19 : MS} {t19_0 : Int32} (f : frm [] [7, 8] S0 U19) (h : w_flags_J19 Q E U19 t19_0) : w_flags_J19 (fun u => Q u ∧ frm [] [7, 8] S0 u) (fun u => E u ∧ frm [] [7, 8] S0 u) U19 t19_0 := by
  unfold w_flags_J19 at h ⊢
  obtain ⟨Q9, E9, h0, h⟩ := h
  refine ⟨_, _, fr_must h0, ?_, ?_⟩
  · intro S5 hq
    replace h := h.1 S5 hq.1
    replace f := f.tr (hq.2.mo (by decide) (by decide))
    obtain ⟨n9, h⟩ := h
    exact ⟨n9, fr_flags_L30 n9 f h⟩
  · intro u9 hq
    exact ⟨h.2 u9 hq.1, f.tr (hq.2.mo (by decide) (by decide))⟩
set_option maxRecDepth 100000 in
theorem fr_flags {S : MS} {Q : MS → Prop} {E : MS → Prop} (h : w_flags S  Q E) : w_flags S  (fun u => Q u ∧ frm [] [7, 8] S u) (fun u => E u ∧ frm [] [7, 8] S u) := by
  have f : frm [] [7, 8] S S := frm.rf
  unfold w_flags at h ⊢
  refine ⟨h.1, ?_⟩
  replace h := h.2
  refine ⟨fun c => ?_, fun c => ?_⟩
  · replace h := h.1 c
    exact fr_flags_J19 f h
  · replace h := h.2 c
    exact fr_flags_J19 f h
set_option maxRecDepth 100000 in
theorem fr_goTo {S : MS} {x1 : Int32} {Q : MS → Prop} (h : w_goTo S x1 Q) : w_goTo S x1 (fun u => Q u ∧ frm [43] [] S u) := by
  have f : frm [43] [] S S := frm.rf
  unfold w_goTo at h ⊢
  refine ⟨h.1, ?_⟩
  replace h := h.2
  intro S3 eS3
  replace h := h S3 eS3
  replace f := f.tr (show frm [43] [] S S3 by rw [eS3]; exact frm.pI (by decide))
  exact ⟨h, f⟩
set_option maxRecDepth 100000 in
theorem fr_got {S : MS} {x1 : Int32} {Q : Int64 → MS → Prop} (h : w_got S x1 Q) : w_got S x1 (fun r u => Q r u ∧ frm [44] [] S u) := by
  have f : frm [44] [] S S := frm.rf
  unfold w_got at h ⊢
  intro a2 ea2
  replace h := h a2 ea2
  refine ⟨h.1, ?_⟩
  replace h := h.2
  refine ⟨h.1, ?_⟩
  replace h := h.2
  intro S7 eS7
  replace h := h S7 eS7
  replace f := f.tr (show frm [44] [] S S7 by rw [eS7]; exact frm.pI (by decide))
  refine ⟨h.1, ?_⟩
  replace h := h.2
  refine ⟨h.1, ?_⟩
  replace h := h.2
  exact ⟨h, f⟩
set_option maxRecDepth 100000 in
theorem fr_gotInt {S : MS} {Q : Int32 → MS → Prop} (h : w_gotInt S  Q) : w_gotInt S  (fun r u => Q r u ∧ frm [44] [] S u) := by
  have f : frm [44] [] S S := frm.rf
  unfold w_gotInt at h ⊢
  obtain ⟨Q9, h0, h⟩ := h
  refine ⟨_, fr_got h0, ?_⟩
  · intro r2 S3 hq
    replace h := h r2 S3 hq.1
    replace f := f.tr (hq.2.mo (by decide) (by decide))
    exact ⟨h, f⟩
set_option maxRecDepth 100000 in
theorem fr_point {S : MS} {x1 : Int32} {x2 : Int32} {Q : MS → Prop} {E : MS → Prop} (h : w_point S x1 x2 Q E) : w_point S x1 x2 (fun u => Q u ∧ frm [] [7, 8] S u) (fun u => E u ∧ frm [] [7, 8] S u) := by
  have f : frm [] [7, 8] S S := frm.rf
  unfold w_point at h ⊢
  obtain ⟨Q9, E9, h0, h⟩ := h
  refine ⟨_, _, fr_must h0, ?_, ?_⟩
  · intro S3 hq
    replace h := h.1 S3 hq.1
    replace f := f.tr (hq.2.mo (by decide) (by decide))
    exact ⟨h, f⟩
  · intro u9 hq
    exact ⟨h.2 u9 hq.1, f.tr (hq.2.mo (by decide) (by decide))⟩
set_option maxRecDepth 100000 in
theorem fr_row {S : MS} {x1 : Int32} {x2 : Int32} {x3 : Int32} {Q : MS → Prop} (h : w_row S x1 x2 x3 Q) : w_row S x1 x2 x3 (fun u => Q u ∧ frm [19] [41] S u) := by
  have f : frm [19] [41] S S := frm.rf
  unfold w_row at h ⊢
  refine ⟨h.1, ?_⟩
  replace h := h.2
  intro S3 eS3
  replace h := h S3 eS3
  replace f := f.tr (show frm [19] [41] S S3 by rw [eS3]; exact frm.pI (by decide))
  refine ⟨h.1, ?_⟩
  replace h := h.2
  intro S7 eS7
  replace h := h S7 eS7
  replace f := f.tr (show frm [19] [41] S3 S7 by rw [eS7]; exact frm.pI (by decide))
  refine ⟨h.1, ?_⟩
  replace h := h.2
  intro S11 eS11
  replace h := h S11 eS11
  replace f := f.tr (show frm [19] [41] S7 S11 by rw [eS11]; exact frm.pI (by decide))
  intro S13 eS13
  replace h := h S13 eS13
  replace f := f.tr (show frm [19] [41] S11 S13 by rw [eS13]; exact frm.pI0 (by decide))
  exact ⟨h, f⟩
