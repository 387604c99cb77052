set_option maxRecDepth 100000 in
theorem fr_word_L2 {S0 : MS} {Q : MS → Prop} : ∀ (n : Nat) {U2 : MS} {v2_1 : Int32} {v2_2 : Int32}, frm [2] [4] S0 U2 → w_word_L2 Q n U2 v2_1 v2_2 → w_word_L2 (fun u => Q u ∧ frm [2] [4] S0 u) n U2 v2_1 v2_2 := by
  intro n
  induction n with
  | zero => intro U2 v2_1 v2_2 f h; unfold w_word_L2 at h; exact h.elim
  | succ n ih =>
    intro U2 v2_1 v2_2 f h
    unfold w_word_L2 at h ⊢
    refine ⟨fun c => ?_, fun c => ?_⟩
    · replace h := h.1 c
      exact ⟨h, f⟩
    · replace h := h.2 c
      refine ⟨h.1, ?_⟩
      replace h := h.2
      intro S6 eS6
      replace h := h S6 eS6
      replace f := f.tr (show frm [2] [4] U2 S6 by rw [eS6]; exact frm.pI (by decide))
      intro S8 eS8
      replace h := h S8 eS8
      replace f := f.tr (show frm [2] [4] S6 S8 by rw [eS8]; exact frm.pI0 (by decide))
      intro a9 ea9
      replace h := h a9 ea9
      exact ih f h
set_option maxRecDepth 100000 in
theorem fr_word {S : MS} {x1 : Int32} {Q : MS → Prop} (h : w_word S x1 Q) : w_word S x1 (fun u => Q u ∧ frm [2] [4] S u) := by
  have f : frm [2] [4] S S := frm.rf
  unfold w_word at h ⊢
  obtain ⟨n9, h⟩ := h
  exact ⟨n9, fr_word_L2 n9 f h⟩
set_option maxRecDepth 100000 in
theorem fr_feed {S : MS} {x1 : Int32} {x2 : Int32} {x3 : Int32} {x4 : Int32} {x5 : Int32} {Q : Int32 → MS → Prop} (h : w_feed S x1 x2 x3 x4 x5 Q) : w_feed S x1 x2 x3 x4 x5 (fun r u => Q r u ∧ frm [2] [4, 5] S u) := by
  have f : frm [2] [4, 5] S S := frm.rf
  unfold w_feed at h ⊢
  refine ⟨fun c => ?_, fun c => ?_⟩
  · replace h := h.1 c
    exact ⟨h, f⟩
  · replace h := h.2 c
    refine ⟨fun c => ?_, fun c => ?_⟩
    · replace h := h.1 c
      obtain ⟨Q9, h0, h⟩ := h
      refine ⟨_, fr_word h0, ?_⟩
      · intro S6 hq
        replace h := h S6 hq.1
        replace f := f.tr (hq.2.mo (by decide) (by decide))
        obtain ⟨Q9, h0, h⟩ := h
        refine ⟨_, fr_word h0, ?_⟩
        · intro S9 hq
          replace h := h S9 hq.1
          replace f := f.tr (hq.2.mo (by decide) (by decide))
          obtain ⟨Q9, h0, h⟩ := h
          refine ⟨_, fr_word h0, ?_⟩
          · intro S12 hq
            replace h := h S12 hq.1
            replace f := f.tr (hq.2.mo (by decide) (by decide))
            obtain ⟨Q9, h0, h⟩ := h
            refine ⟨_, fr_word h0, ?_⟩
            · intro S15 hq
              replace h := h S15 hq.1
              replace f := f.tr (hq.2.mo (by decide) (by decide))
              obtain ⟨Q9, h0, h⟩ := h
              refine ⟨_, fr_word h0, ?_⟩
              · intro S18 hq
                replace h := h S18 hq.1
                replace f := f.tr (hq.2.mo (by decide) (by decide))
                intro S21 eS21
                replace h := h S21 eS21
                replace f := f.tr (show frm [2] [4, 5] S18 S21 by rw [eS21]; exact frm.pI0 (by decide))
                exact ⟨h, f⟩
    · replace h := h.2 c
      exact ⟨h, f⟩
set_option maxRecDepth 100000 in
theorem fr_hasCatch_L2 {S0 : MS} {Q : Int32 → MS → Prop} : ∀ (n : Nat) {U2 : MS} {v2_1 : Int32} {v2_2 : Int32}, frm [] [] S0 U2 → w_hasCatch_L2 Q n U2 v2_1 v2_2 → w_hasCatch_L2 (fun r u => Q r u ∧ frm [] [] S0 u) n U2 v2_1 v2_2 := by
  intro n
  induction n with
  | zero => intro U2 v2_1 v2_2 f h; unfold w_hasCatch_L2 at h; exact h.elim
  | succ n ih =>
    intro U2 v2_1 v2_2 f h
    unfold w_hasCatch_L2 at h ⊢
    refine ⟨fun c => ?_, fun c => ?_⟩
    · replace h := h.1 c
      exact ⟨h, f⟩
    · replace h := h.2 c
      refine ⟨h.1, ?_⟩
      replace h := h.2
      refine ⟨fun c => ?_, fun c => ?_⟩
      · replace h := h.1 c
        intro a6 ea6
        replace h := h a6 ea6
        exact ih f h
      · replace h := h.2 c
        exact ⟨h, f⟩
set_option maxRecDepth 100000 in
theorem fr_hasCatch {S : MS} {x1 : Int32} {Q : Int32 → MS → Prop} (h : w_hasCatch S x1 Q) : w_hasCatch S x1 (fun r u => Q r u ∧ frm [] [] S u) := by
  have f : frm [] [] S S := frm.rf
  unfold w_hasCatch at h ⊢
  obtain ⟨n9, h⟩ := h
  exact ⟨n9, fr_hasCatch_L2 n9 f h⟩
set_option maxRecDepth 100000 in
theorem fr_heightBehind_J28 {S0 : MS} {Q : Int32 → MS → Prop} {U28 : MS} {t28_0 : Int32} {v28_1 : Int32} {v28_2 : Int32} {v28_3 : Int32} (f : frm [] [] S0 U28) (h : w_heightBehind_J28 Q U28 t28_0 v28_1 v28_2 v28_3) : w_heightBehind_J28 (fun r u => Q r u ∧ frm [] [] S0 u) U28 t28_0 v28_1 v28_2 v28_3 := by
  unfold w_heightBehind_J28 at h ⊢
  refine ⟨fun c => ?_, fun c => ?_⟩
  · replace h := h.1 c
    refine ⟨h.1, ?_⟩
    replace h := h.2
    refine ⟨fun c => ?_, fun c => ?_⟩
    · replace h := h.1 c
      refine ⟨h.1, ?_⟩
      replace h := h.2
      obtain ⟨Q9, h0, h⟩ := h
      refine ⟨_, fr_placesOf h0, ?_⟩
      · intro r18 S19 hq
        replace h := h r18 S19 hq.1
        replace f := f.tr (hq.2.mo (by decide) (by decide))
        exact ⟨h, f⟩
    · replace h := h.2 c
      refine ⟨h.1, ?_⟩
      replace h := h.2
      exact ⟨h, f⟩
  · replace h := h.2 c
    exact ⟨h, f⟩
set_option maxRecDepth 100000 in
theorem fr_heightBehind {S : MS} {x1 : Int32} {x2 : Int32} {Q : Int32 → MS → Prop} (h : w_heightBehind S x1 x2 Q) : w_heightBehind S x1 x2 (fun r u => Q r u ∧ frm [] [] S u) := by
  have f : frm [] [] S S := frm.rf
  unfold w_heightBehind at h ⊢
  refine ⟨h.1, ?_⟩
  replace h := h.2
  intro a4 ea4
  replace h := h a4 ea4
  refine ⟨h.1, ?_⟩
  replace h := h.2
  refine ⟨fun c => ?_, fun c => ?_⟩
  · replace h := h.1 c
    refine ⟨h.1, ?_⟩
    replace h := h.2
    obtain ⟨Q9, h0, h⟩ := h
    refine ⟨_, fr_placesOf h0, ?_⟩
    · intro r31 S32 hq
      replace h := h r31 S32 hq.1
      replace f := f.tr (hq.2.mo (by decide) (by decide))
      exact fr_heightBehind_J28 f h
  · replace h := h.2 c
    refine ⟨h.1, ?_⟩
    replace h := h.2
    exact fr_heightBehind_J28 f h
set_option maxRecDepth 100000 in
theorem fr_isRightHeight_J59 {S0 : MS} {Q : Int32 → MS → Prop} {U59 : MS} (f : frm [] [] S0 U59) (h : w_isRightHeight_J59 Q U59) : w_isRightHeight_J59 (fun r u => Q r u ∧ frm [] [] S0 u) U59 := by
  unfold w_isRightHeight_J59 at h ⊢
  exact ⟨h, f⟩
set_option maxRecDepth 100000 in
theorem fr_isRightHeight_J55 {S0 : MS} {Q : Int32 → MS → Prop} {U55 : MS} (f : frm [] [] S0 U55) (h : w_isRightHeight_J55 Q U55) : w_isRightHeight_J55 (fun r u => Q r u ∧ frm [] [] S0 u) U55 := by
  unfold w_isRightHeight_J55 at h ⊢
  exact ⟨h, f⟩
set_option maxRecDepth 100000 in
theorem fr_isRightHeight_J34 {S0 : MS} {Q : Int32 → MS → Prop} {U34 : MS} {v34_1 : Int32} (f : frm [] [] S0 U34) (h : w_isRightHeight_J34 Q U34 v34_1) : w_isRightHeight_J34 (fun r u => Q r u ∧ frm [] [] S0 u) U34 v34_1 := by
  unfold w_isRightHeight_J34 at h ⊢
  refine ⟨h.1, ?_⟩
  replace h := h.2
  refine ⟨h.1, ?_⟩
  replace h := h.2
  refine ⟨fun c => ?_, fun c => ?_⟩
  · replace h := h.1 c
    exact fr_isRightHeight_J55 f h
  · replace h := h.2 c
    refine ⟨fun c => ?_, fun c => ?_⟩
    · replace h := h.1 c
      exact fr_isRightHeight_J59 f h
    · replace h := h.2 c
      exact fr_isRightHeight_J55 f h
set_option maxRecDepth 100000 in
theorem fr_isRightHeight {S : MS} {x1 : Int32} {x2 : Int32} {Q : Int32 → MS → Prop} (h : w_isRightHeight S x1 x2 Q) : w_isRightHeight S x1 x2 (fun r u => Q r u ∧ frm [] [] S u) := by
  have f : frm [] [] S S := frm.rf
  unfold w_isRightHeight at h ⊢
  obtain ⟨Q9, h0, h⟩ := h
  refine ⟨_, fr_heightBehind h0, ?_⟩
  · intro r2 S3 hq
    replace h := h r2 S3 hq.1
    replace f := f.tr (hq.2.mo (by decide) (by decide))
    refine ⟨fun c => ?_, fun c => ?_⟩
    · replace h := h.1 c
      exact fr_isRightHeight_J59 f h
    · replace h := h.2 c
      refine ⟨fun c => ?_, fun c => ?_⟩
      · replace h := h.1 c
        exact fr_isRightHeight_J59 f h
      · replace h := h.2 c
        refine ⟨fun c => ?_, fun c => ?_⟩
        · replace h := h.1 c
          exact fr_isRightHeight_J34 f h
        · replace h := h.2 c
          obtain ⟨Q9, h0, h⟩ := h
          refine ⟨_, fr_hasCatch h0, ?_⟩
          · intro r18 S19 hq
            replace h := h r18 S19 hq.1
            replace f := f.tr (hq.2.mo (by decide) (by decide))
            refine ⟨fun c => ?_, fun c => ?_⟩
            · replace h := h.1 c
              exact fr_isRightHeight_J34 f h
            · replace h := h.2 c
              exact fr_isRightHeight_J59 f h
set_option maxRecDepth 100000 in
theorem fr_spread_J91 {S0 : MS} {Q : MS → Prop} {k60 k60' : MS → Int32 → Int32 → Prop} {U91 : MS} {v91_1 : Int32} {v91_4 : Int32} (hk60 : ∀ (u : MS) (z0) (z1), frm [22] [57] S0 u → k60 u z0 z1 → k60' u z0 z1) (f : frm [22] [57] S0 U91) (h : w_spread_J91 Q k60 U91 v91_1 v91_4) : w_spread_J91 (fun u => Q u ∧ frm [22] [57] S0 u) k60' U91 v91_1 v91_4 := by
  unfold w_spread_J91 at h ⊢
  intro a19 ea19
  replace h := h a19 ea19
  exact hk60 _ _ _ f h
set_option maxRecDepth 100000 in
theorem fr_spread_L60 {S0 : MS} {Q : MS → Prop} : ∀ (n : Nat) {U60 : MS} {v60_1 : Int32} {v60_4 : Int32}, frm [22] [57] S0 U60 → w_spread_L60 Q n U60 v60_1 v60_4 → w_spread_L60 (fun u => Q u ∧ frm [22] [57] S0 u) n U60 v60_1 v60_4 := by
  intro n
  induction n with
  | zero => intro U60 v60_1 v60_4 f h; unfold w_spread_L60 at h; exact h.elim
  | succ n ih =>
    intro U60 v60_1 v60_4 f h
    unfold w_spread_L60 at h ⊢
    refine ⟨fun c => ?_, fun c => ?_⟩
    · replace h := h.1 c
      exact ⟨h, f⟩
    · replace h := h.2 c
      refine ⟨h.1, ?_⟩
      replace h := h.2
      refine ⟨fun c => ?_, fun c => ?_⟩
      · replace h := h.1 c
        exact fr_spread_J91 (fun _ _ _ f h => ih f h) f h
      · replace h := h.2 c
        refine ⟨h.1, ?_⟩
        replace h := h.2
        obtain ⟨Q9, h0, h⟩ := h
        refine ⟨_, fr_come h0, ?_⟩
        · intro S25 hq
          replace h := h S25 hq.1
          replace f := f.tr (hq.2.mo (by decide) (by decide))
          exact fr_spread_J91 (fun _ _ _ f h => ih f h) f h
set_option maxRecDepth 100000 in
theorem fr_spread_L29 {S0 : MS} {Q : MS → Prop} : ∀ (n : Nat) {U29 : MS} {v29_1 : Int32} {v29_3 : Int32} {v29_4 : Int32}, frm [22] [57] S0 U29 → w_spread_L29 Q n U29 v29_1 v29_3 v29_4 → w_spread_L29 (fun u => Q u ∧ frm [22] [57] S0 u) n U29 v29_1 v29_3 v29_4 := by
  intro n
  induction n with
  | zero => intro U29 v29_1 v29_3 v29_4 f h; unfold w_spread_L29 at h; exact h.elim
  | succ n ih =>
    intro U29 v29_1 v29_3 v29_4 f h
    unfold w_spread_L29 at h ⊢
    refine ⟨h.1, ?_⟩
    replace h := h.2
    refine ⟨fun c => ?_, fun c => ?_⟩
    · replace h := h.1 c
      obtain ⟨n9, h⟩ := h
      exact ⟨n9, fr_spread_L60 n9 f h⟩
    · replace h := h.2 c
      refine ⟨h.1, ?_⟩
      replace h := h.2
      obtain ⟨Q9, h0, h⟩ := h
      refine ⟨_, fr_come h0, ?_⟩
      · intro S31 hq
        replace h := h S31 hq.1
        replace f := f.tr (hq.2.mo (by decide) (by decide))
        intro a33 ea33
        replace h := h a33 ea33
        exact ih f h
set_option maxRecDepth 100000 in
theorem fr_spread_J26 {S0 : MS} {Q : MS → Prop} {U26 : MS} {v26_1 : Int32} {v26_3 : Int32} (f : frm [22] [57] S0 U26) (h : w_spread_J26 Q U26 v26_1 v26_3) : w_spread_J26 (fun u => Q u ∧ frm [22] [57] S0 u) U26 v26_1 v26_3 := by
  unfold w_spread_J26 at h ⊢
  obtain ⟨n9, h⟩ := h
  exact ⟨n9, fr_spread_L29 n9 f h⟩
set_option maxRecDepth 100000 in
theorem fr_spread {S : MS} {x1 : Int32} {x2 : Int32} {Q : MS → Prop} (h : w_spread S x1 x2 Q) : w_spread S x1 x2 (fun u => Q u ∧ frm [22] [57] S u) := by
  have f : frm [22] [57] S S := frm.rf
  unfold w_spread at h ⊢
  obtain ⟨Q9, h0, h⟩ := h
  refine ⟨_, fr_heightBehind h0, ?_⟩
  · intro r2 S3 hq
    replace h := h r2 S3 hq.1
    replace f := f.tr (hq.2.mo (by decide) (by decide))
    refine ⟨h.1, ?_⟩
    replace h := h.2
    refine ⟨h.1, ?_⟩
    replace h := h.2
    refine ⟨fun c => ?_, fun c => ?_⟩
    · replace h := h.1 c
      exact fr_spread_J26 f h
    · replace h := h.2 c
      obtain ⟨Q9, h0, h⟩ := h
      refine ⟨_, fr_come h0, ?_⟩
      · intro S37 hq
        replace h := h S37 hq.1
        replace f := f.tr (hq.2.mo (by decide) (by decide))
        exact fr_spread_J26 f h
set_option maxRecDepth 100000 in
theorem fr_findHeights_J98 {S0 : MS} {Q : MS → Prop} {k64 k64' : MS → Int32 → Int32 → Int32 → Prop} {U98 : MS} {v98_1 : Int32} {v98_2 : Int32} {v98_3 : Int32} (hk64 : ∀ (u : MS) (z0) (z1) (z2), frm [22] [56, 57] S0 u → k64 u z0 z1 z2 → k64' u z0 z1 z2) (f : frm [22] [56, 57] S0 U98) (h : w_findHeights_J98 Q k64 U98 v98_1 v98_2 v98_3) : w_findHeights_J98 (fun u => Q u ∧ frm [22] [56, 57] S0 u) k64' U98 v98_1 v98_2 v98_3 := by
  unfold w_findHeights_J98 at h ⊢
  intro a14 ea14
  replace h := h a14 ea14
  exact hk64 _ _ _ _ f h
set_option maxRecDepth 100000 in
theorem fr_findHeights_L64 {S0 : MS} {Q : MS → Prop} {k54 k54' : MS → Int32 → Int32 → Prop} (hk54 : ∀ (u : MS) (z0) (z1), frm [22] [56, 57] S0 u → k54 u z0 z1 → k54' u z0 z1) : ∀ (n : Nat) {U64 : MS} {v64_1 : Int32} {v64_2 : Int32} {v64_3 : Int32}, frm [22] [56, 57] S0 U64 → w_findHeights_L64 Q k54 n U64 v64_1 v64_2 v64_3 → w_findHeights_L64 (fun u => Q u ∧ frm [22] [56, 57] S0 u) k54' n U64 v64_1 v64_2 v64_3 := by
  intro n
  induction n with
  | zero => intro U64 v64_1 v64_2 v64_3 f h; unfold w_findHeights_L64 at h; exact h.elim
  | succ n ih =>
    intro U64 v64_1 v64_2 v64_3 f h
    unfold w_findHeights_L64 at h ⊢
    refine ⟨fun c => ?_, fun c => ?_⟩
    · replace h := h.1 c
      intro a9 ea9
      replace h := h a9 ea9
      exact hk54 _ _ _ f h
    · replace h := h.2 c
      refine ⟨h.1, ?_⟩
      replace h := h.2
      refine ⟨fun c => ?_, fun c => ?_⟩
      · replace h := h.1 c
        obtain ⟨Q9, h0, h⟩ := h
        refine ⟨_, fr_isRightHeight h0, ?_⟩
        · intro r17 S18 hq
          replace h := h r17 S18 hq.1
          replace f := f.tr (hq.2.mo (by decide) (by decide))
          refine ⟨fun c => ?_, fun c => ?_⟩
          · replace h := h.1 c
            exact fr_findHeights_J98 (fun _ _ _ _ f h => ih f h) f h
          · replace h := h.2 c
            obtain ⟨Q9, h0, h⟩ := h
            refine ⟨_, fr_spread h0, ?_⟩
            · intro S22 hq
              replace h := h S22 hq.1
              replace f := f.tr (hq.2.mo (by decide) (by decide))
              exact fr_findHeights_J98 (fun _ _ _ _ f h => ih f h) f h
      · replace h := h.2 c
        exact fr_findHeights_J98 (fun _ _ _ _ f h => ih f h) f h
set_option maxRecDepth 100000 in
theorem fr_findHeights_L54 {S0 : MS} {Q : MS → Prop} {k40 k40' : MS → Int32 → Prop} (hk40 : ∀ (u : MS) (z0), frm [22] [56, 57] S0 u → k40 u z0 → k40' u z0) : ∀ (n : Nat) {U54 : MS} {v54_1 : Int32} {v54_2 : Int32}, frm [22] [56, 57] S0 U54 → w_findHeights_L54 Q k40 n U54 v54_1 v54_2 → w_findHeights_L54 (fun u => Q u ∧ frm [22] [56, 57] S0 u) k40' n U54 v54_1 v54_2 := by
  intro n
  induction n with
  | zero => intro U54 v54_1 v54_2 f h; unfold w_findHeights_L54 at h; exact h.elim
  | succ n ih =>
    intro U54 v54_1 v54_2 f h
    unfold w_findHeights_L54 at h ⊢
    refine ⟨fun c => ?_, fun c => ?_⟩
    · replace h := h.1 c
      exact hk40 _ _ f h
    · replace h := h.2 c
      obtain ⟨n9, h⟩ := h
      exact ⟨n9, fr_findHeights_L64 (fun _ _ _ f h => ih f h) n9 f h⟩
set_option maxRecDepth 100000 in
theorem fr_findHeights_L40 {S0 : MS} {Q : MS → Prop} : ∀ (n : Nat) {U40 : MS} {v40_1 : Int32}, frm [22] [56, 57] S0 U40 → w_findHeights_L40 Q n U40 v40_1 → w_findHeights_L40 (fun u => Q u ∧ frm [22] [56, 57] S0 u) n U40 v40_1 := by
  intro n
  induction n with
  | zero => intro U40 v40_1 f h; unfold w_findHeights_L40 at h; exact h.elim
  | succ n ih =>
    intro U40 v40_1 f h
    unfold w_findHeights_L40 at h ⊢
    refine ⟨fun c => ?_, fun c => ?_⟩
    · replace h := h.1 c
      exact ⟨h, f⟩
    · replace h := h.2 c
      intro S6 eS6
      replace h := h S6 eS6
      replace f := f.tr (show frm [22] [56, 57] U40 S6 by rw [eS6]; exact frm.pI0 (by decide))
      obtain ⟨n9, h⟩ := h
      exact ⟨n9, fr_findHeights_L54 (fun _ _ f h => ih f h) n9 f h⟩
set_option maxRecDepth 100000 in
theorem fr_findHeights_L7 {S0 : MS} {Q : MS → Prop} : ∀ (n : Nat) {U7 : MS} {v7_1 : Int32} {v7_2 : Int32}, frm [22] [56, 57] S0 U7 → w_findHeights_L7 Q n U7 v7_1 v7_2 → w_findHeights_L7 (fun u => Q u ∧ frm [22] [56, 57] S0 u) n U7 v7_1 v7_2 := by
  intro n
  induction n with
  | zero => intro U7 v7_1 v7_2 f h; unfold w_findHeights_L7 at h; exact h.elim
  | succ n ih =>
    intro U7 v7_1 v7_2 f h
    unfold w_findHeights_L7 at h ⊢
    refine ⟨fun c => ?_, fun c => ?_⟩
    · replace h := h.1 c
      intro S3 eS3
      replace h := h S3 eS3
      replace f := f.tr (show frm [22] [56, 57] U7 S3 by rw [eS3]; exact frm.pI (by decide))
      intro S4 eS4
      replace h := h S4 eS4
      replace f := f.tr (show frm [22] [56, 57] S3 S4 by rw [eS4]; exact frm.pI0 (by decide))
      obtain ⟨n9, h⟩ := h
      exact ⟨n9, fr_findHeights_L40 n9 f h⟩
    · replace h := h.2 c
      refine ⟨h.1, ?_⟩
      replace h := h.2
      intro S25 eS25
      replace h := h S25 eS25
      replace f := f.tr (show frm [22] [56, 57] U7 S25 by rw [eS25]; exact frm.pI (by decide))
      intro a26 ea26
      replace h := h a26 ea26
      exact ih f h
set_option maxRecDepth 100000 in
theorem fr_findHeights {S : MS} {x1 : Int32} {Q : MS → Prop} (h : w_findHeights S x1 Q) : w_findHeights S x1 (fun u => Q u ∧ frm [22] [56, 57] S u) := by
  have f : frm [22] [56, 57] S S := frm.rf
  unfold w_findHeights at h ⊢
  intro S1 eS1
  replace h := h S1 eS1
  replace f := f.tr (show frm [22] [56, 57] S S1 by rw [eS1]; exact frm.pI0 (by decide))
  obtain ⟨n9, h⟩ := h
  exact ⟨n9, fr_findHeights_L7 n9 f h⟩
set_option maxRecDepth 100000 in
theorem fr_liveAt_J117 {S0 : MS} {Q : Int32 → MS → Prop} {k82 k82' : MS → Int32 → Int32 → Int32 → Prop} {U117 : MS} {v117_1 : Int32} {v117_2 : Int32} {v117_3 : Int32} (hk82 : ∀ (u : MS) (z0) (z1) (z2), frm [] [] S0 u → k82 u z0 z1 z2 → k82' u z0 z1 z2) (f : frm [] [] S0 U117) (h : w_liveAt_J117 Q k82 U117 v117_1 v117_2 v117_3) : w_liveAt_J117 (fun r u => Q r u ∧ frm [] [] S0 u) k82' U117 v117_1 v117_2 v117_3 := by
  unfold w_liveAt_J117 at h ⊢
  intro a19 ea19
  replace h := h a19 ea19
  exact hk82 _ _ _ _ f h
set_option maxRecDepth 100000 in
theorem fr_liveAt_L82 {S0 : MS} {Q : Int32 → MS → Prop} : ∀ (n : Nat) {U82 : MS} {v82_1 : Int32} {v82_2 : Int32} {v82_3 : Int32}, frm [] [] S0 U82 → w_liveAt_L82 Q n U82 v82_1 v82_2 v82_3 → w_liveAt_L82 (fun r u => Q r u ∧ frm [] [] S0 u) n U82 v82_1 v82_2 v82_3 := by
  intro n
  induction n with
  | zero => intro U82 v82_1 v82_2 v82_3 f h; unfold w_liveAt_L82 at h; exact h.elim
  | succ n ih =>
    intro U82 v82_1 v82_2 v82_3 f h
    unfold w_liveAt_L82 at h ⊢
    refine ⟨fun c => ?_, fun c => ?_⟩
    · replace h := h.1 c
      exact ⟨h, f⟩
    · replace h := h.2 c
      refine ⟨h.1, ?_⟩
      replace h := h.2
      refine ⟨fun c => ?_, fun c => ?_⟩
      · replace h := h.1 c
        exact fr_liveAt_J117 (fun _ _ _ _ f h => ih f h) f h
      · replace h := h.2 c
        refine ⟨h.1, ?_⟩
        replace h := h.2
        obtain ⟨Q9, h0, h⟩ := h
        refine ⟨_, fr_here h0, ?_⟩
        · intro r24 S25 hq
          replace h := h r24 S25 hq.1
          replace f := f.tr (hq.2.mo (by decide) (by decide))
          refine ⟨h.1, ?_⟩
          replace h := h.2
          intro a30 ea30
          replace h := h a30 ea30
          exact fr_liveAt_J117 (fun _ _ _ _ f h => ih f h) f h
set_option maxRecDepth 100000 in
theorem fr_liveAt_J80 {S0 : MS} {Q : Int32 → MS → Prop} {U80 : MS} {v80_1 : Int32} {v80_2 : Int32} (f : frm [] [] S0 U80) (h : w_liveAt_J80 Q U80 v80_1 v80_2) : w_liveAt_J80 (fun r u => Q r u ∧ frm [] [] S0 u) U80 v80_1 v80_2 := by
  unfold w_liveAt_J80 at h ⊢
  obtain ⟨n9, h⟩ := h
  exact ⟨n9, fr_liveAt_L82 n9 f h⟩
set_option maxRecDepth 100000 in
theorem fr_liveAt_J62 {S0 : MS} {Q : Int32 → MS → Prop} {U62 : MS} {v62_1 : Int32} {v62_2 : Int32} (f : frm [] [] S0 U62) (h : w_liveAt_J62 Q U62 v62_1 v62_2) : w_liveAt_J62 (fun r u => Q r u ∧ frm [] [] S0 u) U62 v62_1 v62_2 := by
  unfold w_liveAt_J62 at h ⊢
  refine ⟨h.1, ?_⟩
  replace h := h.2
  refine ⟨h.1, ?_⟩
  replace h := h.2
  refine ⟨h.1, ?_⟩
  replace h := h.2
  intro a39 ea39
  replace h := h a39 ea39
  exact fr_liveAt_J80 f h
set_option maxRecDepth 100000 in
theorem fr_liveAt_J38 {S0 : MS} {Q : Int32 → MS → Prop} {U38 : MS} {v38_1 : Int32} {v38_2 : Int32} (f : frm [] [] S0 U38) (h : w_liveAt_J38 Q U38 v38_1 v38_2) : w_liveAt_J38 (fun r u => Q r u ∧ frm [] [] S0 u) U38 v38_1 v38_2 := by
  unfold w_liveAt_J38 at h ⊢
  refine ⟨h.1, ?_⟩
  replace h := h.2
  refine ⟨h.1, ?_⟩
  replace h := h.2
  refine ⟨fun c => ?_, fun c => ?_⟩
  · replace h := h.1 c
    refine ⟨h.1, ?_⟩
    replace h := h.2
    refine ⟨fun c => ?_, fun c => ?_⟩
    · replace h := h.1 c
      exact fr_liveAt_J62 f h
    · replace h := h.2 c
      exact fr_liveAt_J80 f h
  · replace h := h.2 c
    exact fr_liveAt_J62 f h
set_option maxRecDepth 100000 in
theorem fr_liveAt {S : MS} {x1 : Int32} {Q : Int32 → MS → Prop} (h : w_liveAt S x1 Q) : w_liveAt S x1 (fun r u => Q r u ∧ frm [] [] S u) := by
  have f : frm [] [] S S := frm.rf
  unfold w_liveAt at h ⊢
  obtain ⟨Q9, h0, h⟩ := h
  refine ⟨_, fr_liveBehind h0, ?_⟩
  · intro r2 S3 hq
    replace h := h r2 S3 hq.1
    replace f := f.tr (hq.2.mo (by decide) (by decide))
    refine ⟨h.1, ?_⟩
    replace h := h.2
    refine ⟨h.1, ?_⟩
    replace h := h.2
    refine ⟨fun c => ?_, fun c => ?_⟩
    · replace h := h.1 c
      exact fr_liveAt_J38 f h
    · replace h := h.2 c
      refine ⟨h.1, ?_⟩
      replace h := h.2
      refine ⟨h.1, ?_⟩
      replace h := h.2
      refine ⟨h.1, ?_⟩
      replace h := h.2
      intro a54 ea54
      replace h := h a54 ea54
      exact fr_liveAt_J38 f h
set_option maxRecDepth 100000 in
theorem fr_findLive_J87 {S0 : MS} {Q : MS → Prop} {k38 k38' : MS → Int32 → Int32 → Prop} {U87 : MS} {v87_1 : Int32} {v87_2 : Int32} (hk38 : ∀ (u : MS) (z0) (z1), frm [90] [] S0 u → k38 u z0 z1 → k38' u z0 z1) (f : frm [90] [] S0 U87) (h : w_findLive_J87 Q k38 U87 v87_1 v87_2) : w_findLive_J87 (fun u => Q u ∧ frm [90] [] S0 u) k38' U87 v87_1 v87_2 := by
  unfold w_findLive_J87 at h ⊢
  intro a8 ea8
  replace h := h a8 ea8
  exact hk38 _ _ _ f h
set_option maxRecDepth 100000 in
theorem fr_findLive_J79 {S0 : MS} {Q : MS → Prop} {k38 k38' : MS → Int32 → Int32 → Prop} {U79 : MS} {t79_0 : Int32} {v79_2 : Int32} {v79_3 : Int32} (hk38 : ∀ (u : MS) (z0) (z1), frm [90] [] S0 u → k38 u z0 z1 → k38' u z0 z1) (f : frm [90] [] S0 U79) (h : w_findLive_J79 Q k38 U79 t79_0 v79_2 v79_3) : w_findLive_J79 (fun u => Q u ∧ frm [90] [] S0 u) k38' U79 t79_0 v79_2 v79_3 := by
  unfold w_findLive_J79 at h ⊢
  refine ⟨h.1, ?_⟩
  replace h := h.2
  intro S15 eS15
  replace h := h S15 eS15
  replace f := f.tr (show frm [90] [] U79 S15 by rw [eS15]; exact frm.pI (by decide))
  exact fr_findLive_J87 hk38 f h
set_option maxRecDepth 100000 in
theorem fr_findLive_J74 {S0 : MS} {Q : MS → Prop} {k38 k38' : MS → Int32 → Int32 → Prop} {U74 : MS} {v74_2 : Int32} {v74_3 : Int32} (hk38 : ∀ (u : MS) (z0) (z1), frm [90] [] S0 u → k38 u z0 z1 → k38' u z0 z1) (f : frm [90] [] S0 U74) (h : w_findLive_J74 Q k38 U74 v74_2 v74_3) : w_findLive_J74 (fun u => Q u ∧ frm [90] [] S0 u) k38' U74 v74_2 v74_3 := by
  unfold w_findLive_J74 at h ⊢
  exact fr_findLive_J79 hk38 f h
set_option maxRecDepth 100000 in
theorem fr_findLive_L38 {S0 : MS} {Q : MS → Prop} {k25 k25' : MS → Int32 → Prop} (hk25 : ∀ (u : MS) (z0), frm [90] [] S0 u → k25 u z0 → k25' u z0) : ∀ (n : Nat) {U38 : MS} {v38_1 : Int32} {v38_2 : Int32}, frm [90] [] S0 U38 → w_findLive_L38 Q k25 n U38 v38_1 v38_2 → w_findLive_L38 (fun u => Q u ∧ frm [90] [] S0 u) k25' n U38 v38_1 v38_2 := by
  intro n
  induction n with
  | zero => intro U38 v38_1 v38_2 f h; unfold w_findLive_L38 at h; exact h.elim
  | succ n ih =>
    intro U38 v38_1 v38_2 f h
    unfold w_findLive_L38 at h ⊢
    refine ⟨fun c => ?_, fun c => ?_⟩
    · replace h := h.1 c
      exact hk25 _ _ f h
    · replace h := h.2 c
      refine ⟨h.1, ?_⟩
      replace h := h.2
      refine ⟨fun c => ?_, fun c => ?_⟩
      · replace h := h.1 c
        obtain ⟨Q9, h0, h⟩ := h
        refine ⟨_, fr_liveAt h0, ?_⟩
        · intro r11 S12 hq
          replace h := h r11 S12 hq.1
          replace f := f.tr (hq.2.mo (by decide) (by decide))
          refine ⟨fun c => ?_, fun c => ?_⟩
          · replace h := h.1 c
            refine ⟨h.1, ?_⟩
            replace h := h.2
            refine ⟨fun c => ?_, fun c => ?_⟩
            · replace h := h.1 c
              exact fr_findLive_J79 (fun _ _ _ f h => ih f h) f h
            · replace h := h.2 c
              exact fr_findLive_J74 (fun _ _ _ f h => ih f h) f h
          · replace h := h.2 c
            exact fr_findLive_J74 (fun _ _ _ f h => ih f h) f h
      · replace h := h.2 c
        exact fr_findLive_J87 (fun _ _ _ f h => ih f h) f h
set_option maxRecDepth 100000 in
theorem fr_findLive_L25 {S0 : MS} {Q : MS → Prop} : ∀ (n : Nat) {U25 : MS} {v25_1 : Int32}, frm [90] [] S0 U25 → w_findLive_L25 Q n U25 v25_1 → w_findLive_L25 (fun u => Q u ∧ frm [90] [] S0 u) n U25 v25_1 := by
  intro n
  induction n with
  | zero => intro U25 v25_1 f h; unfold w_findLive_L25 at h; exact h.elim
  | succ n ih =>
    intro U25 v25_1 f h
    unfold w_findLive_L25 at h ⊢
    refine ⟨fun c => ?_, fun c => ?_⟩
    · replace h := h.1 c
      exact ⟨h, f⟩
    · replace h := h.2 c
      intro a4 ea4
      replace h := h a4 ea4
      obtain ⟨n9, h⟩ := h
      exact ⟨n9, fr_findLive_L38 (fun _ _ f h => ih f h) n9 f h⟩
set_option maxRecDepth 100000 in
theorem fr_findLive_L2 {S0 : MS} {Q : MS → Prop} : ∀ (n : Nat) {U2 : MS} {v2_1 : Int32}, frm [90] [] S0 U2 → w_findLive_L2 Q n U2 v2_1 → w_findLive_L2 (fun u => Q u ∧ frm [90] [] S0 u) n U2 v2_1 := by
  intro n
  induction n with
  | zero => intro U2 v2_1 f h; unfold w_findLive_L2 at h; exact h.elim
  | succ n ih =>
    intro U2 v2_1 f h
    unfold w_findLive_L2 at h ⊢
    refine ⟨fun c => ?_, fun c => ?_⟩
    · replace h := h.1 c
      obtain ⟨n9, h⟩ := h
      exact ⟨n9, fr_findLive_L25 n9 f h⟩
    · replace h := h.2 c
      refine ⟨h.1, ?_⟩
      replace h := h.2
      intro S21 eS21
      replace h := h S21 eS21
      replace f := f.tr (show frm [90] [] U2 S21 by rw [eS21]; exact frm.pI (by decide))
      intro a22 ea22
      replace h := h a22 ea22
      exact ih f h
set_option maxRecDepth 100000 in
theorem fr_findLive {S : MS} {Q : MS → Prop} (h : w_findLive S  Q) : w_findLive S  (fun u => Q u ∧ frm [90] [] S u) := by
  have f : frm [90] [] S S := frm.rf
  unfold w_findLive at h ⊢
  obtain ⟨n9, h⟩ := h
  exact ⟨n9, fr_findLive_L2 n9 f h⟩
set_option maxRecDepth 100000 in
theorem fr_heightAt_L31 {S0 : MS} {Q : Int32 → MS → Prop} : ∀ (n : Nat) {U31 : MS} {v31_1 : Int32} {v31_2 : Int32}, frm [] [] S0 U31 → w_heightAt_L31 Q n U31 v31_1 v31_2 → w_heightAt_L31 (fun r u => Q r u ∧ frm [] [] S0 u) n U31 v31_1 v31_2 := by
  intro n
  induction n with
  | zero => intro U31 v31_1 v31_2 f h; unfold w_heightAt_L31 at h; exact h.elim
  | succ n ih =>
    intro U31 v31_1 v31_2 f h
    unfold w_heightAt_L31 at h ⊢
    refine ⟨h.1, ?_⟩
    replace h := h.2
    refine ⟨fun c => ?_, fun c => ?_⟩
    · replace h := h.1 c
      intro a16 ea16
      replace h := h a16 ea16
      exact ih f h
    · replace h := h.2 c
      exact ⟨h, f⟩
set_option maxRecDepth 100000 in
theorem fr_heightAt {S : MS} {x1 : Int32} {Q : Int32 → MS → Prop} (h : w_heightAt S x1 Q) : w_heightAt S x1 (fun r u => Q r u ∧ frm [] [] S u) := by
  have f : frm [] [] S S := frm.rf
  unfold w_heightAt at h ⊢
  refine ⟨h.1, ?_⟩
  replace h := h.2
  refine ⟨fun c => ?_, fun c => ?_⟩
  · replace h := h.1 c
    exact ⟨h, f⟩
  · replace h := h.2 c
    refine ⟨h.1, ?_⟩
    replace h := h.2
    refine ⟨h.1, ?_⟩
    replace h := h.2
    refine ⟨fun c => ?_, fun c => ?_⟩
    · replace h := h.1 c
      obtain ⟨n9, h⟩ := h
      exact ⟨n9, fr_heightAt_L31 n9 f h⟩
    · replace h := h.2 c
      exact ⟨h, f⟩
set_option maxRecDepth 100000 in
theorem fr_isHeightFault_J34 {S0 : MS} {Q : Int32 → MS → Prop} {U34 : MS} (f : frm [] [] S0 U34) (h : w_isHeightFault_J34 Q U34) : w_isHeightFault_J34 (fun r u => Q r u ∧ frm [] [] S0 u) U34 := by
  unfold w_isHeightFault_J34 at h ⊢
  exact ⟨h, f⟩
set_option maxRecDepth 100000 in
theorem fr_isHeightFault_J30 {S0 : MS} {Q : Int32 → MS → Prop} {U30 : MS} (f : frm [] [] S0 U30) (h : w_isHeightFault_J30 Q U30) : w_isHeightFault_J30 (fun r u => Q r u ∧ frm [] [] S0 u) U30 := by
  unfold w_isHeightFault_J30 at h ⊢
  exact ⟨h, f⟩
set_option maxRecDepth 100000 in
theorem fr_isHeightFault {S : MS} {x1 : Int32} {Q : Int32 → MS → Prop} (h : w_isHeightFault S x1 Q) : w_isHeightFault S x1 (fun r u => Q r u ∧ frm [] [] S u) := by
  have f : frm [] [] S S := frm.rf
  unfold w_isHeightFault at h ⊢
  refine ⟨h.1, ?_⟩
  replace h := h.2
  refine ⟨fun c => ?_, fun c => ?_⟩
  · replace h := h.1 c
    exact fr_isHeightFault_J34 f h
  · replace h := h.2 c
    obtain ⟨Q9, h0, h⟩ := h
    refine ⟨_, fr_heightAt h0, ?_⟩
    · intro r5 S6 hq
      replace h := h r5 S6 hq.1
      replace f := f.tr (hq.2.mo (by decide) (by decide))
      refine ⟨fun c => ?_, fun c => ?_⟩
      · replace h := h.1 c
        exact fr_isHeightFault_J30 f h
      · replace h := h.2 c
        obtain ⟨Q9, h0, h⟩ := h
        refine ⟨_, fr_heightAt h0, ?_⟩
        · intro r10 S11 hq
          replace h := h r10 S11 hq.1
          replace f := f.tr (hq.2.mo (by decide) (by decide))
          obtain ⟨Q9, h0, h⟩ := h
          refine ⟨_, fr_isRightHeight h0, ?_⟩
          · intro r14 S15 hq
            replace h := h r14 S15 hq.1
            replace f := f.tr (hq.2.mo (by decide) (by decide))
            refine ⟨fun c => ?_, fun c => ?_⟩
            · replace h := h.1 c
              exact fr_isHeightFault_J30 f h
            · replace h := h.2 c
              exact fr_isHeightFault_J34 f h
set_option maxRecDepth 100000 in
theorem fr_flags_J59 {S0 : MS} {Q : MS → Prop} {E : MS → Prop} {k30 k30' : MS → Int32 → Prop} {U59 : MS} {t59_0 : Int32} {v59_1 : Int32} (hk30 : ∀ (u : MS) (z0), frm [] [7, 8] S0 u → k30 u z0 → k30' u z0) (f : frm [] [7, 8] S0 U59) (h : w_flags_J59 Q E k30 U59 t59_0 v59_1) : w_flags_J59 (fun u => Q u ∧ frm [] [7, 8] S0 u) (fun u => E u ∧ frm [] [7, 8] S0 u) k30' U59 t59_0 v59_1 := by
  unfold w_flags_J59 at h ⊢
  refine ⟨h.1, ?_⟩
  replace h := h.2
  obtain ⟨Q9, E9, h0, h⟩ := h
  refine ⟨_, _, fr_must h0, ?_, ?_⟩
  · intro S16 hq
    replace h := h.1 S16 hq.1
    replace f := f.tr (hq.2.mo (by decide) (by decide))
    intro a18 ea18
    replace h := h a18 ea18
    exact hk30 _ _ f h
  · intro u9 hq
    exact ⟨h.2 u9 hq.1, f.tr (hq.2.mo (by decide) (by decide))⟩
set_option maxRecDepth 100000 in
theorem fr_flags_L30 {S0 : MS} {Q : MS → Prop} {E : MS → Prop} : ∀ (n : Nat) {U30 : MS} {v30_1 : Int32}, frm [] [7, 8] S0 U30 → w_flags_L30 Q E n U30 v30_1 → w_flags_L30 (fun u => Q u ∧ frm [] [7, 8] S0 u) (fun u => E u ∧ frm [] [7, 8] S0 u) n U30 v30_1 := by
  intro n
  induction n with
  | zero => intro U30 v30_1 f h; unfold w_flags_L30 at h; exact h.elim
  | succ n ih =>
    intro U30 v30_1 f h
    unfold w_flags_L30 at h ⊢
    refine ⟨fun c => ?_, fun c => ?_⟩
    · replace h := h.1 c
      exact ⟨h, f⟩
    · replace h := h.2 c
      refine ⟨h.1, ?_⟩
      replace h := h.2
      refine ⟨h.1, ?_⟩
      replace h := h.2
      refine ⟨fun c => ?_, fun c => ?_⟩
      · replace h := h.1 c
        exact fr_flags_J59 (fun _ _ f h => ih f h) f h
      · replace h := h.2 c
        exact fr_flags_J59 (fun _ _ f h => ih f h) f h
set_option maxRecDepth 100000 in
theorem fr_flags_J19 {S0 : MS} {Q : MS → Prop} {E : MS → Prop} {U19 : MS} {t19_0 : Int32} (f : frm [] [7, 8] S0 U19) (h : w_flags_J19 Q E U19 t19_0) : w_flags_J19 (fun u => Q u ∧ frm [] [7, 8] S0 u) (fun u => E u ∧ frm [] [7, 8] S0 u) U19 t19_0 := by
  unfold w_flags_J19 at h ⊢
  obtain ⟨Q9, E9, h0, h⟩ := h
  refine ⟨_, _, fr_must h0, ?_, ?_⟩
  · intro S5 hq
    replace h := h.1 S5 hq.1
    replace f := f.tr (hq.2.mo (by decide) (by decide))
    obtain ⟨n9, h⟩ := h
    exact ⟨n9, fr_flags_L30 n9 f h⟩
  · intro u9 hq
    exact ⟨h.2 u9 hq.1, f.tr (hq.2.mo (by decide) (by decide))⟩
set_option maxRecDepth 100000 in
theorem fr_flags {S : MS} {Q : MS → Prop} {E : MS → Prop} (h : w_flags S  Q E) : w_flags S  (fun u => Q u ∧ frm [] [7, 8] S u) (fun u => E u ∧ frm [] [7, 8] S u) := by
  have f : frm [] [7, 8] S S := frm.rf
  unfold w_flags at h ⊢
  refine ⟨h.1, ?_⟩
  replace h := h.2
  refine ⟨fun c => ?_, fun c => ?_⟩
  · replace h := h.1 c
    exact fr_flags_J19 f h
  · replace h := h.2 c
    exact fr_flags_J19 f h
set_option maxRecDepth 100000 in
theorem fr_goTo {S : MS} {x1 : Int32} {Q : MS → Prop} (h : w_goTo S x1 Q) : w_goTo S x1 (fun u => Q u ∧ frm [43] [] S u) := by
  have f : frm [43] [] S S := frm.rf
  unfold w_goTo at h ⊢
  refine ⟨h.1, ?_⟩
  replace h := h.2
  intro S3 eS3
  replace h := h S3 eS3
  replace f := f.tr (show frm [43] [] S S3 by rw [eS3]; exact frm.pI (by decide))
  exact ⟨h, f⟩
set_option maxRecDepth 100000 in
theorem fr_got {S : MS} {x1 : Int32} {Q : Int64 → MS → Prop} (h : w_got S x1 Q) : w_got S x1 (fun r u => Q r u ∧ frm [44] [] S u) := by
  have f : frm [44] [] S S := frm.rf
  unfold w_got at h ⊢
  intro a2 ea2
  replace h := h a2 ea2
  refine ⟨h.1, ?_⟩
  replace h := h.2
  refine ⟨h.1, ?_⟩
  replace h := h.2
  intro S7 eS7
  replace h := h S7 eS7
  replace f := f.tr (show frm [44] [] S S7 by rw [eS7]; exact frm.pI (by decide))
  refine ⟨h.1, ?_⟩
  replace h := h.2
  refine ⟨h.1, ?_⟩
  replace h := h.2
  exact ⟨h, f⟩
set_option maxRecDepth 100000 in
theorem fr_gotInt {S : MS} {Q : Int32 → MS → Prop} (h : w_gotInt S  Q) : w_gotInt S  (fun r u => Q r u ∧ frm [44] [] S u) := by
  have f : frm [44] [] S S := frm.rf
  unfold w_gotInt at h ⊢
  obtain ⟨Q9, h0, h⟩ := h
  refine ⟨_, fr_got h0, ?_⟩
  · intro r2 S3 hq
    replace h := h r2 S3 hq.1
    replace f := f.tr (hq.2.mo (by decide) (by decide))
    exact ⟨h, f⟩
set_option maxRecDepth 100000 in
theorem fr_point {S : MS} {x1 : Int32} {x2 : Int32} {Q : MS → Prop} {E : MS → Prop} (h : w_point S x1 x2 Q E) : w_point S x1 x2 (fun u => Q u ∧ frm [] [7, 8] S u) (fun u => E u ∧ frm [] [7, 8] S u) := by
  have f : frm [] [7, 8] S S := frm.rf
  unfold w_point at h ⊢
  obtain ⟨Q9, E9, h0, h⟩ := h
  refine ⟨_, _, fr_must h0, ?_, ?_⟩
  · intro S3 hq
    replace h := h.1 S3 hq.1
    replace f := f.tr (hq.2.mo (by decide) (by decide))
    exact ⟨h, f⟩
  · intro u9 hq
    exact ⟨h.2 u9 hq.1, f.tr (hq.2.mo (by decide) (by decide))⟩
set_option maxRecDepth 100000 in
theorem fr_row {S : MS} {x1 : Int32} {x2 : Int32} {x3 : Int32} {Q : MS → Prop} (h : w_row S x1 x2 x3 Q) : w_row S x1 x2 x3 (fun u => Q u ∧ frm [19] [41] S u) := by
  have f : frm [19] [41] S S := frm.rf
  unfold w_row at h ⊢
  refine ⟨h.1, ?_⟩
  replace h := h.2
  intro S3 eS3
  replace h := h S3 eS3
  replace f := f.tr (show frm [19] [41] S S3 by rw [eS3]; exact frm.pI (by decide))
  refine ⟨h.1, ?_⟩
  replace h := h.2
  intro S7 eS7
  replace h := h S7 eS7
  replace f := f.tr (show frm [19] [41] S3 S7 by rw [eS7]; exact frm.pI (by decide))
  refine ⟨h.1, ?_⟩
  replace h := h.2
  intro S11 eS11
  replace h := h S11 eS11
  replace f := f.tr (show frm [19] [41] S7 S11 by rw [eS11]; exact frm.pI (by decide))
  intro S13 eS13
  replace h := h S13 eS13
  replace f := f.tr (show frm [19] [41] S11 S13 by rw [eS13]; exact frm.pI0 (by decide))
  exact ⟨h, f⟩
