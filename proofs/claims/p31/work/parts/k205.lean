set_option maxRecDepth 100000 in
theorem fr_within {S : MS} {y1 : Int64} {Q : Int32 → MS → Prop} {E : MS → Prop} (h : w_within S y1 Q E) : w_within S y1 (fun r u => Q r u ∧ frm [] [7, 8, 13] S u) (fun u => E u ∧ frm [] [7, 8, 13] S u) := by
  have f : frm [] [7, 8, 13] S S := frm.rf
  unfold w_within at h ⊢
  refine ⟨fun c => ?_, fun c => ?_⟩
  · replace h := h.1 c
    intro a4 ea4
    replace h := h a4 ea4
    intro S6 eS6
    replace h := h S6 eS6
    replace f := f.tr (show frm [] [7, 8, 13] S S6 by rw [eS6]; exact frm.pI0 (by decide))
    exact ⟨h, f⟩
  · replace h := h.2 c
    obtain ⟨Q9, h0, h⟩ := h
    refine ⟨_, fr_broken h0, ?_⟩
    · intro b11 S9 hq
      replace h := h b11 S9 hq.1
      replace f := f.tr (hq.2.mo (by decide) (by decide))
      exact ⟨h, f⟩
set_option maxRecDepth 100000 in
theorem fr_codeItems_J391 {S0 : MS} {Q : MS → Prop} {E : MS → Prop} {U391 : MS} {t391_0 : Int32} (f : frm [12, 13, 14, 15, 16, 17] [7, 8, 13, 35] S0 U391) (h : w_codeItems_J391 Q E U391 t391_0) : w_codeItems_J391 (fun u => Q u ∧ frm [12, 13, 14, 15, 16, 17] [7, 8, 13, 35] S0 u) (fun u => E u ∧ frm [12, 13, 14, 15, 16, 17] [7, 8, 13, 35] S0 u) U391 t391_0 := by
  unfold w_codeItems_J391 at h ⊢
  obtain ⟨Q9, E9, h0, h⟩ := h
  refine ⟨_, _, fr_must h0, ?_, ?_⟩
  · intro S102 hq
    replace h := h.1 S102 hq.1
    replace f := f.tr (hq.2.mo (by decide) (by decide))
    exact ⟨h, f⟩
  · intro u9 hq
    exact ⟨h.2 u9 hq.1, f.tr (hq.2.mo (by decide) (by decide))⟩
set_option maxRecDepth 100000 in
theorem fr_codeItems_L328 {S0 : MS} {Q : MS → Prop} {E : MS → Prop} : ∀ (n : Nat) {U328 : MS} {v328_6 : Int32} {v328_7 : Int32}, frm [12, 13, 14, 15, 16, 17] [7, 8, 13, 35] S0 U328 → w_codeItems_L328 Q E n U328 v328_6 v328_7 → w_codeItems_L328 (fun u => Q u ∧ frm [12, 13, 14, 15, 16, 17] [7, 8, 13, 35] S0 u) (fun u => E u ∧ frm [12, 13, 14, 15, 16, 17] [7, 8, 13, 35] S0 u) n U328 v328_6 v328_7 := by
  intro n
  induction n with
  | zero => intro U328 v328_6 v328_7 f h; unfold w_codeItems_L328 at h; exact h.elim
  | succ n ih =>
    intro U328 v328_6 v328_7 f h
    unfold w_codeItems_L328 at h ⊢
    refine ⟨fun c => ?_, fun c => ?_⟩
    · replace h := h.1 c
      refine ⟨fun c => ?_, fun c => ?_⟩
      · replace h := h.1 c
        exact fr_codeItems_J391 f h
      · replace h := h.2 c
        exact fr_codeItems_J391 f h
    · replace h := h.2 c
      obtain ⟨Q9, E9, h0, h⟩ := h
      refine ⟨_, _, fr_within h0, ?_, ?_⟩
      · intro r106 S107 hq
        replace h := h.1 r106 S107 hq.1
        replace f := f.tr (hq.2.mo (by decide) (by decide))
        obtain ⟨Q9, E9, h0, h⟩ := h
        refine ⟨_, _, fr_within h0, ?_, ?_⟩
        · intro r110 S111 hq
          replace h := h.1 r110 S111 hq.1
          replace f := f.tr (hq.2.mo (by decide) (by decide))
          refine ⟨h.1, ?_⟩
          replace h := h.2
          obtain ⟨Q9, E9, h0, h⟩ := h
          refine ⟨_, _, fr_within h0, ?_, ?_⟩
          · intro r118 S119 hq
            replace h := h.1 r118 S119 hq.1
            replace f := f.tr (hq.2.mo (by decide) (by decide))
            intro a121 ea121
            replace h := h a121 ea121
            exact ih f h
          · intro u9 hq
            exact ⟨h.2 u9 hq.1, f.tr (hq.2.mo (by decide) (by decide))⟩
        · intro u9 hq
          exact ⟨h.2 u9 hq.1, f.tr (hq.2.mo (by decide) (by decide))⟩
      · intro u9 hq
        exact ⟨h.2 u9 hq.1, f.tr (hq.2.mo (by decide) (by decide))⟩
set_option maxRecDepth 100000 in
theorem fr_codeItems_L287 {S0 : MS} {Q : MS → Prop} {E : MS → Prop} : ∀ (n : Nat) {U287 : MS} {v287_1 : Int32} {v287_6 : Int32}, frm [12, 13, 14, 15, 16, 17] [7, 8, 13, 35] S0 U287 → w_codeItems_L287 Q E n U287 v287_1 v287_6 → w_codeItems_L287 (fun u => Q u ∧ frm [12, 13, 14, 15, 16, 17] [7, 8, 13, 35] S0 u) (fun u => E u ∧ frm [12, 13, 14, 15, 16, 17] [7, 8, 13, 35] S0 u) n U287 v287_1 v287_6 := by
  intro n
  induction n with
  | zero => intro U287 v287_1 v287_6 f h; unfold w_codeItems_L287 at h; exact h.elim
  | succ n ih =>
    intro U287 v287_1 v287_6 f h
    unfold w_codeItems_L287 at h ⊢
    refine ⟨h.1, ?_⟩
    replace h := h.2
    refine ⟨fun c => ?_, fun c => ?_⟩
    · replace h := h.1 c
      obtain ⟨Q9, E9, h0, h⟩ := h
      refine ⟨_, _, fr_within h0, ?_, ?_⟩
      · intro r93 S94 hq
        replace h := h.1 r93 S94 hq.1
        replace f := f.tr (hq.2.mo (by decide) (by decide))
        refine ⟨h.1, ?_⟩
        replace h := h.2
        intro a99 ea99
        replace h := h a99 ea99
        obtain ⟨n9, h⟩ := h
        exact ⟨n9, fr_codeItems_L328 n9 f h⟩
      · intro u9 hq
        exact ⟨h.2 u9 hq.1, f.tr (hq.2.mo (by decide) (by decide))⟩
    · replace h := h.2 c
      obtain ⟨Q9, E9, h0, h⟩ := h
      refine ⟨_, _, fr_within h0, ?_, ?_⟩
      · intro r123 S124 hq
        replace h := h.1 r123 S124 hq.1
        replace f := f.tr (hq.2.mo (by decide) (by decide))
        intro a126 ea126
        replace h := h a126 ea126
        exact ih f h
      · intro u9 hq
        exact ⟨h.2 u9 hq.1, f.tr (hq.2.mo (by decide) (by decide))⟩
set_option maxRecDepth 100000 in
theorem fr_codeItems_J267 {S0 : MS} {Q : MS → Prop} {E : MS → Prop} {U267 : MS} {t267_0 : Int32} {v267_1 : Int32} {v267_4 : Int32} (f : frm [12, 13, 14, 15, 16, 17] [7, 8, 13, 35] S0 U267) (h : w_codeItems_J267 Q E U267 t267_0 v267_1 v267_4) : w_codeItems_J267 (fun u => Q u ∧ frm [12, 13, 14, 15, 16, 17] [7, 8, 13, 35] S0 u) (fun u => E u ∧ frm [12, 13, 14, 15, 16, 17] [7, 8, 13, 35] S0 u) U267 t267_0 v267_1 v267_4 := by
  unfold w_codeItems_J267 at h ⊢
  obtain ⟨Q9, E9, h0, h⟩ := h
  refine ⟨_, _, fr_must h0, ?_, ?_⟩
  · intro S85 hq
    replace h := h.1 S85 hq.1
    replace f := f.tr (hq.2.mo (by decide) (by decide))
    refine ⟨h.1, ?_⟩
    replace h := h.2
    intro S88 eS88
    replace h := h S88 eS88
    replace f := f.tr (show frm [12, 13, 14, 15, 16, 17] [7, 8, 13, 35] S85 S88 by rw [eS88]; exact frm.pI (by decide))
    obtain ⟨n9, h⟩ := h
    exact ⟨n9, fr_codeItems_L287 n9 f h⟩
  · intro u9 hq
    exact ⟨h.2 u9 hq.1, f.tr (hq.2.mo (by decide) (by decide))⟩
set_option maxRecDepth 100000 in
theorem fr_codeItems_J201 {S0 : MS} {Q : MS → Prop} {E : MS → Prop} {U201 : MS} {t201_0 : Int32} {v201_1 : Int32} {v201_4 : Int32} {v201_5 : Int32} (f : frm [12, 13, 14, 15, 16, 17] [7, 8, 13, 35] S0 U201) (h : w_codeItems_J201 Q E U201 t201_0 v201_1 v201_4 v201_5) : w_codeItems_J201 (fun u => Q u ∧ frm [12, 13, 14, 15, 16, 17] [7, 8, 13, 35] S0 u) (fun u => E u ∧ frm [12, 13, 14, 15, 16, 17] [7, 8, 13, 35] S0 u) U201 t201_0 v201_1 v201_4 v201_5 := by
  unfold w_codeItems_J201 at h ⊢
  obtain ⟨Q9, E9, h0, h⟩ := h
  refine ⟨_, _, fr_must h0, ?_, ?_⟩
  · intro S63 hq
    replace h := h.1 S63 hq.1
    replace f := f.tr (hq.2.mo (by decide) (by decide))
    obtain ⟨Q9, E9, h0, h⟩ := h
    refine ⟨_, _, fr_within h0, ?_, ?_⟩
    · intro r66 S67 hq
      replace h := h.1 r66 S67 hq.1
      replace f := f.tr (hq.2.mo (by decide) (by decide))
      refine ⟨h.1, ?_⟩
      replace h := h.2
      intro S70 eS70
      replace h := h S70 eS70
      replace f := f.tr (show frm [12, 13, 14, 15, 16, 17] [7, 8, 13, 35] S67 S70 by rw [eS70]; exact frm.pI (by decide))
      refine ⟨h.1, ?_⟩
      replace h := h.2
      intro S72 eS72
      replace h := h S72 eS72
      replace f := f.tr (show frm [12, 13, 14, 15, 16, 17] [7, 8, 13, 35] S70 S72 by rw [eS72]; exact frm.pI (by decide))
      obtain ⟨Q9, E9, h0, h⟩ := h
      refine ⟨_, _, fr_within h0, ?_, ?_⟩
      · intro r74 S75 hq
        replace h := h.1 r74 S75 hq.1
        replace f := f.tr (hq.2.mo (by decide) (by decide))
        refine ⟨h.1, ?_⟩
        replace h := h.2
        refine ⟨h.1, ?_⟩
        replace h := h.2
        intro S81 eS81
        replace h := h S81 eS81
        replace f := f.tr (show frm [12, 13, 14, 15, 16, 17] [7, 8, 13, 35] S75 S81 by rw [eS81]; exact frm.pI (by decide))
        refine ⟨h.1, ?_⟩
        replace h := h.2
        refine ⟨fun c => ?_, fun c => ?_⟩
        · replace h := h.1 c
          exact fr_codeItems_J267 f h
        · replace h := h.2 c
          exact fr_codeItems_J267 f h
      · intro u9 hq
        exact ⟨h.2 u9 hq.1, f.tr (hq.2.mo (by decide) (by decide))⟩
    · intro u9 hq
      exact ⟨h.2 u9 hq.1, f.tr (hq.2.mo (by decide) (by decide))⟩
  · intro u9 hq
    exact ⟨h.2 u9 hq.1, f.tr (hq.2.mo (by decide) (by decide))⟩
set_option maxRecDepth 100000 in
theorem fr_codeItems_J200 {S0 : MS} {Q : MS → Prop} {E : MS → Prop} {U200 : MS} {v200_1 : Int32} {v200_4 : Int32} {v200_5 : Int32} (f : frm [12, 13, 14, 15, 16, 17] [7, 8, 13, 35] S0 U200) (h : w_codeItems_J200 Q E U200 v200_1 v200_4 v200_5) : w_codeItems_J200 (fun u => Q u ∧ frm [12, 13, 14, 15, 16, 17] [7, 8, 13, 35] S0 u) (fun u => E u ∧ frm [12, 13, 14, 15, 16, 17] [7, 8, 13, 35] S0 u) U200 v200_1 v200_4 v200_5 := by
  unfold w_codeItems_J200 at h ⊢
  exact fr_codeItems_J201 f h
set_option maxRecDepth 100000 in
theorem fr_codeItems_J157 {S0 : MS} {Q : MS → Prop} {E : MS → Prop} {U157 : MS} {t157_0 : Int32} {v157_1 : Int32} {v157_4 : Int32} (f : frm [12, 13, 14, 15, 16, 17] [7, 8, 13, 35] S0 U157) (h : w_codeItems_J157 Q E U157 t157_0 v157_1 v157_4) : w_codeItems_J157 (fun u => Q u ∧ frm [12, 13, 14, 15, 16, 17] [7, 8, 13, 35] S0 u) (fun u => E u ∧ frm [12, 13, 14, 15, 16, 17] [7, 8, 13, 35] S0 u) U157 t157_0 v157_1 v157_4 := by
  unfold w_codeItems_J157 at h ⊢
  obtain ⟨Q9, E9, h0, h⟩ := h
  refine ⟨_, _, fr_must h0, ?_, ?_⟩
  · intro S52 hq
    replace h := h.1 S52 hq.1
    replace f := f.tr (hq.2.mo (by decide) (by decide))
    obtain ⟨Q9, E9, h0, h⟩ := h
    refine ⟨_, _, fr_within h0, ?_, ?_⟩
    · intro r55 S56 hq
      replace h := h.1 r55 S56 hq.1
      replace f := f.tr (hq.2.mo (by decide) (by decide))
      refine ⟨h.1, ?_⟩
      replace h := h.2
      intro a61 ea61
      replace h := h a61 ea61
      refine ⟨fun c => ?_, fun c => ?_⟩
      · replace h := h.1 c
        exact fr_codeItems_J200 f h
      · replace h := h.2 c
        refine ⟨fun c => ?_, fun c => ?_⟩
        · replace h := h.1 c
          exact fr_codeItems_J200 f h
        · replace h := h.2 c
          exact fr_codeItems_J201 f h
    · intro u9 hq
      exact ⟨h.2 u9 hq.1, f.tr (hq.2.mo (by decide) (by decide))⟩
  · intro u9 hq
    exact ⟨h.2 u9 hq.1, f.tr (hq.2.mo (by decide) (by decide))⟩
set_option maxRecDepth 100000 in
theorem fr_codeItems_J156 {S0 : MS} {Q : MS → Prop} {E : MS → Prop} {U156 : MS} {v156_1 : Int32} {v156_4 : Int32} (f : frm [12, 13, 14, 15, 16, 17] [7, 8, 13, 35] S0 U156) (h : w_codeItems_J156 Q E U156 v156_1 v156_4) : w_codeItems_J156 (fun u => Q u ∧ frm [12, 13, 14, 15, 16, 17] [7, 8, 13, 35] S0 u) (fun u => E u ∧ frm [12, 13, 14, 15, 16, 17] [7, 8, 13, 35] S0 u) U156 v156_1 v156_4 := by
  unfold w_codeItems_J156 at h ⊢
  exact fr_codeItems_J157 f h
set_option maxRecDepth 100000 in
theorem fr_codeItems_J102 {S0 : MS} {Q : MS → Prop} {E : MS → Prop} {U102 : MS} {t102_0 : Int32} {v102_1 : Int32} {v102_3 : Int32} {v102_4 : Int32} (f : frm [12, 13, 14, 15, 16, 17] [7, 8, 13, 35] S0 U102) (h : w_codeItems_J102 Q E U102 t102_0 v102_1 v102_3 v102_4) : w_codeItems_J102 (fun u => Q u ∧ frm [12, 13, 14, 15, 16, 17] [7, 8, 13, 35] S0 u) (fun u => E u ∧ frm [12, 13, 14, 15, 16, 17] [7, 8, 13, 35] S0 u) U102 t102_0 v102_1 v102_3 v102_4 := by
  unfold w_codeItems_J102 at h ⊢
  obtain ⟨Q9, E9, h0, h⟩ := h
  refine ⟨_, _, fr_must h0, ?_, ?_⟩
  · intro S38 hq
    replace h := h.1 S38 hq.1
    replace f := f.tr (hq.2.mo (by decide) (by decide))
    obtain ⟨Q9, E9, h0, h⟩ := h
    refine ⟨_, _, fr_within h0, ?_, ?_⟩
    · intro r41 S42 hq
      replace h := h.1 r41 S42 hq.1
      replace f := f.tr (hq.2.mo (by decide) (by decide))
      refine ⟨h.1, ?_⟩
      replace h := h.2
      refine ⟨h.1, ?_⟩
      replace h := h.2
      intro S48 eS48
      replace h := h S48 eS48
      replace f := f.tr (show frm [12, 13, 14, 15, 16, 17] [7, 8, 13, 35] S42 S48 by rw [eS48]; exact frm.pI (by decide))
      refine ⟨h.1, ?_⟩
      replace h := h.2
      refine ⟨fun c => ?_, fun c => ?_⟩
      · replace h := h.1 c
        exact fr_codeItems_J156 f h
      · replace h := h.2 c
        refine ⟨h.1, ?_⟩
        replace h := h.2
        refine ⟨fun c => ?_, fun c => ?_⟩
        · replace h := h.1 c
          exact fr_codeItems_J156 f h
        · replace h := h.2 c
          exact fr_codeItems_J157 f h
    · intro u9 hq
      exact ⟨h.2 u9 hq.1, f.tr (hq.2.mo (by decide) (by decide))⟩
  · intro u9 hq
    exact ⟨h.2 u9 hq.1, f.tr (hq.2.mo (by decide) (by decide))⟩
set_option maxRecDepth 100000 in
theorem fr_codeItems {S : MS} {x1 : Int32} {Q : MS → Prop} {E : MS → Prop} (h : w_codeItems S x1 Q E) : w_codeItems S x1 (fun u => Q u ∧ frm [12, 13, 14, 15, 16, 17] [7, 8, 13, 35] S u) (fun u => E u ∧ frm [12, 13, 14, 15, 16, 17] [7, 8, 13, 35] S u) := by
  have f : frm [12, 13, 14, 15, 16, 17] [7, 8, 13, 35] S S := frm.rf
  unfold w_codeItems at h ⊢
  obtain ⟨Q9, h0, h⟩ := h
  refine ⟨_, fr_codeOf h0, ?_⟩
  · intro r3 S4 hq
    replace h := h r3 S4 hq.1
    replace f := f.tr (hq.2.mo (by decide) (by decide))
    intro S7 eS7
    replace h := h S7 eS7
    replace f := f.tr (show frm [12, 13, 14, 15, 16, 17] [7, 8, 13, 35] S4 S7 by rw [eS7]; exact frm.pI0 (by decide))
    refine ⟨h.1, ?_⟩
    replace h := h.2
    intro S14 eS14
    replace h := h S14 eS14
    replace f := f.tr (show frm [12, 13, 14, 15, 16, 17] [7, 8, 13, 35] S7 S14 by rw [eS14]; exact frm.pI0 (by decide))
    refine ⟨h.1, ?_⟩
    replace h := h.2
    refine ⟨h.1, ?_⟩
    replace h := h.2
    obtain ⟨Q9, h0, h⟩ := h
    refine ⟨_, fr_parameterPlaces h0, ?_⟩
    · intro r23 S24 hq
      replace h := h r23 S24 hq.1
      replace f := f.tr (hq.2.mo (by decide) (by decide))
      obtain ⟨Q9, E9, h0, h⟩ := h
      refine ⟨_, _, fr_within h0, ?_, ?_⟩
      · intro r27 S28 hq
        replace h := h.1 r27 S28 hq.1
        replace f := f.tr (hq.2.mo (by decide) (by decide))
        refine ⟨h.1, ?_⟩
        replace h := h.2
        refine ⟨h.1, ?_⟩
        replace h := h.2
        intro S34 eS34
        replace h := h S34 eS34
        replace f := f.tr (show frm [12, 13, 14, 15, 16, 17] [7, 8, 13, 35] S28 S34 by rw [eS34]; exact frm.pI (by decide))
        refine ⟨h.1, ?_⟩
        replace h := h.2
        refine ⟨fun c => ?_, fun c => ?_⟩
        · replace h := h.1 c
          exact fr_codeItems_J102 f h
        · replace h := h.2 c
          exact fr_codeItems_J102 f h
      · intro u9 hq
        exact ⟨h.2 u9 hq.1, f.tr (hq.2.mo (by decide) (by decide))⟩
set_option maxRecDepth 100000 in
theorem fr_codes_J27 {S0 : MS} {Q : MS → Prop} {E : MS → Prop} {k5 k5' : MS → Int32 → Prop} {U27 : MS} {t27_0 : Int32} {v27_1 : Int32} (hk5 : ∀ (u : MS) (z0), frm [] [7, 8] S0 u → k5 u z0 → k5' u z0) (f : frm [] [7, 8] S0 U27) (h : w_codes_J27 Q E k5 U27 t27_0 v27_1) : w_codes_J27 (fun u => Q u ∧ frm [] [7, 8] S0 u) (fun u => E u ∧ frm [] [7, 8] S0 u) k5' U27 t27_0 v27_1 := by
  unfold w_codes_J27 at h ⊢
  refine ⟨h.1, ?_⟩
  replace h := h.2
  obtain ⟨Q9, E9, h0, h⟩ := h
  refine ⟨_, _, fr_must h0, ?_, ?_⟩
  · intro S10 hq
    replace h := h.1 S10 hq.1
    replace f := f.tr (hq.2.mo (by decide) (by decide))
    intro a12 ea12
    replace h := h a12 ea12
    exact hk5 _ _ f h
  · intro u9 hq
    exact ⟨h.2 u9 hq.1, f.tr (hq.2.mo (by decide) (by decide))⟩
set_option maxRecDepth 100000 in
theorem fr_codes_L5 {S0 : MS} {Q : MS → Prop} {E : MS → Prop} : ∀ (n : Nat) {U5 : MS} {v5_1 : Int32}, frm [] [7, 8] S0 U5 → w_codes_L5 Q E n U5 v5_1 → w_codes_L5 (fun u => Q u ∧ frm [] [7, 8] S0 u) (fun u => E u ∧ frm [] [7, 8] S0 u) n U5 v5_1 := by
  intro n
  induction n with
  | zero => intro U5 v5_1 f h; unfold w_codes_L5 at h; exact h.elim
  | succ n ih =>
    intro U5 v5_1 f h
    unfold w_codes_L5 at h ⊢
    refine ⟨fun c => ?_, fun c => ?_⟩
    · replace h := h.1 c
      exact ⟨h, f⟩
    · replace h := h.2 c
      obtain ⟨Q9, h0, h⟩ := h
      refine ⟨_, fr_codeOf h0, ?_⟩
      · intro r4 S5 hq
        replace h := h r4 S5 hq.1
        replace f := f.tr (hq.2.mo (by decide) (by decide))
        refine ⟨fun c => ?_, fun c => ?_⟩
        · replace h := h.1 c
          exact fr_codes_J27 (fun _ _ f h => ih f h) f h
        · replace h := h.2 c
          exact fr_codes_J27 (fun _ _ f h => ih f h) f h
set_option maxRecDepth 100000 in
theorem fr_codes {S : MS} {Q : MS → Prop} {E : MS → Prop} (h : w_codes S  Q E) : w_codes S  (fun u => Q u ∧ frm [] [7, 8] S u) (fun u => E u ∧ frm [] [7, 8] S u) := by
  have f : frm [] [7, 8] S S := frm.rf
  unfold w_codes at h ⊢
  intro a1 ea1
  replace h := h a1 ea1
  obtain ⟨n9, h⟩ := h
  exact ⟨n9, fr_codes_L5 n9 f h⟩
set_option maxRecDepth 100000 in
theorem fr_collect_J183 {S0 : MS} {Q : MS → Prop} {E : MS → Prop} {k149 k149' : MS → Nat → Int32 → Int32 → Prop} {U183 : MS} {v183_1 : Nat} {v183_4 : Int32} {v183_5 : Int32} (hk149 : ∀ (u : MS) (z0) (z1) (z2), frm [28, 29, 30, 31, 32, 33] [7, 8, 47, 48, 49, 50, 51, 52, 53, 54, 73, 74] S0 u → k149 u z0 z1 z2 → k149' u z0 z1 z2) (f : frm [28, 29, 30, 31, 32, 33] [7, 8, 47, 48, 49, 50, 51, 52, 53, 54, 73, 74] S0 U183) (h : w_collect_J183 Q E k149 U183 v183_1 v183_4 v183_5) : w_collect_J183 (fun u => Q u ∧ frm [28, 29, 30, 31, 32, 33] [7, 8, 47, 48, 49, 50, 51, 52, 53, 54, 73, 74] S0 u) (fun u => E u ∧ frm [28, 29, 30, 31, 32, 33] [7, 8, 47, 48, 49, 50, 51, 52, 53, 54, 73, 74] S0 u) k149' U183 v183_1 v183_4 v183_5 := by
  unfold w_collect_J183 at h ⊢
  intro a49 ea49
  replace h := h a49 ea49
  exact hk149 _ _ _ _ f h
set_option maxRecDepth 100000 in
theorem fr_collect_L149 {S0 : MS} {Q : MS → Prop} {E : MS → Prop} {k81 k81' : MS → Nat → Int32 → Prop} (hk81 : ∀ (u : MS) (z0) (z1), frm [28, 29, 30, 31, 32, 33] [7, 8, 47, 48, 49, 50, 51, 52, 53, 54, 73, 74] S0 u → k81 u z0 z1 → k81' u z0 z1) : ∀ (n : Nat) {U149 : MS} {v149_1 : Nat} {v149_4 : Int32} {v149_5 : Int32}, frm [28, 29, 30, 31, 32, 33] [7, 8, 47, 48, 49, 50, 51, 52, 53, 54, 73, 74] S0 U149 → w_collect_L149 Q E k81 n U149 v149_1 v149_4 v149_5 → w_collect_L149 (fun u => Q u ∧ frm [28, 29, 30, 31, 32, 33] [7, 8, 47, 48, 49, 50, 51, 52, 53, 54, 73, 74] S0 u) (fun u => E u ∧ frm [28, 29, 30, 31, 32, 33] [7, 8, 47, 48, 49, 50, 51, 52, 53, 54, 73, 74] S0 u) k81' n U149 v149_1 v149_4 v149_5 := by
  intro n
  induction n with
  | zero => intro U149 v149_1 v149_4 v149_5 f h; unfold w_collect_L149 at h; exact h.elim
  | succ n ih =>
    intro U149 v149_1 v149_4 v149_5 f h
    unfold w_collect_L149 at h ⊢
    refine ⟨fun c => ?_, fun c => ?_⟩
    · replace h := h.1 c
      intro a45 ea45
      replace h := h a45 ea45
      exact hk81 _ _ _ f h
    · replace h := h.2 c
      refine ⟨h.1, ?_⟩
      replace h := h.2
      refine ⟨fun c => ?_, fun c => ?_⟩
      · replace h := h.1 c
        exact fr_collect_J183 (fun _ _ _ _ f h => ih f h) f h
      · replace h := h.2 c
        refine ⟨h.1, ?_⟩
        replace h := h.2
        refine ⟨h.1, ?_⟩
        replace h := h.2
        obtain ⟨Q9, E9, h0, h⟩ := h
        refine ⟨_, _, fr_classNumber h0, ?_, ?_⟩
        · intro r58 S59 hq
          replace h := h.1 r58 S59 hq.1
          replace f := f.tr (hq.2.mo (by decide) (by decide))
          exact fr_collect_J183 (fun _ _ _ _ f h => ih f h) f h
        · intro u9 hq
          exact ⟨h.2 u9 hq.1, f.tr (hq.2.mo (by decide) (by decide))⟩
set_option maxRecDepth 100000 in
theorem fr_collect_L124 {S0 : MS} {Q : MS → Prop} {E : MS → Prop} {k81 k81' : MS → Nat → Int32 → Prop} (hk81 : ∀ (u : MS) (z0) (z1), frm [28, 29, 30, 31, 32, 33] [7, 8, 47, 48, 49, 50, 51, 52, 53, 54, 73, 74] S0 u → k81 u z0 z1 → k81' u z0 z1) : ∀ (n : Nat) {U124 : MS} {v124_1 : Nat} {v124_4 : Int32} {v124_5 : Int32}, frm [28, 29, 30, 31, 32, 33] [7, 8, 47, 48, 49, 50, 51, 52, 53, 54, 73, 74] S0 U124 → w_collect_L124 Q E k81 n U124 v124_1 v124_4 v124_5 → w_collect_L124 (fun u => Q u ∧ frm [28, 29, 30, 31, 32, 33] [7, 8, 47, 48, 49, 50, 51, 52, 53, 54, 73, 74] S0 u) (fun u => E u ∧ frm [28, 29, 30, 31, 32, 33] [7, 8, 47, 48, 49, 50, 51, 52, 53, 54, 73, 74] S0 u) k81' n U124 v124_1 v124_4 v124_5 := by
  intro n
  induction n with
  | zero => intro U124 v124_1 v124_4 v124_5 f h; unfold w_collect_L124 at h; exact h.elim
  | succ n ih =>
    intro U124 v124_1 v124_4 v124_5 f h
    unfold w_collect_L124 at h ⊢
    refine ⟨fun c => ?_, fun c => ?_⟩
    · replace h := h.1 c
      obtain ⟨n9, h⟩ := h
      exact ⟨n9, fr_collect_L149 hk81 n9 f h⟩
    · replace h := h.2 c
      obtain ⟨Q9, E9, h0, h⟩ := h
      refine ⟨_, _, fr_needOf h0, ?_, ?_⟩
      · intro r62 S63 hq
        replace h := h.1 r62 S63 hq.1
        replace f := f.tr (hq.2.mo (by decide) (by decide))
        intro a65 ea65
        replace h := h a65 ea65
        exact ih f h
      · intro u9 hq
        exact ⟨h.2 u9 hq.1, f.tr (hq.2.mo (by decide) (by decide))⟩
set_option maxRecDepth 100000 in
theorem fr_collect_L81 {S0 : MS} {Q : MS → Prop} {E : MS → Prop} : ∀ (n : Nat) {U81 : MS} {v81_1 : Nat} {v81_4 : Int32}, frm [28, 29, 30, 31, 32, 33] [7, 8, 47, 48, 49, 50, 51, 52, 53, 54, 73, 74] S0 U81 → w_collect_L81 Q E n U81 v81_1 v81_4 → w_collect_L81 (fun u => Q u ∧ frm [28, 29, 30, 31, 32, 33] [7, 8, 47, 48, 49, 50, 51, 52, 53, 54, 73, 74] S0 u) (fun u => E u ∧ frm [28, 29, 30, 31, 32, 33] [7, 8, 47, 48, 49, 50, 51, 52, 53, 54, 73, 74] S0 u) n U81 v81_1 v81_4 := by
  intro n
  induction n with
  | zero => intro U81 v81_1 v81_4 f h; unfold w_collect_L81 at h; exact h.elim
  | succ n ih =>
    intro U81 v81_1 v81_4 f h
    unfold w_collect_L81 at h ⊢
    refine ⟨fun c => ?_, fun c => ?_⟩
    · replace h := h.1 c
      exact ⟨h, f⟩
    · replace h := h.2 c
      refine ⟨h.1, ?_⟩
      replace h := h.2
      refine ⟨h.1, ?_⟩
      replace h := h.2
      refine ⟨h.1, ?_⟩
      replace h := h.2
      obtain ⟨Q9, E9, h0, h⟩ := h
      refine ⟨_, _, fr_nameNumber h0, ?_, ?_⟩
      · intro r28 S29 hq
        replace h := h.1 r28 S29 hq.1
        replace f := f.tr (hq.2.mo (by decide) (by decide))
        refine ⟨h.1, ?_⟩
        replace h := h.2
        refine ⟨h.1, ?_⟩
        replace h := h.2
        refine ⟨h.1, ?_⟩
        replace h := h.2
        obtain ⟨Q9, E9, h0, h⟩ := h
        refine ⟨_, _, fr_nameNumber h0, ?_, ?_⟩
        · intro r37 S38 hq
          replace h := h.1 r37 S38 hq.1
          replace f := f.tr (hq.2.mo (by decide) (by decide))
          obtain ⟨Q9, h0, h⟩ := h
          refine ⟨_, fr_look h0, ?_⟩
          · intro S41 hq
            replace h := h S41 hq.1
            replace f := f.tr (hq.2.mo (by decide) (by decide))
            obtain ⟨n9, h⟩ := h
            exact ⟨n9, fr_collect_L124 (fun _ _ _ f h => ih f h) n9 f h⟩
        · intro u9 hq
          exact ⟨h.2 u9 hq.1, f.tr (hq.2.mo (by decide) (by decide))⟩
      · intro u9 hq
        exact ⟨h.2 u9 hq.1, f.tr (hq.2.mo (by decide) (by decide))⟩
set_option maxRecDepth 100000 in
theorem fr_collect_L39 {S0 : MS} {Q : MS → Prop} {E : MS → Prop} : ∀ (n : Nat) {U39 : MS} {v39_1 : Nat} {v39_4 : Int32}, frm [28, 29, 30, 31, 32, 33] [7, 8, 47, 48, 49, 50, 51, 52, 53, 54, 73, 74] S0 U39 → w_collect_L39 Q E n U39 v39_1 v39_4 → w_collect_L39 (fun u => Q u ∧ frm [28, 29, 30, 31, 32, 33] [7, 8, 47, 48, 49, 50, 51, 52, 53, 54, 73, 74] S0 u) (fun u => E u ∧ frm [28, 29, 30, 31, 32, 33] [7, 8, 47, 48, 49, 50, 51, 52, 53, 54, 73, 74] S0 u) n U39 v39_1 v39_4 := by
  intro n
  induction n with
  | zero => intro U39 v39_1 v39_4 f h; unfold w_collect_L39 at h; exact h.elim
  | succ n ih =>
    intro U39 v39_1 v39_4 f h
    unfold w_collect_L39 at h ⊢
    refine ⟨fun c => ?_, fun c => ?_⟩
    · replace h := h.1 c
      obtain ⟨n9, h⟩ := h
      exact ⟨n9, fr_collect_L81 n9 f h⟩
    · replace h := h.2 c
      refine ⟨h.1, ?_⟩
      replace h := h.2
      refine ⟨h.1, ?_⟩
      replace h := h.2
      refine ⟨h.1, ?_⟩
      replace h := h.2
      obtain ⟨Q9, E9, h0, h⟩ := h
      refine ⟨_, _, fr_nameNumber h0, ?_, ?_⟩
      · intro r72 S73 hq
        replace h := h.1 r72 S73 hq.1
        replace f := f.tr (hq.2.mo (by decide) (by decide))
        refine ⟨h.1, ?_⟩
        replace h := h.2
        refine ⟨h.1, ?_⟩
        replace h := h.2
        refine ⟨h.1, ?_⟩
        replace h := h.2
        obtain ⟨Q9, E9, h0, h⟩ := h
        refine ⟨_, _, fr_nameNumber h0, ?_, ?_⟩
        · intro r81 S82 hq
          replace h := h.1 r81 S82 hq.1
          replace f := f.tr (hq.2.mo (by decide) (by decide))
          intro a84 ea84
          replace h := h a84 ea84
          exact ih f h
        · intro u9 hq
          exact ⟨h.2 u9 hq.1, f.tr (hq.2.mo (by decide) (by decide))⟩
      · intro u9 hq
        exact ⟨h.2 u9 hq.1, f.tr (hq.2.mo (by decide) (by decide))⟩
set_option maxRecDepth 100000 in
theorem fr_collect {S : MS} {p1 : Nat} {Q : MS → Prop} {E : MS → Prop} (h : w_collect S p1 Q E) : w_collect S p1 (fun u => Q u ∧ frm [28, 29, 30, 31, 32, 33] [7, 8, 47, 48, 49, 50, 51, 52, 53, 54, 73, 74] S u) (fun u => E u ∧ frm [28, 29, 30, 31, 32, 33] [7, 8, 47, 48, 49, 50, 51, 52, 53, 54, 73, 74] S u) := by
  have f : frm [28, 29, 30, 31, 32, 33] [7, 8, 47, 48, 49, 50, 51, 52, 53, 54, 73, 74] S S := frm.rf
  unfold w_collect at h ⊢
  intro S1 eS1
  replace h := h S1 eS1
  replace f := f.tr (show frm [28, 29, 30, 31, 32, 33] [7, 8, 47, 48, 49, 50, 51, 52, 53, 54, 73, 74] S S1 by rw [eS1]; exact frm.pI0 (by decide))
  intro S2 eS2
  replace h := h S2 eS2
  replace f := f.tr (show frm [28, 29, 30, 31, 32, 33] [7, 8, 47, 48, 49, 50, 51, 52, 53, 54, 73, 74] S1 S2 by rw [eS2]; exact frm.pI0 (by decide))
  obtain ⟨Q9, E9, h0, h⟩ := h
  refine ⟨_, _, fr_nameNumber h0, ?_, ?_⟩
  · intro r5 S6 hq
    replace h := h.1 r5 S6 hq.1
    replace f := f.tr (hq.2.mo (by decide) (by decide))
    refine ⟨h.1, ?_⟩
    replace h := h.2
    obtain ⟨Q9, E9, h0, h⟩ := h
    refine ⟨_, _, fr_classNumber h0, ?_, ?_⟩
    · intro r11 S12 hq
      replace h := h.1 r11 S12 hq.1
      replace f := f.tr (hq.2.mo (by decide) (by decide))
      refine ⟨h.1, ?_⟩
      replace h := h.2
      obtain ⟨Q9, E9, h0, h⟩ := h
      refine ⟨_, _, fr_classNumber h0, ?_, ?_⟩
      · intro r17 S18 hq
        replace h := h.1 r17 S18 hq.1
        replace f := f.tr (hq.2.mo (by decide) (by decide))
        obtain ⟨n9, h⟩ := h
        exact ⟨n9, fr_collect_L39 n9 f h⟩
      · intro u9 hq
        exact ⟨h.2 u9 hq.1, f.tr (hq.2.mo (by decide) (by decide))⟩
    · intro u9 hq
      exact ⟨h.2 u9 hq.1, f.tr (hq.2.mo (by decide) (by decide))⟩
  · intro u9 hq
    exact ⟨h.2 u9 hq.1, f.tr (hq.2.mo (by decide) (by decide))⟩
set_option maxRecDepth 100000 in
theorem fr_come_J34 {S0 : MS} {Q : MS → Prop} {U34 : MS} {t34_0 : Int32} {v34_1 : Int32} {v34_3 : Int32} (f : frm [22] [57] S0 U34) (h : w_come_J34 Q U34 t34_0 v34_1 v34_3) : w_come_J34 (fun u => Q u ∧ frm [22] [57] S0 u) U34 t34_0 v34_1 v34_3 := by
  unfold w_come_J34 at h ⊢
  intro S6 eS6
  replace h := h S6 eS6
  replace f := f.tr (show frm [22] [57] U34 S6 by rw [eS6]; exact frm.pI0 (by decide))
  refine ⟨h.1, ?_⟩
  replace h := h.2
  intro S8 eS8
  replace h := h S8 eS8
  replace f := f.tr (show frm [22] [57] S6 S8 by rw [eS8]; exact frm.pI (by decide))
  exact ⟨h, f⟩
set_option maxRecDepth 100000 in
theorem fr_come_J29 {S0 : MS} {Q : MS → Prop} {U29 : MS} {v29_1 : Int32} {v29_3 : Int32} (f : frm [22] [57] S0 U29) (h : w_come_J29 Q U29 v29_1 v29_3) : w_come_J29 (fun u => Q u ∧ frm [22] [57] S0 u) U29 v29_1 v29_3 := by
  unfold w_come_J29 at h ⊢
  exact fr_come_J34 f h
set_option maxRecDepth 100000 in
theorem fr_come {S : MS} {x1 : Int32} {x2 : Int32} {Q : MS → Prop} (h : w_come S x1 x2 Q) : w_come S x1 x2 (fun u => Q u ∧ frm [22] [57] S u) := by
  have f : frm [22] [57] S S := frm.rf
  unfold w_come at h ⊢
  refine ⟨h.1, ?_⟩
  replace h := h.2
  intro a5 ea5
  replace h := h a5 ea5
  refine ⟨fun c => ?_, fun c => ?_⟩
  · replace h := h.1 c
    refine ⟨h.1, ?_⟩
    replace h := h.2
    refine ⟨fun c => ?_, fun c => ?_⟩
    · replace h := h.1 c
      exact fr_come_J34 f h
    · replace h := h.2 c
      exact fr_come_J29 f h
  · replace h := h.2 c
    exact fr_come_J29 f h
set_option maxRecDepth 100000 in
theorem fr_edge_L39 {S0 : MS} {Q : Int32 → MS → Prop} : ∀ (n : Nat) {U39 : MS} {v39_3 : Int32} {v39_4 : Int32} {v39_5 : Int32}, frm [49, 50, 51, 52, 53, 54, 55, 56, 57, 58, 59] [47, 48, 49, 50, 51, 52, 53, 54, 105, 106, 107, 110] S0 U39 → w_edge_L39 Q n U39 v39_3 v39_4 v39_5 → w_edge_L39 (fun r u => Q r u ∧ frm [49, 50, 51, 52, 53, 54, 55, 56, 57, 58, 59] [47, 48, 49, 50, 51, 52, 53, 54, 105, 106, 107, 110] S0 u) n U39 v39_3 v39_4 v39_5 := by
  intro n
  induction n with
  | zero => intro U39 v39_3 v39_4 v39_5 f h; unfold w_edge_L39 at h; exact h.elim
  | succ n ih =>
    intro U39 v39_3 v39_4 v39_5 f h
    unfold w_edge_L39 at h ⊢
    refine ⟨h.1, ?_⟩
    replace h := h.2
    refine ⟨fun c => ?_, fun c => ?_⟩
    · replace h := h.1 c
      exact ⟨h, f⟩
    · replace h := h.2 c
      refine ⟨h.1, ?_⟩
      replace h := h.2
      refine ⟨fun c => ?_, fun c => ?_⟩
      · replace h := h.1 c
        exact ⟨h, f⟩
      · replace h := h.2 c
        intro a21 ea21
        replace h := h a21 ea21
        exact ih f h
set_option maxRecDepth 100000 in
theorem fr_edge {S : MS} {x1 : Int32} {x2 : Int32} {x3 : Int32} {x4 : Int32} {Q : Int32 → MS → Prop} (h : w_edge S x1 x2 x3 x4 Q) : w_edge S x1 x2 x3 x4 (fun r u => Q r u ∧ frm [49, 50, 51, 52, 53, 54, 55, 56, 57, 58, 59] [47, 48, 49, 50, 51, 52, 53, 54, 105, 106, 107, 110] S u) := by
  have f : frm [49, 50, 51, 52, 53, 54, 55, 56, 57, 58, 59] [47, 48, 49, 50, 51, 52, 53, 54, 105, 106, 107, 110] S S := frm.rf
  unfold w_edge at h ⊢
  obtain ⟨Q9, h0, h⟩ := h
  refine ⟨_, fr_isMethod h0, ?_⟩
  · intro r2 S3 hq
    replace h := h r2 S3 hq.1
    replace f := f.tr (hq.2.mo (by decide) (by decide))
    refine ⟨fun c => ?_, fun c => ?_⟩
    · replace h := h.1 c
      exact ⟨h, f⟩
    · replace h := h.2 c
      obtain ⟨Q9, h0, h⟩ := h
      refine ⟨_, fr_graph h0, ?_⟩
      · intro S7 hq
        replace h := h S7 hq.1
        replace f := f.tr (hq.2.mo (by decide) (by decide))
        refine ⟨fun c => ?_, fun c => ?_⟩
        · replace h := h.1 c
          exact ⟨h, f⟩
        · replace h := h.2 c
          refine ⟨fun c => ?_, fun c => ?_⟩
          · replace h := h.1 c
            refine ⟨h.1, ?_⟩
            replace h := h.2
            intro a13 ea13
            replace h := h a13 ea13
            obtain ⟨n9, h⟩ := h
            exact ⟨n9, fr_edge_L39 n9 f h⟩
          · replace h := h.2 c
            exact ⟨h, f⟩
set_option maxRecDepth 100000 in
theorem fr_entries_J131 {S0 : MS} {Q : MS → Prop} {E : MS → Prop} {k2 k2' : MS → Int32 → Prop} {U131 : MS} {v131_1 : Int32} {v131_4 : Int32} (hk2 : ∀ (u : MS) (z0), frm [] [7, 8] S0 u → k2 u z0 → k2' u z0) (f : frm [] [7, 8] S0 U131) (h : w_entries_J131 Q E k2 U131 v131_1 v131_4) : w_entries_J131 (fun u => Q u ∧ frm [] [7, 8] S0 u) (fun u => E u ∧ frm [] [7, 8] S0 u) k2' U131 v131_1 v131_4 := by
  unfold w_entries_J131 at h ⊢
  refine ⟨h.1, ?_⟩
  replace h := h.2
  obtain ⟨Q9, E9, h0, h⟩ := h
  refine ⟨_, _, fr_must h0, ?_, ?_⟩
  · intro S17 hq
    replace h := h.1 S17 hq.1
    replace f := f.tr (hq.2.mo (by decide) (by decide))
    intro a19 ea19
    replace h := h a19 ea19
    exact hk2 _ _ f h
  · intro u9 hq
    exact ⟨h.2 u9 hq.1, f.tr (hq.2.mo (by decide) (by decide))⟩
set_option maxRecDepth 100000 in
theorem fr_entries_J129 {S0 : MS} {Q : MS → Prop} {E : MS → Prop} {k2 k2' : MS → Int32 → Prop} {U129 : MS} {t129_0 : Int32} {v129_1 : Int32} (hk2 : ∀ (u : MS) (z0), frm [] [7, 8] S0 u → k2 u z0 → k2' u z0) (f : frm [] [7, 8] S0 U129) (h : w_entries_J129 Q E k2 U129 t129_0 v129_1) : w_entries_J129 (fun u => Q u ∧ frm [] [7, 8] S0 u) (fun u => E u ∧ frm [] [7, 8] S0 u) k2' U129 t129_0 v129_1 := by
  unfold w_entries_J129 at h ⊢
  exact fr_entries_J131 hk2 f h
set_option maxRecDepth 100000 in
theorem fr_entries_J128 {S0 : MS} {Q : MS → Prop} {E : MS → Prop} {k2 k2' : MS → Int32 → Prop} {U128 : MS} {v128_1 : Int32} (hk2 : ∀ (u : MS) (z0), frm [] [7, 8] S0 u → k2 u z0 → k2' u z0) (f : frm [] [7, 8] S0 U128) (h : w_entries_J128 Q E k2 U128 v128_1) : w_entries_J128 (fun u => Q u ∧ frm [] [7, 8] S0 u) (fun u => E u ∧ frm [] [7, 8] S0 u) k2' U128 v128_1 := by
  unfold w_entries_J128 at h ⊢
  exact fr_entries_J129 hk2 f h
set_option maxRecDepth 100000 in
theorem fr_entries_J104 {S0 : MS} {Q : MS → Prop} {E : MS → Prop} {k2 k2' : MS → Int32 → Prop} {U104 : MS} {v104_1 : Int32} {v104_2 : Int32} {v104_3 : Int32} (hk2 : ∀ (u : MS) (z0), frm [] [7, 8] S0 u → k2 u z0 → k2' u z0) (f : frm [] [7, 8] S0 U104) (h : w_entries_J104 Q E k2 U104 v104_1 v104_2 v104_3) : w_entries_J104 (fun u => Q u ∧ frm [] [7, 8] S0 u) (fun u => E u ∧ frm [] [7, 8] S0 u) k2' U104 v104_1 v104_2 v104_3 := by
  unfold w_entries_J104 at h ⊢
  refine ⟨h.1, ?_⟩
  replace h := h.2
  refine ⟨fun c => ?_, fun c => ?_⟩
  · replace h := h.1 c
    exact fr_entries_J128 hk2 f h
  · replace h := h.2 c
    refine ⟨h.1, ?_⟩
    replace h := h.2
    refine ⟨fun c => ?_, fun c => ?_⟩
    · replace h := h.1 c
      exact fr_entries_J128 hk2 f h
    · replace h := h.2 c
      exact fr_entries_J129 hk2 f h
set_option maxRecDepth 100000 in
theorem fr_entries_J82 {S0 : MS} {Q : MS → Prop} {E : MS → Prop} {k2 k2' : MS → Int32 → Prop} {U82 : MS} {v82_1 : Int32} {v82_2 : Int32} {v82_3 : Int32} {v82_4 : Int32} (hk2 : ∀ (u : MS) (z0), frm [] [7, 8] S0 u → k2 u z0 → k2' u z0) (f : frm [] [7, 8] S0 U82) (h : w_entries_J82 Q E k2 U82 v82_1 v82_2 v82_3 v82_4) : w_entries_J82 (fun u => Q u ∧ frm [] [7, 8] S0 u) (fun u => E u ∧ frm [] [7, 8] S0 u) k2' U82 v82_1 v82_2 v82_3 v82_4 := by
  unfold w_entries_J82 at h ⊢
  refine ⟨h.1, ?_⟩
  replace h := h.2
  refine ⟨fun c => ?_, fun c => ?_⟩
  · replace h := h.1 c
    exact fr_entries_J104 hk2 f h
  · replace h := h.2 c
    refine ⟨h.1, ?_⟩
    replace h := h.2
    refine ⟨fun c => ?_, fun c => ?_⟩
    · replace h := h.1 c
      exact fr_entries_J104 hk2 f h
    · replace h := h.2 c
      exact fr_entries_J131 hk2 f h
set_option maxRecDepth 100000 in
theorem fr_entries_J80 {S0 : MS} {Q : MS → Prop} {E : MS → Prop} {k2 k2' : MS → Int32 → Prop} {U80 : MS} {t80_0 : Int32} {v80_1 : Int32} {v80_2 : Int32} {v80_3 : Int32} (hk2 : ∀ (u : MS) (z0), frm [] [7, 8] S0 u → k2 u z0 → k2' u z0) (f : frm [] [7, 8] S0 U80) (h : w_entries_J80 Q E k2 U80 t80_0 v80_1 v80_2 v80_3) : w_entries_J80 (fun u => Q u ∧ frm [] [7, 8] S0 u) (fun u => E u ∧ frm [] [7, 8] S0 u) k2' U80 t80_0 v80_1 v80_2 v80_3 := by
  unfold w_entries_J80 at h ⊢
  exact fr_entries_J82 hk2 f h
set_option maxRecDepth 100000 in
theorem fr_entries_J79 {S0 : MS} {Q : MS → Prop} {E : MS → Prop} {k2 k2' : MS → Int32 → Prop} {U79 : MS} {v79_1 : Int32} {v79_2 : Int32} {v79_3 : Int32} (hk2 : ∀ (u : MS) (z0), frm [] [7, 8] S0 u → k2 u z0 → k2' u z0) (f : frm [] [7, 8] S0 U79) (h : w_entries_J79 Q E k2 U79 v79_1 v79_2 v79_3) : w_entries_J79 (fun u => Q u ∧ frm [] [7, 8] S0 u) (fun u => E u ∧ frm [] [7, 8] S0 u) k2' U79 v79_1 v79_2 v79_3 := by
  unfold w_entries_J79 at h ⊢
  exact fr_entries_J80 hk2 f h
set_option maxRecDepth 100000 in
theorem fr_entries_J46 {S0 : MS} {Q : MS → Prop} {E : MS → Prop} {k2 k2' : MS → Int32 → Prop} {U46 : MS} {v46_1 : Int32} {v46_2 : Int32} {v46_3 : Int32} {v46_4 : Int32} (hk2 : ∀ (u : MS) (z0), frm [] [7, 8] S0 u → k2 u z0 → k2' u z0) (f : frm [] [7, 8] S0 U46) (h : w_entries_J46 Q E k2 U46 v46_1 v46_2 v46_3 v46_4) : w_entries_J46 (fun u => Q u ∧ frm [] [7, 8] S0 u) (fun u => E u ∧ frm [] [7, 8] S0 u) k2' U46 v46_1 v46_2 v46_3 v46_4 := by
  unfold w_entries_J46 at h ⊢
  refine ⟨h.1, ?_⟩
  replace h := h.2
  refine ⟨fun c => ?_, fun c => ?_⟩
  · replace h := h.1 c
    refine ⟨h.1, ?_⟩
    replace h := h.2
    refine ⟨fun c => ?_, fun c => ?_⟩
    · replace h := h.1 c
      exact fr_entries_J79 hk2 f h
    · replace h := h.2 c
      refine ⟨h.1, ?_⟩
      replace h := h.2
      refine ⟨fun c => ?_, fun c => ?_⟩
      · replace h := h.1 c
        exact fr_entries_J79 hk2 f h
      · replace h := h.2 c
        exact fr_entries_J80 hk2 f h
  · replace h := h.2 c
    exact fr_entries_J82 hk2 f h
set_option maxRecDepth 100000 in
theorem fr_entries_L2 {S0 : MS} {Q : MS → Prop} {E : MS → Prop} : ∀ (n : Nat) {U2 : MS} {v2_1 : Int32}, frm [] [7, 8] S0 U2 → w_entries_L2 Q E n U2 v2_1 → w_entries_L2 (fun u => Q u ∧ frm [] [7, 8] S0 u) (fun u => E u ∧ frm [] [7, 8] S0 u) n U2 v2_1 := by
  intro n
  induction n with
  | zero => intro U2 v2_1 f h; unfold w_entries_L2 at h; exact h.elim
  | succ n ih =>
    intro U2 v2_1 f h
    unfold w_entries_L2 at h ⊢
    refine ⟨fun c => ?_, fun c => ?_⟩
    · replace h := h.1 c
      exact ⟨h, f⟩
    · replace h := h.2 c
      refine ⟨h.1, ?_⟩
      replace h := h.2
      intro a4 ea4
      replace h := h a4 ea4
      refine ⟨h.1, ?_⟩
      replace h := h.2
      intro a7 ea7
      replace h := h a7 ea7
      refine ⟨h.1, ?_⟩
      replace h := h.2
      refine ⟨fun c => ?_, fun c => ?_⟩
      · replace h := h.1 c
        refine ⟨h.1, ?_⟩
        replace h := h.2
        intro a45 ea45
        replace h := h a45 ea45
        exact fr_entries_J46 (fun _ _ f h => ih f h) f h
      · replace h := h.2 c
        exact fr_entries_J46 (fun _ _ f h => ih f h) f h
set_option maxRecDepth 100000 in
theorem fr_entries {S : MS} {Q : MS → Prop} {E : MS → Prop} (h : w_entries S  Q E) : w_entries S  (fun u => Q u ∧ frm [] [7, 8] S u) (fun u => E u ∧ frm [] [7, 8] S u) := by
  have f : frm [] [7, 8] S S := frm.rf
  unfold w_entries at h ⊢
  obtain ⟨n9, h⟩ := h
  exact ⟨n9, fr_entries_L2 n9 f h⟩
set_option maxRecDepth 100000 in
theorem fr_nameEntry_J97 {S0 : MS} {Q : MS → Prop} {E : MS → Prop} {k54 k54' : MS → Int32 → Int32 → Int32 → Prop} {U97 : MS} {t97_0 : Int32} {v97_2 : Int32} {v97_3 : Int32} {v97_4 : Int32} (hk54 : ∀ (u : MS) (z0) (z1) (z2), frm [6, 7] [7, 8, 13] S0 u → k54 u z0 z1 z2 → k54' u z0 z1 z2) (f : frm [6, 7] [7, 8, 13] S0 U97) (h : w_nameEntry_J97 Q E k54 U97 t97_0 v97_2 v97_3 v97_4) : w_nameEntry_J97 (fun u => Q u ∧ frm [6, 7] [7, 8, 13] S0 u) (fun u => E u ∧ frm [6, 7] [7, 8, 13] S0 u) k54' U97 t97_0 v97_2 v97_3 v97_4 := by
  unfold w_nameEntry_J97 at h ⊢
  obtain ⟨Q9, E9, h0, h⟩ := h
  refine ⟨_, _, fr_must h0, ?_, ?_⟩
  · intro S26 hq
    replace h := h.1 S26 hq.1
    replace f := f.tr (hq.2.mo (by decide) (by decide))
    intro a28 ea28
    replace h := h a28 ea28
    exact hk54 _ _ _ _ f h
  · intro u9 hq
    exact ⟨h.2 u9 hq.1, f.tr (hq.2.mo (by decide) (by decide))⟩
set_option maxRecDepth 100000 in
theorem fr_nameEntry_J96 {S0 : MS} {Q : MS → Prop} {E : MS → Prop} {k54 k54' : MS → Int32 → Int32 → Int32 → Prop} {U96 : MS} {v96_2 : Int32} {v96_3 : Int32} {v96_4 : Int32} (hk54 : ∀ (u : MS) (z0) (z1) (z2), frm [6, 7] [7, 8, 13] S0 u → k54 u z0 z1 z2 → k54' u z0 z1 z2) (f : frm [6, 7] [7, 8, 13] S0 U96) (h : w_nameEntry_J96 Q E k54 U96 v96_2 v96_3 v96_4) : w_nameEntry_J96 (fun u => Q u ∧ frm [6, 7] [7, 8, 13] S0 u) (fun u => E u ∧ frm [6, 7] [7, 8, 13] S0 u) k54' U96 v96_2 v96_3 v96_4 := by
  unfold w_nameEntry_J96 at h ⊢
  exact fr_nameEntry_J97 hk54 f h
set_option maxRecDepth 100000 in
theorem fr_nameEntry_L54 {S0 : MS} {Q : MS → Prop} {E : MS → Prop} : ∀ (n : Nat) {U54 : MS} {v54_2 : Int32} {v54_3 : Int32} {v54_4 : Int32}, frm [6, 7] [7, 8, 13] S0 U54 → w_nameEntry_L54 Q E n U54 v54_2 v54_3 v54_4 → w_nameEntry_L54 (fun u => Q u ∧ frm [6, 7] [7, 8, 13] S0 u) (fun u => E u ∧ frm [6, 7] [7, 8, 13] S0 u) n U54 v54_2 v54_3 v54_4 := by
  intro n
  induction n with
  | zero => intro U54 v54_2 v54_3 v54_4 f h; unfold w_nameEntry_L54 at h; exact h.elim
  | succ n ih =>
    intro U54 v54_2 v54_3 v54_4 f h
    unfold w_nameEntry_L54 at h ⊢
    refine ⟨fun c => ?_, fun c => ?_⟩
    · replace h := h.1 c
      exact ⟨h, f⟩
    · replace h := h.2 c
      obtain ⟨Q9, E9, h0, h⟩ := h
      refine ⟨_, _, fr_over h0, ?_, ?_⟩
      · intro r18 S19 hq
        replace h := h.1 r18 S19 hq.1
        replace f := f.tr (hq.2.mo (by decide) (by decide))
        refine ⟨h.1, ?_⟩
        replace h := h.2
        refine ⟨h.1, ?_⟩
        replace h := h.2
        refine ⟨fun c => ?_, fun c => ?_⟩
        · replace h := h.1 c
          exact fr_nameEntry_J96 (fun _ _ _ _ f h => ih f h) f h
        · replace h := h.2 c
          refine ⟨h.1, ?_⟩
          replace h := h.2
          refine ⟨h.1, ?_⟩
          replace h := h.2
          refine ⟨fun c => ?_, fun c => ?_⟩
          · replace h := h.1 c
            exact fr_nameEntry_J96 (fun _ _ _ _ f h => ih f h) f h
          · replace h := h.2 c
            exact fr_nameEntry_J97 (fun _ _ _ _ f h => ih f h) f h
      · intro u9 hq
        exact ⟨h.2 u9 hq.1, f.tr (hq.2.mo (by decide) (by decide))⟩
set_option maxRecDepth 100000 in
theorem fr_nameEntry_J29 {S0 : MS} {Q : MS → Prop} {E : MS → Prop} {U29 : MS} {t29_0 : Int32} {v29_1 : Int32} {v29_2 : Int32} {v29_3 : Int32} (f : frm [6, 7] [7, 8, 13] S0 U29) (h : w_nameEntry_J29 Q E U29 t29_0 v29_1 v29_2 v29_3) : w_nameEntry_J29 (fun u => Q u ∧ frm [6, 7] [7, 8, 13] S0 u) (fun u => E u ∧ frm [6, 7] [7, 8, 13] S0 u) U29 t29_0 v29_1 v29_2 v29_3 := by
  unfold w_nameEntry_J29 at h ⊢
  obtain ⟨Q9, E9, h0, h⟩ := h
  refine ⟨_, _, fr_must h0, ?_, ?_⟩
  · intro S10 hq
    replace h := h.1 S10 hq.1
    replace f := f.tr (hq.2.mo (by decide) (by decide))
    refine ⟨h.1, ?_⟩
    replace h := h.2
    intro S13 eS13
    replace h := h S13 eS13
    replace f := f.tr (show frm [6, 7] [7, 8, 13] S10 S13 by rw [eS13]; exact frm.pI (by decide))
    refine ⟨h.1, ?_⟩
    replace h := h.2
    intro S15 eS15
    replace h := h S15 eS15
    replace f := f.tr (show frm [6, 7] [7, 8, 13] S13 S15 by rw [eS15]; exact frm.pI (by decide))
    obtain ⟨n9, h⟩ := h
    exact ⟨n9, fr_nameEntry_L54 n9 f h⟩
  · intro u9 hq
    exact ⟨h.2 u9 hq.1, f.tr (hq.2.mo (by decide) (by decide))⟩
set_option maxRecDepth 100000 in
theorem fr_nameEntry_J28 {S0 : MS} {Q : MS → Prop} {E : MS → Prop} {U28 : MS} {v28_1 : Int32} {v28_2 : Int32} {v28_3 : Int32} (f : frm [6, 7] [7, 8, 13] S0 U28) (h : w_nameEntry_J28 Q E U28 v28_1 v28_2 v28_3) : w_nameEntry_J28 (fun u => Q u ∧ frm [6, 7] [7, 8, 13] S0 u) (fun u => E u ∧ frm [6, 7] [7, 8, 13] S0 u) U28 v28_1 v28_2 v28_3 := by
  unfold w_nameEntry_J28 at h ⊢
  exact fr_nameEntry_J29 f h
set_option maxRecDepth 100000 in
theorem fr_nameEntry {S : MS} {x1 : Int32} {x2 : Int32} {Q : MS → Prop} {E : MS → Prop} (h : w_nameEntry S x1 x2 Q E) : w_nameEntry S x1 x2 (fun u => Q u ∧ frm [6, 7] [7, 8, 13] S u) (fun u => E u ∧ frm [6, 7] [7, 8, 13] S u) := by
  have f : frm [6, 7] [7, 8, 13] S S := frm.rf
  unfold w_nameEntry at h ⊢
  obtain ⟨Q9, E9, h0, h⟩ := h
  refine ⟨_, _, fr_over h0, ?_, ?_⟩
  · intro r2 S3 hq
    replace h := h.1 r2 S3 hq.1
    replace f := f.tr (hq.2.mo (by decide) (by decide))
    refine ⟨h.1, ?_⟩
    replace h := h.2
    intro a8 ea8
    replace h := h a8 ea8
    refine ⟨fun c => ?_, fun c => ?_⟩
    · replace h := h.1 c
      exact fr_nameEntry_J28 f h
    · replace h := h.2 c
      refine ⟨fun c => ?_, fun c => ?_⟩
      · replace h := h.1 c
        exact fr_nameEntry_J28 f h
      · replace h := h.2 c
        exact fr_nameEntry_J29 f h
  · intro u9 hq
    exact ⟨h.2 u9 hq.1, f.tr (hq.2.mo (by decide) (by decide))⟩
set_option maxRecDepth 100000 in
theorem fr_entry_J220 {S0 : MS} {Q : MS → Prop} {E : MS → Prop} {U220 : MS} {v220_1 : Int32} {v220_3 : Int32} (f : frm [4, 5, 6, 7, 8] [7, 8, 13] S0 U220) (h : w_entry_J220 Q E U220 v220_1 v220_3) : w_entry_J220 (fun u => Q u ∧ frm [4, 5, 6, 7, 8] [7, 8, 13] S0 u) (fun u => E u ∧ frm [4, 5, 6, 7, 8] [7, 8, 13] S0 u) U220 v220_1 v220_3 := by
  unfold w_entry_J220 at h ⊢
  refine ⟨h.1, ?_⟩
  replace h := h.2
  intro S12 eS12
  replace h := h S12 eS12
  replace f := f.tr (show frm [4, 5, 6, 7, 8] [7, 8, 13] U220 S12 by rw [eS12]; exact frm.pI (by decide))
  exact ⟨h, f⟩
set_option maxRecDepth 100000 in
theorem fr_entry {S : MS} {x1 : Int32} {Q : MS → Prop} {E : MS → Prop} (h : w_entry S x1 Q E) : w_entry S x1 (fun u => Q u ∧ frm [4, 5, 6, 7, 8] [7, 8, 13] S u) (fun u => E u ∧ frm [4, 5, 6, 7, 8] [7, 8, 13] S u) := by
  have f : frm [4, 5, 6, 7, 8] [7, 8, 13] S S := frm.rf
  unfold w_entry at h ⊢
  obtain ⟨Q9, E9, h0, h⟩ := h
  refine ⟨_, _, fr_over h0, ?_, ?_⟩
  · intro r2 S3 hq
    replace h := h.1 r2 S3 hq.1
    replace f := f.tr (hq.2.mo (by decide) (by decide))
    refine ⟨h.1, ?_⟩
    replace h := h.2
    intro S6 eS6
    replace h := h S6 eS6
    replace f := f.tr (show frm [4, 5, 6, 7, 8] [7, 8, 13] S3 S6 by rw [eS6]; exact frm.pI (by decide))
    refine ⟨h.1, ?_⟩
    replace h := h.2
    intro a10 ea10
    replace h := h a10 ea10
    refine ⟨fun c => ?_, fun c => ?_⟩
    · replace h := h.1 c
      obtain ⟨Q9, E9, h0, h⟩ := h
      refine ⟨_, _, fr_nameEntry h0, ?_, ?_⟩
      · intro S14 hq
        replace h := h.1 S14 hq.1
        replace f := f.tr (hq.2.mo (by decide) (by decide))
        exact fr_entry_J220 f h
      · intro u9 hq
        exact ⟨h.2 u9 hq.1, f.tr (hq.2.mo (by decide) (by decide))⟩
    · replace h := h.2 c
      refine ⟨fun c => ?_, fun c => ?_⟩
      · replace h := h.1 c
        obtain ⟨Q9, h0, h⟩ := h
        refine ⟨_, fr_broken h0, ?_⟩
        · intro b20 S18 hq
          replace h := h b20 S18 hq.1
          replace f := f.tr (hq.2.mo (by decide) (by decide))
          exact ⟨h, f⟩
      · replace h := h.2 c
        refine ⟨fun c => ?_, fun c => ?_⟩
        · replace h := h.1 c
          obtain ⟨Q9, E9, h0, h⟩ := h
          refine ⟨_, _, fr_over h0, ?_, ?_⟩
          · intro r22 S23 hq
            replace h := h.1 r22 S23 hq.1
            replace f := f.tr (hq.2.mo (by decide) (by decide))
            refine ⟨h.1, ?_⟩
            replace h := h.2
            refine ⟨h.1, ?_⟩
            replace h := h.2
            intro S29 eS29
            replace h := h S29 eS29
            replace f := f.tr (show frm [4, 5, 6, 7, 8] [7, 8, 13] S23 S29 by rw [eS29]; exact frm.pJ (by decide))
            exact fr_entry_J220 f h
          · intro u9 hq
            exact ⟨h.2 u9 hq.1, f.tr (hq.2.mo (by decide) (by decide))⟩
        · replace h := h.2 c
          refine ⟨fun c => ?_, fun c => ?_⟩
          · replace h := h.1 c
            obtain ⟨Q9, h0, h⟩ := h
            refine ⟨_, fr_broken h0, ?_⟩
            · intro b34 S32 hq
              replace h := h b34 S32 hq.1
              replace f := f.tr (hq.2.mo (by decide) (by decide))
              exact ⟨h, f⟩
          · replace h := h.2 c
            refine ⟨fun c => ?_, fun c => ?_⟩
            · replace h := h.1 c
              obtain ⟨Q9, E9, h0, h⟩ := h
              refine ⟨_, _, fr_over h0, ?_, ?_⟩
              · intro r36 S37 hq
                replace h := h.1 r36 S37 hq.1
                replace f := f.tr (hq.2.mo (by decide) (by decide))
                refine ⟨h.1, ?_⟩
                replace h := h.2
                refine ⟨h.1, ?_⟩
                replace h := h.2
                refine ⟨h.1, ?_⟩
                replace h := h.2
                intro S49 eS49
                replace h := h S49 eS49
                replace f := f.tr (show frm [4, 5, 6, 7, 8] [7, 8, 13] S37 S49 by rw [eS49]; exact frm.pJ (by decide))
                exact fr_entry_J220 f h
              · intro u9 hq
                exact ⟨h.2 u9 hq.1, f.tr (hq.2.mo (by decide) (by decide))⟩
            · replace h := h.2 c
              refine ⟨fun c => ?_, fun c => ?_⟩
              · replace h := h.1 c
                obtain ⟨Q9, h0, h⟩ := h
                refine ⟨_, fr_broken h0, ?_⟩
                · intro b54 S52 hq
                  replace h := h b54 S52 hq.1
                  replace f := f.tr (hq.2.mo (by decide) (by decide))
                  exact ⟨h, f⟩
              · replace h := h.2 c
                refine ⟨fun c => ?_, fun c => ?_⟩
                · replace h := h.1 c
                  obtain ⟨Q9, E9, h0, h⟩ := h
                  refine ⟨_, _, fr_over h0, ?_, ?_⟩
                  · intro r56 S57 hq
                    replace h := h.1 r56 S57 hq.1
                    replace f := f.tr (hq.2.mo (by decide) (by decide))
                    refine ⟨h.1, ?_⟩
                    replace h := h.2
                    refine ⟨h.1, ?_⟩
                    replace h := h.2
                    intro S63 eS63
                    replace h := h S63 eS63
                    replace f := f.tr (show frm [4, 5, 6, 7, 8] [7, 8, 13] S57 S63 by rw [eS63]; exact frm.pI (by decide))
                    exact fr_entry_J220 f h
                  · intro u9 hq
                    exact ⟨h.2 u9 hq.1, f.tr (hq.2.mo (by decide) (by decide))⟩
                · replace h := h.2 c
                  refine ⟨fun c => ?_, fun c => ?_⟩
                  · replace h := h.1 c
                    obtain ⟨Q9, h0, h⟩ := h
                    refine ⟨_, fr_broken h0, ?_⟩
                    · intro b68 S66 hq
                      replace h := h b68 S66 hq.1
                      replace f := f.tr (hq.2.mo (by decide) (by decide))
                      exact ⟨h, f⟩
                  · replace h := h.2 c
                    refine ⟨fun c => ?_, fun c => ?_⟩
                    · replace h := h.1 c
                      obtain ⟨Q9, E9, h0, h⟩ := h
                      refine ⟨_, _, fr_over h0, ?_, ?_⟩
                      · intro r70 S71 hq
                        replace h := h.1 r70 S71 hq.1
                        replace f := f.tr (hq.2.mo (by decide) (by decide))
                        refine ⟨h.1, ?_⟩
                        replace h := h.2
                        refine ⟨h.1, ?_⟩
                        replace h := h.2
                        intro S77 eS77
                        replace h := h S77 eS77
                        replace f := f.tr (show frm [4, 5, 6, 7, 8] [7, 8, 13] S71 S77 by rw [eS77]; exact frm.pI (by decide))
                        obtain ⟨Q9, E9, h0, h⟩ := h
                        refine ⟨_, _, fr_over h0, ?_, ?_⟩
                        · intro r79 S80 hq
                          replace h := h.1 r79 S80 hq.1
                          replace f := f.tr (hq.2.mo (by decide) (by decide))
                          refine ⟨h.1, ?_⟩
                          replace h := h.2
                          refine ⟨h.1, ?_⟩
                          replace h := h.2
                          intro S86 eS86
                          replace h := h S86 eS86
                          replace f := f.tr (show frm [4, 5, 6, 7, 8] [7, 8, 13] S80 S86 by rw [eS86]; exact frm.pI (by decide))
                          exact fr_entry_J220 f h
                        · intro u9 hq
                          exact ⟨h.2 u9 hq.1, f.tr (hq.2.mo (by decide) (by decide))⟩
                      · intro u9 hq
                        exact ⟨h.2 u9 hq.1, f.tr (hq.2.mo (by decide) (by decide))⟩
                    · replace h := h.2 c
                      refine ⟨fun c => ?_, fun c => ?_⟩
                      · replace h := h.1 c
                        obtain ⟨Q9, E9, h0, h⟩ := h
                        refine ⟨_, _, fr_over h0, ?_, ?_⟩
                        · intro r88 S89 hq
                          replace h := h.1 r88 S89 hq.1
                          replace f := f.tr (hq.2.mo (by decide) (by decide))
                          refine ⟨h.1, ?_⟩
                          replace h := h.2
                          refine ⟨h.1, ?_⟩
                          replace h := h.2
                          intro S95 eS95
                          replace h := h S95 eS95
                          replace f := f.tr (show frm [4, 5, 6, 7, 8] [7, 8, 13] S89 S95 by rw [eS95]; exact frm.pI (by decide))
                          obtain ⟨Q9, E9, h0, h⟩ := h
                          refine ⟨_, _, fr_over h0, ?_, ?_⟩
                          · intro r97 S98 hq
                            replace h := h.1 r97 S98 hq.1
                            replace f := f.tr (hq.2.mo (by decide) (by decide))
                            refine ⟨h.1, ?_⟩
                            replace h := h.2
                            refine ⟨h.1, ?_⟩
                            replace h := h.2
                            intro S104 eS104
                            replace h := h S104 eS104
                            replace f := f.tr (show frm [4, 5, 6, 7, 8] [7, 8, 13] S98 S104 by rw [eS104]; exact frm.pI (by decide))
                            exact fr_entry_J220 f h
                          · intro u9 hq
                            exact ⟨h.2 u9 hq.1, f.tr (hq.2.mo (by decide) (by decide))⟩
                        · intro u9 hq
                          exact ⟨h.2 u9 hq.1, f.tr (hq.2.mo (by decide) (by decide))⟩
                      · replace h := h.2 c
                        refine ⟨fun c => ?_, fun c => ?_⟩
                        · replace h := h.1 c
                          obtain ⟨Q9, h0, h⟩ := h
                          refine ⟨_, fr_broken h0, ?_⟩
                          · intro b109 S107 hq
                            replace h := h b109 S107 hq.1
                            replace f := f.tr (hq.2.mo (by decide) (by decide))
                            exact ⟨h, f⟩
                        · replace h := h.2 c
                          refine ⟨fun c => ?_, fun c => ?_⟩
                          · replace h := h.1 c
                            obtain ⟨Q9, E9, h0, h⟩ := h
                            refine ⟨_, _, fr_over h0, ?_, ?_⟩
                            · intro r111 S112 hq
                              replace h := h.1 r111 S112 hq.1
                              replace f := f.tr (hq.2.mo (by decide) (by decide))
                              refine ⟨h.1, ?_⟩
                              replace h := h.2
                              refine ⟨h.1, ?_⟩
                              replace h := h.2
                              intro S118 eS118
                              replace h := h S118 eS118
                              replace f := f.tr (show frm [4, 5, 6, 7, 8] [7, 8, 13] S112 S118 by rw [eS118]; exact frm.pI (by decide))
                              obtain ⟨Q9, E9, h0, h⟩ := h
                              refine ⟨_, _, fr_over h0, ?_, ?_⟩
                              · intro r120 S121 hq
                                replace h := h.1 r120 S121 hq.1
                                replace f := f.tr (hq.2.mo (by decide) (by decide))
                                refine ⟨h.1, ?_⟩
                                replace h := h.2
                                refine ⟨h.1, ?_⟩
                                replace h := h.2
                                intro S127 eS127
                                replace h := h S127 eS127
                                replace f := f.tr (show frm [4, 5, 6, 7, 8] [7, 8, 13] S121 S127 by rw [eS127]; exact frm.pI (by decide))
                                exact fr_entry_J220 f h
                              · intro u9 hq
                                exact ⟨h.2 u9 hq.1, f.tr (hq.2.mo (by decide) (by decide))⟩
                            · intro u9 hq
                              exact ⟨h.2 u9 hq.1, f.tr (hq.2.mo (by decide) (by decide))⟩
                          · replace h := h.2 c
                            obtain ⟨Q9, h0, h⟩ := h
                            refine ⟨_, fr_broken h0, ?_⟩
                            · intro b132 S130 hq
                              replace h := h b132 S130 hq.1
                              replace f := f.tr (hq.2.mo (by decide) (by decide))
                              exact ⟨h, f⟩
  · intro u9 hq
    exact ⟨h.2 u9 hq.1, f.tr (hq.2.mo (by decide) (by decide))⟩
