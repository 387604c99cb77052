set_option maxRecDepth 100000 in
theorem fr_grown_J14 {S0 : MS} {Q : MS → Prop} {E : MS → Prop} {U14 : MS} {t14_0 : Int32} {v14_1 : Int32} {v14_2 : Int32} {v14_3 : Int32} (f : frm [19] [7, 8, 41] S0 U14) (h : w_grown_J14 Q E U14 t14_0 v14_1 v14_2 v14_3) : w_grown_J14 (fun u => Q u ∧ frm [19] [7, 8, 41] S0 u) (fun u => E u ∧ frm [19] [7, 8, 41] S0 u) U14 t14_0 v14_1 v14_2 v14_3 := by
  unfold w_grown_J14 at h ⊢
  obtain ⟨Q9, E9, h0, h⟩ := h
  refine ⟨_, _, fr_point h0, ?_, ?_⟩
  · intro S2 hq
    replace h := h.1 S2 hq.1
    replace f := f.tr (hq.2.mo (by decide) (by decide))
    obtain ⟨Q9, h0, h⟩ := h
    refine ⟨_, fr_row h0, ?_⟩
    · intro S5 hq
      replace h := h S5 hq.1
      replace f := f.tr (hq.2.mo (by decide) (by decide))
      exact ⟨h, f⟩
  · intro u9 hq
    exact ⟨h.2 u9 hq.1, f.tr (hq.2.mo (by decide) (by decide))⟩
set_option maxRecDepth 100000 in
theorem fr_grown {S : MS} {x1 : Int32} {x2 : Int32} {x3 : Int32} {Q : MS → Prop} {E : MS → Prop} (h : w_grown S x1 x2 x3 Q E) : w_grown S x1 x2 x3 (fun u => Q u ∧ frm [19] [7, 8, 41] S u) (fun u => E u ∧ frm [19] [7, 8, 41] S u) := by
  have f : frm [19] [7, 8, 41] S S := frm.rf
  unfold w_grown at h ⊢
  refine ⟨fun c => ?_, fun c => ?_⟩
  · replace h := h.1 c
    exact fr_grown_J14 f h
  · replace h := h.2 c
    exact fr_grown_J14 f h
set_option maxRecDepth 100000 in
theorem fr_localRow_J36 {S0 : MS} {Q : MS → Prop} {E : MS → Prop} {U36 : MS} {t36_0 : Int32} {v36_1 : Int32} {v36_2 : Int32} {v36_3 : Int32} (f : frm [19] [7, 8, 41] S0 U36) (h : w_localRow_J36 Q E U36 t36_0 v36_1 v36_2 v36_3) : w_localRow_J36 (fun u => Q u ∧ frm [19] [7, 8, 41] S0 u) (fun u => E u ∧ frm [19] [7, 8, 41] S0 u) U36 t36_0 v36_1 v36_2 v36_3 := by
  unfold w_localRow_J36 at h ⊢
  obtain ⟨Q9, E9, h0, h⟩ := h
  refine ⟨_, _, fr_point h0, ?_, ?_⟩
  · intro S3 hq
    replace h := h.1 S3 hq.1
    replace f := f.tr (hq.2.mo (by decide) (by decide))
    obtain ⟨Q9, h0, h⟩ := h
    refine ⟨_, fr_row h0, ?_⟩
    · intro S6 hq
      replace h := h S6 hq.1
      replace f := f.tr (hq.2.mo (by decide) (by decide))
      exact ⟨h, f⟩
  · intro u9 hq
    exact ⟨h.2 u9 hq.1, f.tr (hq.2.mo (by decide) (by decide))⟩
set_option maxRecDepth 100000 in
theorem fr_localRow_J17 {S0 : MS} {Q : MS → Prop} {E : MS → Prop} {U17 : MS} {t17_0 : Int32} {v17_1 : Int32} {v17_2 : Int32} {v17_3 : Int32} (f : frm [19] [7, 8, 41] S0 U17) (h : w_localRow_J17 Q E U17 t17_0 v17_1 v17_2 v17_3) : w_localRow_J17 (fun u => Q u ∧ frm [19] [7, 8, 41] S0 u) (fun u => E u ∧ frm [19] [7, 8, 41] S0 u) U17 t17_0 v17_1 v17_2 v17_3 := by
  unfold w_localRow_J17 at h ⊢
  refine ⟨fun c => ?_, fun c => ?_⟩
  · replace h := h.1 c
    exact fr_localRow_J36 f h
  · replace h := h.2 c
    exact fr_localRow_J36 f h
set_option maxRecDepth 100000 in
theorem fr_localRow_J12 {S0 : MS} {Q : MS → Prop} {E : MS → Prop} {U12 : MS} {v12_1 : Int32} {v12_2 : Int32} {v12_3 : Int32} (f : frm [19] [7, 8, 41] S0 U12) (h : w_localRow_J12 Q E U12 v12_1 v12_2 v12_3) : w_localRow_J12 (fun u => Q u ∧ frm [19] [7, 8, 41] S0 u) (fun u => E u ∧ frm [19] [7, 8, 41] S0 u) U12 v12_1 v12_2 v12_3 := by
  unfold w_localRow_J12 at h ⊢
  exact fr_localRow_J17 f h
set_option maxRecDepth 100000 in
theorem fr_localRow {S : MS} {x1 : Int32} {x2 : Int32} {x3 : Int32} {Q : MS → Prop} {E : MS → Prop} (h : w_localRow S x1 x2 x3 Q E) : w_localRow S x1 x2 x3 (fun u => Q u ∧ frm [19] [7, 8, 41] S u) (fun u => E u ∧ frm [19] [7, 8, 41] S u) := by
  have f : frm [19] [7, 8, 41] S S := frm.rf
  unfold w_localRow at h ⊢
  refine ⟨fun c => ?_, fun c => ?_⟩
  · replace h := h.1 c
    exact fr_localRow_J12 f h
  · replace h := h.2 c
    refine ⟨fun c => ?_, fun c => ?_⟩
    · replace h := h.1 c
      exact fr_localRow_J12 f h
    · replace h := h.2 c
      exact fr_localRow_J17 f h
set_option maxRecDepth 100000 in
theorem fr_isSame_L19 {S0 : MS} {Q : Int32 → MS → Prop} : ∀ (n : Nat) {U19 : MS} {v19_1 : Int32} {v19_2 : Int32} {v19_3 : Int32}, frm [] [] S0 U19 → w_isSame_L19 Q n U19 v19_1 v19_2 v19_3 → w_isSame_L19 (fun r u => Q r u ∧ frm [] [] S0 u) n U19 v19_1 v19_2 v19_3 := by
  intro n
  induction n with
  | zero => intro U19 v19_1 v19_2 v19_3 f h; unfold w_isSame_L19 at h; exact h.elim
  | succ n ih =>
    intro U19 v19_1 v19_2 v19_3 f h
    unfold w_isSame_L19 at h ⊢
    refine ⟨h.1, ?_⟩
    replace h := h.2
    refine ⟨fun c => ?_, fun c => ?_⟩
    · replace h := h.1 c
      exact ⟨h, f⟩
    · replace h := h.2 c
      refine ⟨h.1, ?_⟩
      replace h := h.2
      refine ⟨h.1, ?_⟩
      replace h := h.2
      refine ⟨fun c => ?_, fun c => ?_⟩
      · replace h := h.1 c
        intro a16 ea16
        replace h := h a16 ea16
        exact ih f h
      · replace h := h.2 c
        exact ⟨h, f⟩
set_option maxRecDepth 100000 in
theorem fr_isSame {S : MS} {x1 : Int32} {x2 : Int32} {Q : Int32 → MS → Prop} (h : w_isSame S x1 x2 Q) : w_isSame S x1 x2 (fun r u => Q r u ∧ frm [] [] S u) := by
  have f : frm [] [] S S := frm.rf
  unfold w_isSame at h ⊢
  refine ⟨h.1, ?_⟩
  replace h := h.2
  refine ⟨h.1, ?_⟩
  replace h := h.2
  refine ⟨fun c => ?_, fun c => ?_⟩
  · replace h := h.1 c
    obtain ⟨n9, h⟩ := h
    exact ⟨n9, fr_isSame_L19 n9 f h⟩
  · replace h := h.2 c
    exact ⟨h, f⟩
set_option maxRecDepth 100000 in
theorem fr_member_J193 {S0 : MS} {Q : Int32 → MS → Prop} {E : MS → Prop} {U193 : MS} {t193_0 : Int32} {v193_1 : Int32} {v193_7 : Int32} (f : frm [] [7, 8] S0 U193) (h : w_member_J193 Q E U193 t193_0 v193_1 v193_7) : w_member_J193 (fun r u => Q r u ∧ frm [] [7, 8] S0 u) (fun u => E u ∧ frm [] [7, 8] S0 u) U193 t193_0 v193_1 v193_7 := by
  unfold w_member_J193 at h ⊢
  obtain ⟨Q9, E9, h0, h⟩ := h
  refine ⟨_, _, fr_point h0, ?_, ?_⟩
  · intro S35 hq
    replace h := h.1 S35 hq.1
    replace f := f.tr (hq.2.mo (by decide) (by decide))
    exact ⟨h, f⟩
  · intro u9 hq
    exact ⟨h.2 u9 hq.1, f.tr (hq.2.mo (by decide) (by decide))⟩
set_option maxRecDepth 100000 in
theorem fr_member_J176 {S0 : MS} {Q : Int32 → MS → Prop} {E : MS → Prop} {k108 k108' : MS → Int32 → Int32 → Int32 → Int32 → Int32 → Int32 → Prop} {U176 : MS} {v176_1 : Int32} {v176_4 : Int32} {v176_5 : Int32} {v176_6 : Int32} {v176_7 : Int32} {v176_8 : Int32} (hk108 : ∀ (u : MS) (z0) (z1) (z2) (z3) (z4) (z5), frm [] [7, 8] S0 u → k108 u z0 z1 z2 z3 z4 z5 → k108' u z0 z1 z2 z3 z4 z5) (f : frm [] [7, 8] S0 U176) (h : w_member_J176 Q E k108 U176 v176_1 v176_4 v176_5 v176_6 v176_7 v176_8) : w_member_J176 (fun r u => Q r u ∧ frm [] [7, 8] S0 u) (fun u => E u ∧ frm [] [7, 8] S0 u) k108' U176 v176_1 v176_4 v176_5 v176_6 v176_7 v176_8 := by
  unfold w_member_J176 at h ⊢
  intro a50 ea50
  replace h := h a50 ea50
  exact hk108 _ _ _ _ _ _ _ f h
set_option maxRecDepth 100000 in
theorem fr_member_L108 {S0 : MS} {Q : Int32 → MS → Prop} {E : MS → Prop} : ∀ (n : Nat) {U108 : MS} {v108_1 : Int32} {v108_4 : Int32} {v108_5 : Int32} {v108_6 : Int32} {v108_7 : Int32} {v108_8 : Int32}, frm [] [7, 8] S0 U108 → w_member_L108 Q E n U108 v108_1 v108_4 v108_5 v108_6 v108_7 v108_8 → w_member_L108 (fun r u => Q r u ∧ frm [] [7, 8] S0 u) (fun u => E u ∧ frm [] [7, 8] S0 u) n U108 v108_1 v108_4 v108_5 v108_6 v108_7 v108_8 := by
  intro n
  induction n with
  | zero => intro U108 v108_1 v108_4 v108_5 v108_6 v108_7 v108_8 f h; unfold w_member_L108 at h; exact h.elim
  | succ n ih =>
    intro U108 v108_1 v108_4 v108_5 v108_6 v108_7 v108_8 f h
    unfold w_member_L108 at h ⊢
    refine ⟨fun c => ?_, fun c => ?_⟩
    · replace h := h.1 c
      refine ⟨fun c => ?_, fun c => ?_⟩
      · replace h := h.1 c
        exact fr_member_J193 f h
      · replace h := h.2 c
        exact fr_member_J193 f h
    · replace h := h.2 c
      refine ⟨h.1, ?_⟩
      replace h := h.2
      refine ⟨h.1, ?_⟩
      replace h := h.2
      refine ⟨h.1, ?_⟩
      replace h := h.2
      obtain ⟨Q9, h0, h⟩ := h
      refine ⟨_, fr_isSame h0, ?_⟩
      · intro r47 S48 hq
        replace h := h r47 S48 hq.1
        replace f := f.tr (hq.2.mo (by decide) (by decide))
        refine ⟨fun c => ?_, fun c => ?_⟩
        · replace h := h.1 c
          exact fr_member_J176 (fun _ _ _ _ _ _ _ f h => ih f h) f h
        · replace h := h.2 c
          refine ⟨h.1, ?_⟩
          replace h := h.2
          refine ⟨h.1, ?_⟩
          replace h := h.2
          refine ⟨h.1, ?_⟩
          replace h := h.2
          obtain ⟨Q9, h0, h⟩ := h
          refine ⟨_, fr_isSame h0, ?_⟩
          · intro r61 S62 hq
            replace h := h r61 S62 hq.1
            replace f := f.tr (hq.2.mo (by decide) (by decide))
            refine ⟨fun c => ?_, fun c => ?_⟩
            · replace h := h.1 c
              exact fr_member_J176 (fun _ _ _ _ _ _ _ f h => ih f h) f h
            · replace h := h.2 c
              intro a66 ea66
              replace h := h a66 ea66
              exact fr_member_J176 (fun _ _ _ _ _ _ _ f h => ih f h) f h
set_option maxRecDepth 100000 in
theorem fr_member_J99 {S0 : MS} {Q : Int32 → MS → Prop} {E : MS → Prop} {U99 : MS} {t99_0 : Int32} {v99_1 : Int32} {v99_4 : Int32} {v99_5 : Int32} (f : frm [] [7, 8] S0 U99) (h : w_member_J99 Q E U99 t99_0 v99_1 v99_4 v99_5) : w_member_J99 (fun r u => Q r u ∧ frm [] [7, 8] S0 u) (fun u => E u ∧ frm [] [7, 8] S0 u) U99 t99_0 v99_1 v99_4 v99_5 := by
  unfold w_member_J99 at h ⊢
  obtain ⟨n9, h⟩ := h
  exact ⟨n9, fr_member_L108 n9 f h⟩
set_option maxRecDepth 100000 in
theorem fr_member_J80 {S0 : MS} {Q : Int32 → MS → Prop} {E : MS → Prop} {U80 : MS} {t80_0 : Int32} {v80_1 : Int32} {v80_2 : Int32} {v80_4 : Int32} (f : frm [] [7, 8] S0 U80) (h : w_member_J80 Q E U80 t80_0 v80_1 v80_2 v80_4) : w_member_J80 (fun r u => Q r u ∧ frm [] [7, 8] S0 u) (fun u => E u ∧ frm [] [7, 8] S0 u) U80 t80_0 v80_1 v80_2 v80_4 := by
  unfold w_member_J80 at h ⊢
  refine ⟨fun c => ?_, fun c => ?_⟩
  · replace h := h.1 c
    exact fr_member_J99 f h
  · replace h := h.2 c
    exact fr_member_J99 f h
set_option maxRecDepth 100000 in
theorem fr_member {S : MS} {x1 : Int32} {x2 : Int32} {Q : Int32 → MS → Prop} {E : MS → Prop} (h : w_member S x1 x2 Q E) : w_member S x1 x2 (fun r u => Q r u ∧ frm [] [7, 8] S u) (fun u => E u ∧ frm [] [7, 8] S u) := by
  have f : frm [] [7, 8] S S := frm.rf
  unfold w_member at h ⊢
  refine ⟨h.1, ?_⟩
  replace h := h.2
  intro a6 ea6
  replace h := h a6 ea6
  refine ⟨h.1, ?_⟩
  replace h := h.2
  obtain ⟨Q9, E9, h0, h⟩ := h
  refine ⟨_, _, fr_point h0, ?_, ?_⟩
  · intro S11 hq
    replace h := h.1 S11 hq.1
    replace f := f.tr (hq.2.mo (by decide) (by decide))
    refine ⟨h.1, ?_⟩
    replace h := h.2
    intro a15 ea15
    replace h := h a15 ea15
    refine ⟨h.1, ?_⟩
    replace h := h.2
    refine ⟨h.1, ?_⟩
    replace h := h.2
    refine ⟨h.1, ?_⟩
    replace h := h.2
    refine ⟨h.1, ?_⟩
    replace h := h.2
    obtain ⟨Q9, h0, h⟩ := h
    refine ⟨_, fr_isSame h0, ?_⟩
    · intro r27 S28 hq
      replace h := h r27 S28 hq.1
      replace f := f.tr (hq.2.mo (by decide) (by decide))
      obtain ⟨Q9, E9, h0, h⟩ := h
      refine ⟨_, _, fr_point h0, ?_, ?_⟩
      · intro S31 hq
        replace h := h.1 S31 hq.1
        replace f := f.tr (hq.2.mo (by decide) (by decide))
        refine ⟨fun c => ?_, fun c => ?_⟩
        · replace h := h.1 c
          exact fr_member_J80 f h
        · replace h := h.2 c
          exact fr_member_J80 f h
      · intro u9 hq
        exact ⟨h.2 u9 hq.1, f.tr (hq.2.mo (by decide) (by decide))⟩
  · intro u9 hq
    exact ⟨h.2 u9 hq.1, f.tr (hq.2.mo (by decide) (by decide))⟩
set_option maxRecDepth 100000 in
theorem fr_pushed {S : MS} {x1 : Int32} {x2 : Int32} {x3 : Int32} {Q : MS → Prop} {E : MS → Prop} (h : w_pushed S x1 x2 x3 Q E) : w_pushed S x1 x2 x3 (fun u => Q u ∧ frm [19] [7, 8, 41] S u) (fun u => E u ∧ frm [19] [7, 8, 41] S u) := by
  have f : frm [19] [7, 8, 41] S S := frm.rf
  unfold w_pushed at h ⊢
  refine ⟨h.1, ?_⟩
  replace h := h.2
  obtain ⟨Q9, E9, h0, h⟩ := h
  refine ⟨_, _, fr_point h0, ?_, ?_⟩
  · intro S5 hq
    replace h := h.1 S5 hq.1
    replace f := f.tr (hq.2.mo (by decide) (by decide))
    refine ⟨fun c => ?_, fun c => ?_⟩
    · replace h := h.1 c
      refine ⟨h.1, ?_⟩
      replace h := h.2
      obtain ⟨Q9, h0, h⟩ := h
      refine ⟨_, fr_row h0, ?_⟩
      · intro S18 hq
        replace h := h S18 hq.1
        replace f := f.tr (hq.2.mo (by decide) (by decide))
        exact ⟨h, f⟩
    · replace h := h.2 c
      refine ⟨h.1, ?_⟩
      replace h := h.2
      refine ⟨h.1, ?_⟩
      replace h := h.2
      obtain ⟨Q9, h0, h⟩ := h
      refine ⟨_, fr_row h0, ?_⟩
      · intro S13 hq
        replace h := h S13 hq.1
        replace f := f.tr (hq.2.mo (by decide) (by decide))
        exact ⟨h, f⟩
  · intro u9 hq
    exact ⟨h.2 u9 hq.1, f.tr (hq.2.mo (by decide) (by decide))⟩
set_option maxRecDepth 100000 in
theorem fr_target {S : MS} {x1 : Int32} {x2 : Int32} {Q : Int32 → MS → Prop} {E : MS → Prop} (h : w_target S x1 x2 Q E) : w_target S x1 x2 (fun r u => Q r u ∧ frm [] [7, 8] S u) (fun u => E u ∧ frm [] [7, 8] S u) := by
  have f : frm [] [7, 8] S S := frm.rf
  unfold w_target at h ⊢
  refine ⟨h.1, ?_⟩
  replace h := h.2
  obtain ⟨Q9, E9, h0, h⟩ := h
  refine ⟨_, _, fr_point h0, ?_, ?_⟩
  · intro S6 hq
    replace h := h.1 S6 hq.1
    replace f := f.tr (hq.2.mo (by decide) (by decide))
    refine ⟨h.1, ?_⟩
    replace h := h.2
    exact ⟨h, f⟩
  · intro u9 hq
    exact ⟨h.2 u9 hq.1, f.tr (hq.2.mo (by decide) (by decide))⟩
set_option maxRecDepth 100000 in
theorem fr_switched_J166 {S0 : MS} {Q : MS → Prop} {E : MS → Prop} {k79 k79' : MS → Int32 → Int32 → Int32 → Int32 → Int32 → Int32 → Int32 → Prop} {U166 : MS} {t166_0 : Int32} {t166_2 : Int32} {t166_4 : Int32} {v166_1 : Int32} {v166_2 : Int32} {v166_3 : Int32} {v166_4 : Int32} {v166_5 : Int32} {v166_6 : Int32} {v166_7 : Int32} (hk79 : ∀ (u : MS) (z0) (z1) (z2) (z3) (z4) (z5) (z6), frm [19, 20] [7, 8, 41, 43] S0 u → k79 u z0 z1 z2 z3 z4 z5 z6 → k79' u z0 z1 z2 z3 z4 z5 z6) (f : frm [19, 20] [7, 8, 41, 43] S0 U166) (h : w_switched_J166 Q E k79 U166 t166_0 t166_2 t166_4 v166_1 v166_2 v166_3 v166_4 v166_5 v166_6 v166_7) : w_switched_J166 (fun u => Q u ∧ frm [19, 20] [7, 8, 41, 43] S0 u) (fun u => E u ∧ frm [19, 20] [7, 8, 41, 43] S0 u) k79' U166 t166_0 t166_2 t166_4 v166_1 v166_2 v166_3 v166_4 v166_5 v166_6 v166_7 := by
  unfold w_switched_J166 at h ⊢
  refine ⟨h.1, ?_⟩
  replace h := h.2
  obtain ⟨Q9, E9, h0, h⟩ := h
  refine ⟨_, _, fr_target h0, ?_, ?_⟩
  · intro r33 S34 hq
    replace h := h.1 r33 S34 hq.1
    replace f := f.tr (hq.2.mo (by decide) (by decide))
    refine ⟨h.1, ?_⟩
    replace h := h.2
    intro S37 eS37
    replace h := h S37 eS37
    replace f := f.tr (show frm [19, 20] [7, 8, 41, 43] S34 S37 by rw [eS37]; exact frm.pI (by decide))
    intro S39 eS39
    replace h := h S39 eS39
    replace f := f.tr (show frm [19, 20] [7, 8, 41, 43] S37 S39 by rw [eS39]; exact frm.pI0 (by decide))
    intro a40 ea40
    replace h := h a40 ea40
    exact hk79 _ _ _ _ _ _ _ _ f h
  · intro u9 hq
    exact ⟨h.2 u9 hq.1, f.tr (hq.2.mo (by decide) (by decide))⟩
set_option maxRecDepth 100000 in
theorem fr_switched_J123 {S0 : MS} {Q : MS → Prop} {E : MS → Prop} {k79 k79' : MS → Int32 → Int32 → Int32 → Int32 → Int32 → Int32 → Int32 → Prop} {U123 : MS} {t123_0 : Int32} {t123_1 : Int32} {v123_1 : Int32} {v123_2 : Int32} {v123_3 : Int32} {v123_4 : Int32} {v123_5 : Int32} {v123_6 : Int32} {v123_7 : Int32} (hk79 : ∀ (u : MS) (z0) (z1) (z2) (z3) (z4) (z5) (z6), frm [19, 20] [7, 8, 41, 43] S0 u → k79 u z0 z1 z2 z3 z4 z5 z6 → k79' u z0 z1 z2 z3 z4 z5 z6) (f : frm [19, 20] [7, 8, 41, 43] S0 U123) (h : w_switched_J123 Q E k79 U123 t123_0 t123_1 v123_1 v123_2 v123_3 v123_4 v123_5 v123_6 v123_7) : w_switched_J123 (fun u => Q u ∧ frm [19, 20] [7, 8, 41, 43] S0 u) (fun u => E u ∧ frm [19, 20] [7, 8, 41, 43] S0 u) k79' U123 t123_0 t123_1 v123_1 v123_2 v123_3 v123_4 v123_5 v123_6 v123_7 := by
  unfold w_switched_J123 at h ⊢
  refine ⟨h.1, ?_⟩
  replace h := h.2
  intro S27 eS27
  replace h := h S27 eS27
  replace f := f.tr (show frm [19, 20] [7, 8, 41, 43] U123 S27 by rw [eS27]; exact frm.pI (by decide))
  refine ⟨fun c => ?_, fun c => ?_⟩
  · replace h := h.1 c
    exact fr_switched_J166 hk79 f h
  · replace h := h.2 c
    exact fr_switched_J166 hk79 f h
set_option maxRecDepth 100000 in
theorem fr_switched_L79 {S0 : MS} {Q : MS → Prop} {E : MS → Prop} : ∀ (n : Nat) {U79 : MS} {v79_1 : Int32} {v79_2 : Int32} {v79_3 : Int32} {v79_4 : Int32} {v79_5 : Int32} {v79_6 : Int32} {v79_7 : Int32}, frm [19, 20] [7, 8, 41, 43] S0 U79 → w_switched_L79 Q E n U79 v79_1 v79_2 v79_3 v79_4 v79_5 v79_6 v79_7 → w_switched_L79 (fun u => Q u ∧ frm [19, 20] [7, 8, 41, 43] S0 u) (fun u => E u ∧ frm [19, 20] [7, 8, 41, 43] S0 u) n U79 v79_1 v79_2 v79_3 v79_4 v79_5 v79_6 v79_7 := by
  intro n
  induction n with
  | zero => intro U79 v79_1 v79_2 v79_3 v79_4 v79_5 v79_6 v79_7 f h; unfold w_switched_L79 at h; exact h.elim
  | succ n ih =>
    intro U79 v79_1 v79_2 v79_3 v79_4 v79_5 v79_6 v79_7 f h
    unfold w_switched_L79 at h ⊢
    refine ⟨fun c => ?_, fun c => ?_⟩
    · replace h := h.1 c
      obtain ⟨Q9, h0, h⟩ := h
      refine ⟨_, fr_row h0, ?_⟩
      · intro S24 hq
        replace h := h S24 hq.1
        replace f := f.tr (hq.2.mo (by decide) (by decide))
        exact ⟨h, f⟩
    · replace h := h.2 c
      refine ⟨fun c => ?_, fun c => ?_⟩
      · replace h := h.1 c
        exact fr_switched_J123 (fun _ _ _ _ _ _ _ _ f h => ih f h) f h
      · replace h := h.2 c
        refine ⟨h.1, ?_⟩
        replace h := h.2
        exact fr_switched_J123 (fun _ _ _ _ _ _ _ _ f h => ih f h) f h
set_option maxRecDepth 100000 in
theorem fr_switched_J74 {S0 : MS} {Q : MS → Prop} {E : MS → Prop} {U74 : MS} {t74_0 : Int32} {v74_1 : Int32} {v74_2 : Int32} {v74_3 : Int32} {v74_4 : Int32} {v74_5 : Int32} (f : frm [19, 20] [7, 8, 41, 43] S0 U74) (h : w_switched_J74 Q E U74 t74_0 v74_1 v74_2 v74_3 v74_4 v74_5) : w_switched_J74 (fun u => Q u ∧ frm [19, 20] [7, 8, 41, 43] S0 u) (fun u => E u ∧ frm [19, 20] [7, 8, 41, 43] S0 u) U74 t74_0 v74_1 v74_2 v74_3 v74_4 v74_5 := by
  unfold w_switched_J74 at h ⊢
  obtain ⟨n9, h⟩ := h
  exact ⟨n9, fr_switched_L79 n9 f h⟩
set_option maxRecDepth 100000 in
theorem fr_switched {S : MS} {x1 : Int32} {x2 : Int32} {Q : MS → Prop} {E : MS → Prop} (h : w_switched S x1 x2 Q E) : w_switched S x1 x2 (fun u => Q u ∧ frm [19, 20] [7, 8, 41, 43] S u) (fun u => E u ∧ frm [19, 20] [7, 8, 41, 43] S u) := by
  have f : frm [19, 20] [7, 8, 41, 43] S S := frm.rf
  unfold w_switched at h ⊢
  refine ⟨h.1, ?_⟩
  replace h := h.2
  intro a4 ea4
  replace h := h a4 ea4
  intro a5 ea5
  replace h := h a5 ea5
  refine ⟨h.1, ?_⟩
  replace h := h.2
  obtain ⟨Q9, E9, h0, h⟩ := h
  refine ⟨_, _, fr_target h0, ?_, ?_⟩
  · intro r10 S11 hq
    replace h := h.1 r10 S11 hq.1
    replace f := f.tr (hq.2.mo (by decide) (by decide))
    refine ⟨h.1, ?_⟩
    replace h := h.2
    intro S14 eS14
    replace h := h S14 eS14
    replace f := f.tr (show frm [19, 20] [7, 8, 41, 43] S11 S14 by rw [eS14]; exact frm.pI (by decide))
    intro S16 eS16
    replace h := h S16 eS16
    replace f := f.tr (show frm [19, 20] [7, 8, 41, 43] S14 S16 by rw [eS16]; exact frm.pI0 (by decide))
    refine ⟨h.1, ?_⟩
    replace h := h.2
    intro a21 ea21
    replace h := h a21 ea21
    refine ⟨fun c => ?_, fun c => ?_⟩
    · replace h := h.1 c
      refine ⟨h.1, ?_⟩
      replace h := h.2
      exact fr_switched_J74 f h
    · replace h := h.2 c
      exact fr_switched_J74 f h
  · intro u9 hq
    exact ⟨h.2 u9 hq.1, f.tr (hq.2.mo (by decide) (by decide))⟩
set_option maxRecDepth 100000 in
theorem fr_wide {S : MS} {x1 : Int32} {x2 : Int32} {Q : MS → Prop} {E : MS → Prop} (h : w_wide S x1 x2 Q E) : w_wide S x1 x2 (fun u => Q u ∧ frm [19] [7, 8, 41] S u) (fun u => E u ∧ frm [19] [7, 8, 41] S u) := by
  have f : frm [19] [7, 8, 41] S S := frm.rf
  unfold w_wide at h ⊢
  refine ⟨h.1, ?_⟩
  replace h := h.2
  intro a6 ea6
  replace h := h a6 ea6
  refine ⟨fun c => ?_, fun c => ?_⟩
  · replace h := h.1 c
    refine ⟨h.1, ?_⟩
    replace h := h.2
    obtain ⟨Q9, E9, h0, h⟩ := h
    refine ⟨_, _, fr_grown h0, ?_, ?_⟩
    · intro S16 hq
      replace h := h.1 S16 hq.1
      replace f := f.tr (hq.2.mo (by decide) (by decide))
      exact ⟨h, f⟩
    · intro u9 hq
      exact ⟨h.2 u9 hq.1, f.tr (hq.2.mo (by decide) (by decide))⟩
  · replace h := h.2 c
    obtain ⟨Q9, E9, h0, h⟩ := h
    refine ⟨_, _, fr_localRow h0, ?_, ?_⟩
    · intro S9 hq
      replace h := h.1 S9 hq.1
      replace f := f.tr (hq.2.mo (by decide) (by decide))
      exact ⟨h, f⟩
    · intro u9 hq
      exact ⟨h.2 u9 hq.1, f.tr (hq.2.mo (by decide) (by decide))⟩
set_option maxRecDepth 100000 in
theorem fr_instruction_J42 {S0 : MS} {Q : MS → Prop} {E : MS → Prop} {U42 : MS} {v42_2 : Int32} (f : frm [19, 20] [7, 8, 41, 43] S0 U42) (h : w_instruction_J42 Q E U42 v42_2) : w_instruction_J42 (fun u => Q u ∧ frm [19, 20] [7, 8, 41, 43] S0 u) (fun u => E u ∧ frm [19, 20] [7, 8, 41, 43] S0 u) U42 v42_2 := by
  unfold w_instruction_J42 at h ⊢
  obtain ⟨Q9, h0, h⟩ := h
  refine ⟨_, fr_row h0, ?_⟩
  · intro S7 hq
    replace h := h S7 hq.1
    replace f := f.tr (hq.2.mo (by decide) (by decide))
    exact ⟨h, f⟩
set_option maxRecDepth 100000 in
theorem fr_instruction_J149 {S0 : MS} {Q : MS → Prop} {E : MS → Prop} {U149 : MS} {t149_0 : Int32} {t149_1 : Int32} (f : frm [19, 20] [7, 8, 41, 43] S0 U149) (h : w_instruction_J149 Q E U149 t149_0 t149_1) : w_instruction_J149 (fun u => Q u ∧ frm [19, 20] [7, 8, 41, 43] S0 u) (fun u => E u ∧ frm [19, 20] [7, 8, 41, 43] S0 u) U149 t149_0 t149_1 := by
  unfold w_instruction_J149 at h ⊢
  obtain ⟨Q9, E9, h0, h⟩ := h
  refine ⟨_, _, fr_pushed h0, ?_, ?_⟩
  · intro S14 hq
    replace h := h.1 S14 hq.1
    replace f := f.tr (hq.2.mo (by decide) (by decide))
    exact ⟨h, f⟩
  · intro u9 hq
    exact ⟨h.2 u9 hq.1, f.tr (hq.2.mo (by decide) (by decide))⟩
set_option maxRecDepth 100000 in
theorem fr_instruction_J120 {S0 : MS} {Q : MS → Prop} {E : MS → Prop} {U120 : MS} {v120_1 : Int32} {v120_2 : Int32} (f : frm [19, 20] [7, 8, 41, 43] S0 U120) (h : w_instruction_J120 Q E U120 v120_1 v120_2) : w_instruction_J120 (fun u => Q u ∧ frm [19, 20] [7, 8, 41, 43] S0 u) (fun u => E u ∧ frm [19, 20] [7, 8, 41, 43] S0 u) U120 v120_1 v120_2 := by
  unfold w_instruction_J120 at h ⊢
  refine ⟨fun c => ?_, fun c => ?_⟩
  · replace h := h.1 c
    refine ⟨h.1, ?_⟩
    replace h := h.2
    exact fr_instruction_J149 f h
  · replace h := h.2 c
    refine ⟨h.1, ?_⟩
    replace h := h.2
    exact fr_instruction_J149 f h
set_option maxRecDepth 100000 in
theorem fr_instruction_J348 {S0 : MS} {Q : MS → Prop} {E : MS → Prop} {U348 : MS} {v348_1 : Int32} {v348_2 : Int32} (f : frm [19, 20] [7, 8, 41, 43] S0 U348) (h : w_instruction_J348 Q E U348 v348_1 v348_2) : w_instruction_J348 (fun u => Q u ∧ frm [19, 20] [7, 8, 41, 43] S0 u) (fun u => E u ∧ frm [19, 20] [7, 8, 41, 43] S0 u) U348 v348_1 v348_2 := by
  unfold w_instruction_J348 at h ⊢
  refine ⟨h.1, ?_⟩
  replace h := h.2
  obtain ⟨Q9, E9, h0, h⟩ := h
  refine ⟨_, _, fr_localRow h0, ?_, ?_⟩
  · intro S34 hq
    replace h := h.1 S34 hq.1
    replace f := f.tr (hq.2.mo (by decide) (by decide))
    exact ⟨h, f⟩
  · intro u9 hq
    exact ⟨h.2 u9 hq.1, f.tr (hq.2.mo (by decide) (by decide))⟩
set_option maxRecDepth 100000 in
theorem fr_instruction_J449 {S0 : MS} {Q : MS → Prop} {E : MS → Prop} {U449 : MS} {v449_1 : Int32} {v449_2 : Int32} (f : frm [19, 20] [7, 8, 41, 43] S0 U449) (h : w_instruction_J449 Q E U449 v449_1 v449_2) : w_instruction_J449 (fun u => Q u ∧ frm [19, 20] [7, 8, 41, 43] S0 u) (fun u => E u ∧ frm [19, 20] [7, 8, 41, 43] S0 u) U449 v449_1 v449_2 := by
  unfold w_instruction_J449 at h ⊢
  refine ⟨h.1, ?_⟩
  replace h := h.2
  obtain ⟨Q9, E9, h0, h⟩ := h
  refine ⟨_, _, fr_target h0, ?_, ?_⟩
  · intro r49 S50 hq
    replace h := h.1 r49 S50 hq.1
    replace f := f.tr (hq.2.mo (by decide) (by decide))
    obtain ⟨Q9, h0, h⟩ := h
    refine ⟨_, fr_row h0, ?_⟩
    · intro S53 hq
      replace h := h S53 hq.1
      replace f := f.tr (hq.2.mo (by decide) (by decide))
      exact ⟨h, f⟩
  · intro u9 hq
    exact ⟨h.2 u9 hq.1, f.tr (hq.2.mo (by decide) (by decide))⟩
set_option maxRecDepth 100000 in
theorem fr_instruction_J514 {S0 : MS} {Q : MS → Prop} {E : MS → Prop} {U514 : MS} {v514_1 : Int32} {v514_2 : Int32} (f : frm [19, 20] [7, 8, 41, 43] S0 U514) (h : w_instruction_J514 Q E U514 v514_1 v514_2) : w_instruction_J514 (fun u => Q u ∧ frm [19, 20] [7, 8, 41, 43] S0 u) (fun u => E u ∧ frm [19, 20] [7, 8, 41, 43] S0 u) U514 v514_1 v514_2 := by
  unfold w_instruction_J514 at h ⊢
  obtain ⟨Q9, E9, h0, h⟩ := h
  refine ⟨_, _, fr_switched h0, ?_, ?_⟩
  · intro S59 hq
    replace h := h.1 S59 hq.1
    replace f := f.tr (hq.2.mo (by decide) (by decide))
    exact ⟨h, f⟩
  · intro u9 hq
    exact ⟨h.2 u9 hq.1, f.tr (hq.2.mo (by decide) (by decide))⟩
set_option maxRecDepth 100000 in
theorem fr_instruction_J537 {S0 : MS} {Q : MS → Prop} {E : MS → Prop} {U537 : MS} {v537_1 : Int32} {v537_2 : Int32} (f : frm [19, 20] [7, 8, 41, 43] S0 U537) (h : w_instruction_J537 Q E U537 v537_1 v537_2) : w_instruction_J537 (fun u => Q u ∧ frm [19, 20] [7, 8, 41, 43] S0 u) (fun u => E u ∧ frm [19, 20] [7, 8, 41, 43] S0 u) U537 v537_1 v537_2 := by
  unfold w_instruction_J537 at h ⊢
  obtain ⟨Q9, E9, h0, h⟩ := h
  refine ⟨_, _, fr_member h0, ?_, ?_⟩
  · intro r64 S65 hq
    replace h := h.1 r64 S65 hq.1
    replace f := f.tr (hq.2.mo (by decide) (by decide))
    obtain ⟨Q9, h0, h⟩ := h
    refine ⟨_, fr_row h0, ?_⟩
    · intro S68 hq
      replace h := h S68 hq.1
      replace f := f.tr (hq.2.mo (by decide) (by decide))
      exact ⟨h, f⟩
  · intro u9 hq
    exact ⟨h.2 u9 hq.1, f.tr (hq.2.mo (by decide) (by decide))⟩
set_option maxRecDepth 100000 in
theorem fr_instruction_J435 {S0 : MS} {Q : MS → Prop} {E : MS → Prop} {U435 : MS} {v435_1 : Int32} {v435_2 : Int32} (f : frm [19, 20] [7, 8, 41, 43] S0 U435) (h : w_instruction_J435 Q E U435 v435_1 v435_2) : w_instruction_J435 (fun u => Q u ∧ frm [19, 20] [7, 8, 41, 43] S0 u) (fun u => E u ∧ frm [19, 20] [7, 8, 41, 43] S0 u) U435 v435_1 v435_2 := by
  unfold w_instruction_J435 at h ⊢
  refine ⟨fun c => ?_, fun c => ?_⟩
  · replace h := h.1 c
    exact fr_instruction_J449 f h
  · replace h := h.2 c
    refine ⟨fun c => ?_, fun c => ?_⟩
    · replace h := h.1 c
      exact fr_instruction_J449 f h
    · replace h := h.2 c
      refine ⟨fun c => ?_, fun c => ?_⟩
      · replace h := h.1 c
        refine ⟨h.1, ?_⟩
        replace h := h.2
        obtain ⟨Q9, E9, h0, h⟩ := h
        refine ⟨_, _, fr_target h0, ?_, ?_⟩
        · intro r88 S89 hq
          replace h := h.1 r88 S89 hq.1
          replace f := f.tr (hq.2.mo (by decide) (by decide))
          obtain ⟨Q9, h0, h⟩ := h
          refine ⟨_, fr_row h0, ?_⟩
          · intro S92 hq
            replace h := h S92 hq.1
            replace f := f.tr (hq.2.mo (by decide) (by decide))
            exact ⟨h, f⟩
        · intro u9 hq
          exact ⟨h.2 u9 hq.1, f.tr (hq.2.mo (by decide) (by decide))⟩
      · replace h := h.2 c
        refine ⟨fun c => ?_, fun c => ?_⟩
        · replace h := h.1 c
          exact fr_instruction_J514 f h
        · replace h := h.2 c
          refine ⟨fun c => ?_, fun c => ?_⟩
          · replace h := h.1 c
            exact fr_instruction_J514 f h
          · replace h := h.2 c
            refine ⟨fun c => ?_, fun c => ?_⟩
            · replace h := h.1 c
              exact fr_instruction_J537 f h
            · replace h := h.2 c
              refine ⟨fun c => ?_, fun c => ?_⟩
              · replace h := h.1 c
                exact fr_instruction_J537 f h
              · replace h := h.2 c
                refine ⟨fun c => ?_, fun c => ?_⟩
                · replace h := h.1 c
                  obtain ⟨Q9, E9, h0, h⟩ := h
                  refine ⟨_, _, fr_member h0, ?_, ?_⟩
                  · intro r77 S78 hq
                    replace h := h.1 r77 S78 hq.1
                    replace f := f.tr (hq.2.mo (by decide) (by decide))
                    obtain ⟨Q9, h0, h⟩ := h
                    refine ⟨_, fr_row h0, ?_⟩
                    · intro S81 hq
                      replace h := h S81 hq.1
                      replace f := f.tr (hq.2.mo (by decide) (by decide))
                      exact ⟨h, f⟩
                  · intro u9 hq
                    exact ⟨h.2 u9 hq.1, f.tr (hq.2.mo (by decide) (by decide))⟩
                · replace h := h.2 c
                  obtain ⟨Q9, h0, h⟩ := h
                  refine ⟨_, fr_row h0, ?_⟩
                  · intro S74 hq
                    replace h := h S74 hq.1
                    replace f := f.tr (hq.2.mo (by decide) (by decide))
                    exact ⟨h, f⟩
set_option maxRecDepth 100000 in
theorem fr_instruction_J312 {S0 : MS} {Q : MS → Prop} {E : MS → Prop} {U312 : MS} {v312_1 : Int32} {v312_2 : Int32} (f : frm [19, 20] [7, 8, 41, 43] S0 U312) (h : w_instruction_J312 Q E U312 v312_1 v312_2) : w_instruction_J312 (fun u => Q u ∧ frm [19, 20] [7, 8, 41, 43] S0 u) (fun u => E u ∧ frm [19, 20] [7, 8, 41, 43] S0 u) U312 v312_1 v312_2 := by
  unfold w_instruction_J312 at h ⊢
  refine ⟨fun c => ?_, fun c => ?_⟩
  · replace h := h.1 c
    exact fr_instruction_J348 f h
  · replace h := h.2 c
    refine ⟨fun c => ?_, fun c => ?_⟩
    · replace h := h.1 c
      exact fr_instruction_J348 f h
    · replace h := h.2 c
      refine ⟨fun c => ?_, fun c => ?_⟩
      · replace h := h.1 c
        exact fr_instruction_J348 f h
      · replace h := h.2 c
        refine ⟨fun c => ?_, fun c => ?_⟩
        · replace h := h.1 c
          exact fr_instruction_J348 f h
        · replace h := h.2 c
          refine ⟨fun c => ?_, fun c => ?_⟩
          · replace h := h.1 c
            exact fr_instruction_J348 f h
          · replace h := h.2 c
            refine ⟨fun c => ?_, fun c => ?_⟩
            · replace h := h.1 c
              exact fr_instruction_J348 f h
            · replace h := h.2 c
              refine ⟨fun c => ?_, fun c => ?_⟩
              · replace h := h.1 c
                refine ⟨h.1, ?_⟩
                replace h := h.2
                refine ⟨h.1, ?_⟩
                replace h := h.2
                refine ⟨h.1, ?_⟩
                replace h := h.2
                obtain ⟨Q9, E9, h0, h⟩ := h
                refine ⟨_, _, fr_grown h0, ?_, ?_⟩
                · intro S114 hq
                  replace h := h.1 S114 hq.1
                  replace f := f.tr (hq.2.mo (by decide) (by decide))
                  exact ⟨h, f⟩
                · intro u9 hq
                  exact ⟨h.2 u9 hq.1, f.tr (hq.2.mo (by decide) (by decide))⟩
              · replace h := h.2 c
                refine ⟨fun c => ?_, fun c => ?_⟩
                · replace h := h.1 c
                  refine ⟨h.1, ?_⟩
                  replace h := h.2
                  obtain ⟨Q9, E9, h0, h⟩ := h
                  refine ⟨_, _, fr_wide h0, ?_, ?_⟩
                  · intro S101 hq
                    replace h := h.1 S101 hq.1
                    replace f := f.tr (hq.2.mo (by decide) (by decide))
                    exact ⟨h, f⟩
                  · intro u9 hq
                    exact ⟨h.2 u9 hq.1, f.tr (hq.2.mo (by decide) (by decide))⟩
                · replace h := h.2 c
                  refine ⟨fun c => ?_, fun c => ?_⟩
                  · replace h := h.1 c
                    exact fr_instruction_J435 f h
                  · replace h := h.2 c
                    refine ⟨fun c => ?_, fun c => ?_⟩
                    · replace h := h.1 c
                      exact fr_instruction_J449 f h
                    · replace h := h.2 c
                      exact fr_instruction_J435 f h
set_option maxRecDepth 100000 in
theorem fr_instruction_J286 {S0 : MS} {Q : MS → Prop} {E : MS → Prop} {U286 : MS} {v286_1 : Int32} {v286_2 : Int32} (f : frm [19, 20] [7, 8, 41, 43] S0 U286) (h : w_instruction_J286 Q E U286 v286_1 v286_2) : w_instruction_J286 (fun u => Q u ∧ frm [19, 20] [7, 8, 41, 43] S0 u) (fun u => E u ∧ frm [19, 20] [7, 8, 41, 43] S0 u) U286 v286_1 v286_2 := by
  unfold w_instruction_J286 at h ⊢
  refine ⟨fun c => ?_, fun c => ?_⟩
  · replace h := h.1 c
    exact fr_instruction_J312 f h
  · replace h := h.2 c
    refine ⟨fun c => ?_, fun c => ?_⟩
    · replace h := h.1 c
      exact fr_instruction_J312 f h
    · replace h := h.2 c
      obtain ⟨Q9, E9, h0, h⟩ := h
      refine ⟨_, _, fr_localRow h0, ?_, ?_⟩
      · intro S120 hq
        replace h := h.1 S120 hq.1
        replace f := f.tr (hq.2.mo (by decide) (by decide))
        exact ⟨h, f⟩
      · intro u9 hq
        exact ⟨h.2 u9 hq.1, f.tr (hq.2.mo (by decide) (by decide))⟩
set_option maxRecDepth 100000 in
theorem fr_instruction_J274 {S0 : MS} {Q : MS → Prop} {E : MS → Prop} {U274 : MS} {t274_0 : Int32} {t274_1 : Int32} {v274_2 : Int32} (f : frm [19, 20] [7, 8, 41, 43] S0 U274) (h : w_instruction_J274 Q E U274 t274_0 t274_1 v274_2) : w_instruction_J274 (fun u => Q u ∧ frm [19, 20] [7, 8, 41, 43] S0 u) (fun u => E u ∧ frm [19, 20] [7, 8, 41, 43] S0 u) U274 t274_0 t274_1 v274_2 := by
  unfold w_instruction_J274 at h ⊢
  obtain ⟨Q9, E9, h0, h⟩ := h
  refine ⟨_, _, fr_localRow h0, ?_, ?_⟩
  · intro S127 hq
    replace h := h.1 S127 hq.1
    replace f := f.tr (hq.2.mo (by decide) (by decide))
    exact ⟨h, f⟩
  · intro u9 hq
    exact ⟨h.2 u9 hq.1, f.tr (hq.2.mo (by decide) (by decide))⟩
set_option maxRecDepth 100000 in
theorem fr_instruction_J247 {S0 : MS} {Q : MS → Prop} {E : MS → Prop} {U247 : MS} {v247_1 : Int32} {v247_2 : Int32} (f : frm [19, 20] [7, 8, 41, 43] S0 U247) (h : w_instruction_J247 Q E U247 v247_1 v247_2) : w_instruction_J247 (fun u => Q u ∧ frm [19, 20] [7, 8, 41, 43] S0 u) (fun u => E u ∧ frm [19, 20] [7, 8, 41, 43] S0 u) U247 v247_1 v247_2 := by
  unfold w_instruction_J247 at h ⊢
  refine ⟨fun c => ?_, fun c => ?_⟩
  · replace h := h.1 c
    exact fr_instruction_J286 f h
  · replace h := h.2 c
    refine ⟨fun c => ?_, fun c => ?_⟩
    · replace h := h.1 c
      exact fr_instruction_J286 f h
    · replace h := h.2 c
      refine ⟨fun c => ?_, fun c => ?_⟩
      · replace h := h.1 c
        exact fr_instruction_J274 f h
      · replace h := h.2 c
        exact fr_instruction_J274 f h
set_option maxRecDepth 100000 in
theorem fr_instruction_J221 {S0 : MS} {Q : MS → Prop} {E : MS → Prop} {U221 : MS} {v221_1 : Int32} {v221_2 : Int32} (f : frm [19, 20] [7, 8, 41, 43] S0 U221) (h : w_instruction_J221 Q E U221 v221_1 v221_2) : w_instruction_J221 (fun u => Q u ∧ frm [19, 20] [7, 8, 41, 43] S0 u) (fun u => E u ∧ frm [19, 20] [7, 8, 41, 43] S0 u) U221 v221_1 v221_2 := by
  unfold w_instruction_J221 at h ⊢
  refine ⟨fun c => ?_, fun c => ?_⟩
  · replace h := h.1 c
    exact fr_instruction_J247 f h
  · replace h := h.2 c
    refine ⟨fun c => ?_, fun c => ?_⟩
    · replace h := h.1 c
      exact fr_instruction_J247 f h
    · replace h := h.2 c
      obtain ⟨Q9, E9, h0, h⟩ := h
      refine ⟨_, _, fr_localRow h0, ?_, ?_⟩
      · intro S134 hq
        replace h := h.1 S134 hq.1
        replace f := f.tr (hq.2.mo (by decide) (by decide))
        exact ⟨h, f⟩
      · intro u9 hq
        exact ⟨h.2 u9 hq.1, f.tr (hq.2.mo (by decide) (by decide))⟩
set_option maxRecDepth 100000 in
theorem fr_instruction_J209 {S0 : MS} {Q : MS → Prop} {E : MS → Prop} {U209 : MS} {t209_0 : Int32} {t209_1 : Int32} {v209_2 : Int32} (f : frm [19, 20] [7, 8, 41, 43] S0 U209) (h : w_instruction_J209 Q E U209 t209_0 t209_1 v209_2) : w_instruction_J209 (fun u => Q u ∧ frm [19, 20] [7, 8, 41, 43] S0 u) (fun u => E u ∧ frm [19, 20] [7, 8, 41, 43] S0 u) U209 t209_0 t209_1 v209_2 := by
  unfold w_instruction_J209 at h ⊢
  obtain ⟨Q9, E9, h0, h⟩ := h
  refine ⟨_, _, fr_localRow h0, ?_, ?_⟩
  · intro S141 hq
    replace h := h.1 S141 hq.1
    replace f := f.tr (hq.2.mo (by decide) (by decide))
    exact ⟨h, f⟩
  · intro u9 hq
    exact ⟨h.2 u9 hq.1, f.tr (hq.2.mo (by decide) (by decide))⟩
set_option maxRecDepth 100000 in
theorem fr_instruction_J30 {S0 : MS} {Q : MS → Prop} {E : MS → Prop} {U30 : MS} {v30_1 : Int32} {v30_2 : Int32} (f : frm [19, 20] [7, 8, 41, 43] S0 U30) (h : w_instruction_J30 Q E U30 v30_1 v30_2) : w_instruction_J30 (fun u => Q u ∧ frm [19, 20] [7, 8, 41, 43] S0 u) (fun u => E u ∧ frm [19, 20] [7, 8, 41, 43] S0 u) U30 v30_1 v30_2 := by
  unfold w_instruction_J30 at h ⊢
  refine ⟨fun c => ?_, fun c => ?_⟩
  · replace h := h.1 c
    exact fr_instruction_J42 f h
  · replace h := h.2 c
    refine ⟨fun c => ?_, fun c => ?_⟩
    · replace h := h.1 c
      exact fr_instruction_J42 f h
    · replace h := h.2 c
      refine ⟨fun c => ?_, fun c => ?_⟩
      · replace h := h.1 c
        refine ⟨h.1, ?_⟩
        replace h := h.2
        refine ⟨h.1, ?_⟩
        replace h := h.2
        obtain ⟨Q9, h0, h⟩ := h
        refine ⟨_, fr_row h0, ?_⟩
        · intro S166 hq
          replace h := h S166 hq.1
          replace f := f.tr (hq.2.mo (by decide) (by decide))
          exact ⟨h, f⟩
      · replace h := h.2 c
        refine ⟨fun c => ?_, fun c => ?_⟩
        · replace h := h.1 c
          refine ⟨h.1, ?_⟩
          replace h := h.2
          obtain ⟨Q9, h0, h⟩ := h
          refine ⟨_, fr_row h0, ?_⟩
          · intro S157 hq
            replace h := h S157 hq.1
            replace f := f.tr (hq.2.mo (by decide) (by decide))
            exact ⟨h, f⟩
        · replace h := h.2 c
          refine ⟨fun c => ?_, fun c => ?_⟩
          · replace h := h.1 c
            exact fr_instruction_J120 f h
          · replace h := h.2 c
            refine ⟨fun c => ?_, fun c => ?_⟩
            · replace h := h.1 c
              exact fr_instruction_J120 f h
            · replace h := h.2 c
              refine ⟨fun c => ?_, fun c => ?_⟩
              · replace h := h.1 c
                refine ⟨h.1, ?_⟩
                replace h := h.2
                obtain ⟨Q9, E9, h0, h⟩ := h
                refine ⟨_, _, fr_pushed h0, ?_, ?_⟩
                · intro S150 hq
                  replace h := h.1 S150 hq.1
                  replace f := f.tr (hq.2.mo (by decide) (by decide))
                  exact ⟨h, f⟩
                · intro u9 hq
                  exact ⟨h.2 u9 hq.1, f.tr (hq.2.mo (by decide) (by decide))⟩
              · replace h := h.2 c
                refine ⟨fun c => ?_, fun c => ?_⟩
                · replace h := h.1 c
                  exact fr_instruction_J221 f h
                · replace h := h.2 c
                  refine ⟨fun c => ?_, fun c => ?_⟩
                  · replace h := h.1 c
                    exact fr_instruction_J221 f h
                  · replace h := h.2 c
                    refine ⟨fun c => ?_, fun c => ?_⟩
                    · replace h := h.1 c
                      exact fr_instruction_J209 f h
                    · replace h := h.2 c
                      exact fr_instruction_J209 f h
set_option maxRecDepth 100000 in
theorem fr_instruction {S : MS} {x1 : Int32} {Q : MS → Prop} {E : MS → Prop} (h : w_instruction S x1 Q E) : w_instruction S x1 (fun u => Q u ∧ frm [19, 20] [7, 8, 41, 43] S u) (fun u => E u ∧ frm [19, 20] [7, 8, 41, 43] S u) := by
  have f : frm [19, 20] [7, 8, 41, 43] S S := frm.rf
  unfold w_instruction at h ⊢
  refine ⟨h.1, ?_⟩
  replace h := h.2
  intro a4 ea4
  replace h := h a4 ea4
  refine ⟨fun c => ?_, fun c => ?_⟩
  · replace h := h.1 c
    exact fr_instruction_J30 f h
  · replace h := h.2 c
    refine ⟨fun c => ?_, fun c => ?_⟩
    · replace h := h.1 c
      exact fr_instruction_J30 f h
    · replace h := h.2 c
      obtain ⟨Q9, h0, h⟩ := h
      refine ⟨_, fr_row h0, ?_⟩
      · intro S172 hq
        replace h := h S172 hq.1
        replace f := f.tr (hq.2.mo (by decide) (by decide))
        exact ⟨h, f⟩
set_option maxRecDepth 100000 in
theorem fr_jump_J180 {S0 : MS} {Q : MS → Prop} {U180 : MS} {v180_1 : Int32} {v180_3 : Int32} {v180_4 : Int32} (f : frm [43, 44] [] S0 U180) (h : w_jump_J180 Q U180 v180_1 v180_3 v180_4) : w_jump_J180 (fun u => Q u ∧ frm [43, 44] [] S0 u) U180 v180_1 v180_3 v180_4 := by
  unfold w_jump_J180 at h ⊢
  refine ⟨fun c => ?_, fun c => ?_⟩
  · replace h := h.1 c
    obtain ⟨Q9, h0, h⟩ := h
    refine ⟨_, fr_goTo h0, ?_⟩
    · intro S4 hq
      replace h := h S4 hq.1
      replace f := f.tr (hq.2.mo (by decide) (by decide))
      exact ⟨h, f⟩
  · replace h := h.2 c
    obtain ⟨Q9, h0, h⟩ := h
    refine ⟨_, fr_goTo h0, ?_⟩
    · intro S7 hq
      replace h := h S7 hq.1
      replace f := f.tr (hq.2.mo (by decide) (by decide))
      exact ⟨h, f⟩
set_option maxRecDepth 100000 in
theorem fr_jump_J131 {S0 : MS} {Q : MS → Prop} {U131 : MS} {t131_0 : Int32} {v131_1 : Int32} {v131_3 : Int32} (f : frm [43, 44] [] S0 U131) (h : w_jump_J131 Q U131 t131_0 v131_1 v131_3) : w_jump_J131 (fun u => Q u ∧ frm [43, 44] [] S0 u) U131 t131_0 v131_1 v131_3 := by
  unfold w_jump_J131 at h ⊢
  exact fr_jump_J180 f h
set_option maxRecDepth 100000 in
theorem fr_jump_J123 {S0 : MS} {Q : MS → Prop} {U123 : MS} {t123_0 : Int32} {t123_1 : Int32} {v123_1 : Int32} {v123_3 : Int32} (f : frm [43, 44] [] S0 U123) (h : w_jump_J123 Q U123 t123_0 t123_1 v123_1 v123_3) : w_jump_J123 (fun u => Q u ∧ frm [43, 44] [] S0 u) U123 t123_0 t123_1 v123_1 v123_3 := by
  unfold w_jump_J123 at h ⊢
  refine ⟨fun c => ?_, fun c => ?_⟩
  · replace h := h.1 c
    exact fr_jump_J131 f h
  · replace h := h.2 c
    exact fr_jump_J131 f h
set_option maxRecDepth 100000 in
theorem fr_jump_J111 {S0 : MS} {Q : MS → Prop} {U111 : MS} {t111_0 : Int32} {v111_1 : Int32} {v111_2 : Int32} {v111_3 : Int32} (f : frm [43, 44] [] S0 U111) (h : w_jump_J111 Q U111 t111_0 v111_1 v111_2 v111_3) : w_jump_J111 (fun u => Q u ∧ frm [43, 44] [] S0 u) U111 t111_0 v111_1 v111_2 v111_3 := by
  unfold w_jump_J111 at h ⊢
  refine ⟨fun c => ?_, fun c => ?_⟩
  · replace h := h.1 c
    exact fr_jump_J123 f h
  · replace h := h.2 c
    exact fr_jump_J123 f h
set_option maxRecDepth 100000 in
theorem fr_jump_J88 {S0 : MS} {Q : MS → Prop} {U88 : MS} {v88_1 : Int32} {v88_2 : Int32} {v88_3 : Int32} (f : frm [43, 44] [] S0 U88) (h : w_jump_J88 Q U88 v88_1 v88_2 v88_3) : w_jump_J88 (fun u => Q u ∧ frm [43, 44] [] S0 u) U88 v88_1 v88_2 v88_3 := by
  unfold w_jump_J88 at h ⊢
  obtain ⟨Q9, h0, h⟩ := h
  refine ⟨_, fr_got h0, ?_⟩
  · intro r10 S11 hq
    replace h := h r10 S11 hq.1
    replace f := f.tr (hq.2.mo (by decide) (by decide))
    obtain ⟨Q9, h0, h⟩ := h
    refine ⟨_, fr_got h0, ?_⟩
    · intro r14 S15 hq
      replace h := h r14 S15 hq.1
      replace f := f.tr (hq.2.mo (by decide) (by decide))
      refine ⟨fun c => ?_, fun c => ?_⟩
      · replace h := h.1 c
        exact fr_jump_J111 f h
      · replace h := h.2 c
        exact fr_jump_J111 f h
set_option maxRecDepth 100000 in
theorem fr_jump_J178 {S0 : MS} {Q : MS → Prop} {U178 : MS} {t178_0 : Int32} {v178_1 : Int32} {v178_3 : Int32} (f : frm [43, 44] [] S0 U178) (h : w_jump_J178 Q U178 t178_0 v178_1 v178_3) : w_jump_J178 (fun u => Q u ∧ frm [43, 44] [] S0 u) U178 t178_0 v178_1 v178_3 := by
  unfold w_jump_J178 at h ⊢
  exact fr_jump_J180 f h
set_option maxRecDepth 100000 in
theorem fr_jump_J170 {S0 : MS} {Q : MS → Prop} {U170 : MS} {t170_0 : Int32} {t170_1 : Int32} {v170_1 : Int32} {v170_3 : Int32} (f : frm [43, 44] [] S0 U170) (h : w_jump_J170 Q U170 t170_0 t170_1 v170_1 v170_3) : w_jump_J170 (fun u => Q u ∧ frm [43, 44] [] S0 u) U170 t170_0 t170_1 v170_1 v170_3 := by
  unfold w_jump_J170 at h ⊢
  refine ⟨fun c => ?_, fun c => ?_⟩
  · replace h := h.1 c
    exact fr_jump_J178 f h
  · replace h := h.2 c
    exact fr_jump_J178 f h
set_option maxRecDepth 100000 in
theorem fr_jump_J158 {S0 : MS} {Q : MS → Prop} {U158 : MS} {t158_0 : Int32} {v158_1 : Int32} {v158_2 : Int32} {v158_3 : Int32} (f : frm [43, 44] [] S0 U158) (h : w_jump_J158 Q U158 t158_0 v158_1 v158_2 v158_3) : w_jump_J158 (fun u => Q u ∧ frm [43, 44] [] S0 u) U158 t158_0 v158_1 v158_2 v158_3 := by
  unfold w_jump_J158 at h ⊢
  refine ⟨fun c => ?_, fun c => ?_⟩
  · replace h := h.1 c
    exact fr_jump_J170 f h
  · replace h := h.2 c
    exact fr_jump_J170 f h
set_option maxRecDepth 100000 in
theorem fr_jump_J74 {S0 : MS} {Q : MS → Prop} {U74 : MS} {v74_1 : Int32} {v74_2 : Int32} {v74_3 : Int32} {v74_4 : Int32} (f : frm [43, 44] [] S0 U74) (h : w_jump_J74 Q U74 v74_1 v74_2 v74_3 v74_4) : w_jump_J74 (fun u => Q u ∧ frm [43, 44] [] S0 u) U74 v74_1 v74_2 v74_3 v74_4 := by
  unfold w_jump_J74 at h ⊢
  refine ⟨fun c => ?_, fun c => ?_⟩
  · replace h := h.1 c
    exact fr_jump_J88 f h
  · replace h := h.2 c
    refine ⟨fun c => ?_, fun c => ?_⟩
    · replace h := h.1 c
      exact fr_jump_J88 f h
    · replace h := h.2 c
      refine ⟨fun c => ?_, fun c => ?_⟩
      · replace h := h.1 c
        exact fr_jump_J180 f h
      · replace h := h.2 c
        obtain ⟨Q9, h0, h⟩ := h
        refine ⟨_, fr_got h0, ?_⟩
        · intro r25 S26 hq
          replace h := h r25 S26 hq.1
          replace f := f.tr (hq.2.mo (by decide) (by decide))
          refine ⟨fun c => ?_, fun c => ?_⟩
          · replace h := h.1 c
            exact fr_jump_J158 f h
          · replace h := h.2 c
            exact fr_jump_J158 f h
set_option maxRecDepth 100000 in
theorem fr_jump_J42 {S0 : MS} {Q : MS → Prop} {U42 : MS} {v42_1 : Int32} {v42_2 : Int32} {v42_3 : Int32} {v42_4 : Int32} (f : frm [43, 44] [] S0 U42) (h : w_jump_J42 Q U42 v42_1 v42_2 v42_3 v42_4) : w_jump_J42 (fun u => Q u ∧ frm [43, 44] [] S0 u) U42 v42_1 v42_2 v42_3 v42_4 := by
  unfold w_jump_J42 at h ⊢
  refine ⟨fun c => ?_, fun c => ?_⟩
  · replace h := h.1 c
    exact fr_jump_J74 f h
  · replace h := h.2 c
    refine ⟨fun c => ?_, fun c => ?_⟩
    · replace h := h.1 c
      exact fr_jump_J74 f h
    · replace h := h.2 c
      obtain ⟨Q9, h0, h⟩ := h
      refine ⟨_, fr_gotInt h0, ?_⟩
      · intro r36 S37 hq
        replace h := h r36 S37 hq.1
        replace f := f.tr (hq.2.mo (by decide) (by decide))
        refine ⟨h.1, ?_⟩
        replace h := h.2
        intro a42 ea42
        replace h := h a42 ea42
        exact fr_jump_J180 f h
set_option maxRecDepth 100000 in
theorem fr_jump {S : MS} {x1 : Int32} {x2 : Int32} {x3 : Int32} {Q : MS → Prop} (h : w_jump S x1 x2 x3 Q) : w_jump S x1 x2 x3 (fun u => Q u ∧ frm [43, 44] [] S u) := by
  have f : frm [43, 44] [] S S := frm.rf
  unfold w_jump at h ⊢
  refine ⟨fun c => ?_, fun c => ?_⟩
  · replace h := h.1 c
    exact fr_jump_J42 f h
  · replace h := h.2 c
    refine ⟨fun c => ?_, fun c => ?_⟩
    · replace h := h.1 c
      exact fr_jump_J42 f h
    · replace h := h.2 c
      obtain ⟨Q9, h0, h⟩ := h
      refine ⟨_, fr_gotInt h0, ?_⟩
      · intro r46 S47 hq
        replace h := h r46 S47 hq.1
        replace f := f.tr (hq.2.mo (by decide) (by decide))
        obtain ⟨Q9, h0, h⟩ := h
        refine ⟨_, fr_gotInt h0, ?_⟩
        · intro r51 S52 hq
          replace h := h r51 S52 hq.1
          replace f := f.tr (hq.2.mo (by decide) (by decide))
          refine ⟨h.1, ?_⟩
          replace h := h.2
          intro a57 ea57
          replace h := h a57 ea57
          exact fr_jump_J180 f h
set_option maxRecDepth 100000 in
theorem fr_members_L33 {S0 : MS} {Q : MS → Prop} {E : MS → Prop} : ∀ (n : Nat) {U33 : MS} {v33_2 : Int32} {v33_3 : Int32}, frm [9, 10, 11] [7, 8, 13, 21, 25] S0 U33 → w_members_L33 Q E n U33 v33_2 v33_3 → w_members_L33 (fun u => Q u ∧ frm [9, 10, 11] [7, 8, 13, 21, 25] S0 u) (fun u => E u ∧ frm [9, 10, 11] [7, 8, 13, 21, 25] S0 u) n U33 v33_2 v33_3 := by
  intro n
  induction n with
  | zero => intro U33 v33_2 v33_3 f h; unfold w_members_L33 at h; exact h.elim
  | succ n ih =>
    intro U33 v33_2 v33_3 f h
    unfold w_members_L33 at h ⊢
    refine ⟨fun c => ?_, fun c => ?_⟩
    · replace h := h.1 c
      exact ⟨h, f⟩
    · replace h := h.2 c
      obtain ⟨Q9, E9, h0, h⟩ := h
      refine ⟨_, _, fr_over h0, ?_, ?_⟩
      · intro r14 S15 hq
        replace h := h.1 r14 S15 hq.1
        replace f := f.tr (hq.2.mo (by decide) (by decide))
        refine ⟨h.1, ?_⟩
        replace h := h.2
        intro S18 eS18
        replace h := h S18 eS18
        replace f := f.tr (show frm [9, 10, 11] [7, 8, 13, 21, 25] S15 S18 by rw [eS18]; exact frm.pI (by decide))
        obtain ⟨Q9, E9, h0, h⟩ := h
        refine ⟨_, _, fr_over h0, ?_, ?_⟩
        · intro r20 S21 hq
          replace h := h.1 r20 S21 hq.1
          replace f := f.tr (hq.2.mo (by decide) (by decide))
          obtain ⟨Q9, E9, h0, h⟩ := h
          refine ⟨_, _, fr_attributesOf h0, ?_, ?_⟩
          · intro S24 hq
            replace h := h.1 S24 hq.1
            replace f := f.tr (hq.2.mo (by decide) (by decide))
            intro S27 eS27
            replace h := h S27 eS27
            replace f := f.tr (show frm [9, 10, 11] [7, 8, 13, 21, 25] S24 S27 by rw [eS27]; exact frm.pI0 (by decide))
            intro a28 ea28
            replace h := h a28 ea28
            exact ih f h
          · intro u9 hq
            exact ⟨h.2 u9 hq.1, f.tr (hq.2.mo (by decide) (by decide))⟩
        · intro u9 hq
          exact ⟨h.2 u9 hq.1, f.tr (hq.2.mo (by decide) (by decide))⟩
      · intro u9 hq
        exact ⟨h.2 u9 hq.1, f.tr (hq.2.mo (by decide) (by decide))⟩
set_option maxRecDepth 100000 in
theorem fr_members_J26 {S0 : MS} {Q : MS → Prop} {E : MS → Prop} {U26 : MS} {t26_0 : Int32} {v26_1 : Int32} {v26_2 : Int32} (f : frm [9, 10, 11] [7, 8, 13, 21, 25] S0 U26) (h : w_members_J26 Q E U26 t26_0 v26_1 v26_2) : w_members_J26 (fun u => Q u ∧ frm [9, 10, 11] [7, 8, 13, 21, 25] S0 u) (fun u => E u ∧ frm [9, 10, 11] [7, 8, 13, 21, 25] S0 u) U26 t26_0 v26_1 v26_2 := by
  unfold w_members_J26 at h ⊢
  obtain ⟨Q9, E9, h0, h⟩ := h
  refine ⟨_, _, fr_must h0, ?_, ?_⟩
  · intro S10 hq
    replace h := h.1 S10 hq.1
    replace f := f.tr (hq.2.mo (by decide) (by decide))
    obtain ⟨n9, h⟩ := h
    exact ⟨n9, fr_members_L33 n9 f h⟩
  · intro u9 hq
    exact ⟨h.2 u9 hq.1, f.tr (hq.2.mo (by decide) (by decide))⟩
set_option maxRecDepth 100000 in
theorem fr_members {S : MS} {Q : MS → Prop} {E : MS → Prop} (h : w_members S  Q E) : w_members S  (fun u => Q u ∧ frm [9, 10, 11] [7, 8, 13, 21, 25] S u) (fun u => E u ∧ frm [9, 10, 11] [7, 8, 13, 21, 25] S u) := by
  have f : frm [9, 10, 11] [7, 8, 13, 21, 25] S S := frm.rf
  unfold w_members at h ⊢
  obtain ⟨Q9, E9, h0, h⟩ := h
  refine ⟨_, _, fr_over h0, ?_, ?_⟩
  · intro r2 S3 hq
    replace h := h.1 r2 S3 hq.1
    replace f := f.tr (hq.2.mo (by decide) (by decide))
    refine ⟨h.1, ?_⟩
    replace h := h.2
    intro a8 ea8
    replace h := h a8 ea8
    refine ⟨fun c => ?_, fun c => ?_⟩
    · replace h := h.1 c
      exact fr_members_J26 f h
    · replace h := h.2 c
      exact fr_members_J26 f h
  · intro u9 hq
    exact ⟨h.2 u9 hq.1, f.tr (hq.2.mo (by decide) (by decide))⟩
set_option maxRecDepth 100000 in
theorem fr_layout_J165 {S0 : MS} {Q : MS → Prop} {E : MS → Prop} {k136 k136' : MS → Int32 → Prop} {U165 : MS} {t165_0 : Int32} {t165_1 : Int32} (hk136 : ∀ (u : MS) (z0), frm [4, 5, 6, 7, 8, 9, 10, 11] [7, 8, 13, 14, 20, 21, 22, 25, 28] S0 u → k136 u z0 → k136' u z0) (f : frm [4, 5, 6, 7, 8, 9, 10, 11] [7, 8, 13, 14, 20, 21, 22, 25, 28] S0 U165) (h : w_layout_J165 Q E k136 U165 t165_0 t165_1) : w_layout_J165 (fun u => Q u ∧ frm [4, 5, 6, 7, 8, 9, 10, 11] [7, 8, 13, 14, 20, 21, 22, 25, 28] S0 u) (fun u => E u ∧ frm [4, 5, 6, 7, 8, 9, 10, 11] [7, 8, 13, 14, 20, 21, 22, 25, 28] S0 u) k136' U165 t165_0 t165_1 := by
  unfold w_layout_J165 at h ⊢
  intro a44 ea44
  replace h := h a44 ea44
  exact hk136 _ _ f h
set_option maxRecDepth 100000 in
theorem fr_layout_L136 {S0 : MS} {Q : MS → Prop} {E : MS → Prop} : ∀ (n : Nat) {U136 : MS} {v136_1 : Int32}, frm [4, 5, 6, 7, 8, 9, 10, 11] [7, 8, 13, 14, 20, 21, 22, 25, 28] S0 U136 → w_layout_L136 Q E n U136 v136_1 → w_layout_L136 (fun u => Q u ∧ frm [4, 5, 6, 7, 8, 9, 10, 11] [7, 8, 13, 14, 20, 21, 22, 25, 28] S0 u) (fun u => E u ∧ frm [4, 5, 6, 7, 8, 9, 10, 11] [7, 8, 13, 14, 20, 21, 22, 25, 28] S0 u) n U136 v136_1 := by
  intro n
  induction n with
  | zero => intro U136 v136_1 f h; unfold w_layout_L136 at h; exact h.elim
  | succ n ih =>
    intro U136 v136_1 f h
    unfold w_layout_L136 at h ⊢
    refine ⟨fun c => ?_, fun c => ?_⟩
    · replace h := h.1 c
      obtain ⟨Q9, E9, h0, h⟩ := h
      refine ⟨_, _, fr_over h0, ?_, ?_⟩
      · intro r17 S18 hq
        replace h := h.1 r17 S18 hq.1
        replace f := f.tr (hq.2.mo (by decide) (by decide))
        intro S20 eS20
        replace h := h S20 eS20
        replace f := f.tr (show frm [4, 5, 6, 7, 8, 9, 10, 11] [7, 8, 13, 14, 20, 21, 22, 25, 28] S18 S20 by rw [eS20]; exact frm.pI0 (by decide))
        obtain ⟨Q9, E9, h0, h⟩ := h
        refine ⟨_, _, fr_over h0, ?_, ?_⟩
        · intro r22 S23 hq
          replace h := h.1 r22 S23 hq.1
          replace f := f.tr (hq.2.mo (by decide) (by decide))
          intro S25 eS25
          replace h := h S25 eS25
          replace f := f.tr (show frm [4, 5, 6, 7, 8, 9, 10, 11] [7, 8, 13, 14, 20, 21, 22, 25, 28] S23 S25 by rw [eS25]; exact frm.pI0 (by decide))
          intro S26 eS26
          replace h := h S26 eS26
          replace f := f.tr (show frm [4, 5, 6, 7, 8, 9, 10, 11] [7, 8, 13, 14, 20, 21, 22, 25, 28] S25 S26 by rw [eS26]; exact frm.pI0 (by decide))
          obtain ⟨Q9, E9, h0, h⟩ := h
          refine ⟨_, _, fr_members h0, ?_, ?_⟩
          · intro S28 hq
            replace h := h.1 S28 hq.1
            replace f := f.tr (hq.2.mo (by decide) (by decide))
            intro S30 eS30
            replace h := h S30 eS30
            replace f := f.tr (show frm [4, 5, 6, 7, 8, 9, 10, 11] [7, 8, 13, 14, 20, 21, 22, 25, 28] S28 S30 by rw [eS30]; exact frm.pI0 (by decide))
            obtain ⟨Q9, E9, h0, h⟩ := h
            refine ⟨_, _, fr_members h0, ?_, ?_⟩
            · intro S32 hq
              replace h := h.1 S32 hq.1
              replace f := f.tr (hq.2.mo (by decide) (by decide))
              obtain ⟨Q9, E9, h0, h⟩ := h
              refine ⟨_, _, fr_attributesOf h0, ?_, ?_⟩
              · intro S35 hq
                replace h := h.1 S35 hq.1
                replace f := f.tr (hq.2.mo (by decide) (by decide))
                intro S37 eS37
                replace h := h S37 eS37
                replace f := f.tr (show frm [4, 5, 6, 7, 8, 9, 10, 11] [7, 8, 13, 14, 20, 21, 22, 25, 28] S35 S37 by rw [eS37]; exact frm.pI0 (by decide))
                exact ⟨h, f⟩
              · intro u9 hq
                exact ⟨h.2 u9 hq.1, f.tr (hq.2.mo (by decide) (by decide))⟩
            · intro u9 hq
              exact ⟨h.2 u9 hq.1, f.tr (hq.2.mo (by decide) (by decide))⟩
          · intro u9 hq
            exact ⟨h.2 u9 hq.1, f.tr (hq.2.mo (by decide) (by decide))⟩
        · intro u9 hq
          exact ⟨h.2 u9 hq.1, f.tr (hq.2.mo (by decide) (by decide))⟩
      · intro u9 hq
        exact ⟨h.2 u9 hq.1, f.tr (hq.2.mo (by decide) (by decide))⟩
    · replace h := h.2 c
      obtain ⟨Q9, E9, h0, h⟩ := h
      refine ⟨_, _, fr_entry h0, ?_, ?_⟩
      · intro S39 hq
        replace h := h.1 S39 hq.1
        replace f := f.tr (hq.2.mo (by decide) (by decide))
        refine ⟨h.1, ?_⟩
        replace h := h.2
        refine ⟨fun c => ?_, fun c => ?_⟩
        · replace h := h.1 c
          exact fr_layout_J165 (fun _ _ f h => ih f h) f h
        · replace h := h.2 c
          exact fr_layout_J165 (fun _ _ f h => ih f h) f h
      · intro u9 hq
        exact ⟨h.2 u9 hq.1, f.tr (hq.2.mo (by decide) (by decide))⟩
set_option maxRecDepth 100000 in
theorem fr_layout_L112 {S0 : MS} {Q : MS → Prop} {E : MS → Prop} : ∀ (n : Nat) {U112 : MS} {v112_1 : Int32}, frm [4, 5, 6, 7, 8, 9, 10, 11] [7, 8, 13, 14, 20, 21, 22, 25, 28] S0 U112 → w_layout_L112 Q E n U112 v112_1 → w_layout_L112 (fun u => Q u ∧ frm [4, 5, 6, 7, 8, 9, 10, 11] [7, 8, 13, 14, 20, 21, 22, 25, 28] S0 u) (fun u => E u ∧ frm [4, 5, 6, 7, 8, 9, 10, 11] [7, 8, 13, 14, 20, 21, 22, 25, 28] S0 u) n U112 v112_1 := by
  intro n
  induction n with
  | zero => intro U112 v112_1 f h; unfold w_layout_L112 at h; exact h.elim
  | succ n ih =>
    intro U112 v112_1 f h
    unfold w_layout_L112 at h ⊢
    refine ⟨fun c => ?_, fun c => ?_⟩
    · replace h := h.1 c
      obtain ⟨n9, h⟩ := h
      exact ⟨n9, fr_layout_L136 n9 f h⟩
    · replace h := h.2 c
      refine ⟨h.1, ?_⟩
      replace h := h.2
      intro S47 eS47
      replace h := h S47 eS47
      replace f := f.tr (show frm [4, 5, 6, 7, 8, 9, 10, 11] [7, 8, 13, 14, 20, 21, 22, 25, 28] U112 S47 by rw [eS47]; exact frm.pI (by decide))
      intro a48 ea48
      replace h := h a48 ea48
      exact ih f h
set_option maxRecDepth 100000 in
theorem fr_layout_J104 {S0 : MS} {Q : MS → Prop} {E : MS → Prop} {U104 : MS} {t104_0 : Int32} (f : frm [4, 5, 6, 7, 8, 9, 10, 11] [7, 8, 13, 14, 20, 21, 22, 25, 28] S0 U104) (h : w_layout_J104 Q E U104 t104_0) : w_layout_J104 (fun u => Q u ∧ frm [4, 5, 6, 7, 8, 9, 10, 11] [7, 8, 13, 14, 20, 21, 22, 25, 28] S0 u) (fun u => E u ∧ frm [4, 5, 6, 7, 8, 9, 10, 11] [7, 8, 13, 14, 20, 21, 22, 25, 28] S0 u) U104 t104_0 := by
  unfold w_layout_J104 at h ⊢
  obtain ⟨Q9, E9, h0, h⟩ := h
  refine ⟨_, _, fr_must h0, ?_, ?_⟩
  · intro S12 hq
    replace h := h.1 S12 hq.1
    replace f := f.tr (hq.2.mo (by decide) (by decide))
    obtain ⟨n9, h⟩ := h
    exact ⟨n9, fr_layout_L112 n9 f h⟩
  · intro u9 hq
    exact ⟨h.2 u9 hq.1, f.tr (hq.2.mo (by decide) (by decide))⟩
set_option maxRecDepth 100000 in
theorem fr_layout_J103 {S0 : MS} {Q : MS → Prop} {E : MS → Prop} {U103 : MS} (f : frm [4, 5, 6, 7, 8, 9, 10, 11] [7, 8, 13, 14, 20, 21, 22, 25, 28] S0 U103) (h : w_layout_J103 Q E U103) : w_layout_J103 (fun u => Q u ∧ frm [4, 5, 6, 7, 8, 9, 10, 11] [7, 8, 13, 14, 20, 21, 22, 25, 28] S0 u) (fun u => E u ∧ frm [4, 5, 6, 7, 8, 9, 10, 11] [7, 8, 13, 14, 20, 21, 22, 25, 28] S0 u) U103 := by
  unfold w_layout_J103 at h ⊢
  exact fr_layout_J104 f h
set_option maxRecDepth 100000 in
theorem fr_layout_J48 {S0 : MS} {Q : MS → Prop} {E : MS → Prop} {k2 k2' : MS → Int32 → Prop} {U48 : MS} {t48_0 : Int32} {v48_1 : Int32} (hk2 : ∀ (u : MS) (z0), frm [4, 5, 6, 7, 8, 9, 10, 11] [7, 8, 13, 14, 20, 21, 22, 25, 28] S0 u → k2 u z0 → k2' u z0) (f : frm [4, 5, 6, 7, 8, 9, 10, 11] [7, 8, 13, 14, 20, 21, 22, 25, 28] S0 U48) (h : w_layout_J48 Q E k2 U48 t48_0 v48_1) : w_layout_J48 (fun u => Q u ∧ frm [4, 5, 6, 7, 8, 9, 10, 11] [7, 8, 13, 14, 20, 21, 22, 25, 28] S0 u) (fun u => E u ∧ frm [4, 5, 6, 7, 8, 9, 10, 11] [7, 8, 13, 14, 20, 21, 22, 25, 28] S0 u) k2' U48 t48_0 v48_1 := by
  unfold w_layout_J48 at h ⊢
  obtain ⟨Q9, E9, h0, h⟩ := h
  refine ⟨_, _, fr_must h0, ?_, ?_⟩
  · intro S61 hq
    replace h := h.1 S61 hq.1
    replace f := f.tr (hq.2.mo (by decide) (by decide))
    intro a63 ea63
    replace h := h a63 ea63
    exact hk2 _ _ f h
  · intro u9 hq
    exact ⟨h.2 u9 hq.1, f.tr (hq.2.mo (by decide) (by decide))⟩
set_option maxRecDepth 100000 in
theorem fr_layout_J22 {S0 : MS} {Q : MS → Prop} {E : MS → Prop} {k2 k2' : MS → Int32 → Prop} {U22 : MS} {t22_0 : Int32} {v22_1 : Int32} (hk2 : ∀ (u : MS) (z0), frm [4, 5, 6, 7, 8, 9, 10, 11] [7, 8, 13, 14, 20, 21, 22, 25, 28] S0 u → k2 u z0 → k2' u z0) (f : frm [4, 5, 6, 7, 8, 9, 10, 11] [7, 8, 13, 14, 20, 21, 22, 25, 28] S0 U22) (h : w_layout_J22 Q E k2 U22 t22_0 v22_1) : w_layout_J22 (fun u => Q u ∧ frm [4, 5, 6, 7, 8, 9, 10, 11] [7, 8, 13, 14, 20, 21, 22, 25, 28] S0 u) (fun u => E u ∧ frm [4, 5, 6, 7, 8, 9, 10, 11] [7, 8, 13, 14, 20, 21, 22, 25, 28] S0 u) k2' U22 t22_0 v22_1 := by
  unfold w_layout_J22 at h ⊢
  obtain ⟨Q9, E9, h0, h⟩ := h
  refine ⟨_, _, fr_must h0, ?_, ?_⟩
  · intro S52 hq
    replace h := h.1 S52 hq.1
    replace f := f.tr (hq.2.mo (by decide) (by decide))
    refine ⟨h.1, ?_⟩
    replace h := h.2
    refine ⟨h.1, ?_⟩
    replace h := h.2
    refine ⟨fun c => ?_, fun c => ?_⟩
    · replace h := h.1 c
      exact fr_layout_J48 hk2 f h
    · replace h := h.2 c
      exact fr_layout_J48 hk2 f h
  · intro u9 hq
    exact ⟨h.2 u9 hq.1, f.tr (hq.2.mo (by decide) (by decide))⟩
set_option maxRecDepth 100000 in
theorem fr_layout_L2 {S0 : MS} {Q : MS → Prop} {E : MS → Prop} : ∀ (n : Nat) {U2 : MS} {v2_1 : Int32}, frm [4, 5, 6, 7, 8, 9, 10, 11] [7, 8, 13, 14, 20, 21, 22, 25, 28] S0 U2 → w_layout_L2 Q E n U2 v2_1 → w_layout_L2 (fun u => Q u ∧ frm [4, 5, 6, 7, 8, 9, 10, 11] [7, 8, 13, 14, 20, 21, 22, 25, 28] S0 u) (fun u => E u ∧ frm [4, 5, 6, 7, 8, 9, 10, 11] [7, 8, 13, 14, 20, 21, 22, 25, 28] S0 u) n U2 v2_1 := by
  intro n
  induction n with
  | zero => intro U2 v2_1 f h; unfold w_layout_L2 at h; exact h.elim
  | succ n ih =>
    intro U2 v2_1 f h
    unfold w_layout_L2 at h ⊢
    refine ⟨fun c => ?_, fun c => ?_⟩
    · replace h := h.1 c
      intro S2 eS2
      replace h := h S2 eS2
      replace f := f.tr (show frm [4, 5, 6, 7, 8, 9, 10, 11] [7, 8, 13, 14, 20, 21, 22, 25, 28] U2 S2 by rw [eS2]; exact frm.pI0 (by decide))
      obtain ⟨Q9, E9, h0, h⟩ := h
      refine ⟨_, _, fr_over h0, ?_, ?_⟩
      · intro r4 S5 hq
        replace h := h.1 r4 S5 hq.1
        replace f := f.tr (hq.2.mo (by decide) (by decide))
        refine ⟨h.1, ?_⟩
        replace h := h.2
        intro S10 eS10
        replace h := h S10 eS10
        replace f := f.tr (show frm [4, 5, 6, 7, 8, 9, 10, 11] [7, 8, 13, 14, 20, 21, 22, 25, 28] S5 S10 by rw [eS10]; exact frm.pI0 (by decide))
        refine ⟨fun c => ?_, fun c => ?_⟩
        · replace h := h.1 c
          exact fr_layout_J103 f h
        · replace h := h.2 c
          refine ⟨fun c => ?_, fun c => ?_⟩
          · replace h := h.1 c
            exact fr_layout_J103 f h
          · replace h := h.2 c
            exact fr_layout_J104 f h
      · intro u9 hq
        exact ⟨h.2 u9 hq.1, f.tr (hq.2.mo (by decide) (by decide))⟩
    · replace h := h.2 c
      refine ⟨fun c => ?_, fun c => ?_⟩
      · replace h := h.1 c
        exact fr_layout_J22 (fun _ _ f h => ih f h) f h
      · replace h := h.2 c
        exact fr_layout_J22 (fun _ _ f h => ih f h) f h
set_option maxRecDepth 100000 in
theorem fr_layout {S : MS} {Q : MS → Prop} {E : MS → Prop} (h : w_layout S  Q E) : w_layout S  (fun u => Q u ∧ frm [4, 5, 6, 7, 8, 9, 10, 11] [7, 8, 13, 14, 20, 21, 22, 25, 28] S u) (fun u => E u ∧ frm [4, 5, 6, 7, 8, 9, 10, 11] [7, 8, 13, 14, 20, 21, 22, 25, 28] S u) := by
  have f : frm [4, 5, 6, 7, 8, 9, 10, 11] [7, 8, 13, 14, 20, 21, 22, 25, 28] S S := frm.rf
  unfold w_layout at h ⊢
  obtain ⟨n9, h⟩ := h
  exact ⟨n9, fr_layout_L2 n9 f h⟩
set_option maxRecDepth 100000 in
theorem fr_putTagged_J55 {S0 : MS} {Q : MS → Prop} {U55 : MS} {v55_4 : Int32} (f : frm [44, 46, 48] [] S0 U55) (h : w_putTagged_J55 Q U55 v55_4) : w_putTagged_J55 (fun u => Q u ∧ frm [44, 46, 48] [] S0 u) U55 v55_4 := by
  unfold w_putTagged_J55 at h ⊢
  refine ⟨h.1, ?_⟩
  replace h := h.2
  refine ⟨h.1, ?_⟩
  replace h := h.2
  intro S17 eS17
  replace h := h S17 eS17
  replace f := f.tr (show frm [44, 46, 48] [] U55 S17 by rw [eS17]; exact frm.pI (by decide))
  exact ⟨h, f⟩
set_option maxRecDepth 100000 in
theorem fr_putTagged {S : MS} {y1 : Int64} {x3 : Int32} {x4 : Int32} {Q : MS → Prop} (h : w_putTagged S y1 x3 x4 Q) : w_putTagged S y1 x3 x4 (fun u => Q u ∧ frm [44, 46, 48] [] S u) := by
  have f : frm [44, 46, 48] [] S S := frm.rf
  unfold w_putTagged at h ⊢
  refine ⟨h.1, ?_⟩
  replace h := h.2
  intro a7 ea7
  replace h := h a7 ea7
  refine ⟨h.1, ?_⟩
  replace h := h.2
  intro S9 eS9
  replace h := h S9 eS9
  replace f := f.tr (show frm [44, 46, 48] [] S S9 by rw [eS9]; exact frm.pJ (by decide))
  refine ⟨h.1, ?_⟩
  replace h := h.2
  intro S11 eS11
  replace h := h S11 eS11
  replace f := f.tr (show frm [44, 46, 48] [] S9 S11 by rw [eS11]; exact frm.pI (by decide))
  refine ⟨fun c => ?_, fun c => ?_⟩
  · replace h := h.1 c
    refine ⟨h.1, ?_⟩
    replace h := h.2
    intro S21 eS21
    replace h := h S21 eS21
    replace f := f.tr (show frm [44, 46, 48] [] S11 S21 by rw [eS21]; exact frm.pI (by decide))
    exact fr_putTagged_J55 f h
  · replace h := h.2 c
    exact fr_putTagged_J55 f h
set_option maxRecDepth 100000 in
theorem fr_put {S : MS} {y1 : Int64} {x3 : Int32} {Q : MS → Prop} (h : w_put S y1 x3 Q) : w_put S y1 x3 (fun u => Q u ∧ frm [44, 46, 48] [] S u) := by
  have f : frm [44, 46, 48] [] S S := frm.rf
  unfold w_put at h ⊢
  refine ⟨fun c => ?_, fun c => ?_⟩
  · replace h := h.1 c
    obtain ⟨Q9, h0, h⟩ := h
    refine ⟨_, fr_putTagged h0, ?_⟩
    · intro S9 hq
      replace h := h S9 hq.1
      replace f := f.tr (hq.2.mo (by decide) (by decide))
      exact ⟨h, f⟩
  · replace h := h.2 c
    refine ⟨h.1, ?_⟩
    replace h := h.2
    obtain ⟨Q9, h0, h⟩ := h
    refine ⟨_, fr_putTagged h0, ?_⟩
    · intro S6 hq
      replace h := h S6 hq.1
      replace f := f.tr (hq.2.mo (by decide) (by decide))
      exact ⟨h, f⟩
set_option maxRecDepth 100000 in
theorem fr_putInt {S : MS} {x1 : Int32} {Q : MS → Prop} (h : w_putInt S x1 Q) : w_putInt S x1 (fun u => Q u ∧ frm [44, 46, 48] [] S u) := by
  have f : frm [44, 46, 48] [] S S := frm.rf
  unfold w_putInt at h ⊢
  obtain ⟨Q9, h0, h⟩ := h
  refine ⟨_, fr_putTagged h0, ?_⟩
  · intro S2 hq
    replace h := h S2 hq.1
    replace f := f.tr (hq.2.mo (by decide) (by decide))
    exact ⟨h, f⟩
set_option maxRecDepth 100000 in
theorem fr_leave_J96 {S0 : MS} {Q : MS → Prop} {U96 : MS} (f : frm [43, 44, 46, 48] [97, 98, 101] S0 U96) (h : w_leave_J96 Q U96) : w_leave_J96 (fun u => Q u ∧ frm [43, 44, 46, 48] [97, 98, 101] S0 u) U96 := by
  unfold w_leave_J96 at h ⊢
  refine ⟨h.1, ?_⟩
  replace h := h.2
  obtain ⟨Q9, h0, h⟩ := h
  refine ⟨_, fr_goTo h0, ?_⟩
  · intro S9 hq
    replace h := h S9 hq.1
    replace f := f.tr (hq.2.mo (by decide) (by decide))
    exact ⟨h, f⟩
set_option maxRecDepth 100000 in
theorem fr_leave_J93 {S0 : MS} {Q : MS → Prop} {U93 : MS} {t93_0 : Int32} {t93_1 : Int64} (f : frm [43, 44, 46, 48] [97, 98, 101] S0 U93) (h : w_leave_J93 Q U93 t93_0 t93_1) : w_leave_J93 (fun u => Q u ∧ frm [43, 44, 46, 48] [97, 98, 101] S0 u) U93 t93_0 t93_1 := by
  unfold w_leave_J93 at h ⊢
  obtain ⟨Q9, h0, h⟩ := h
  refine ⟨_, fr_put h0, ?_⟩
  · intro S14 hq
    replace h := h S14 hq.1
    replace f := f.tr (hq.2.mo (by decide) (by decide))
    exact fr_leave_J96 f h
set_option maxRecDepth 100000 in
theorem fr_leave_J27 {S0 : MS} {Q : MS → Prop} {U27 : MS} {t27_0 : Int64} {v27_1 : Int32} (f : frm [43, 44, 46, 48] [97, 98, 101] S0 U27) (h : w_leave_J27 Q U27 t27_0 v27_1) : w_leave_J27 (fun u => Q u ∧ frm [43, 44, 46, 48] [97, 98, 101] S0 u) U27 t27_0 v27_1 := by
  unfold w_leave_J27 at h ⊢
  intro S2 eS2
  replace h := h S2 eS2
  replace f := f.tr (show frm [43, 44, 46, 48] [97, 98, 101] U27 S2 by rw [eS2]; exact frm.pI0 (by decide))
  refine ⟨fun c => ?_, fun c => ?_⟩
  · replace h := h.1 c
    intro S20 eS20
    replace h := h S20 eS20
    replace f := f.tr (show frm [43, 44, 46, 48] [97, 98, 101] S2 S20 by rw [eS20]; exact frm.pI0 (by decide))
    intro S21 eS21
    replace h := h S21 eS21
    replace f := f.tr (show frm [43, 44, 46, 48] [97, 98, 101] S20 S21 by rw [eS21]; exact frm.pJ0 (by decide))
    exact ⟨h, f⟩
  · replace h := h.2 c
    refine ⟨fun c => ?_, fun c => ?_⟩
    · replace h := h.1 c
      obtain ⟨Q9, h0, h⟩ := h
      refine ⟨_, fr_putInt h0, ?_⟩
      · intro S18 hq
        replace h := h S18 hq.1
        replace f := f.tr (hq.2.mo (by decide) (by decide))
        exact fr_leave_J96 f h
    · replace h := h.2 c
      refine ⟨fun c => ?_, fun c => ?_⟩
      · replace h := h.1 c
        exact fr_leave_J96 f h
      · replace h := h.2 c
        refine ⟨fun c => ?_, fun c => ?_⟩
        · replace h := h.1 c
          exact fr_leave_J93 f h
        · replace h := h.2 c
          exact fr_leave_J93 f h
set_option maxRecDepth 100000 in
theorem fr_leave_J24 {S0 : MS} {Q : MS → Prop} {U24 : MS} {t24_0 : Int32} {v24_1 : Int32} (f : frm [43, 44, 46, 48] [97, 98, 101] S0 U24) (h : w_leave_J24 Q U24 t24_0 v24_1) : w_leave_J24 (fun u => Q u ∧ frm [43, 44, 46, 48] [97, 98, 101] S0 u) U24 t24_0 v24_1 := by
  unfold w_leave_J24 at h ⊢
  obtain ⟨Q9, h0, h⟩ := h
  refine ⟨_, fr_got h0, ?_⟩
  · intro r24 S25 hq
    replace h := h r24 S25 hq.1
    replace f := f.tr (hq.2.mo (by decide) (by decide))
    exact fr_leave_J27 f h
set_option maxRecDepth 100000 in
theorem fr_leave {S : MS} {x1 : Int32} {Q : MS → Prop} (h : w_leave S x1 Q) : w_leave S x1 (fun u => Q u ∧ frm [43, 44, 46, 48] [97, 98, 101] S u) := by
  have f : frm [43, 44, 46, 48] [97, 98, 101] S S := frm.rf
  unfold w_leave at h ⊢
  refine ⟨fun c => ?_, fun c => ?_⟩
  · replace h := h.1 c
    exact fr_leave_J27 f h
  · replace h := h.2 c
    refine ⟨fun c => ?_, fun c => ?_⟩
    · replace h := h.1 c
      exact fr_leave_J24 f h
    · replace h := h.2 c
      exact fr_leave_J24 f h
set_option maxRecDepth 100000 in
theorem fr_throwError_J111 {S0 : MS} {Q : MS → Prop} {k40 k40' : MS → Int32 → Int32 → Int32 → Prop} {U111 : MS} {v111_1 : Int32} {v111_2 : Int32} {v111_3 : Int32} (hk40 : ∀ (u : MS) (z0) (z1) (z2), frm [43, 44, 46, 48] [47, 48, 49, 50, 51, 52, 53, 54, 97, 98, 102] S0 u → k40 u z0 z1 z2 → k40' u z0 z1 z2) (f : frm [43, 44, 46, 48] [47, 48, 49, 50, 51, 52, 53, 54, 97, 98, 102] S0 U111) (h : w_throwError_J111 Q k40 U111 v111_1 v111_2 v111_3) : w_throwError_J111 (fun u => Q u ∧ frm [43, 44, 46, 48] [47, 48, 49, 50, 51, 52, 53, 54, 97, 98, 102] S0 u) k40' U111 v111_1 v111_2 v111_3 := by
  unfold w_throwError_J111 at h ⊢
  intro a22 ea22
  replace h := h a22 ea22
  exact hk40 _ _ _ _ f h
set_option maxRecDepth 100000 in
theorem fr_throwError_J79 {S0 : MS} {Q : MS → Prop} {U79 : MS} {v79_1 : Int32} {v79_3 : Int32} (f : frm [43, 44, 46, 48] [47, 48, 49, 50, 51, 52, 53, 54, 97, 98, 102] S0 U79) (h : w_throwError_J79 Q U79 v79_1 v79_3) : w_throwError_J79 (fun u => Q u ∧ frm [43, 44, 46, 48] [47, 48, 49, 50, 51, 52, 53, 54, 97, 98, 102] S0 u) U79 v79_1 v79_3 := by
  unfold w_throwError_J79 at h ⊢
  refine ⟨h.1, ?_⟩
  replace h := h.2
  intro S29 eS29
  replace h := h S29 eS29
  replace f := f.tr (show frm [43, 44, 46, 48] [47, 48, 49, 50, 51, 52, 53, 54, 97, 98, 102] U79 S29 by rw [eS29]; exact frm.pI (by decide))
  obtain ⟨Q9, h0, h⟩ := h
  refine ⟨_, fr_put h0, ?_⟩
  · intro S32 hq
    replace h := h S32 hq.1
    replace f := f.tr (hq.2.mo (by decide) (by decide))
    refine ⟨h.1, ?_⟩
    replace h := h.2
    obtain ⟨Q9, h0, h⟩ := h
    refine ⟨_, fr_goTo h0, ?_⟩
    · intro S38 hq
      replace h := h S38 hq.1
      replace f := f.tr (hq.2.mo (by decide) (by decide))
      exact ⟨h, f⟩
set_option maxRecDepth 100000 in
theorem fr_throwError_L40 {S0 : MS} {Q : MS → Prop} {k0 k0' : MS → Int32 → Prop} (hk0 : ∀ (u : MS) (z0), frm [43, 44, 46, 48] [47, 48, 49, 50, 51, 52, 53, 54, 97, 98, 102] S0 u → k0 u z0 → k0' u z0) : ∀ (n : Nat) {U40 : MS} {v40_1 : Int32} {v40_2 : Int32} {v40_3 : Int32}, frm [43, 44, 46, 48] [47, 48, 49, 50, 51, 52, 53, 54, 97, 98, 102] S0 U40 → w_throwError_L40 Q k0 n U40 v40_1 v40_2 v40_3 → w_throwError_L40 (fun u => Q u ∧ frm [43, 44, 46, 48] [47, 48, 49, 50, 51, 52, 53, 54, 97, 98, 102] S0 u) k0' n U40 v40_1 v40_2 v40_3 := by
  intro n
  induction n with
  | zero => intro U40 v40_1 v40_2 v40_3 f h; unfold w_throwError_L40 at h; exact h.elim
  | succ n ih =>
    intro U40 v40_1 v40_2 v40_3 f h
    unfold w_throwError_L40 at h ⊢
    refine ⟨fun c => ?_, fun c => ?_⟩
    · replace h := h.1 c
      intro S18 eS18
      replace h := h S18 eS18
      replace f := f.tr (show frm [43, 44, 46, 48] [47, 48, 49, 50, 51, 52, 53, 54, 97, 98, 102] U40 S18 by rw [eS18]; exact frm.pI0 (by decide))
      exact hk0 _ _ f h
    · replace h := h.2 c
      refine ⟨h.1, ?_⟩
      replace h := h.2
      refine ⟨fun c => ?_, fun c => ?_⟩
      · replace h := h.1 c
        exact fr_throwError_J111 (fun _ _ _ _ f h => ih f h) f h
      · replace h := h.2 c
        refine ⟨h.1, ?_⟩
        replace h := h.2
        refine ⟨fun c => ?_, fun c => ?_⟩
        · replace h := h.1 c
          exact fr_throwError_J79 f h
        · replace h := h.2 c
          refine ⟨h.1, ?_⟩
          replace h := h.2
          refine ⟨fun c => ?_, fun c => ?_⟩
          · replace h := h.1 c
            exact fr_throwError_J79 f h
          · replace h := h.2 c
            exact fr_throwError_J111 (fun _ _ _ _ f h => ih f h) f h
set_option maxRecDepth 100000 in
theorem fr_throwError_L0 {S0 : MS} {Q : MS → Prop} : ∀ (n : Nat) {U0 : MS} {v0_1 : Int32}, frm [43, 44, 46, 48] [47, 48, 49, 50, 51, 52, 53, 54, 97, 98, 102] S0 U0 → w_throwError_L0 Q n U0 v0_1 → w_throwError_L0 (fun u => Q u ∧ frm [43, 44, 46, 48] [47, 48, 49, 50, 51, 52, 53, 54, 97, 98, 102] S0 u) n U0 v0_1 := by
  intro n
  induction n with
  | zero => intro U0 v0_1 f h; unfold w_throwError_L0 at h; exact h.elim
  | succ n ih =>
    intro U0 v0_1 f h
    unfold w_throwError_L0 at h ⊢
    refine ⟨fun c => ?_, fun c => ?_⟩
    · replace h := h.1 c
      intro S2 eS2
      replace h := h S2 eS2
      replace f := f.tr (show frm [43, 44, 46, 48] [47, 48, 49, 50, 51, 52, 53, 54, 97, 98, 102] U0 S2 by rw [eS2]; exact frm.pI0 (by decide))
      intro S3 eS3
      replace h := h S3 eS3
      replace f := f.tr (show frm [43, 44, 46, 48] [47, 48, 49, 50, 51, 52, 53, 54, 97, 98, 102] S2 S3 by rw [eS3]; exact frm.pI0 (by decide))
      exact ⟨h, f⟩
    · replace h := h.2 c
      refine ⟨h.1, ?_⟩
      replace h := h.2
      refine ⟨h.1, ?_⟩
      replace h := h.2
      obtain ⟨Q9, h0, h⟩ := h
      refine ⟨_, fr_look h0, ?_⟩
      · intro S10 hq
        replace h := h S10 hq.1
        replace f := f.tr (hq.2.mo (by decide) (by decide))
        refine ⟨h.1, ?_⟩
        replace h := h.2
        intro a15 ea15
        replace h := h a15 ea15
        obtain ⟨n9, h⟩ := h
        exact ⟨n9, fr_throwError_L40 (fun _ _ f h => ih f h) n9 f h⟩
set_option maxRecDepth 100000 in
theorem fr_throwError {S : MS} {x1 : Int32} {Q : MS → Prop} (h : w_throwError S x1 Q) : w_throwError S x1 (fun u => Q u ∧ frm [43, 44, 46, 48] [47, 48, 49, 50, 51, 52, 53, 54, 97, 98, 102] S u) := by
  have f : frm [43, 44, 46, 48] [47, 48, 49, 50, 51, 52, 53, 54, 97, 98, 102] S S := frm.rf
  unfold w_throwError at h ⊢
  obtain ⟨n9, h⟩ := h
  exact ⟨n9, fr_throwError_L0 n9 f h⟩
set_option maxRecDepth 100000 in
theorem fr_made_J36 {S0 : MS} {Q : Int32 → MS → Prop} {U36 : MS} (f : frm [39, 40, 43, 44, 46, 48] [47, 48, 49, 50, 51, 52, 53, 54, 85, 86, 97, 98, 102] S0 U36) (h : w_made_J36 Q U36) : w_made_J36 (fun r u => Q r u ∧ frm [39, 40, 43, 44, 46, 48] [47, 48, 49, 50, 51, 52, 53, 54, 85, 86, 97, 98, 102] S0 u) U36 := by
  unfold w_made_J36 at h ⊢
  intro S4 eS4
  replace h := h S4 eS4
  replace f := f.tr (show frm [39, 40, 43, 44, 46, 48] [47, 48, 49, 50, 51, 52, 53, 54, 85, 86, 97, 98, 102] U36 S4 by rw [eS4]; exact frm.pI0 (by decide))
  exact ⟨h, f⟩
set_option maxRecDepth 100000 in
theorem fr_made {S : MS} {x1 : Int32} {Q : Int32 → MS → Prop} (h : w_made S x1 Q) : w_made S x1 (fun r u => Q r u ∧ frm [39, 40, 43, 44, 46, 48] [47, 48, 49, 50, 51, 52, 53, 54, 85, 86, 97, 98, 102] S u) := by
  have f : frm [39, 40, 43, 44, 46, 48] [47, 48, 49, 50, 51, 52, 53, 54, 85, 86, 97, 98, 102] S S := frm.rf
  unfold w_made at h ⊢
  refine ⟨fun c => ?_, fun c => ?_⟩
  · replace h := h.1 c
    refine ⟨fun c => ?_, fun c => ?_⟩
    · replace h := h.1 c
      exact fr_made_J36 f h
    · replace h := h.2 c
      refine ⟨fun c => ?_, fun c => ?_⟩
      · replace h := h.1 c
        exact fr_made_J36 f h
      · replace h := h.2 c
        intro S8 eS8
        replace h := h S8 eS8
        replace f := f.tr (show frm [39, 40, 43, 44, 46, 48] [47, 48, 49, 50, 51, 52, 53, 54, 85, 86, 97, 98, 102] S S8 by rw [eS8]; exact frm.pI0 (by decide))
        refine ⟨h.1, ?_⟩
        replace h := h.2
        intro S10 eS10
        replace h := h S10 eS10
        replace f := f.tr (show frm [39, 40, 43, 44, 46, 48] [47, 48, 49, 50, 51, 52, 53, 54, 85, 86, 97, 98, 102] S8 S10 by rw [eS10]; exact frm.pI (by decide))
        refine ⟨h.1, ?_⟩
        replace h := h.2
        intro S12 eS12
        replace h := h S12 eS12
        replace f := f.tr (show frm [39, 40, 43, 44, 46, 48] [47, 48, 49, 50, 51, 52, 53, 54, 85, 86, 97, 98, 102] S10 S12 by rw [eS12]; exact frm.pI (by decide))
        intro S14 eS14
        replace h := h S14 eS14
        replace f := f.tr (show frm [39, 40, 43, 44, 46, 48] [47, 48, 49, 50, 51, 52, 53, 54, 85, 86, 97, 98, 102] S12 S14 by rw [eS14]; exact frm.pI0 (by decide))
        obtain ⟨Q9, h0, h⟩ := h
        refine ⟨_, fr_put h0, ?_⟩
        · intro S16 hq
          replace h := h S16 hq.1
          replace f := f.tr (hq.2.mo (by decide) (by decide))
          exact ⟨h, f⟩
  · replace h := h.2 c
    obtain ⟨Q9, h0, h⟩ := h
    refine ⟨_, fr_throwError h0, ?_⟩
    · intro S19 hq
      replace h := h S19 hq.1
      replace f := f.tr (hq.2.mo (by decide) (by decide))
      exact ⟨h, f⟩
set_option maxRecDepth 100000 in
theorem fr_mark_J196 {S0 : MS} {Q : MS → Prop} {k128 k128' : MS → Int32 → Prop} {U196 : MS} {v196_1 : Int32} (hk128 : ∀ (u : MS) (z0), frm [86, 87] [] S0 u → k128 u z0 → k128' u z0) (f : frm [86, 87] [] S0 U196) (h : w_mark_J196 Q k128 U196 v196_1) : w_mark_J196 (fun u => Q u ∧ frm [86, 87] [] S0 u) k128' U196 v196_1 := by
  unfold w_mark_J196 at h ⊢
  intro a7 ea7
  replace h := h a7 ea7
  exact hk128 _ _ f h
set_option maxRecDepth 100000 in
theorem fr_mark_J120 {S0 : MS} {Q : MS → Prop} {k71 k71' : MS → Int32 → Prop} {U120 : MS} {v120_1 : Int32} (hk71 : ∀ (u : MS) (z0), frm [86, 87] [] S0 u → k71 u z0 → k71' u z0) (f : frm [86, 87] [] S0 U120) (h : w_mark_J120 Q k71 U120 v120_1) : w_mark_J120 (fun u => Q u ∧ frm [86, 87] [] S0 u) k71' U120 v120_1 := by
  unfold w_mark_J120 at h ⊢
  intro a35 ea35
  replace h := h a35 ea35
  exact hk71 _ _ f h
set_option maxRecDepth 100000 in
theorem fr_mark_J40 {S0 : MS} {Q : MS → Prop} {k2 k2' : MS → Int32 → Prop} {U40 : MS} {v40_1 : Int32} (hk2 : ∀ (u : MS) (z0), frm [86, 87] [] S0 u → k2 u z0 → k2' u z0) (f : frm [86, 87] [] S0 U40) (h : w_mark_J40 Q k2 U40 v40_1) : w_mark_J40 (fun u => Q u ∧ frm [86, 87] [] S0 u) k2' U40 v40_1 := by
  unfold w_mark_J40 at h ⊢
  intro a63 ea63
  replace h := h a63 ea63
  exact hk2 _ _ f h
set_option maxRecDepth 100000 in
theorem fr_mark_L128 {S0 : MS} {Q : MS → Prop} : ∀ (n : Nat) {U128 : MS} {v128_1 : Int32}, frm [86, 87] [] S0 U128 → w_mark_L128 Q n U128 v128_1 → w_mark_L128 (fun u => Q u ∧ frm [86, 87] [] S0 u) n U128 v128_1 := by
  intro n
  induction n with
  | zero => intro U128 v128_1 f h; unfold w_mark_L128 at h; exact h.elim
  | succ n ih =>
    intro U128 v128_1 f h
    unfold w_mark_L128 at h ⊢
    refine ⟨fun c => ?_, fun c => ?_⟩
    · replace h := h.1 c
      exact ⟨h, f⟩
    · replace h := h.2 c
      refine ⟨h.1, ?_⟩
      replace h := h.2
      refine ⟨fun c => ?_, fun c => ?_⟩
      · replace h := h.1 c
        refine ⟨h.1, ?_⟩
        replace h := h.2
        obtain ⟨Q9, h0, h⟩ := h
        refine ⟨_, fr_here h0, ?_⟩
        · intro r12 S13 hq
          replace h := h r12 S13 hq.1
          replace f := f.tr (hq.2.mo (by decide) (by decide))
          refine ⟨h.1, ?_⟩
          replace h := h.2
          intro S16 eS16
          replace h := h S16 eS16
          replace f := f.tr (show frm [86, 87] [] S13 S16 by rw [eS16]; exact frm.pI (by decide))
          refine ⟨h.1, ?_⟩
          replace h := h.2
          obtain ⟨Q9, h0, h⟩ := h
          refine ⟨_, fr_here h0, ?_⟩
          · intro r20 S21 hq
            replace h := h r20 S21 hq.1
            replace f := f.tr (hq.2.mo (by decide) (by decide))
            refine ⟨h.1, ?_⟩
            replace h := h.2
            intro S24 eS24
            replace h := h S24 eS24
            replace f := f.tr (show frm [86, 87] [] S21 S24 by rw [eS24]; exact frm.pI (by decide))
            refine ⟨h.1, ?_⟩
            replace h := h.2
            obtain ⟨Q9, h0, h⟩ := h
            refine ⟨_, fr_here h0, ?_⟩
            · intro r28 S29 hq
              replace h := h r28 S29 hq.1
              replace f := f.tr (hq.2.mo (by decide) (by decide))
              refine ⟨h.1, ?_⟩
              replace h := h.2
              intro S32 eS32
              replace h := h S32 eS32
              replace f := f.tr (show frm [86, 87] [] S29 S32 by rw [eS32]; exact frm.pI (by decide))
              exact fr_mark_J196 (fun _ _ f h => ih f h) f h
      · replace h := h.2 c
        exact fr_mark_J196 (fun _ _ f h => ih f h) f h
set_option maxRecDepth 100000 in
theorem fr_mark_L93 {S0 : MS} {Q : MS → Prop} {k71 k71' : MS → Int32 → Prop} (hk71 : ∀ (u : MS) (z0), frm [86, 87] [] S0 u → k71 u z0 → k71' u z0) : ∀ (n : Nat) {U93 : MS} {v93_1 : Int32} {v93_2 : Int32}, frm [86, 87] [] S0 U93 → w_mark_L93 Q k71 n U93 v93_1 v93_2 → w_mark_L93 (fun u => Q u ∧ frm [86, 87] [] S0 u) k71' n U93 v93_1 v93_2 := by
  intro n
  induction n with
  | zero => intro U93 v93_1 v93_2 f h; unfold w_mark_L93 at h; exact h.elim
  | succ n ih =>
    intro U93 v93_1 v93_2 f h
    unfold w_mark_L93 at h ⊢
    refine ⟨h.1, ?_⟩
    replace h := h.2
    refine ⟨fun c => ?_, fun c => ?_⟩
    · replace h := h.1 c
      exact fr_mark_J120 hk71 f h
    · replace h := h.2 c
      obtain ⟨Q9, h0, h⟩ := h
      refine ⟨_, fr_wayOf h0, ?_⟩
      · intro r42 S43 hq
        replace h := h r42 S43 hq.1
        replace f := f.tr (hq.2.mo (by decide) (by decide))
        refine ⟨h.1, ?_⟩
        replace h := h.2
        intro S46 eS46
        replace h := h S46 eS46
        replace f := f.tr (show frm [86, 87] [] S43 S46 by rw [eS46]; exact frm.pI (by decide))
        intro a47 ea47
        replace h := h a47 ea47
        exact ih f h
set_option maxRecDepth 100000 in
theorem fr_mark_L71 {S0 : MS} {Q : MS → Prop} : ∀ (n : Nat) {U71 : MS} {v71_1 : Int32}, frm [86, 87] [] S0 U71 → w_mark_L71 Q n U71 v71_1 → w_mark_L71 (fun u => Q u ∧ frm [86, 87] [] S0 u) n U71 v71_1 := by
  intro n
  induction n with
  | zero => intro U71 v71_1 f h; unfold w_mark_L71 at h; exact h.elim
  | succ n ih =>
    intro U71 v71_1 f h
    unfold w_mark_L71 at h ⊢
    refine ⟨fun c => ?_, fun c => ?_⟩
    · replace h := h.1 c
      obtain ⟨n9, h⟩ := h
      exact ⟨n9, fr_mark_L128 n9 f h⟩
    · replace h := h.2 c
      refine ⟨h.1, ?_⟩
      replace h := h.2
      refine ⟨fun c => ?_, fun c => ?_⟩
      · replace h := h.1 c
        obtain ⟨n9, h⟩ := h
        exact ⟨n9, fr_mark_L93 (fun _ _ f h => ih f h) n9 f h⟩
      · replace h := h.2 c
        exact fr_mark_J120 (fun _ _ f h => ih f h) f h
set_option maxRecDepth 100000 in
theorem fr_mark_L48 {S0 : MS} {Q : MS → Prop} : ∀ (n : Nat) {U48 : MS} {v48_1 : Int32}, frm [86, 87] [] S0 U48 → w_mark_L48 Q n U48 v48_1 → w_mark_L48 (fun u => Q u ∧ frm [86, 87] [] S0 u) n U48 v48_1 := by
  intro n
  induction n with
  | zero => intro U48 v48_1 f h; unfold w_mark_L48 at h; exact h.elim
  | succ n ih =>
    intro U48 v48_1 f h
    unfold w_mark_L48 at h ⊢
    refine ⟨fun c => ?_, fun c => ?_⟩
    · replace h := h.1 c
      obtain ⟨n9, h⟩ := h
      exact ⟨n9, fr_mark_L71 n9 f h⟩
    · replace h := h.2 c
      refine ⟨h.1, ?_⟩
      replace h := h.2
      intro S49 eS49
      replace h := h S49 eS49
      replace f := f.tr (show frm [86, 87] [] U48 S49 by rw [eS49]; exact frm.pI (by decide))
      intro a50 ea50
      replace h := h a50 ea50
      exact ih f h
set_option maxRecDepth 100000 in
theorem fr_mark_L2 {S0 : MS} {Q : MS → Prop} : ∀ (n : Nat) {U2 : MS} {v2_1 : Int32}, frm [86, 87] [] S0 U2 → w_mark_L2 Q n U2 v2_1 → w_mark_L2 (fun u => Q u ∧ frm [86, 87] [] S0 u) n U2 v2_1 := by
  intro n
  induction n with
  | zero => intro U2 v2_1 f h; unfold w_mark_L2 at h; exact h.elim
  | succ n ih =>
    intro U2 v2_1 f h
    unfold w_mark_L2 at h ⊢
    refine ⟨fun c => ?_, fun c => ?_⟩
    · replace h := h.1 c
      obtain ⟨n9, h⟩ := h
      exact ⟨n9, fr_mark_L48 n9 f h⟩
    · replace h := h.2 c
      refine ⟨h.1, ?_⟩
      replace h := h.2
      obtain ⟨Q9, h0, h⟩ := h
      refine ⟨_, fr_here h0, ?_⟩
      · intro r54 S55 hq
        replace h := h r54 S55 hq.1
        replace f := f.tr (hq.2.mo (by decide) (by decide))
        refine ⟨h.1, ?_⟩
        replace h := h.2
        obtain ⟨Q9, h0, h⟩ := h
        refine ⟨_, fr_here h0, ?_⟩
        · intro r60 S61 hq
          replace h := h r60 S61 hq.1
          replace f := f.tr (hq.2.mo (by decide) (by decide))
          refine ⟨fun c => ?_, fun c => ?_⟩
          · replace h := h.1 c
            exact fr_mark_J40 (fun _ _ f h => ih f h) f h
          · replace h := h.2 c
            refine ⟨h.1, ?_⟩
            replace h := h.2
            intro S66 eS66
            replace h := h S66 eS66
            replace f := f.tr (show frm [86, 87] [] S61 S66 by rw [eS66]; exact frm.pI (by decide))
            exact fr_mark_J40 (fun _ _ f h => ih f h) f h
set_option maxRecDepth 100000 in
theorem fr_mark {S : MS} {Q : MS → Prop} (h : w_mark S  Q) : w_mark S  (fun u => Q u ∧ frm [86, 87] [] S u) := by
  have f : frm [86, 87] [] S S := frm.rf
  unfold w_mark at h ⊢
  obtain ⟨n9, h⟩ := h
  exact ⟨n9, fr_mark_L2 n9 f h⟩
