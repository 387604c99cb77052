set_option maxRecDepth 100000 in
theorem fr_X9_putCounters_L234 {S0 : MS} {Q : MS → Prop} {k208 k208' : MS → Nat → Int32 → Prop} (hk208 : ∀ (u : MS) (z0) (z1), cfr [222, 223, 224, 225, 226, 227, 230, 406] [(47, 0), (47, 1), (47, 2), (47, 3), (47, 4), (47, 5), (47, 6), (47, 7), (47, 8), (47, 9), (47, 11), (48, 0), (48, 2), (48, 3), (48, 4), (48, 5)] S0 u → k208 u z0 z1 → k208' u z0 z1) : ∀ (n : Nat) {U234 : MS} {v234_1 : Nat} {v234_5 : Int32} {v234_6 : Int32} {v234_7 : Int32}, cfr [222, 223, 224, 225, 226, 227, 230, 406] [(47, 0), (47, 1), (47, 2), (47, 3), (47, 4), (47, 5), (47, 6), (47, 7), (47, 8), (47, 9), (47, 11), (48, 0), (48, 2), (48, 3), (48, 4), (48, 5)] S0 U234 → w_X9_putCounters_L234 Q k208 n U234 v234_1 v234_5 v234_6 v234_7 → w_X9_putCounters_L234 (fun u => Q u ∧ cfr [222, 223, 224, 225, 226, 227, 230, 406] [(47, 0), (47, 1), (47, 2), (47, 3), (47, 4), (47, 5), (47, 6), (47, 7), (47, 8), (47, 9), (47, 11), (48, 0), (48, 2), (48, 3), (48, 4), (48, 5)] S0 u) k208' n U234 v234_1 v234_5 v234_6 v234_7 := by
  intro n
  induction n with
  | zero => intro U234 v234_1 v234_5 v234_6 v234_7 f h; unfold w_X9_putCounters_L234 at h; exact h.elim
  | succ n ih =>
    intro U234 v234_1 v234_5 v234_6 v234_7 f h
    unfold w_X9_putCounters_L234 at h ⊢
    intro y1_ y2_
    replace h := h y1_ y2_
    refine ⟨fun c => ?_, fun c => ?_⟩
    · replace h := h.1 c
      intro a62 ea62 
      replace h := h a62 ea62 
      exact hk208 _ _ _ f h
    · replace h := h.2 c
      refine ⟨h.1, ?_⟩
      replace h := h.2
      intro a68 ea68 
      replace h := h a68 ea68 
      refine ⟨h.1, ?_⟩
      replace h := h.2
      intro a72 ea72 
      replace h := h a72 ea72 
      intro y3_
      replace h := h y3_
      obtain ⟨Q9, h0, h⟩ := h
      refine ⟨_, frX8_setTarget y1_ h0, ?_⟩
      intro S74 q4_ y5_ y6_
      replace h := h S74 q4_.1 y5_ y6_
      replace f := f.tr (q4_.2.mo (by decide) (by decide))
      intro a76 ea76 
      replace h := h a76 ea76 
      exact ih f h
set_option maxRecDepth 100000 in
theorem fr_X9_putCounters_L290 {S0 : MS} {Q : MS → Prop} : ∀ (n : Nat) {U290 : MS} {v290_1 : Nat} {v290_5 : Int32}, cfr [222, 223, 224, 225, 226, 227, 230, 406] [(47, 0), (47, 1), (47, 2), (47, 3), (47, 4), (47, 5), (47, 6), (47, 7), (47, 8), (47, 9), (47, 11), (48, 0), (48, 2), (48, 3), (48, 4), (48, 5)] S0 U290 → w_X9_putCounters_L290 Q n U290 v290_1 v290_5 → w_X9_putCounters_L290 (fun u => Q u ∧ cfr [222, 223, 224, 225, 226, 227, 230, 406] [(47, 0), (47, 1), (47, 2), (47, 3), (47, 4), (47, 5), (47, 6), (47, 7), (47, 8), (47, 9), (47, 11), (48, 0), (48, 2), (48, 3), (48, 4), (48, 5)] S0 u) n U290 v290_1 v290_5 := by
  intro n
  induction n with
  | zero => intro U290 v290_1 v290_5 f h; unfold w_X9_putCounters_L290 at h; exact h.elim
  | succ n ih =>
    intro U290 v290_1 v290_5 f h
    unfold w_X9_putCounters_L290 at h ⊢
    intro y7_ y8_
    replace h := h y7_ y8_
    refine ⟨fun c => ?_, fun c => ?_⟩
    · replace h := h.1 c
      exact ⟨h, f⟩
    · replace h := h.2 c
      refine ⟨h.1, ?_⟩
      replace h := h.2
      refine ⟨h.1, ?_⟩
      replace h := h.2
      refine ⟨h.1, ?_⟩
      replace h := h.2
      intro a31 ea31 
      replace h := h a31 ea31 
      refine ⟨h.1, ?_⟩
      replace h := h.2
      refine ⟨h.1, ?_⟩
      replace h := h.2
      refine ⟨h.1, ?_⟩
      replace h := h.2
      intro a39 ea39 
      replace h := h a39 ea39 
      refine ⟨h.1, ?_⟩
      replace h := h.2
      refine ⟨h.1, ?_⟩
      replace h := h.2
      refine ⟨h.1, ?_⟩
      replace h := h.2
      intro a47 ea47 
      replace h := h a47 ea47 
      refine ⟨h.1, ?_⟩
      replace h := h.2
      refine ⟨h.1, ?_⟩
      replace h := h.2
      intro y9_
      replace h := h y9_
      obtain ⟨Q9, h0, h⟩ := h
      refine ⟨_, frX8_addCatch y7_ h0, ?_⟩
      intro S53 q10_ y11_ y12_
      replace h := h S53 q10_.1 y11_ y12_
      replace f := f.tr (q10_.2.mo (by decide) (by decide))
      intro a55 ea55 
      replace h := h a55 ea55 
      exact ih f h
set_option maxRecDepth 100000 in
theorem fr_X9_putCounters_L208 {S0 : MS} {Q : MS → Prop} : ∀ (n : Nat) {U208 : MS} {v208_1 : Nat} {v208_5 : Int32}, cfr [222, 223, 224, 225, 226, 227, 230, 406] [(47, 0), (47, 1), (47, 2), (47, 3), (47, 4), (47, 5), (47, 6), (47, 7), (47, 8), (47, 9), (47, 11), (48, 0), (48, 2), (48, 3), (48, 4), (48, 5)] S0 U208 → w_X9_putCounters_L208 Q n U208 v208_1 v208_5 → w_X9_putCounters_L208 (fun u => Q u ∧ cfr [222, 223, 224, 225, 226, 227, 230, 406] [(47, 0), (47, 1), (47, 2), (47, 3), (47, 4), (47, 5), (47, 6), (47, 7), (47, 8), (47, 9), (47, 11), (48, 0), (48, 2), (48, 3), (48, 4), (48, 5)] S0 u) n U208 v208_1 v208_5 := by
  intro n
  induction n with
  | zero => intro U208 v208_1 v208_5 f h; unfold w_X9_putCounters_L208 at h; exact h.elim
  | succ n ih =>
    intro U208 v208_1 v208_5 f h
    unfold w_X9_putCounters_L208 at h ⊢
    intro y13_ y14_
    replace h := h y13_ y14_
    refine ⟨fun c => ?_, fun c => ?_⟩
    · replace h := h.1 c
      intro S21 eS21 y15_ y16_
      replace h := h S21 eS21 y15_ y16_
      replace f := f.tr (show cfr [222, 223, 224, 225, 226, 227, 230, 406] [(47, 0), (47, 1), (47, 2), (47, 3), (47, 4), (47, 5), (47, 6), (47, 7), (47, 8), (47, 9), (47, 11), (48, 0), (48, 2), (48, 3), (48, 4), (48, 5)] U208 S21 by rw [eS21]; exact cfr.oI y15_ (by decide))
      obtain ⟨n9, h⟩ := h
      exact ⟨n9, fr_X9_putCounters_L290 n9 f h⟩
    · replace h := h.2 c
      refine ⟨h.1, ?_⟩
      replace h := h.2
      intro a60 ea60 
      replace h := h a60 ea60 
      obtain ⟨n9, h⟩ := h
      exact ⟨n9, fr_X9_putCounters_L234 (fun _ _ _ f h => ih f h) n9 f h⟩
set_option maxRecDepth 100000 in
theorem fr_X9_putCounters_L176 {S0 : MS} {Q : MS → Prop} : ∀ (n : Nat) {U176 : MS} {v176_1 : Nat} {v176_5 : Int32}, cfr [222, 223, 224, 225, 226, 227, 230, 406] [(47, 0), (47, 1), (47, 2), (47, 3), (47, 4), (47, 5), (47, 6), (47, 7), (47, 8), (47, 9), (47, 11), (48, 0), (48, 2), (48, 3), (48, 4), (48, 5)] S0 U176 → w_X9_putCounters_L176 Q n U176 v176_1 v176_5 → w_X9_putCounters_L176 (fun u => Q u ∧ cfr [222, 223, 224, 225, 226, 227, 230, 406] [(47, 0), (47, 1), (47, 2), (47, 3), (47, 4), (47, 5), (47, 6), (47, 7), (47, 8), (47, 9), (47, 11), (48, 0), (48, 2), (48, 3), (48, 4), (48, 5)] S0 u) n U176 v176_1 v176_5 := by
  intro n
  induction n with
  | zero => intro U176 v176_1 v176_5 f h; unfold w_X9_putCounters_L176 at h; exact h.elim
  | succ n ih =>
    intro U176 v176_1 v176_5 f h
    unfold w_X9_putCounters_L176 at h ⊢
    intro y17_ y18_
    replace h := h y17_ y18_
    refine ⟨fun c => ?_, fun c => ?_⟩
    · replace h := h.1 c
      obtain ⟨n9, h⟩ := h
      exact ⟨n9, fr_X9_putCounters_L208 n9 f h⟩
    · replace h := h.2 c
      refine ⟨h.1, ?_⟩
      replace h := h.2
      refine ⟨h.1, ?_⟩
      replace h := h.2
      intro y19_
      replace h := h y19_
      obtain ⟨Q9, h0, h⟩ := h
      refine ⟨_, frX8_addToTable y17_ h0, ?_⟩
      intro S83 q20_ y21_ y22_
      replace h := h S83 q20_.1 y21_ y22_
      replace f := f.tr (q20_.2.mo (by decide) (by decide))
      intro a85 ea85 
      replace h := h a85 ea85 
      exact ih f h
set_option maxRecDepth 100000 in
theorem fr_X9_putCounters_J139 {S0 : MS} {Q : MS → Prop} {U139 : MS} {v139_1 : Nat} (f : cfr [222, 223, 224, 225, 226, 227, 230, 406] [(47, 0), (47, 1), (47, 2), (47, 3), (47, 4), (47, 5), (47, 6), (47, 7), (47, 8), (47, 9), (47, 11), (48, 0), (48, 2), (48, 3), (48, 4), (48, 5)] S0 U139) (h : w_X9_putCounters_J139 Q U139 v139_1) : w_X9_putCounters_J139 (fun u => Q u ∧ cfr [222, 223, 224, 225, 226, 227, 230, 406] [(47, 0), (47, 1), (47, 2), (47, 3), (47, 4), (47, 5), (47, 6), (47, 7), (47, 8), (47, 9), (47, 11), (48, 0), (48, 2), (48, 3), (48, 4), (48, 5)] S0 u) U139 v139_1 := by
  unfold w_X9_putCounters_J139 at h ⊢
  intro y23_ y24_
  replace h := h y23_ y24_
  refine ⟨h.1, ?_⟩
  replace h := h.2
  intro S14 eS14 y25_ y26_
  replace h := h S14 eS14 y25_ y26_
  replace f := f.tr (show cfr [222, 223, 224, 225, 226, 227, 230, 406] [(47, 0), (47, 1), (47, 2), (47, 3), (47, 4), (47, 5), (47, 6), (47, 7), (47, 8), (47, 9), (47, 11), (48, 0), (48, 2), (48, 3), (48, 4), (48, 5)] U139 S14 by rw [eS14]; exact cfr.aI y25_ (by decide))
  intro S16 eS16 y27_ y28_
  replace h := h S16 eS16 y27_ y28_
  replace f := f.tr (show cfr [222, 223, 224, 225, 226, 227, 230, 406] [(47, 0), (47, 1), (47, 2), (47, 3), (47, 4), (47, 5), (47, 6), (47, 7), (47, 8), (47, 9), (47, 11), (48, 0), (48, 2), (48, 3), (48, 4), (48, 5)] S14 S16 by rw [eS16]; exact cfr.oI y27_ (by decide))
  obtain ⟨n9, h⟩ := h
  exact ⟨n9, fr_X9_putCounters_L176 n9 f h⟩
set_option maxRecDepth 100000 in
theorem fr_X9_putCounters_J114 {S0 : MS} {Q : MS → Prop} {k19 k19' : MS → Nat → Int32 → Int32 → Prop} {U114 : MS} {v114_1 : Nat} {v114_4 : Int32} {v114_5 : Int32} (hk19 : ∀ (u : MS) (z0) (z1) (z2), cfr [222, 223, 224, 225, 226, 227, 230, 406] [(47, 0), (47, 1), (47, 2), (47, 3), (47, 4), (47, 5), (47, 6), (47, 7), (47, 8), (47, 9), (47, 11), (48, 0), (48, 2), (48, 3), (48, 4), (48, 5)] S0 u → k19 u z0 z1 z2 → k19' u z0 z1 z2) (f : cfr [222, 223, 224, 225, 226, 227, 230, 406] [(47, 0), (47, 1), (47, 2), (47, 3), (47, 4), (47, 5), (47, 6), (47, 7), (47, 8), (47, 9), (47, 11), (48, 0), (48, 2), (48, 3), (48, 4), (48, 5)] S0 U114) (h : w_X9_putCounters_J114 Q k19 U114 v114_1 v114_4 v114_5) : w_X9_putCounters_J114 (fun u => Q u ∧ cfr [222, 223, 224, 225, 226, 227, 230, 406] [(47, 0), (47, 1), (47, 2), (47, 3), (47, 4), (47, 5), (47, 6), (47, 7), (47, 8), (47, 9), (47, 11), (48, 0), (48, 2), (48, 3), (48, 4), (48, 5)] S0 u) k19' U114 v114_1 v114_4 v114_5 := by
  unfold w_X9_putCounters_J114 at h ⊢
  intro y29_ y30_
  replace h := h y29_ y30_
  refine ⟨h.1, ?_⟩
  replace h := h.2
  intro a106 ea106 
  replace h := h a106 ea106 
  refine ⟨h.1, ?_⟩
  replace h := h.2
  intro a110 ea110 
  replace h := h a110 ea110 
  intro y31_
  replace h := h y31_
  obtain ⟨Q9, h0, h⟩ := h
  refine ⟨_, frX8_add y29_ h0, ?_⟩
  intro S112 q32_ y33_ y34_
  replace h := h S112 q32_.1 y33_ y34_
  replace f := f.tr (q32_.2.mo (by decide) (by decide))
  intro a114 ea114 
  replace h := h a114 ea114 
  exact hk19 _ _ _ _ f h
set_option maxRecDepth 100000 in
theorem fr_X9_putCounters_L19 {S0 : MS} {Q : MS → Prop} : ∀ (n : Nat) {U19 : MS} {v19_1 : Nat} {v19_4 : Int32} {v19_5 : Int32}, cfr [222, 223, 224, 225, 226, 227, 230, 406] [(47, 0), (47, 1), (47, 2), (47, 3), (47, 4), (47, 5), (47, 6), (47, 7), (47, 8), (47, 9), (47, 11), (48, 0), (48, 2), (48, 3), (48, 4), (48, 5)] S0 U19 → w_X9_putCounters_L19 Q n U19 v19_1 v19_4 v19_5 → w_X9_putCounters_L19 (fun u => Q u ∧ cfr [222, 223, 224, 225, 226, 227, 230, 406] [(47, 0), (47, 1), (47, 2), (47, 3), (47, 4), (47, 5), (47, 6), (47, 7), (47, 8), (47, 9), (47, 11), (48, 0), (48, 2), (48, 3), (48, 4), (48, 5)] S0 u) n U19 v19_1 v19_4 v19_5 := by
  intro n
  induction n with
  | zero => intro U19 v19_1 v19_4 v19_5 f h; unfold w_X9_putCounters_L19 at h; exact h.elim
  | succ n ih =>
    intro U19 v19_1 v19_4 v19_5 f h
    unfold w_X9_putCounters_L19 at h ⊢
    intro y35_ y36_
    replace h := h y35_ y36_
    refine ⟨fun c => ?_, fun c => ?_⟩
    · replace h := h.1 c
      exact fr_X9_putCounters_J139 f h
    · replace h := h.2 c
      refine ⟨fun c => ?_, fun c => ?_⟩
      · replace h := h.1 c
        exact fr_X9_putCounters_J139 f h
      · replace h := h.2 c
        refine ⟨h.1, ?_⟩
        replace h := h.2
        intro S93 eS93 y37_ y38_
        replace h := h S93 eS93 y37_ y38_
        replace f := f.tr (show cfr [222, 223, 224, 225, 226, 227, 230, 406] [(47, 0), (47, 1), (47, 2), (47, 3), (47, 4), (47, 5), (47, 6), (47, 7), (47, 8), (47, 9), (47, 11), (48, 0), (48, 2), (48, 3), (48, 4), (48, 5)] U19 S93 by rw [eS93]; exact cfr.aI y37_ (by decide))
        refine ⟨h.1, ?_⟩
        replace h := h.2
        intro a97 ea97 
        replace h := h a97 ea97 
        refine ⟨h.1, ?_⟩
        replace h := h.2
        intro a101 ea101 
        replace h := h a101 ea101 
        refine ⟨fun c => ?_, fun c => ?_⟩
        · replace h := h.1 c
          exact fr_X9_putCounters_J114 (fun _ _ _ _ f h => ih f h) f h
        · replace h := h.2 c
          intro y39_
          replace h := h y39_
          obtain ⟨Q9, h0, h⟩ := h
          refine ⟨_, frX8_add y38_ h0, ?_⟩
          intro S118 q40_ y41_ y42_
          replace h := h S118 q40_.1 y41_ y42_
          replace f := f.tr (q40_.2.mo (by decide) (by decide))
          intro y43_
          replace h := h y43_
          obtain ⟨Q9, h0, h⟩ := h
          refine ⟨_, frX8_add y41_ h0, ?_⟩
          intro S122 q44_ y45_ y46_
          replace h := h S122 q44_.1 y45_ y46_
          replace f := f.tr (q44_.2.mo (by decide) (by decide))
          intro y47_
          replace h := h y47_
          obtain ⟨Q9, h0, h⟩ := h
          refine ⟨_, frX8_add y45_ h0, ?_⟩
          intro S126 q48_ y49_ y50_
          replace h := h S126 q48_.1 y49_ y50_
          replace f := f.tr (q48_.2.mo (by decide) (by decide))
          intro y51_
          replace h := h y51_
          obtain ⟨Q9, h0, h⟩ := h
          refine ⟨_, frX8_add y49_ h0, ?_⟩
          intro S130 q52_ y53_ y54_
          replace h := h S130 q52_.1 y53_ y54_
          replace f := f.tr (q52_.2.mo (by decide) (by decide))
          intro a132 ea132 
          replace h := h a132 ea132 
          exact fr_X9_putCounters_J114 (fun _ _ _ _ f h => ih f h) f h
set_option maxRecDepth 100000 in
theorem frX9_putCounters {S : MS} {p1 : Nat} {x3 : Int32} {Q : MS → Prop} (hw : wfC S) (h : wX9_putCounters S p1 x3 Q) : wX9_putCounters S p1 x3 (fun u => Q u ∧ cfr [222, 223, 224, 225, 226, 227, 230, 406] [(47, 0), (47, 1), (47, 2), (47, 3), (47, 4), (47, 5), (47, 6), (47, 7), (47, 8), (47, 9), (47, 11), (48, 0), (48, 2), (48, 3), (48, 4), (48, 5)] S u) := by
  have f : cfr [222, 223, 224, 225, 226, 227, 230, 406] [(47, 0), (47, 1), (47, 2), (47, 3), (47, 4), (47, 5), (47, 6), (47, 7), (47, 8), (47, 9), (47, 11), (48, 0), (48, 2), (48, 3), (48, 4), (48, 5)] S S := cfr.rf
  unfold wX9_putCounters at h ⊢
  intro y55_
  replace h := h y55_
  obtain ⟨Q9, h0, h⟩ := h
  refine ⟨_, frX9_makeRoom hw h0, ?_⟩
  intro S2 q56_ y57_ y58_
  replace h := h S2 q56_.1 y57_ y58_
  replace f := f.tr (q56_.2.mo (by decide) (by decide))
  intro S6 eS6 y59_ y60_
  replace h := h S6 eS6 y59_ y60_
  replace f := f.tr (show cfr [222, 223, 224, 225, 226, 227, 230, 406] [(47, 0), (47, 1), (47, 2), (47, 3), (47, 4), (47, 5), (47, 6), (47, 7), (47, 8), (47, 9), (47, 11), (48, 0), (48, 2), (48, 3), (48, 4), (48, 5)] S2 S6 by rw [eS6]; exact cfr.oI y59_ (by decide))
  obtain ⟨n9, h⟩ := h
  exact ⟨n9, fr_X9_putCounters_L19 n9 f h⟩
set_option maxRecDepth 100000 in
theorem frX9_isDropped {S : MS} {x1 : Int32} {x2 : Int32} {Q : Int32 → MS → Prop} (hw : wfC S) (h : wX9_isDropped S x1 x2 Q) : wX9_isDropped S x1 x2 (fun r u => Q r u ∧ cfr [222, 223, 224, 225, 226, 227, 406] [(47, 2), (47, 9)] S u) := by
  have f : cfr [222, 223, 224, 225, 226, 227, 406] [(47, 2), (47, 9)] S S := cfr.rf
  unfold wX9_isDropped at h ⊢
  intro y1_
  replace h := h y1_
  obtain ⟨Q9, h0, h⟩ := h
  refine ⟨_, frX8_remove hw h0, ?_⟩
  intro S3 q2_ y3_ y4_
  replace h := h S3 q2_.1 y3_ y4_
  replace f := f.tr (q2_.2.mo (by decide) (by decide))
  exact ⟨h, f⟩
set_option maxRecDepth 100000 in
theorem fr_X9_reachFrom_J122 {S0 : MS} {Q : Int32 → MS → Prop} {k74 k74' : MS → Int32 → Int32 → Int32 → Prop} {U122 : MS} {t122_0 : Int32} {t122_1 : Int32} {v122_1 : Int32} {v122_4 : Int32} (hk74 : ∀ (u : MS) (z0) (z1) (z2), cfr [306] [] S0 u → k74 u z0 z1 z2 → k74' u z0 z1 z2) (f : cfr [306] [] S0 U122) (h : w_X9_reachFrom_J122 Q k74 U122 t122_0 t122_1 v122_1 v122_4) : w_X9_reachFrom_J122 (fun r u => Q r u ∧ cfr [306] [] S0 u) k74' U122 t122_0 t122_1 v122_1 v122_4 := by
  unfold w_X9_reachFrom_J122 at h ⊢
  intro y1_ y2_
  replace h := h y1_ y2_
  intro a25 ea25 
  replace h := h a25 ea25 
  intro a26 ea26 
  replace h := h a26 ea26 
  exact hk74 _ _ _ _ f h
set_option maxRecDepth 100000 in
theorem fr_X9_reachFrom_J121 {S0 : MS} {Q : Int32 → MS → Prop} {k74 k74' : MS → Int32 → Int32 → Int32 → Prop} {U121 : MS} {t121_0 : Int32} {v121_1 : Int32} {v121_4 : Int32} (hk74 : ∀ (u : MS) (z0) (z1) (z2), cfr [306] [] S0 u → k74 u z0 z1 z2 → k74' u z0 z1 z2) (f : cfr [306] [] S0 U121) (h : w_X9_reachFrom_J121 Q k74 U121 t121_0 v121_1 v121_4) : w_X9_reachFrom_J121 (fun r u => Q r u ∧ cfr [306] [] S0 u) k74' U121 t121_0 v121_1 v121_4 := by
  unfold w_X9_reachFrom_J121 at h ⊢
  intro y3_
  replace h := h y3_
  exact fr_X9_reachFrom_J122 hk74 f h
set_option maxRecDepth 100000 in
theorem fr_X9_reachFrom_L74 {S0 : MS} {Q : Int32 → MS → Prop} : ∀ (n : Nat) {U74 : MS} {v74_1 : Int32} {v74_2 : Int32} {v74_4 : Int32}, cfr [306] [] S0 U74 → w_X9_reachFrom_L74 Q n U74 v74_1 v74_2 v74_4 → w_X9_reachFrom_L74 (fun r u => Q r u ∧ cfr [306] [] S0 u) n U74 v74_1 v74_2 v74_4 := by
  intro n
  induction n with
  | zero => intro U74 v74_1 v74_2 v74_4 f h; unfold w_X9_reachFrom_L74 at h; exact h.elim
  | succ n ih =>
    intro U74 v74_1 v74_2 v74_4 f h
    unfold w_X9_reachFrom_L74 at h ⊢
    intro y4_
    replace h := h y4_
    refine ⟨fun c => ?_, fun c => ?_⟩
    · replace h := h.1 c
      refine ⟨h.1, ?_⟩
      replace h := h.2
      exact ⟨h, f⟩
    · replace h := h.2 c
      refine ⟨h.1, ?_⟩
      replace h := h.2
      intro a23 ea23 
      replace h := h a23 ea23 
      refine ⟨fun c => ?_, fun c => ?_⟩
      · replace h := h.1 c
        exact fr_X9_reachFrom_J121 (fun _ _ _ _ f h => ih f h) f h
      · replace h := h.2 c
        refine ⟨h.1, ?_⟩
        replace h := h.2
        refine ⟨h.1, ?_⟩
        replace h := h.2
        obtain ⟨Q9, h0, h⟩ := h
        refine ⟨_, frX9_isNewlyReached y4_ h0, ?_⟩
        intro r34 S35 q5_ y6_ y7_
        replace h := h r34 S35 q5_.1 y6_ y7_
        replace f := f.tr (q5_.2.mo (by decide) (by decide))
        refine ⟨fun c => ?_, fun c => ?_⟩
        · replace h := h.1 c
          exact fr_X9_reachFrom_J121 (fun _ _ _ _ f h => ih f h) f h
        · replace h := h.2 c
          exact fr_X9_reachFrom_J122 (fun _ _ _ _ f h => ih f h) f h
set_option maxRecDepth 100000 in
theorem fr_X9_reachFrom_L42 {S0 : MS} {Q : Int32 → MS → Prop} : ∀ (n : Nat) {U42 : MS} {v42_1 : Int32} {v42_2 : Int32} {v42_3 : Int32} {v42_4 : Int32}, cfr [306] [] S0 U42 → w_X9_reachFrom_L42 Q n U42 v42_1 v42_2 v42_3 v42_4 → w_X9_reachFrom_L42 (fun r u => Q r u ∧ cfr [306] [] S0 u) n U42 v42_1 v42_2 v42_3 v42_4 := by
  intro n
  induction n with
  | zero => intro U42 v42_1 v42_2 v42_3 v42_4 f h; unfold w_X9_reachFrom_L42 at h; exact h.elim
  | succ n ih =>
    intro U42 v42_1 v42_2 v42_3 v42_4 f h
    unfold w_X9_reachFrom_L42 at h ⊢
    intro y8_
    replace h := h y8_
    refine ⟨fun c => ?_, fun c => ?_⟩
    · replace h := h.1 c
      obtain ⟨n9, h⟩ := h
      exact ⟨n9, fr_X9_reachFrom_L74 n9 f h⟩
    · replace h := h.2 c
      refine ⟨h.1, ?_⟩
      replace h := h.2
      intro a42 ea42 
      replace h := h a42 ea42 
      obtain ⟨Q9, h0, h⟩ := h
      refine ⟨_, frX9_isNewlyReached y8_ h0, ?_⟩
      intro r44 S45 q9_ y10_ y11_
      replace h := h r44 S45 q9_.1 y10_ y11_
      replace f := f.tr (q9_.2.mo (by decide) (by decide))
      intro a48 ea48 
      replace h := h a48 ea48 
      intro a49 ea49 
      replace h := h a49 ea49 
      exact ih f h
set_option maxRecDepth 100000 in
theorem fr_X9_reachFrom_J29 {S0 : MS} {Q : Int32 → MS → Prop} {U29 : MS} {t29_0 : Int32} {v29_1 : Int32} (f : cfr [306] [] S0 U29) (h : w_X9_reachFrom_J29 Q U29 t29_0 v29_1) : w_X9_reachFrom_J29 (fun r u => Q r u ∧ cfr [306] [] S0 u) U29 t29_0 v29_1 := by
  unfold w_X9_reachFrom_J29 at h ⊢
  intro y12_ y13_
  replace h := h y12_ y13_
  refine ⟨h.1, ?_⟩
  replace h := h.2
  intro a14 ea14 
  replace h := h a14 ea14 
  obtain ⟨n9, h⟩ := h
  exact ⟨n9, fr_X9_reachFrom_L42 n9 f h⟩
set_option maxRecDepth 100000 in
theorem fr_X9_reachFrom_J28 {S0 : MS} {Q : Int32 → MS → Prop} {U28 : MS} {v28_1 : Int32} (f : cfr [306] [] S0 U28) (h : w_X9_reachFrom_J28 Q U28 v28_1) : w_X9_reachFrom_J28 (fun r u => Q r u ∧ cfr [306] [] S0 u) U28 v28_1 := by
  unfold w_X9_reachFrom_J28 at h ⊢
  intro y14_
  replace h := h y14_
  exact fr_X9_reachFrom_J29 f h
set_option maxRecDepth 100000 in
theorem frX9_reachFrom {S : MS} {x1 : Int32} {Q : Int32 → MS → Prop} (hw : wfC S) (h : wX9_reachFrom S x1 Q) : wX9_reachFrom S x1 (fun r u => Q r u ∧ cfr [306] [] S u) := by
  have f : cfr [306] [] S S := cfr.rf
  unfold wX9_reachFrom at h ⊢
  refine ⟨h.1, ?_⟩
  replace h := h.2
  intro a5 ea5 
  replace h := h a5 ea5 
  refine ⟨h.1, ?_⟩
  replace h := h.2
  intro a9 ea9 
  replace h := h a9 ea9 
  refine ⟨fun c => ?_, fun c => ?_⟩
  · replace h := h.1 c
    exact fr_X9_reachFrom_J28 f h
  · replace h := h.2 c
    obtain ⟨Q9, h0, h⟩ := h
    refine ⟨_, frX9_isNewlyReached hw h0, ?_⟩
    intro r53 S54 q15_ y16_ y17_
    replace h := h r53 S54 q15_.1 y16_ y17_
    replace f := f.tr (q15_.2.mo (by decide) (by decide))
    refine ⟨fun c => ?_, fun c => ?_⟩
    · replace h := h.1 c
      exact fr_X9_reachFrom_J28 f h
    · replace h := h.2 c
      exact fr_X9_reachFrom_J29 f h
set_option maxRecDepth 100000 in
theorem fr_X9_findMarked_L80 {S0 : MS} {Q : MS → Prop} : ∀ (n : Nat) {U80 : MS} {v80_1 : Int32}, cfr [305] [] S0 U80 → w_X9_findMarked_L80 Q n U80 v80_1 → w_X9_findMarked_L80 (fun u => Q u ∧ cfr [305] [] S0 u) n U80 v80_1 := by
  intro n
  induction n with
  | zero => intro U80 v80_1 f h; unfold w_X9_findMarked_L80 at h; exact h.elim
  | succ n ih =>
    intro U80 v80_1 f h
    unfold w_X9_findMarked_L80 at h ⊢
    intro y1_
    replace h := h y1_
    refine ⟨fun c => ?_, fun c => ?_⟩
    · replace h := h.1 c
      exact ⟨h, f⟩
    · replace h := h.2 c
      refine ⟨h.1, ?_⟩
      replace h := h.2
      refine ⟨h.1, ?_⟩
      replace h := h.2
      obtain ⟨Q9, h0, h⟩ := h
      refine ⟨_, frX9_mark y1_ h0, ?_⟩
      intro S14 q2_ y3_ y4_
      replace h := h S14 q2_.1 y3_ y4_
      replace f := f.tr (q2_.2.mo (by decide) (by decide))
      refine ⟨h.1, ?_⟩
      replace h := h.2
      refine ⟨h.1, ?_⟩
      replace h := h.2
      obtain ⟨Q9, h0, h⟩ := h
      refine ⟨_, frX9_mark y3_ h0, ?_⟩
      intro S22 q5_ y6_ y7_
      replace h := h S22 q5_.1 y6_ y7_
      replace f := f.tr (q5_.2.mo (by decide) (by decide))
      refine ⟨h.1, ?_⟩
      replace h := h.2
      refine ⟨h.1, ?_⟩
      replace h := h.2
      obtain ⟨Q9, h0, h⟩ := h
      refine ⟨_, frX9_mark y6_ h0, ?_⟩
      intro S30 q8_ y9_ y10_
      replace h := h S30 q8_.1 y9_ y10_
      replace f := f.tr (q8_.2.mo (by decide) (by decide))
      intro a32 ea32 
      replace h := h a32 ea32 
      exact ih f h
set_option maxRecDepth 100000 in
theorem fr_X9_findMarked_L48 {S0 : MS} {Q : MS → Prop} {k26 k26' : MS → Int32 → Prop} (hk26 : ∀ (u : MS) (z0), cfr [305] [] S0 u → k26 u z0 → k26' u z0) : ∀ (n : Nat) {U48 : MS} {v48_1 : Int32} {v48_2 : Int32} {v48_3 : Int32}, cfr [305] [] S0 U48 → w_X9_findMarked_L48 Q k26 n U48 v48_1 v48_2 v48_3 → w_X9_findMarked_L48 (fun u => Q u ∧ cfr [305] [] S0 u) k26' n U48 v48_1 v48_2 v48_3 := by
  intro n
  induction n with
  | zero => intro U48 v48_1 v48_2 v48_3 f h; unfold w_X9_findMarked_L48 at h; exact h.elim
  | succ n ih =>
    intro U48 v48_1 v48_2 v48_3 f h
    unfold w_X9_findMarked_L48 at h ⊢
    intro y11_
    replace h := h y11_
    refine ⟨fun c => ?_, fun c => ?_⟩
    · replace h := h.1 c
      intro a39 ea39 
      replace h := h a39 ea39 
      exact hk26 _ _ f h
    · replace h := h.2 c
      refine ⟨h.1, ?_⟩
      replace h := h.2
      intro a44 ea44 
      replace h := h a44 ea44 
      obtain ⟨Q9, h0, h⟩ := h
      refine ⟨_, frX9_mark y11_ h0, ?_⟩
      intro S46 q12_ y13_ y14_
      replace h := h S46 q12_.1 y13_ y14_
      replace f := f.tr (q12_.2.mo (by decide) (by decide))
      intro a48 ea48 
      replace h := h a48 ea48 
      exact ih f h
set_option maxRecDepth 100000 in
theorem fr_X9_findMarked_L26 {S0 : MS} {Q : MS → Prop} : ∀ (n : Nat) {U26 : MS} {v26_1 : Int32}, cfr [305] [] S0 U26 → w_X9_findMarked_L26 Q n U26 v26_1 → w_X9_findMarked_L26 (fun u => Q u ∧ cfr [305] [] S0 u) n U26 v26_1 := by
  intro n
  induction n with
  | zero => intro U26 v26_1 f h; unfold w_X9_findMarked_L26 at h; exact h.elim
  | succ n ih =>
    intro U26 v26_1 f h
    unfold w_X9_findMarked_L26 at h ⊢
    intro y15_
    replace h := h y15_
    refine ⟨fun c => ?_, fun c => ?_⟩
    · replace h := h.1 c
      obtain ⟨n9, h⟩ := h
      exact ⟨n9, fr_X9_findMarked_L80 n9 f h⟩
    · replace h := h.2 c
      refine ⟨h.1, ?_⟩
      replace h := h.2
      intro a37 ea37 
      replace h := h a37 ea37 
      obtain ⟨n9, h⟩ := h
      exact ⟨n9, fr_X9_findMarked_L48 (fun _ _ f h => ih f h) n9 f h⟩
set_option maxRecDepth 100000 in
theorem fr_X9_findMarked_L2 {S0 : MS} {Q : MS → Prop} : ∀ (n : Nat) {U2 : MS} {v2_1 : Int32}, cfr [305] [] S0 U2 → w_X9_findMarked_L2 Q n U2 v2_1 → w_X9_findMarked_L2 (fun u => Q u ∧ cfr [305] [] S0 u) n U2 v2_1 := by
  intro n
  induction n with
  | zero => intro U2 v2_1 f h; unfold w_X9_findMarked_L2 at h; exact h.elim
  | succ n ih =>
    intro U2 v2_1 f h
    unfold w_X9_findMarked_L2 at h ⊢
    intro y16_
    replace h := h y16_
    refine ⟨fun c => ?_, fun c => ?_⟩
    · replace h := h.1 c
      obtain ⟨n9, h⟩ := h
      exact ⟨n9, fr_X9_findMarked_L26 n9 f h⟩
    · replace h := h.2 c
      refine ⟨h.1, ?_⟩
      replace h := h.2
      intro S51 eS51 y17_ y18_
      replace h := h S51 eS51 y17_ y18_
      replace f := f.tr (show cfr [305] [] U2 S51 by rw [eS51]; exact cfr.aI y17_ (by decide))
      intro a52 ea52 
      replace h := h a52 ea52 
      exact ih f h
set_option maxRecDepth 100000 in
theorem frX9_findMarked {S : MS} {Q : MS → Prop} (hw : wfC S) (h : wX9_findMarked S Q) : wX9_findMarked S (fun u => Q u ∧ cfr [305] [] S u) := by
  have f : cfr [305] [] S S := cfr.rf
  unfold wX9_findMarked at h ⊢
  obtain ⟨n9, h⟩ := h
  exact ⟨n9, fr_X9_findMarked_L2 n9 f h⟩
set_option maxRecDepth 100000 in
theorem fr_X9_isFolded_J91 {S0 : MS} {Q : Int32 → MS → Prop} {U91 : MS} {v91_1 : Int32} {v91_2 : Int32} (f : cfr [222, 223, 224, 225, 226, 227, 406] [(47, 2), (47, 9)] S0 U91) (h : w_X9_isFolded_J91 Q U91 v91_1 v91_2) : w_X9_isFolded_J91 (fun r u => Q r u ∧ cfr [222, 223, 224, 225, 226, 227, 406] [(47, 2), (47, 9)] S0 u) U91 v91_1 v91_2 := by
  unfold w_X9_isFolded_J91 at h ⊢
  intro y1_
  replace h := h y1_
  refine ⟨h.1, ?_⟩
  replace h := h.2
  intro a51 ea51 
  replace h := h a51 ea51 
  refine ⟨h.1, ?_⟩
  replace h := h.2
  intro a56 ea56 
  replace h := h a56 ea56 
  refine ⟨h.1, ?_⟩
  replace h := h.2
  intro a62 ea62 
  replace h := h a62 ea62 
  refine ⟨h.1, ?_⟩
  replace h := h.2
  intro a66 ea66 
  replace h := h a66 ea66 
  obtain ⟨Q9, h0, h⟩ := h
  refine ⟨_, frX9_putPush y1_ h0, ?_⟩
  intro S68 q2_ y3_ y4_
  replace h := h S68 q2_.1 y3_ y4_
  replace f := f.tr (q2_.2.mo (by decide) (by decide))
  intro y5_
  replace h := h y5_
  obtain ⟨Q9, h0, h⟩ := h
  refine ⟨_, frX8_remove y3_ h0, ?_⟩
  intro S73 q6_ y7_ y8_
  replace h := h S73 q6_.1 y7_ y8_
  replace f := f.tr (q6_.2.mo (by decide) (by decide))
  exact ⟨h, f⟩
set_option maxRecDepth 100000 in
theorem frX9_isFolded {S : MS} {x1 : Int32} {Q : Int32 → MS → Prop} (hw : wfC S) (h : wX9_isFolded S x1 Q) : wX9_isFolded S x1 (fun r u => Q r u ∧ cfr [222, 223, 224, 225, 226, 227, 406] [(47, 2), (47, 9)] S u) := by
  have f : cfr [222, 223, 224, 225, 226, 227, 406] [(47, 2), (47, 9)] S S := cfr.rf
  unfold wX9_isFolded at h ⊢
  refine ⟨h.1, ?_⟩
  replace h := h.2
  intro a6 ea6 
  replace h := h a6 ea6 
  refine ⟨h.1, ?_⟩
  replace h := h.2
  intro a10 ea10 
  replace h := h a10 ea10 
  refine ⟨fun c => ?_, fun c => ?_⟩
  · replace h := h.1 c
    exact ⟨h, f⟩
  · replace h := h.2 c
    refine ⟨h.1, ?_⟩
    replace h := h.2
    intro a15 ea15 
    replace h := h a15 ea15 
    refine ⟨fun c => ?_, fun c => ?_⟩
    · replace h := h.1 c
      exact ⟨h, f⟩
    · replace h := h.2 c
      refine ⟨h.1, ?_⟩
      replace h := h.2
      intro a21 ea21 
      replace h := h a21 ea21 
      refine ⟨fun c => ?_, fun c => ?_⟩
      · replace h := h.1 c
        exact ⟨h, f⟩
      · replace h := h.2 c
        refine ⟨h.1, ?_⟩
        replace h := h.2
        intro a26 ea26 
        replace h := h a26 ea26 
        refine ⟨fun c => ?_, fun c => ?_⟩
        · replace h := h.1 c
          exact ⟨h, f⟩
        · replace h := h.2 c
          refine ⟨h.1, ?_⟩
          replace h := h.2
          intro a31 ea31 
          replace h := h a31 ea31 
          refine ⟨h.1, ?_⟩
          replace h := h.2
          intro a35 ea35 
          replace h := h a35 ea35 
          refine ⟨h.1, ?_⟩
          replace h := h.2
          intro a41 ea41 
          replace h := h a41 ea41 
          refine ⟨fun c => ?_, fun c => ?_⟩
          · replace h := h.1 c
            refine ⟨h.1, ?_⟩
            replace h := h.2
            intro a47 ea47 
            replace h := h a47 ea47 
            refine ⟨fun c => ?_, fun c => ?_⟩
            · replace h := h.1 c
              exact fr_X9_isFolded_J91 f h
            · replace h := h.2 c
              refine ⟨h.1, ?_⟩
              replace h := h.2
              intro a81 ea81 
              replace h := h a81 ea81 
              refine ⟨fun c => ?_, fun c => ?_⟩
              · replace h := h.1 c
                exact ⟨h, f⟩
              · replace h := h.2 c
                exact fr_X9_isFolded_J91 f h
          · replace h := h.2 c
            exact ⟨h, f⟩
set_option maxRecDepth 100000 in
theorem frX9_isUnaryFolded {S : MS} {x1 : Int32} {Q : Int32 → MS → Prop} (hw : wfC S) (h : wX9_isUnaryFolded S x1 Q) : wX9_isUnaryFolded S x1 (fun r u => Q r u ∧ cfr [222, 223, 224, 225, 226, 227, 406] [(47, 2), (47, 9)] S u) := by
  have f : cfr [222, 223, 224, 225, 226, 227, 406] [(47, 2), (47, 9)] S S := cfr.rf
  unfold wX9_isUnaryFolded at h ⊢
  refine ⟨h.1, ?_⟩
  replace h := h.2
  intro a6 ea6 
  replace h := h a6 ea6 
  refine ⟨h.1, ?_⟩
  replace h := h.2
  intro a10 ea10 
  replace h := h a10 ea10 
  refine ⟨fun c => ?_, fun c => ?_⟩
  · replace h := h.1 c
    exact ⟨h, f⟩
  · replace h := h.2 c
    refine ⟨h.1, ?_⟩
    replace h := h.2
    intro a15 ea15 
    replace h := h a15 ea15 
    refine ⟨h.1, ?_⟩
    replace h := h.2
    intro a19 ea19 
    replace h := h a19 ea19 
    refine ⟨fun c => ?_, fun c => ?_⟩
    · replace h := h.1 c
      refine ⟨h.1, ?_⟩
      replace h := h.2
      intro a24 ea24 
      replace h := h a24 ea24 
      refine ⟨fun c => ?_, fun c => ?_⟩
      · replace h := h.1 c
        exact ⟨h, f⟩
      · replace h := h.2 c
        refine ⟨h.1, ?_⟩
        replace h := h.2
        intro a29 ea29 
        replace h := h a29 ea29 
        refine ⟨h.1, ?_⟩
        replace h := h.2
        intro a34 ea34 
        replace h := h a34 ea34 
        refine ⟨h.1, ?_⟩
        replace h := h.2
        intro a38 ea38 
        replace h := h a38 ea38 
        obtain ⟨Q9, h0, h⟩ := h
        refine ⟨_, frX9_putPush hw h0, ?_⟩
        intro S40 q1_ y2_ y3_
        replace h := h S40 q1_.1 y2_ y3_
        replace f := f.tr (q1_.2.mo (by decide) (by decide))
        intro y4_
        replace h := h y4_
        obtain ⟨Q9, h0, h⟩ := h
        refine ⟨_, frX8_remove y2_ h0, ?_⟩
        intro S45 q5_ y6_ y7_
        replace h := h S45 q5_.1 y6_ y7_
        replace f := f.tr (q5_.2.mo (by decide) (by decide))
        exact ⟨h, f⟩
    · replace h := h.2 c
      exact ⟨h, f⟩
set_option maxRecDepth 100000 in
theorem fr_X9_isJumpDecided_J113 {S0 : MS} {Q : Int32 → MS → Prop} {U113 : MS} {t113_0 : Int32} {t113_1 : Int32} {t113_2 : Int32} {v113_1 : Int32} {v113_2 : Int32} (f : cfr [222, 223, 224, 225, 226, 227, 406] [(47, 2), (47, 9)] S0 U113) (h : w_X9_isJumpDecided_J113 Q U113 t113_0 t113_1 t113_2 v113_1 v113_2) : w_X9_isJumpDecided_J113 (fun r u => Q r u ∧ cfr [222, 223, 224, 225, 226, 227, 406] [(47, 2), (47, 9)] S0 u) U113 t113_0 t113_1 t113_2 v113_1 v113_2 := by
  unfold w_X9_isJumpDecided_J113 at h ⊢
  intro y1_
  replace h := h y1_
  refine ⟨h.1, ?_⟩
  replace h := h.2
  refine ⟨fun c => ?_, fun c => ?_⟩
  · replace h := h.1 c
    intro y2_
    replace h := h y2_
    obtain ⟨Q9, h0, h⟩ := h
    refine ⟨_, frX8_remove y1_ h0, ?_⟩
    intro S33 q3_ y4_ y5_
    replace h := h S33 q3_.1 y4_ y5_
    replace f := f.tr (q3_.2.mo (by decide) (by decide))
    exact ⟨h, f⟩
  · replace h := h.2 c
    refine ⟨h.1, ?_⟩
    replace h := h.2
    intro y6_
    replace h := h y6_
    obtain ⟨Q9, h0, h⟩ := h
    refine ⟨_, frX8_set y1_ h0, ?_⟩
    intro S43 q7_ y8_ y9_
    replace h := h S43 q7_.1 y8_ y9_
    replace f := f.tr (q7_.2.mo (by decide) (by decide))
    intro y10_
    replace h := h y10_
    obtain ⟨Q9, h0, h⟩ := h
    refine ⟨_, frX8_remove y8_ h0, ?_⟩
    intro S49 q11_ y12_ y13_
    replace h := h S49 q11_.1 y12_ y13_
    replace f := f.tr (q11_.2.mo (by decide) (by decide))
    exact ⟨h, f⟩
set_option maxRecDepth 100000 in
theorem fr_X9_isJumpDecided_J55 {S0 : MS} {Q : Int32 → MS → Prop} {U55 : MS} {t55_0 : Int32} {v55_1 : Int32} {v55_2 : Int32} {v55_3 : Int32} (f : cfr [222, 223, 224, 225, 226, 227, 406] [(47, 2), (47, 9)] S0 U55) (h : w_X9_isJumpDecided_J55 Q U55 t55_0 v55_1 v55_2 v55_3) : w_X9_isJumpDecided_J55 (fun r u => Q r u ∧ cfr [222, 223, 224, 225, 226, 227, 406] [(47, 2), (47, 9)] S0 u) U55 t55_0 v55_1 v55_2 v55_3 := by
  unfold w_X9_isJumpDecided_J55 at h ⊢
  intro y14_
  replace h := h y14_
  refine ⟨fun c => ?_, fun c => ?_⟩
  · replace h := h.1 c
    exact ⟨h, f⟩
  · replace h := h.2 c
    refine ⟨fun c => ?_, fun c => ?_⟩
    · replace h := h.1 c
      exact ⟨h, f⟩
    · replace h := h.2 c
      refine ⟨h.1, ?_⟩
      replace h := h.2
      refine ⟨fun c => ?_, fun c => ?_⟩
      · replace h := h.1 c
        exact ⟨h, f⟩
      · replace h := h.2 c
        refine ⟨h.1, ?_⟩
        replace h := h.2
        refine ⟨fun c => ?_, fun c => ?_⟩
        · replace h := h.1 c
          refine ⟨h.1, ?_⟩
          replace h := h.2
          exact fr_X9_isJumpDecided_J113 f h
        · replace h := h.2 c
          exact fr_X9_isJumpDecided_J113 f h
set_option maxRecDepth 100000 in
theorem fr_X9_isJumpDecided_J27 {S0 : MS} {Q : Int32 → MS → Prop} {U27 : MS} {t27_0 : Int32} {v27_1 : Int32} (f : cfr [222, 223, 224, 225, 226, 227, 406] [(47, 2), (47, 9)] S0 U27) (h : w_X9_isJumpDecided_J27 Q U27 t27_0 v27_1) : w_X9_isJumpDecided_J27 (fun r u => Q r u ∧ cfr [222, 223, 224, 225, 226, 227, 406] [(47, 2), (47, 9)] S0 u) U27 t27_0 v27_1 := by
  unfold w_X9_isJumpDecided_J27 at h ⊢
  intro y15_
  replace h := h y15_
  refine ⟨h.1, ?_⟩
  replace h := h.2
  intro a15 ea15 
  replace h := h a15 ea15 
  refine ⟨fun c => ?_, fun c => ?_⟩
  · replace h := h.1 c
    exact fr_X9_isJumpDecided_J55 f h
  · replace h := h.2 c
    exact fr_X9_isJumpDecided_J55 f h
set_option maxRecDepth 100000 in
theorem frX9_isJumpDecided {S : MS} {x1 : Int32} {Q : Int32 → MS → Prop} (hw : wfC S) (h : wX9_isJumpDecided S x1 Q) : wX9_isJumpDecided S x1 (fun r u => Q r u ∧ cfr [222, 223, 224, 225, 226, 227, 406] [(47, 2), (47, 9)] S u) := by
  have f : cfr [222, 223, 224, 225, 226, 227, 406] [(47, 2), (47, 9)] S S := cfr.rf
  unfold wX9_isJumpDecided at h ⊢
  refine ⟨h.1, ?_⟩
  replace h := h.2
  refine ⟨fun c => ?_, fun c => ?_⟩
  · replace h := h.1 c
    refine ⟨h.1, ?_⟩
    replace h := h.2
    refine ⟨fun c => ?_, fun c => ?_⟩
    · replace h := h.1 c
      exact fr_X9_isJumpDecided_J27 f h
    · replace h := h.2 c
      exact fr_X9_isJumpDecided_J27 f h
  · replace h := h.2 c
    exact ⟨h, f⟩
set_option maxRecDepth 100000 in
theorem fr_X9_liveBehind_L38 {S0 : MS} {Q : Int32 → MS → Prop} : ∀ (n : Nat) {U38 : MS} {v38_1 : Int32} {v38_2 : Int32} {v38_3 : Int32} {v38_4 : Int32}, cfr [] [] S0 U38 → w_X9_liveBehind_L38 Q n U38 v38_1 v38_2 v38_3 v38_4 → w_X9_liveBehind_L38 (fun r u => Q r u ∧ cfr [] [] S0 u) n U38 v38_1 v38_2 v38_3 v38_4 := by
  intro n
  induction n with
  | zero => intro U38 v38_1 v38_2 v38_3 v38_4 f h; unfold w_X9_liveBehind_L38 at h; exact h.elim
  | succ n ih =>
    intro U38 v38_1 v38_2 v38_3 v38_4 f h
    unfold w_X9_liveBehind_L38 at h ⊢
    intro y1_
    replace h := h y1_
    refine ⟨fun c => ?_, fun c => ?_⟩
    · replace h := h.1 c
      exact ⟨h, f⟩
    · replace h := h.2 c
      refine ⟨h.1, ?_⟩
      replace h := h.2
      intro a20 ea20 
      replace h := h a20 ea20 
      refine ⟨h.1, ?_⟩
      replace h := h.2
      intro a24 ea24 
      replace h := h a24 ea24 
      intro a26 ea26 
      replace h := h a26 ea26 
      intro a27 ea27 
      replace h := h a27 ea27 
      exact ih f h
set_option maxRecDepth 100000 in
theorem fr_X9_liveBehind_J25 {S0 : MS} {Q : Int32 → MS → Prop} {U25 : MS} {t25_0 : Int32} {v25_1 : Int32} (f : cfr [] [] S0 U25) (h : w_X9_liveBehind_J25 Q U25 t25_0 v25_1) : w_X9_liveBehind_J25 (fun r u => Q r u ∧ cfr [] [] S0 u) U25 t25_0 v25_1 := by
  unfold w_X9_liveBehind_J25 at h ⊢
  intro y2_
  replace h := h y2_
  refine ⟨h.1, ?_⟩
  replace h := h.2
  intro a14 ea14 
  replace h := h a14 ea14 
  obtain ⟨n9, h⟩ := h
  exact ⟨n9, fr_X9_liveBehind_L38 n9 f h⟩
set_option maxRecDepth 100000 in
theorem frX9_liveBehind {S : MS} {x1 : Int32} {Q : Int32 → MS → Prop} (hw : wfC S) (h : wX9_liveBehind S x1 Q) : wX9_liveBehind S x1 (fun r u => Q r u ∧ cfr [] [] S u) := by
  have f : cfr [] [] S S := cfr.rf
  unfold wX9_liveBehind at h ⊢
  refine ⟨h.1, ?_⟩
  replace h := h.2
  intro a5 ea5 
  replace h := h a5 ea5 
  refine ⟨h.1, ?_⟩
  replace h := h.2
  intro a9 ea9 
  replace h := h a9 ea9 
  refine ⟨fun c => ?_, fun c => ?_⟩
  · replace h := h.1 c
    exact fr_X9_liveBehind_J25 f h
  · replace h := h.2 c
    refine ⟨h.1, ?_⟩
    replace h := h.2
    intro a33 ea33 
    replace h := h a33 ea33 
    exact fr_X9_liveBehind_J25 f h
set_option maxRecDepth 100000 in
theorem fr_X11_entryOfWanted_J166 {S0 : MS} {Q : Int32 → MS → Prop} {U166 : MS} {v166_1 : Int32} (f : cfr [101, 238, 239] [(40, 0), (40, 1), (50, 5), (50, 6)] S0 U166) (h : w_X11_entryOfWanted_J166 Q U166 v166_1) : w_X11_entryOfWanted_J166 (fun r u => Q r u ∧ cfr [101, 238, 239] [(40, 0), (40, 1), (50, 5), (50, 6)] S0 u) U166 v166_1 := by
  unfold w_X11_entryOfWanted_J166 at h ⊢
  intro y1_
  replace h := h y1_
  exact ⟨h, f⟩
set_option maxRecDepth 100000 in
theorem fr_X11_entryOfWanted_J52 {S0 : MS} {Q : Int32 → MS → Prop} {U52 : MS} {t52_0 : Int32} (f : cfr [101, 238, 239] [(40, 0), (40, 1), (50, 5), (50, 6)] S0 U52) (h : w_X11_entryOfWanted_J52 Q U52 t52_0) : w_X11_entryOfWanted_J52 (fun r u => Q r u ∧ cfr [101, 238, 239] [(40, 0), (40, 1), (50, 5), (50, 6)] S0 u) U52 t52_0 := by
  unfold w_X11_entryOfWanted_J52 at h ⊢
  intro y2_
  replace h := h y2_
  refine ⟨fun c => ?_, fun c => ?_⟩
  · replace h := h.1 c
    refine ⟨h.1, ?_⟩
    replace h := h.2
    intro S7 eS7 y3_ y4_
    replace h := h S7 eS7 y3_ y4_
    replace f := f.tr (show cfr [101, 238, 239] [(40, 0), (40, 1), (50, 5), (50, 6)] U52 S7 by rw [eS7]; exact cfr.aI y3_ (by decide))
    intro y5_ y6_
    replace h := h y5_ y6_
    obtain ⟨Q9, h0, h⟩ := h
    refine ⟨_, frX0_putAll y4_ h0, ?_⟩
    intro S9 q7_ y8_ y9_
    replace h := h S9 q7_.1 y8_ y9_
    replace f := f.tr (q7_.2.mo (by decide) (by decide))
    refine ⟨h.1, ?_⟩
    replace h := h.2
    intro S13 eS13 y10_ y11_
    replace h := h S13 eS13 y10_ y11_
    replace f := f.tr (show cfr [101, 238, 239] [(40, 0), (40, 1), (50, 5), (50, 6)] S9 S13 by rw [eS13]; exact cfr.aI y10_ (by decide))
    intro S15 eS15 y12_ y13_
    replace h := h S15 eS15 y12_ y13_
    replace f := f.tr (show cfr [101, 238, 239] [(40, 0), (40, 1), (50, 5), (50, 6)] S13 S15 by rw [eS15]; exact cfr.oI y12_ (by decide))
    refine ⟨fun c => ?_, fun c => ?_⟩
    · replace h := h.1 c
      refine ⟨h.1, ?_⟩
      replace h := h.2
      intro S20 eS20 y14_ y15_
      replace h := h S20 eS20 y14_ y15_
      replace f := f.tr (show cfr [101, 238, 239] [(40, 0), (40, 1), (50, 5), (50, 6)] S15 S20 by rw [eS20]; exact cfr.aI y14_ (by decide))
      refine ⟨h.1, ?_⟩
      replace h := h.2
      intro S23 eS23 y16_ y17_
      replace h := h S23 eS23 y16_ y17_
      replace f := f.tr (show cfr [101, 238, 239] [(40, 0), (40, 1), (50, 5), (50, 6)] S20 S23 by rw [eS23]; exact cfr.aI y16_ (by decide))
      exact fr_X11_entryOfWanted_J166 f h
    · replace h := h.2 c
      exact fr_X11_entryOfWanted_J166 f h
  · replace h := h.2 c
    intro S24 eS24 y18_ y19_
    replace h := h S24 eS24 y18_ y19_
    replace f := f.tr (show cfr [101, 238, 239] [(40, 0), (40, 1), (50, 5), (50, 6)] U52 S24 by rw [eS24]; exact cfr.oI y18_ (by decide))
    exact ⟨h, f⟩
set_option maxRecDepth 100000 in
theorem fr_X11_entryOfWanted_J35 {S0 : MS} {Q : Int32 → MS → Prop} {U35 : MS} (f : cfr [101, 238, 239] [(40, 0), (40, 1), (50, 5), (50, 6)] S0 U35) (h : w_X11_entryOfWanted_J35 Q U35) : w_X11_entryOfWanted_J35 (fun r u => Q r u ∧ cfr [101, 238, 239] [(40, 0), (40, 1), (50, 5), (50, 6)] S0 u) U35 := by
  unfold w_X11_entryOfWanted_J35 at h ⊢
  intro y20_
  replace h := h y20_
  refine ⟨h.1, ?_⟩
  replace h := h.2
  refine ⟨fun c => ?_, fun c => ?_⟩
  · replace h := h.1 c
    exact fr_X11_entryOfWanted_J52 f h
  · replace h := h.2 c
    exact fr_X11_entryOfWanted_J52 f h
set_option maxRecDepth 100000 in
theorem fr_X11_entryOfWanted_L2 {S0 : MS} {Q : Int32 → MS → Prop} : ∀ (n : Nat) {U2 : MS} {v2_1 : Int32}, cfr [101, 238, 239] [(40, 0), (40, 1), (50, 5), (50, 6)] S0 U2 → w_X11_entryOfWanted_L2 Q n U2 v2_1 → w_X11_entryOfWanted_L2 (fun r u => Q r u ∧ cfr [101, 238, 239] [(40, 0), (40, 1), (50, 5), (50, 6)] S0 u) n U2 v2_1 := by
  intro n
  induction n with
  | zero => intro U2 v2_1 f h; unfold w_X11_entryOfWanted_L2 at h; exact h.elim
  | succ n ih =>
    intro U2 v2_1 f h
    unfold w_X11_entryOfWanted_L2 at h ⊢
    intro y21_
    replace h := h y21_
    refine ⟨fun c => ?_, fun c => ?_⟩
    · replace h := h.1 c
      exact fr_X11_entryOfWanted_J35 f h
    · replace h := h.2 c
      refine ⟨fun c => ?_, fun c => ?_⟩
      · replace h := h.1 c
        exact fr_X11_entryOfWanted_J35 f h
      · replace h := h.2 c
        obtain ⟨Q9, h0, h⟩ := h
        refine ⟨_, frX11_isWanted y21_ h0, ?_⟩
        intro r29 S30 q22_ y23_ y24_
        replace h := h r29 S30 q22_.1 y23_ y24_
        replace f := f.tr (q22_.2.mo (by decide) (by decide))
        refine ⟨fun c => ?_, fun c => ?_⟩
        · replace h := h.1 c
          intro a33 ea33 
          replace h := h a33 ea33 
          exact ih f h
        · replace h := h.2 c
          exact ⟨h, f⟩
set_option maxRecDepth 100000 in
theorem frX11_entryOfWanted {S : MS} {Q : Int32 → MS → Prop} (hw : wfC S) (h : wX11_entryOfWanted S Q) : wX11_entryOfWanted S (fun r u => Q r u ∧ cfr [101, 238, 239] [(40, 0), (40, 1), (50, 5), (50, 6)] S u) := by
  have f : cfr [101, 238, 239] [(40, 0), (40, 1), (50, 5), (50, 6)] S S := cfr.rf
  unfold wX11_entryOfWanted at h ⊢
  obtain ⟨n9, h⟩ := h
  exact ⟨n9, fr_X11_entryOfWanted_L2 n9 f h⟩
set_option maxRecDepth 100000 in
theorem fr_X11_textEntry_L18 {S0 : MS} {Q : Int32 → MS → Prop} : ∀ (n : Nat) {U18 : MS} {v18_1 : Nat} {v18_2 : Int32}, cfr [101, 238, 239] [(40, 0), (40, 1), (50, 5), (50, 6)] S0 U18 → w_X11_textEntry_L18 Q n U18 v18_1 v18_2 → w_X11_textEntry_L18 (fun r u => Q r u ∧ cfr [101, 238, 239] [(40, 0), (40, 1), (50, 5), (50, 6)] S0 u) n U18 v18_1 v18_2 := by
  intro n
  induction n with
  | zero => intro U18 v18_1 v18_2 f h; unfold w_X11_textEntry_L18 at h; exact h.elim
  | succ n ih =>
    intro U18 v18_1 v18_2 f h
    unfold w_X11_textEntry_L18 at h ⊢
    intro y1_ y2_
    replace h := h y1_ y2_
    refine ⟨fun c => ?_, fun c => ?_⟩
    · replace h := h.1 c
      obtain ⟨Q9, h0, h⟩ := h
      refine ⟨_, frX11_entryOfWanted y1_ h0, ?_⟩
      intro r13 S14 q3_ y4_ y5_
      replace h := h r13 S14 q3_.1 y4_ y5_
      replace f := f.tr (q3_.2.mo (by decide) (by decide))
      exact ⟨h, f⟩
    · replace h := h.2 c
      refine ⟨h.1, ?_⟩
      replace h := h.2
      intro y6_
      replace h := h y6_
      obtain ⟨Q9, h0, h⟩ := h
      refine ⟨_, frX0_put y1_ h0, ?_⟩
      intro S20 q7_ y8_ y9_
      replace h := h S20 q7_.1 y8_ y9_
      replace f := f.tr (q7_.2.mo (by decide) (by decide))
      intro a23 ea23 
      replace h := h a23 ea23 
      exact ih f h
set_option maxRecDepth 100000 in
theorem frX11_textEntry {S : MS} {p1 : Nat} {Q : Int32 → MS → Prop} (hw : wfC S) (h : wX11_textEntry S p1 Q) : wX11_textEntry S p1 (fun r u => Q r u ∧ cfr [101, 238, 239] [(40, 0), (40, 1), (50, 5), (50, 6)] S u) := by
  have f : cfr [101, 238, 239] [(40, 0), (40, 1), (50, 5), (50, 6)] S S := cfr.rf
  unfold wX11_textEntry at h ⊢
  obtain ⟨Q9, h0, h⟩ := h
  refine ⟨_, frX11_want hw h0, ?_⟩
  intro S2 q10_ y11_ y12_
  replace h := h S2 q10_.1 y11_ y12_
  replace f := f.tr (q10_.2.mo (by decide) (by decide))
  intro y13_
  replace h := h y13_
  obtain ⟨Q9, h0, h⟩ := h
  refine ⟨_, frX0_put2 y11_ h0, ?_⟩
  intro S7 q14_ y15_ y16_
  replace h := h S7 q14_.1 y15_ y16_
  replace f := f.tr (q14_.2.mo (by decide) (by decide))
  obtain ⟨n9, h⟩ := h
  exact ⟨n9, fr_X11_textEntry_L18 n9 f h⟩
set_option maxRecDepth 100000 in
theorem fr_X11_nameEntry_L26 {S0 : MS} {Q : Int32 → MS → Prop} : ∀ (n : Nat) {U26 : MS} {v26_1 : Int32} {v26_2 : Int32} {v26_3 : Int32}, cfr [101, 238, 239] [(40, 0), (40, 1), (50, 5), (50, 6)] S0 U26 → w_X11_nameEntry_L26 Q n U26 v26_1 v26_2 v26_3 → w_X11_nameEntry_L26 (fun r u => Q r u ∧ cfr [101, 238, 239] [(40, 0), (40, 1), (50, 5), (50, 6)] S0 u) n U26 v26_1 v26_2 v26_3 := by
  intro n
  induction n with
  | zero => intro U26 v26_1 v26_2 v26_3 f h; unfold w_X11_nameEntry_L26 at h; exact h.elim
  | succ n ih =>
    intro U26 v26_1 v26_2 v26_3 f h
    unfold w_X11_nameEntry_L26 at h ⊢
    intro y1_
    replace h := h y1_
    refine ⟨fun c => ?_, fun c => ?_⟩
    · replace h := h.1 c
      obtain ⟨Q9, h0, h⟩ := h
      refine ⟨_, frX11_entryOfWanted y1_ h0, ?_⟩
      intro r21 S22 q2_ y3_ y4_
      replace h := h r21 S22 q2_.1 y3_ y4_
      replace f := f.tr (q2_.2.mo (by decide) (by decide))
      exact ⟨h, f⟩
    · replace h := h.2 c
      refine ⟨h.1, ?_⟩
      replace h := h.2
      intro a29 ea29 
      replace h := h a29 ea29 
      intro y5_
      replace h := h y5_
      obtain ⟨Q9, h0, h⟩ := h
      refine ⟨_, frX0_put y1_ h0, ?_⟩
      intro S31 q6_ y7_ y8_
      replace h := h S31 q6_.1 y7_ y8_
      replace f := f.tr (q6_.2.mo (by decide) (by decide))
      intro a34 ea34 
      replace h := h a34 ea34 
      exact ih f h
set_option maxRecDepth 100000 in
theorem frX11_nameEntry {S : MS} {x1 : Int32} {Q : Int32 → MS → Prop} (hw : wfC S) (h : wX11_nameEntry S x1 Q) : wX11_nameEntry S x1 (fun r u => Q r u ∧ cfr [101, 238, 239] [(40, 0), (40, 1), (50, 5), (50, 6)] S u) := by
  have f : cfr [101, 238, 239] [(40, 0), (40, 1), (50, 5), (50, 6)] S S := cfr.rf
  unfold wX11_nameEntry at h ⊢
  obtain ⟨Q9, h0, h⟩ := h
  refine ⟨_, frX11_want hw h0, ?_⟩
  intro S2 q9_ y10_ y11_
  replace h := h S2 q9_.1 y10_ y11_
  replace f := f.tr (q9_.2.mo (by decide) (by decide))
  refine ⟨h.1, ?_⟩
  replace h := h.2
  intro a9 ea9 
  replace h := h a9 ea9 
  refine ⟨h.1, ?_⟩
  replace h := h.2
  intro a15 ea15 
  replace h := h a15 ea15 
  intro a17 ea17 
  replace h := h a17 ea17 
  obtain ⟨n9, h⟩ := h
  exact ⟨n9, fr_X11_nameEntry_L26 n9 f h⟩
set_option maxRecDepth 100000 in
theorem frX11_pointerEntry {S : MS} {x1 : Int32} {x2 : Int32} {Q : Int32 → MS → Prop} (hw : wfC S) (h : wX11_pointerEntry S x1 x2 Q) : wX11_pointerEntry S x1 x2 (fun r u => Q r u ∧ cfr [101, 238, 239] [(40, 0), (40, 1), (50, 5), (50, 6)] S u) := by
  have f : cfr [101, 238, 239] [(40, 0), (40, 1), (50, 5), (50, 6)] S S := cfr.rf
  unfold wX11_pointerEntry at h ⊢
  obtain ⟨Q9, h0, h⟩ := h
  refine ⟨_, frX11_want hw h0, ?_⟩
  intro S2 q1_ y2_ y3_
  replace h := h S2 q1_.1 y2_ y3_
  replace f := f.tr (q1_.2.mo (by decide) (by decide))
  intro y4_
  replace h := h y4_
  obtain ⟨Q9, h0, h⟩ := h
  refine ⟨_, frX0_put2 y2_ h0, ?_⟩
  intro S6 q5_ y6_ y7_
  replace h := h S6 q5_.1 y6_ y7_
  replace f := f.tr (q5_.2.mo (by decide) (by decide))
  obtain ⟨Q9, h0, h⟩ := h
  refine ⟨_, frX11_entryOfWanted y6_ h0, ?_⟩
  intro r10 S11 q8_ y9_ y10_
  replace h := h r10 S11 q8_.1 y9_ y10_
  replace f := f.tr (q8_.2.mo (by decide) (by decide))
  exact ⟨h, f⟩
set_option maxRecDepth 100000 in
theorem frX11_pointersEntry {S : MS} {x1 : Int32} {x2 : Int32} {x3 : Int32} {Q : Int32 → MS → Prop} (hw : wfC S) (h : wX11_pointersEntry S x1 x2 x3 Q) : wX11_pointersEntry S x1 x2 x3 (fun r u => Q r u ∧ cfr [101, 238, 239] [(40, 0), (40, 1), (50, 5), (50, 6)] S u) := by
  have f : cfr [101, 238, 239] [(40, 0), (40, 1), (50, 5), (50, 6)] S S := cfr.rf
  unfold wX11_pointersEntry at h ⊢
  obtain ⟨Q9, h0, h⟩ := h
  refine ⟨_, frX11_want hw h0, ?_⟩
  intro S2 q1_ y2_ y3_
  replace h := h S2 q1_.1 y2_ y3_
  replace f := f.tr (q1_.2.mo (by decide) (by decide))
  intro y4_
  replace h := h y4_
  obtain ⟨Q9, h0, h⟩ := h
  refine ⟨_, frX0_put2 y2_ h0, ?_⟩
  intro S6 q5_ y6_ y7_
  replace h := h S6 q5_.1 y6_ y7_
  replace f := f.tr (q5_.2.mo (by decide) (by decide))
  intro y8_
  replace h := h y8_
  obtain ⟨Q9, h0, h⟩ := h
  refine ⟨_, frX0_put2 y6_ h0, ?_⟩
  intro S10 q9_ y10_ y11_
  replace h := h S10 q9_.1 y10_ y11_
  replace f := f.tr (q9_.2.mo (by decide) (by decide))
  obtain ⟨Q9, h0, h⟩ := h
  refine ⟨_, frX11_entryOfWanted y10_ h0, ?_⟩
  intro r14 S15 q12_ y13_ y14_
  replace h := h r14 S15 q12_.1 y13_ y14_
  replace f := f.tr (q12_.2.mo (by decide) (by decide))
  exact ⟨h, f⟩
set_option maxRecDepth 100000 in
theorem frX11_intEntry {S : MS} {x1 : Int32} {Q : Int32 → MS → Prop} (hw : wfC S) (h : wX11_intEntry S x1 Q) : wX11_intEntry S x1 (fun r u => Q r u ∧ cfr [101, 238, 239] [(40, 0), (40, 1), (50, 5), (50, 6)] S u) := by
  have f : cfr [101, 238, 239] [(40, 0), (40, 1), (50, 5), (50, 6)] S S := cfr.rf
  unfold wX11_intEntry at h ⊢
  obtain ⟨Q9, h0, h⟩ := h
  refine ⟨_, frX11_want hw h0, ?_⟩
  intro S2 q1_ y2_ y3_
  replace h := h S2 q1_.1 y2_ y3_
  replace f := f.tr (q1_.2.mo (by decide) (by decide))
  intro y4_
  replace h := h y4_
  obtain ⟨Q9, h0, h⟩ := h
  refine ⟨_, frX0_put4 y2_ h0, ?_⟩
  intro S6 q5_ y6_ y7_
  replace h := h S6 q5_.1 y6_ y7_
  replace f := f.tr (q5_.2.mo (by decide) (by decide))
  obtain ⟨Q9, h0, h⟩ := h
  refine ⟨_, frX11_entryOfWanted y6_ h0, ?_⟩
  intro r10 S11 q8_ y9_ y10_
  replace h := h r10 S11 q8_.1 y9_ y10_
  replace f := f.tr (q8_.2.mo (by decide) (by decide))
  exact ⟨h, f⟩
set_option maxRecDepth 100000 in
theorem frX11_longEntry {S : MS} {y1 : Int64} {Q : Int32 → MS → Prop} (hw : wfC S) (h : wX11_longEntry S y1 Q) : wX11_longEntry S y1 (fun r u => Q r u ∧ cfr [101, 238, 239] [(40, 0), (40, 1), (50, 5), (50, 6)] S u) := by
  have f : cfr [101, 238, 239] [(40, 0), (40, 1), (50, 5), (50, 6)] S S := cfr.rf
  unfold wX11_longEntry at h ⊢
  obtain ⟨Q9, h0, h⟩ := h
  refine ⟨_, frX11_want hw h0, ?_⟩
  intro S2 q1_ y2_ y3_
  replace h := h S2 q1_.1 y2_ y3_
  replace f := f.tr (q1_.2.mo (by decide) (by decide))
  intro y4_
  replace h := h y4_
  obtain ⟨Q9, h0, h⟩ := h
  refine ⟨_, frX0_put4 y2_ h0, ?_⟩
  intro S6 q5_ y6_ y7_
  replace h := h S6 q5_.1 y6_ y7_
  replace f := f.tr (q5_.2.mo (by decide) (by decide))
  intro y8_
  replace h := h y8_
  obtain ⟨Q9, h0, h⟩ := h
  refine ⟨_, frX0_put4 y6_ h0, ?_⟩
  intro S10 q9_ y10_ y11_
  replace h := h S10 q9_.1 y10_ y11_
  replace f := f.tr (q9_.2.mo (by decide) (by decide))
  obtain ⟨Q9, h0, h⟩ := h
  refine ⟨_, frX11_entryOfWanted y10_ h0, ?_⟩
  intro r14 S15 q12_ y13_ y14_
  replace h := h r14 S15 q12_.1 y13_ y14_
  replace f := f.tr (q12_.2.mo (by decide) (by decide))
  exact ⟨h, f⟩
set_option maxRecDepth 100000 in
theorem fr_X11_counterEntry_J52 {S0 : MS} {Q : Int32 → MS → Prop} {U52 : MS} {v52_1 : Int32} (f : cfr [101, 238, 239] [(40, 0), (40, 1), (50, 5), (50, 6)] S0 U52) (h : w_X11_counterEntry_J52 Q U52 v52_1) : w_X11_counterEntry_J52 (fun r u => Q r u ∧ cfr [101, 238, 239] [(40, 0), (40, 1), (50, 5), (50, 6)] S0 u) U52 v52_1 := by
  unfold w_X11_counterEntry_J52 at h ⊢
  intro y1_
  replace h := h y1_
  intro y2_
  replace h := h y2_
  obtain ⟨Q9, h0, h⟩ := h
  refine ⟨_, frX0_put y1_ h0, ?_⟩
  intro S16 q3_ y4_ y5_
  replace h := h S16 q3_.1 y4_ y5_
  replace f := f.tr (q3_.2.mo (by decide) (by decide))
  obtain ⟨Q9, h0, h⟩ := h
  refine ⟨_, frX11_entryOfWanted y4_ h0, ?_⟩
  intro r20 S21 q6_ y7_ y8_
  replace h := h r20 S21 q6_.1 y7_ y8_
  replace f := f.tr (q6_.2.mo (by decide) (by decide))
  exact ⟨h, f⟩
set_option maxRecDepth 100000 in
theorem fr_X11_counterEntry_J20 {S0 : MS} {Q : Int32 → MS → Prop} {U20 : MS} {t20_0 : Int32} {v20_1 : Int32} (f : cfr [101, 238, 239] [(40, 0), (40, 1), (50, 5), (50, 6)] S0 U20) (h : w_X11_counterEntry_J20 Q U20 t20_0 v20_1) : w_X11_counterEntry_J20 (fun r u => Q r u ∧ cfr [101, 238, 239] [(40, 0), (40, 1), (50, 5), (50, 6)] S0 u) U20 t20_0 v20_1 := by
  unfold w_X11_counterEntry_J20 at h ⊢
  intro y9_
  replace h := h y9_
  intro y10_
  replace h := h y10_
  obtain ⟨Q9, h0, h⟩ := h
  refine ⟨_, frX0_put2 y9_ h0, ?_⟩
  intro S6 q11_ y12_ y13_
  replace h := h S6 q11_.1 y12_ y13_
  replace f := f.tr (q11_.2.mo (by decide) (by decide))
  intro y14_
  replace h := h y14_
  obtain ⟨Q9, h0, h⟩ := h
  refine ⟨_, frX0_put y12_ h0, ?_⟩
  intro S10 q15_ y16_ y17_
  replace h := h S10 q15_.1 y16_ y17_
  replace f := f.tr (q15_.2.mo (by decide) (by decide))
  refine ⟨fun c => ?_, fun c => ?_⟩
  · replace h := h.1 c
    exact fr_X11_counterEntry_J52 f h
  · replace h := h.2 c
    intro y18_
    replace h := h y18_
    obtain ⟨Q9, h0, h⟩ := h
    refine ⟨_, frX0_put y16_ h0, ?_⟩
    intro S28 q19_ y20_ y21_
    replace h := h S28 q19_.1 y20_ y21_
    replace f := f.tr (q19_.2.mo (by decide) (by decide))
    exact fr_X11_counterEntry_J52 f h
set_option maxRecDepth 100000 in
theorem frX11_counterEntry {S : MS} {x1 : Int32} {Q : Int32 → MS → Prop} (hw : wfC S) (h : wX11_counterEntry S x1 Q) : wX11_counterEntry S x1 (fun r u => Q r u ∧ cfr [101, 238, 239] [(40, 0), (40, 1), (50, 5), (50, 6)] S u) := by
  have f : cfr [101, 238, 239] [(40, 0), (40, 1), (50, 5), (50, 6)] S S := cfr.rf
  unfold wX11_counterEntry at h ⊢
  obtain ⟨Q9, h0, h⟩ := h
  refine ⟨_, frX11_want hw h0, ?_⟩
  intro S2 q22_ y23_ y24_
  replace h := h S2 q22_.1 y23_ y24_
  replace f := f.tr (q22_.2.mo (by decide) (by decide))
  refine ⟨fun c => ?_, fun c => ?_⟩
  · replace h := h.1 c
    exact fr_X11_counterEntry_J20 f h
  · replace h := h.2 c
    exact fr_X11_counterEntry_J20 f h
set_option maxRecDepth 100000 in
theorem fr_X11_fieldEntryOf_J60 {S0 : MS} {Q : Int32 → MS → Prop} {U60 : MS} {v60_1 : Int32} (f : cfr [101, 238, 239, 242] [(40, 0), (40, 1), (50, 5), (50, 6)] S0 U60) (h : w_X11_fieldEntryOf_J60 Q U60 v60_1) : w_X11_fieldEntryOf_J60 (fun r u => Q r u ∧ cfr [101, 238, 239, 242] [(40, 0), (40, 1), (50, 5), (50, 6)] S0 u) U60 v60_1 := by
  unfold w_X11_fieldEntryOf_J60 at h ⊢
  intro y1_
  replace h := h y1_
  refine ⟨h.1, ?_⟩
  replace h := h.2
  exact ⟨h, f⟩
set_option maxRecDepth 100000 in
theorem frX11_fieldEntryOf {S : MS} {x1 : Int32} {Q : Int32 → MS → Prop} (hw : wfC S) (h : wX11_fieldEntryOf S x1 Q) : wX11_fieldEntryOf S x1 (fun r u => Q r u ∧ cfr [101, 238, 239, 242] [(40, 0), (40, 1), (50, 5), (50, 6)] S u) := by
  have f : cfr [101, 238, 239, 242] [(40, 0), (40, 1), (50, 5), (50, 6)] S S := cfr.rf
  unfold wX11_fieldEntryOf at h ⊢
  refine ⟨fun c => ?_, fun c => ?_⟩
  · replace h := h.1 c
    exact ⟨h, f⟩
  · replace h := h.2 c
    refine ⟨fun c => ?_, fun c => ?_⟩
    · replace h := h.1 c
      refine ⟨h.1, ?_⟩
      replace h := h.2
      refine ⟨fun c => ?_, fun c => ?_⟩
      · replace h := h.1 c
        refine ⟨h.1, ?_⟩
        replace h := h.2
        refine ⟨h.1, ?_⟩
        replace h := h.2
        obtain ⟨Q9, h0, h⟩ := h
        refine ⟨_, frX11_pointersEntry hw h0, ?_⟩
        intro r13 S14 q2_ y3_ y4_
        replace h := h r13 S14 q2_.1 y3_ y4_
        replace f := f.tr (q2_.2.mo (by decide) (by decide))
        obtain ⟨Q9, h0, h⟩ := h
        refine ⟨_, frX11_pointersEntry y3_ h0, ?_⟩
        intro r18 S19 q5_ y6_ y7_
        replace h := h r18 S19 q5_.1 y6_ y7_
        replace f := f.tr (q5_.2.mo (by decide) (by decide))
        refine ⟨h.1, ?_⟩
        replace h := h.2
        intro S23 eS23 y8_ y9_
        replace h := h S23 eS23 y8_ y9_
        replace f := f.tr (show cfr [101, 238, 239, 242] [(40, 0), (40, 1), (50, 5), (50, 6)] S19 S23 by rw [eS23]; exact cfr.aI y8_ (by decide))
        exact fr_X11_fieldEntryOf_J60 f h
      · replace h := h.2 c
        exact fr_X11_fieldEntryOf_J60 f h
    · replace h := h.2 c
      exact ⟨h, f⟩
set_option maxRecDepth 100000 in
theorem fr_X11_methodEntryOf_J88 {S0 : MS} {Q : Int32 → MS → Prop} {U88 : MS} {v88_1 : Int32} (f : cfr [101, 238, 239, 243] [(40, 0), (40, 1), (50, 5), (50, 6)] S0 U88) (h : w_X11_methodEntryOf_J88 Q U88 v88_1) : w_X11_methodEntryOf_J88 (fun r u => Q r u ∧ cfr [101, 238, 239, 243] [(40, 0), (40, 1), (50, 5), (50, 6)] S0 u) U88 v88_1 := by
  unfold w_X11_methodEntryOf_J88 at h ⊢
  intro y1_
  replace h := h y1_
  refine ⟨h.1, ?_⟩
  replace h := h.2
  exact ⟨h, f⟩
set_option maxRecDepth 100000 in
theorem frX11_methodEntryOf {S : MS} {x1 : Int32} {Q : Int32 → MS → Prop} (hw : wfC S) (h : wX11_methodEntryOf S x1 Q) : wX11_methodEntryOf S x1 (fun r u => Q r u ∧ cfr [101, 238, 239, 243] [(40, 0), (40, 1), (50, 5), (50, 6)] S u) := by
  have f : cfr [101, 238, 239, 243] [(40, 0), (40, 1), (50, 5), (50, 6)] S S := cfr.rf
  unfold wX11_methodEntryOf at h ⊢
  refine ⟨fun c => ?_, fun c => ?_⟩
  · replace h := h.1 c
    exact ⟨h, f⟩
  · replace h := h.2 c
    refine ⟨fun c => ?_, fun c => ?_⟩
    · replace h := h.1 c
      exact ⟨h, f⟩
    · replace h := h.2 c
      refine ⟨h.1, ?_⟩
      replace h := h.2
      refine ⟨h.1, ?_⟩
      replace h := h.2
      refine ⟨fun c => ?_, fun c => ?_⟩
      · replace h := h.1 c
        refine ⟨h.1, ?_⟩
        replace h := h.2
        refine ⟨fun c => ?_, fun c => ?_⟩
        · replace h := h.1 c
          refine ⟨h.1, ?_⟩
          replace h := h.2
          refine ⟨h.1, ?_⟩
          replace h := h.2
          refine ⟨h.1, ?_⟩
          replace h := h.2
          obtain ⟨Q9, h0, h⟩ := h
          refine ⟨_, frX11_nameEntry hw h0, ?_⟩
          intro r21 S22 q2_ y3_ y4_
          replace h := h r21 S22 q2_.1 y3_ y4_
          replace f := f.tr (q2_.2.mo (by decide) (by decide))
          refine ⟨h.1, ?_⟩
          replace h := h.2
          refine ⟨h.1, ?_⟩
          replace h := h.2
          refine ⟨h.1, ?_⟩
          replace h := h.2
          obtain ⟨Q9, h0, h⟩ := h
          refine ⟨_, frX11_nameEntry y3_ h0, ?_⟩
          intro r32 S33 q5_ y6_ y7_
          replace h := h r32 S33 q5_.1 y6_ y7_
          replace f := f.tr (q5_.2.mo (by decide) (by decide))
          obtain ⟨Q9, h0, h⟩ := h
          refine ⟨_, frX11_pointersEntry y6_ h0, ?_⟩
          intro r37 S38 q8_ y9_ y10_
          replace h := h r37 S38 q8_.1 y9_ y10_
          replace f := f.tr (q8_.2.mo (by decide) (by decide))
          obtain ⟨Q9, h0, h⟩ := h
          refine ⟨_, frX11_pointersEntry y9_ h0, ?_⟩
          intro r42 S43 q11_ y12_ y13_
          replace h := h r42 S43 q11_.1 y12_ y13_
          replace f := f.tr (q11_.2.mo (by decide) (by decide))
          refine ⟨h.1, ?_⟩
          replace h := h.2
          intro S47 eS47 y14_ y15_
          replace h := h S47 eS47 y14_ y15_
          replace f := f.tr (show cfr [101, 238, 239, 243] [(40, 0), (40, 1), (50, 5), (50, 6)] S43 S47 by rw [eS47]; exact cfr.aI y14_ (by decide))
          exact fr_X11_methodEntryOf_J88 f h
        · replace h := h.2 c
          exact fr_X11_methodEntryOf_J88 f h
      · replace h := h.2 c
        exact ⟨h, f⟩
set_option maxRecDepth 100000 in
theorem frX11_classOf {S : MS} {x1 : Int32} {Q : Int32 → MS → Prop} (hw : wfC S) (h : wX11_classOf S x1 Q) : wX11_classOf S x1 (fun r u => Q r u ∧ cfr [101, 238, 239] [(40, 0), (40, 1), (50, 5), (50, 6)] S u) := by
  have f : cfr [101, 238, 239] [(40, 0), (40, 1), (50, 5), (50, 6)] S S := cfr.rf
  unfold wX11_classOf at h ⊢
  refine ⟨fun c => ?_, fun c => ?_⟩
  · replace h := h.1 c
    exact ⟨h, f⟩
  · replace h := h.2 c
    refine ⟨h.1, ?_⟩
    replace h := h.2
    intro y1_
    replace h := h y1_
    obtain ⟨Q9, h0, h⟩ := h
    refine ⟨_, frX11_textEntry hw h0, ?_⟩
    intro r6 S7 q2_ y3_ y4_
    replace h := h r6 S7 q2_.1 y3_ y4_
    replace f := f.tr (q2_.2.mo (by decide) (by decide))
    obtain ⟨Q9, h0, h⟩ := h
    refine ⟨_, frX11_pointerEntry y3_ h0, ?_⟩
    intro r11 S12 q5_ y6_ y7_
    replace h := h r11 S12 q5_.1 y6_ y7_
    replace f := f.tr (q5_.2.mo (by decide) (by decide))
    exact ⟨h, f⟩
set_option maxRecDepth 100000 in
theorem fr_X11_needOf_J110 {S0 : MS} {Q : Int32 → MS → Prop} {U110 : MS} {v110_2 : Int64} (f : cfr [101, 238, 239, 242, 243] [(40, 0), (40, 1), (50, 5), (50, 6)] S0 U110) (h : w_X11_needOf_J110 Q U110 v110_2) : w_X11_needOf_J110 (fun r u => Q r u ∧ cfr [101, 238, 239, 242, 243] [(40, 0), (40, 1), (50, 5), (50, 6)] S0 u) U110 v110_2 := by
  unfold w_X11_needOf_J110 at h ⊢
  intro y1_
  replace h := h y1_
  obtain ⟨Q9, h0, h⟩ := h
  refine ⟨_, frX11_fieldEntryOf y1_ h0, ?_⟩
  intro r13 S14 q2_ y3_ y4_
  replace h := h r13 S14 q2_.1 y3_ y4_
  replace f := f.tr (q2_.2.mo (by decide) (by decide))
  exact ⟨h, f⟩
set_option maxRecDepth 100000 in
theorem fr_X11_needOf_J100 {S0 : MS} {Q : Int32 → MS → Prop} {U100 : MS} (f : cfr [101, 238, 239, 242, 243] [(40, 0), (40, 1), (50, 5), (50, 6)] S0 U100) (h : w_X11_needOf_J100 Q U100) : w_X11_needOf_J100 (fun r u => Q r u ∧ cfr [101, 238, 239, 242, 243] [(40, 0), (40, 1), (50, 5), (50, 6)] S0 u) U100 := by
  unfold w_X11_needOf_J100 at h ⊢
  intro y5_
  replace h := h y5_
  exact ⟨h, f⟩
set_option maxRecDepth 100000 in
theorem frX11_needOf {S : MS} {x1 : Int32} {Q : Int32 → MS → Prop} (hw : wfC S) (h : wX11_needOf S x1 Q) : wX11_needOf S x1 (fun r u => Q r u ∧ cfr [101, 238, 239, 242, 243] [(40, 0), (40, 1), (50, 5), (50, 6)] S u) := by
  have f : cfr [101, 238, 239, 242, 243] [(40, 0), (40, 1), (50, 5), (50, 6)] S S := cfr.rf
  unfold wX11_needOf at h ⊢
  refine ⟨h.1, ?_⟩
  replace h := h.2
  refine ⟨h.1, ?_⟩
  replace h := h.2
  intro a6 ea6 
  replace h := h a6 ea6 
  refine ⟨h.1, ?_⟩
  replace h := h.2
  refine ⟨h.1, ?_⟩
  replace h := h.2
  refine ⟨fun c => ?_, fun c => ?_⟩
  · replace h := h.1 c
    refine ⟨fun c => ?_, fun c => ?_⟩
    · replace h := h.1 c
      exact ⟨h, f⟩
    · replace h := h.2 c
      obtain ⟨Q9, h0, h⟩ := h
      refine ⟨_, frX11_intEntry hw h0, ?_⟩
      intro r20 S21 q6_ y7_ y8_
      replace h := h r20 S21 q6_.1 y7_ y8_
      replace f := f.tr (q6_.2.mo (by decide) (by decide))
      exact ⟨h, f⟩
  · replace h := h.2 c
    refine ⟨fun c => ?_, fun c => ?_⟩
    · replace h := h.1 c
      refine ⟨fun c => ?_, fun c => ?_⟩
      · replace h := h.1 c
        exact fr_X11_needOf_J100 f h
      · replace h := h.2 c
        refine ⟨fun c => ?_, fun c => ?_⟩
        · replace h := h.1 c
          exact fr_X11_needOf_J100 f h
        · replace h := h.2 c
          obtain ⟨Q9, h0, h⟩ := h
          refine ⟨_, frX11_longEntry hw h0, ?_⟩
          intro r29 S30 q9_ y10_ y11_
          replace h := h r29 S30 q9_.1 y10_ y11_
          replace f := f.tr (q9_.2.mo (by decide) (by decide))
          exact ⟨h, f⟩
    · replace h := h.2 c
      refine ⟨fun c => ?_, fun c => ?_⟩
      · replace h := h.1 c
        exact fr_X11_needOf_J110 f h
      · replace h := h.2 c
        refine ⟨fun c => ?_, fun c => ?_⟩
        · replace h := h.1 c
          exact fr_X11_needOf_J110 f h
        · replace h := h.2 c
          refine ⟨fun c => ?_, fun c => ?_⟩
          · replace h := h.1 c
            obtain ⟨Q9, h0, h⟩ := h
            refine ⟨_, frX11_methodEntryOf hw h0, ?_⟩
            intro r34 S35 q12_ y13_ y14_
            replace h := h r34 S35 q12_.1 y13_ y14_
            replace f := f.tr (q12_.2.mo (by decide) (by decide))
            exact ⟨h, f⟩
          · replace h := h.2 c
            exact ⟨h, f⟩
set_option maxRecDepth 100000 in
theorem fr_X11_putInstruction_J33 {S0 : MS} {Q : MS → Prop} {U33 : MS} {v33_3 : Int32} {v33_4 : Int64} (f : cfr [101] [(40, 0), (40, 1)] S0 U33) (h : w_X11_putInstruction_J33 Q U33 v33_3 v33_4) : w_X11_putInstruction_J33 (fun u => Q u ∧ cfr [101] [(40, 0), (40, 1)] S0 u) U33 v33_3 v33_4 := by
  unfold w_X11_putInstruction_J33 at h ⊢
  intro y1_
  replace h := h y1_
  obtain ⟨Q9, h0, h⟩ := h
  refine ⟨_, frX11_putLocal y1_ h0, ?_⟩
  intro S18 q2_ y3_ y4_
  replace h := h S18 q2_.1 y3_ y4_
  replace f := f.tr (q2_.2.mo (by decide) (by decide))
  exact ⟨h, f⟩
set_option maxRecDepth 100000 in
theorem fr_X11_putInstruction_J200 {S0 : MS} {Q : MS → Prop} {U200 : MS} {v200_1 : Int32} (f : cfr [101] [(40, 0), (40, 1)] S0 U200) (h : w_X11_putInstruction_J200 Q U200 v200_1) : w_X11_putInstruction_J200 (fun u => Q u ∧ cfr [101] [(40, 0), (40, 1)] S0 u) U200 v200_1 := by
  unfold w_X11_putInstruction_J200 at h ⊢
  intro y5_
  replace h := h y5_
  refine ⟨h.1, ?_⟩
  replace h := h.2
  intro y6_
  replace h := h y6_
  obtain ⟨Q9, h0, h⟩ := h
  refine ⟨_, frX0_put2 y5_ h0, ?_⟩
  intro S48 q7_ y8_ y9_
  replace h := h S48 q7_.1 y8_ y9_
  replace f := f.tr (q7_.2.mo (by decide) (by decide))
  exact ⟨h, f⟩
set_option maxRecDepth 100000 in
theorem frX11_putInstruction {S : MS} {x1 : Int32} {x2 : Int32} {Q : MS → Prop} (hw : wfC S) (h : wX11_putInstruction S x1 x2 Q) : wX11_putInstruction S x1 x2 (fun u => Q u ∧ cfr [101] [(40, 0), (40, 1)] S u) := by
  have f : cfr [101] [(40, 0), (40, 1)] S S := cfr.rf
  unfold wX11_putInstruction at h ⊢
  refine ⟨h.1, ?_⟩
  replace h := h.2
  refine ⟨h.1, ?_⟩
  replace h := h.2
  intro a6 ea6 
  replace h := h a6 ea6 
  refine ⟨h.1, ?_⟩
  replace h := h.2
  refine ⟨h.1, ?_⟩
  replace h := h.2
  intro a12 ea12 
  replace h := h a12 ea12 
  refine ⟨h.1, ?_⟩
  replace h := h.2
  intro a16 ea16 
  replace h := h a16 ea16 
  refine ⟨fun c => ?_, fun c => ?_⟩
  · replace h := h.1 c
    refine ⟨h.1, ?_⟩
    replace h := h.2
    intro a25 ea25 
    replace h := h a25 ea25 
    refine ⟨fun c => ?_, fun c => ?_⟩
    · replace h := h.1 c
      refine ⟨h.1, ?_⟩
      replace h := h.2
      intro a30 ea30 
      replace h := h a30 ea30 
      refine ⟨fun c => ?_, fun c => ?_⟩
      · replace h := h.1 c
        refine ⟨h.1, ?_⟩
        replace h := h.2
        intro a35 ea35 
        replace h := h a35 ea35 
        refine ⟨fun c => ?_, fun c => ?_⟩
        · replace h := h.1 c
          refine ⟨fun c => ?_, fun c => ?_⟩
          · replace h := h.1 c
            refine ⟨h.1, ?_⟩
            replace h := h.2
            obtain ⟨Q9, h0, h⟩ := h
            refine ⟨_, frX11_putInt hw h0, ?_⟩
            intro S86 q10_ y11_ y12_
            replace h := h S86 q10_.1 y11_ y12_
            replace f := f.tr (q10_.2.mo (by decide) (by decide))
            exact ⟨h, f⟩
          · replace h := h.2 c
            refine ⟨fun c => ?_, fun c => ?_⟩
            · replace h := h.1 c
              refine ⟨h.1, ?_⟩
              replace h := h.2
              obtain ⟨Q9, h0, h⟩ := h
              refine ⟨_, frX11_putLong hw h0, ?_⟩
              intro S79 q13_ y14_ y15_
              replace h := h S79 q13_.1 y14_ y15_
              replace f := f.tr (q13_.2.mo (by decide) (by decide))
              exact ⟨h, f⟩
            · replace h := h.2 c
              refine ⟨fun c => ?_, fun c => ?_⟩
              · replace h := h.1 c
                refine ⟨h.1, ?_⟩
                replace h := h.2
                refine ⟨h.1, ?_⟩
                replace h := h.2
                intro a64 ea64 
                replace h := h a64 ea64 
                refine ⟨h.1, ?_⟩
                replace h := h.2
                refine ⟨h.1, ?_⟩
                replace h := h.2
                intro a70 ea70 
                replace h := h a70 ea70 
                obtain ⟨Q9, h0, h⟩ := h
                refine ⟨_, frX11_putGrow hw h0, ?_⟩
                intro S72 q16_ y17_ y18_
                replace h := h S72 q16_.1 y17_ y18_
                replace f := f.tr (q16_.2.mo (by decide) (by decide))
                exact ⟨h, f⟩
              · replace h := h.2 c
                intro y19_
                replace h := h y19_
                obtain ⟨Q9, h0, h⟩ := h
                refine ⟨_, frX0_put hw h0, ?_⟩
                intro S41 q20_ y21_ y22_
                replace h := h S41 q20_.1 y21_ y22_
                replace f := f.tr (q20_.2.mo (by decide) (by decide))
                refine ⟨fun c => ?_, fun c => ?_⟩
                · replace h := h.1 c
                  exact fr_X11_putInstruction_J200 f h
                · replace h := h.2 c
                  refine ⟨fun c => ?_, fun c => ?_⟩
                  · replace h := h.1 c
                    exact fr_X11_putInstruction_J200 f h
                  · replace h := h.2 c
                    refine ⟨fun c => ?_, fun c => ?_⟩
                    · replace h := h.1 c
                      exact fr_X11_putInstruction_J200 f h
                    · replace h := h.2 c
                      refine ⟨fun c => ?_, fun c => ?_⟩
                      · replace h := h.1 c
                        intro y23_
                        replace h := h y23_
                        obtain ⟨Q9, h0, h⟩ := h
                        refine ⟨_, frX0_put y21_ h0, ?_⟩
                        intro S56 q24_ y25_ y26_
                        replace h := h S56 q24_.1 y25_ y26_
                        replace f := f.tr (q24_.2.mo (by decide) (by decide))
                        exact ⟨h, f⟩
                      · replace h := h.2 c
                        exact ⟨h, f⟩
        · replace h := h.2 c
          obtain ⟨Q9, h0, h⟩ := h
          refine ⟨_, frX11_putSwitch hw h0, ?_⟩
          intro S90 q27_ y28_ y29_
          replace h := h S90 q27_.1 y28_ y29_
          replace f := f.tr (q27_.2.mo (by decide) (by decide))
          exact ⟨h, f⟩
      · replace h := h.2 c
        intro y30_
        replace h := h y30_
        obtain ⟨Q9, h0, h⟩ := h
        refine ⟨_, frX0_put hw h0, ?_⟩
        intro S94 q31_ y32_ y33_
        replace h := h S94 q31_.1 y32_ y33_
        replace f := f.tr (q31_.2.mo (by decide) (by decide))
        refine ⟨h.1, ?_⟩
        replace h := h.2
        intro a100 ea100 
        replace h := h a100 ea100 
        refine ⟨h.1, ?_⟩
        replace h := h.2
        intro a104 ea104 
        replace h := h a104 ea104 
        intro y34_
        replace h := h y34_
        obtain ⟨Q9, h0, h⟩ := h
        refine ⟨_, frX0_put2 y32_ h0, ?_⟩
        intro S107 q35_ y36_ y37_
        replace h := h S107 q35_.1 y36_ y37_
        replace f := f.tr (q35_.2.mo (by decide) (by decide))
        exact ⟨h, f⟩
    · replace h := h.2 c
      exact fr_X11_putInstruction_J33 f h
  · replace h := h.2 c
    exact fr_X11_putInstruction_J33 f h
set_option maxRecDepth 100000 in
theorem frX12_size {S : MS} {x1 : Int32} {x2 : Int32} {Q : Int32 → MS → Prop} (hw : wfC S) (h : wX12_size S x1 x2 Q) : wX12_size S x1 x2 (fun r u => Q r u ∧ cfr [] [] S u) := by
  have f : cfr [] [] S S := cfr.rf
  unfold wX12_size at h ⊢
  obtain ⟨Q9, h0, h⟩ := h
  refine ⟨_, frX12_unitAt hw h0, ?_⟩
  intro b5 S3 q1_ y2_ y3_ y4_
  replace h := h b5 S3 q1_.1 y2_ y3_ y4_
  replace f := f.tr (q1_.2.mo (by decide) (by decide))
  refine ⟨fun c => ?_, fun c => ?_⟩
  · replace h := h.1 c
    exact ⟨h, f⟩
  · replace h := h.2 c
    refine ⟨fun c => ?_, fun c => ?_⟩
    · replace h := h.1 c
      exact ⟨h, f⟩
    · replace h := h.2 c
      refine ⟨fun c => ?_, fun c => ?_⟩
      · replace h := h.1 c
        exact ⟨h, f⟩
      · replace h := h.2 c
        refine ⟨fun c => ?_, fun c => ?_⟩
        · replace h := h.1 c
          exact ⟨h, f⟩
        · replace h := h.2 c
          refine ⟨fun c => ?_, fun c => ?_⟩
          · replace h := h.1 c
            exact ⟨h, f⟩
          · replace h := h.2 c
            exact ⟨h, f⟩
set_option maxRecDepth 100000 in
theorem frX12_length {S : MS} {x1 : Int32} {x2 : Int32} {Q : Int32 → MS → Prop} (hw : wfC S) (h : wX12_length S x1 x2 Q) : wX12_length S x1 x2 (fun r u => Q r u ∧ cfr [] [] S u) := by
  have f : cfr [] [] S S := cfr.rf
  unfold wX12_length at h ⊢
  obtain ⟨Q9, h0, h⟩ := h
  refine ⟨_, frX12_rowAt hw h0, ?_⟩
  intro b5 S3 q1_ y2_ y3_ y4_
  replace h := h b5 S3 q1_.1 y2_ y3_ y4_
  replace f := f.tr (q1_.2.mo (by decide) (by decide))
  refine ⟨fun c => ?_, fun c => ?_⟩
  · replace h := h.1 c
    exact ⟨h, f⟩
  · replace h := h.2 c
    exact ⟨h, f⟩
set_option maxRecDepth 100000 in
theorem fr_X12_height_J18 {S0 : MS} {Q : Int32 → MS → Prop} {U18 : MS} {t18_0 : Option Nat} {v18_3 : Int32} (f : cfr [] [] S0 U18) (h : w_X12_height_J18 Q U18 t18_0 v18_3) : w_X12_height_J18 (fun r u => Q r u ∧ cfr [] [] S0 u) U18 t18_0 v18_3 := by
  unfold w_X12_height_J18 at h ⊢
  intro y1_ y2_
  replace h := h y1_ y2_
  refine ⟨fun c => ?_, fun c => ?_⟩
  · replace h := h.1 c
    exact ⟨h, f⟩
  · replace h := h.2 c
    refine ⟨h.1, ?_⟩
    replace h := h.2
    exact ⟨h, f⟩
set_option maxRecDepth 100000 in
theorem frX12_height {S : MS} {x1 : Int32} {x2 : Int32} {x3 : Int32} {Q : Int32 → MS → Prop} (hw : wfC S) (h : wX12_height S x1 x2 x3 Q) : wX12_height S x1 x2 x3 (fun r u => Q r u ∧ cfr [] [] S u) := by
  have f : cfr [] [] S S := cfr.rf
  unfold wX12_height at h ⊢
  obtain ⟨Q9, h0, h⟩ := h
  refine ⟨_, frX12_soundUnitAt hw h0, ?_⟩
  intro b5 S3 q3_ y4_ y5_ y6_
  replace h := h b5 S3 q3_.1 y4_ y5_ y6_
  replace f := f.tr (q3_.2.mo (by decide) (by decide))
  refine ⟨fun c => ?_, fun c => ?_⟩
  · replace h := h.1 c
    exact fr_X12_height_J18 f h
  · replace h := h.2 c
    obtain ⟨Q9, h0, h⟩ := h
    refine ⟨_, frX12_rowAt y4_ h0, ?_⟩
    intro b15 S13 q7_ y8_ y9_ y10_
    replace h := h b15 S13 q7_.1 y8_ y9_ y10_
    replace f := f.tr (q7_.2.mo (by decide) (by decide))
    exact fr_X12_height_J18 f h
set_option maxRecDepth 100000 in
theorem fr_X12_local_J18 {S0 : MS} {Q : Int32 → MS → Prop} {U18 : MS} {t18_0 : Option Nat} {v18_3 : Int32} {v18_4 : Int32} (f : cfr [] [] S0 U18) (h : w_X12_local_J18 Q U18 t18_0 v18_3 v18_4) : w_X12_local_J18 (fun r u => Q r u ∧ cfr [] [] S0 u) U18 t18_0 v18_3 v18_4 := by
  unfold w_X12_local_J18 at h ⊢
  intro y1_ y2_
  replace h := h y1_ y2_
  refine ⟨fun c => ?_, fun c => ?_⟩
  · replace h := h.1 c
    exact ⟨h, f⟩
  · replace h := h.2 c
    refine ⟨h.1, ?_⟩
    replace h := h.2
    refine ⟨fun c => ?_, fun c => ?_⟩
    · replace h := h.1 c
      exact ⟨h, f⟩
    · replace h := h.2 c
      refine ⟨fun c => ?_, fun c => ?_⟩
      · replace h := h.1 c
        exact ⟨h, f⟩
      · replace h := h.2 c
        refine ⟨fun c => ?_, fun c => ?_⟩
        · replace h := h.1 c
          refine ⟨h.1, ?_⟩
          replace h := h.2
          exact ⟨h, f⟩
        · replace h := h.2 c
          exact ⟨h, f⟩
set_option maxRecDepth 100000 in
theorem frX12_local {S : MS} {x1 : Int32} {x2 : Int32} {x3 : Int32} {x4 : Int32} {Q : Int32 → MS → Prop} (hw : wfC S) (h : wX12_local S x1 x2 x3 x4 Q) : wX12_local S x1 x2 x3 x4 (fun r u => Q r u ∧ cfr [] [] S u) := by
  have f : cfr [] [] S S := cfr.rf
  unfold wX12_local at h ⊢
  obtain ⟨Q9, h0, h⟩ := h
  refine ⟨_, frX12_soundUnitAt hw h0, ?_⟩
  intro b5 S3 q3_ y4_ y5_ y6_
  replace h := h b5 S3 q3_.1 y4_ y5_ y6_
  replace f := f.tr (q3_.2.mo (by decide) (by decide))
  refine ⟨fun c => ?_, fun c => ?_⟩
  · replace h := h.1 c
    exact fr_X12_local_J18 f h
  · replace h := h.2 c
    obtain ⟨Q9, h0, h⟩ := h
    refine ⟨_, frX12_rowAt y4_ h0, ?_⟩
    intro b21 S19 q7_ y8_ y9_ y10_
    replace h := h b21 S19 q7_.1 y8_ y9_ y10_
    replace f := f.tr (q7_.2.mo (by decide) (by decide))
    exact fr_X12_local_J18 f h
set_option maxRecDepth 100000 in
theorem frX12_stage {S : MS} {x1 : Int32} {Q : Int32 → MS → Prop} (hw : wfC S) (h : wX12_stage S x1 Q) : wX12_stage S x1 (fun r u => Q r u ∧ cfr [402] [(45, 0), (45, 3), (45, 5)] S u) := by
  have f : cfr [402] [(45, 0), (45, 3), (45, 5)] S S := cfr.rf
  unfold wX12_stage at h ⊢
  obtain ⟨Q9, h0, h⟩ := h
  refine ⟨_, frX12_soundUnitAt hw h0, ?_⟩
  intro b5 S3 q1_ y2_ y3_ y4_
  replace h := h b5 S3 q1_.1 y2_ y3_ y4_
  replace f := f.tr (q1_.2.mo (by decide) (by decide))
  refine ⟨fun c => ?_, fun c => ?_⟩
  · replace h := h.1 c
    exact ⟨h, f⟩
  · replace h := h.2 c
    intro y5_
    replace h := h y5_
    obtain ⟨Q9, h0, h⟩ := h
    refine ⟨_, frX5_setStage y2_ h0, ?_⟩
    intro S8 q6_ y7_ y8_
    replace h := h S8 q6_.1 y7_ y8_
    replace f := f.tr (q6_.2.mo (by decide) (by decide))
    exact ⟨h, f⟩
set_option maxRecDepth 100000 in
theorem fr_X1_beginBody_J96 {S0 : MS} {Q : MS → Prop} {k46 k46' : MS → Int32 → Int32 → Int32 → Int32 → Prop} {U96 : MS} {t96_0 : Int32} {t96_1 : Int32} {v96_1 : Int32} {v96_2 : Int32} {v96_4 : Int32} (hk46 : ∀ (u : MS) (z0) (z1) (z2) (z3), cfr [102, 103, 301, 302] [(41, 5), (41, 7)] S0 u → k46 u z0 z1 z2 z3 → k46' u z0 z1 z2 z3) (f : cfr [102, 103, 301, 302] [(41, 5), (41, 7)] S0 U96) (h : w_X1_beginBody_J96 Q k46 U96 t96_0 t96_1 v96_1 v96_2 v96_4) : w_X1_beginBody_J96 (fun u => Q u ∧ cfr [102, 103, 301, 302] [(41, 5), (41, 7)] S0 u) k46' U96 t96_0 t96_1 v96_1 v96_2 v96_4 := by
  unfold w_X1_beginBody_J96 at h ⊢
  intro y1_
  replace h := h y1_
  intro a31 ea31 
  replace h := h a31 ea31 
  intro a32 ea32 
  replace h := h a32 ea32 
  exact hk46 _ _ _ _ _ f h
set_option maxRecDepth 100000 in
theorem fr_X1_beginBody_J84 {S0 : MS} {Q : MS → Prop} {k46 k46' : MS → Int32 → Int32 → Int32 → Int32 → Prop} {U84 : MS} {v84_1 : Int32} {v84_2 : Int32} {v84_3 : Int32} {v84_4 : Int32} {v84_5 : Int32} (hk46 : ∀ (u : MS) (z0) (z1) (z2) (z3), cfr [102, 103, 301, 302] [(41, 5), (41, 7)] S0 u → k46 u z0 z1 z2 z3 → k46' u z0 z1 z2 z3) (f : cfr [102, 103, 301, 302] [(41, 5), (41, 7)] S0 U84) (h : w_X1_beginBody_J84 Q k46 U84 v84_1 v84_2 v84_3 v84_4 v84_5) : w_X1_beginBody_J84 (fun u => Q u ∧ cfr [102, 103, 301, 302] [(41, 5), (41, 7)] S0 u) k46' U84 v84_1 v84_2 v84_3 v84_4 v84_5 := by
  unfold w_X1_beginBody_J84 at h ⊢
  intro y2_
  replace h := h y2_
  refine ⟨fun c => ?_, fun c => ?_⟩
  · replace h := h.1 c
    exact fr_X1_beginBody_J96 hk46 f h
  · replace h := h.2 c
    exact fr_X1_beginBody_J96 hk46 f h
set_option maxRecDepth 100000 in
theorem fr_X1_beginBody_L46 {S0 : MS} {Q : MS → Prop} : ∀ (n : Nat) {U46 : MS} {v46_1 : Int32} {v46_2 : Int32} {v46_3 : Int32} {v46_4 : Int32}, cfr [102, 103, 301, 302] [(41, 5), (41, 7)] S0 U46 → w_X1_beginBody_L46 Q n U46 v46_1 v46_2 v46_3 v46_4 → w_X1_beginBody_L46 (fun u => Q u ∧ cfr [102, 103, 301, 302] [(41, 5), (41, 7)] S0 u) n U46 v46_1 v46_2 v46_3 v46_4 := by
  intro n
  induction n with
  | zero => intro U46 v46_1 v46_2 v46_3 v46_4 f h; unfold w_X1_beginBody_L46 at h; exact h.elim
  | succ n ih =>
    intro U46 v46_1 v46_2 v46_3 v46_4 f h
    unfold w_X1_beginBody_L46 at h ⊢
    intro y3_
    replace h := h y3_
    refine ⟨fun c => ?_, fun c => ?_⟩
    · replace h := h.1 c
      intro S15 eS15 y4_ y5_
      replace h := h S15 eS15 y4_ y5_
      replace f := f.tr (show cfr [102, 103, 301, 302] [(41, 5), (41, 7)] U46 S15 by rw [eS15]; exact cfr.oI y4_ (by decide))
      obtain ⟨Q9, h0, h⟩ := h
      refine ⟨_, frX1_comeTo y5_ h0, ?_⟩
      intro S17 q6_ y7_ y8_
      replace h := h S17 q6_.1 y7_ y8_
      replace f := f.tr (q6_.2.mo (by decide) (by decide))
      exact ⟨h, f⟩
    · replace h := h.2 c
      obtain ⟨Q9, h0, h⟩ := h
      refine ⟨_, frX6_kindAt y3_ h0, ?_⟩
      intro r20 S21 q9_ y10_ y11_
      replace h := h r20 S21 q9_.1 y10_ y11_
      replace f := f.tr (q9_.2.mo (by decide) (by decide))
      refine ⟨h.1, ?_⟩
      replace h := h.2
      intro a26 ea26 
      replace h := h a26 ea26 
      obtain ⟨Q9, h0, h⟩ := h
      refine ⟨_, frX1_setPlace y10_ h0, ?_⟩
      intro S28 q12_ y13_ y14_
      replace h := h S28 q12_.1 y13_ y14_
      replace f := f.tr (q12_.2.mo (by decide) (by decide))
      refine ⟨fun c => ?_, fun c => ?_⟩
      · replace h := h.1 c
        obtain ⟨Q9, h0, h⟩ := h
        refine ⟨_, frX1_setPlace y13_ h0, ?_⟩
        intro S37 q15_ y16_ y17_
        replace h := h S37 q15_.1 y16_ y17_
        replace f := f.tr (q15_.2.mo (by decide) (by decide))
        exact fr_X1_beginBody_J84 (fun _ _ _ _ _ f h => ih f h) f h
      · replace h := h.2 c
        exact fr_X1_beginBody_J84 (fun _ _ _ _ _ f h => ih f h) f h
set_option maxRecDepth 100000 in
theorem fr_X1_beginBody_L2 {S0 : MS} {Q : MS → Prop} : ∀ (n : Nat) {U2 : MS} {v2_1 : Int32}, cfr [102, 103, 301, 302] [(41, 5), (41, 7)] S0 U2 → w_X1_beginBody_L2 Q n U2 v2_1 → w_X1_beginBody_L2 (fun u => Q u ∧ cfr [102, 103, 301, 302] [(41, 5), (41, 7)] S0 u) n U2 v2_1 := by
  intro n
  induction n with
  | zero => intro U2 v2_1 f h; unfold w_X1_beginBody_L2 at h; exact h.elim
  | succ n ih =>
    intro U2 v2_1 f h
    unfold w_X1_beginBody_L2 at h ⊢
    intro y18_
    replace h := h y18_
    refine ⟨fun c => ?_, fun c => ?_⟩
    · replace h := h.1 c
      refine ⟨h.1, ?_⟩
      replace h := h.2
      refine ⟨h.1, ?_⟩
      replace h := h.2
      refine ⟨h.1, ?_⟩
      replace h := h.2
      intro a9 ea9 
      replace h := h a9 ea9 
      obtain ⟨Q9, h0, h⟩ := h
      refine ⟨_, frX6_kindCount y18_ h0, ?_⟩
      intro r11 S12 q19_ y20_ y21_
      replace h := h r11 S12 q19_.1 y20_ y21_
      replace f := f.tr (q19_.2.mo (by decide) (by decide))
      obtain ⟨n9, h⟩ := h
      exact ⟨n9, fr_X1_beginBody_L46 n9 f h⟩
    · replace h := h.2 c
      refine ⟨h.1, ?_⟩
      replace h := h.2
      intro S40 eS40 y22_ y23_
      replace h := h S40 eS40 y22_ y23_
      replace f := f.tr (show cfr [102, 103, 301, 302] [(41, 5), (41, 7)] U2 S40 by rw [eS40]; exact cfr.aI y22_ (by decide))
      intro a41 ea41 
      replace h := h a41 ea41 
      exact ih f h
set_option maxRecDepth 100000 in
theorem frX1_beginBody {S : MS} {Q : MS → Prop} (hw : wfC S) (h : wX1_beginBody S Q) : wX1_beginBody S (fun u => Q u ∧ cfr [102, 103, 301, 302] [(41, 5), (41, 7)] S u) := by
  have f : cfr [102, 103, 301, 302] [(41, 5), (41, 7)] S S := cfr.rf
  unfold wX1_beginBody at h ⊢
  obtain ⟨n9, h⟩ := h
  exact ⟨n9, fr_X1_beginBody_L2 n9 f h⟩
set_option maxRecDepth 100000 in
theorem fr_X1_goThrough_J213 {S0 : MS} {Q : MS → Prop} {U213 : MS} {t213_0 : Int32} {t213_1 : Int32} (f : cfr [103] [(41, 5), (41, 6)] S0 U213) (h : w_X1_goThrough_J213 Q U213 t213_0 t213_1) : w_X1_goThrough_J213 (fun u => Q u ∧ cfr [103] [(41, 5), (41, 6)] S0 u) U213 t213_0 t213_1 := by
  unfold w_X1_goThrough_J213 at h ⊢
  intro y1_ y2_
  replace h := h y1_ y2_
  refine ⟨h.1, ?_⟩
  replace h := h.2
  intro S41 eS41 y3_ y4_
  replace h := h S41 eS41 y3_ y4_
  replace f := f.tr (show cfr [103] [(41, 5), (41, 6)] U213 S41 by rw [eS41]; exact cfr.oI y3_ (by decide))
  exact ⟨h, f⟩
set_option maxRecDepth 100000 in
theorem fr_X1_goThrough_J212 {S0 : MS} {Q : MS → Prop} {U212 : MS} {t212_0 : Int32} (f : cfr [103] [(41, 5), (41, 6)] S0 U212) (h : w_X1_goThrough_J212 Q U212 t212_0) : w_X1_goThrough_J212 (fun u => Q u ∧ cfr [103] [(41, 5), (41, 6)] S0 u) U212 t212_0 := by
  unfold w_X1_goThrough_J212 at h ⊢
  intro y5_
  replace h := h y5_
  exact fr_X1_goThrough_J213 f h
set_option maxRecDepth 100000 in
theorem fr_X1_goThrough_J108 {S0 : MS} {Q : MS → Prop} {U108 : MS} {t108_0 : Int32} {t108_1 : Int32} (f : cfr [103] [(41, 5), (41, 6)] S0 U108) (h : w_X1_goThrough_J108 Q U108 t108_0 t108_1) : w_X1_goThrough_J108 (fun u => Q u ∧ cfr [103] [(41, 5), (41, 6)] S0 u) U108 t108_0 t108_1 := by
  unfold w_X1_goThrough_J108 at h ⊢
  intro y6_ y7_
  replace h := h y6_ y7_
  refine ⟨h.1, ?_⟩
  replace h := h.2
  intro S73 eS73 y8_ y9_
  replace h := h S73 eS73 y8_ y9_
  replace f := f.tr (show cfr [103] [(41, 5), (41, 6)] U108 S73 by rw [eS73]; exact cfr.oI y8_ (by decide))
  exact ⟨h, f⟩
set_option maxRecDepth 100000 in
theorem fr_X1_goThrough_L131 {S0 : MS} {Q : MS → Prop} : ∀ (n : Nat) {U131 : MS} {v131_1 : Int32} {v131_2 : Int32} {v131_3 : Int32} {v131_4 : Int32}, cfr [103] [(41, 5), (41, 6)] S0 U131 → w_X1_goThrough_L131 Q n U131 v131_1 v131_2 v131_3 v131_4 → w_X1_goThrough_L131 (fun u => Q u ∧ cfr [103] [(41, 5), (41, 6)] S0 u) n U131 v131_1 v131_2 v131_3 v131_4 := by
  intro n
  induction n with
  | zero => intro U131 v131_1 v131_2 v131_3 v131_4 f h; unfold w_X1_goThrough_L131 at h; exact h.elim
  | succ n ih =>
    intro U131 v131_1 v131_2 v131_3 v131_4 f h
    unfold w_X1_goThrough_L131 at h ⊢
    intro y10_
    replace h := h y10_
    refine ⟨fun c => ?_, fun c => ?_⟩
    · replace h := h.1 c
      refine ⟨h.1, ?_⟩
      replace h := h.2
      refine ⟨h.1, ?_⟩
      replace h := h.2
      refine ⟨h.1, ?_⟩
      replace h := h.2
      intro a34 ea34 
      replace h := h a34 ea34 
      obtain ⟨Q9, h0, h⟩ := h
      refine ⟨_, frX1_give y10_ h0, ?_⟩
      intro S36 q11_ y12_ y13_
      replace h := h S36 q11_.1 y12_ y13_
      replace f := f.tr (q11_.2.mo (by decide) (by decide))
      refine ⟨fun c => ?_, fun c => ?_⟩
      · replace h := h.1 c
        exact fr_X1_goThrough_J212 f h
      · replace h := h.2 c
        refine ⟨fun c => ?_, fun c => ?_⟩
        · replace h := h.1 c
          exact fr_X1_goThrough_J212 f h
        · replace h := h.2 c
          refine ⟨h.1, ?_⟩
          replace h := h.2
          refine ⟨h.1, ?_⟩
          replace h := h.2
          refine ⟨h.1, ?_⟩
          replace h := h.2
          intro a51 ea51 
          replace h := h a51 ea51 
          refine ⟨fun c => ?_, fun c => ?_⟩
          · replace h := h.1 c
            exact fr_X1_goThrough_J212 f h
          · replace h := h.2 c
            exact fr_X1_goThrough_J213 f h
    · replace h := h.2 c
      obtain ⟨Q9, h0, h⟩ := h
      refine ⟨_, frX1_take y10_ h0, ?_⟩
      intro r55 S56 q14_ y15_ y16_
      replace h := h r55 S56 q14_.1 y15_ y16_
      replace f := f.tr (q14_.2.mo (by decide) (by decide))
      intro a59 ea59 
      replace h := h a59 ea59 
      exact ih f h
set_option maxRecDepth 100000 in
theorem fr_X1_goThrough_J29 {S0 : MS} {Q : MS → Prop} {U29 : MS} {v29_1 : Int32} {v29_2 : Int32} (f : cfr [103] [(41, 5), (41, 6)] S0 U29) (h : w_X1_goThrough_J29 Q U29 v29_1 v29_2) : w_X1_goThrough_J29 (fun u => Q u ∧ cfr [103] [(41, 5), (41, 6)] S0 u) U29 v29_1 v29_2 := by
  unfold w_X1_goThrough_J29 at h ⊢
  intro y17_
  replace h := h y17_
  refine ⟨h.1, ?_⟩
  replace h := h.2
  intro a10 ea10 
  replace h := h a10 ea10 
  refine ⟨fun c => ?_, fun c => ?_⟩
  · replace h := h.1 c
    refine ⟨h.1, ?_⟩
    replace h := h.2
    intro a15 ea15 
    replace h := h a15 ea15 
    refine ⟨fun c => ?_, fun c => ?_⟩
    · replace h := h.1 c
      refine ⟨fun c => ?_, fun c => ?_⟩
      · replace h := h.1 c
        refine ⟨h.1, ?_⟩
        replace h := h.2
        refine ⟨h.1, ?_⟩
        replace h := h.2
        intro a66 ea66 
        replace h := h a66 ea66 
        refine ⟨h.1, ?_⟩
        replace h := h.2
        intro a70 ea70 
        replace h := h a70 ea70 
        refine ⟨fun c => ?_, fun c => ?_⟩
        · replace h := h.1 c
          exact fr_X1_goThrough_J108 f h
        · replace h := h.2 c
          exact fr_X1_goThrough_J108 f h
      · replace h := h.2 c
        refine ⟨h.1, ?_⟩
        replace h := h.2
        refine ⟨h.1, ?_⟩
        replace h := h.2
        refine ⟨h.1, ?_⟩
        replace h := h.2
        intro a25 ea25 
        replace h := h a25 ea25 
        obtain ⟨n9, h⟩ := h
        exact ⟨n9, fr_X1_goThrough_L131 n9 f h⟩
    · replace h := h.2 c
      refine ⟨h.1, ?_⟩
      replace h := h.2
      refine ⟨h.1, ?_⟩
      replace h := h.2
      intro a80 ea80 
      replace h := h a80 ea80 
      obtain ⟨Q9, h0, h⟩ := h
      refine ⟨_, frX1_store y17_ h0, ?_⟩
      intro S82 q18_ y19_ y20_
      replace h := h S82 q18_.1 y19_ y20_
      replace f := f.tr (q18_.2.mo (by decide) (by decide))
      exact ⟨h, f⟩
  · replace h := h.2 c
    refine ⟨h.1, ?_⟩
    replace h := h.2
    refine ⟨h.1, ?_⟩
    replace h := h.2
    intro a89 ea89 
    replace h := h a89 ea89 
    obtain ⟨Q9, h0, h⟩ := h
    refine ⟨_, frX1_load y17_ h0, ?_⟩
    intro S91 q21_ y22_ y23_
    replace h := h S91 q21_.1 y22_ y23_
    replace f := f.tr (q21_.2.mo (by decide) (by decide))
    exact ⟨h, f⟩
set_option maxRecDepth 100000 in
theorem frX1_goThrough {S : MS} {x1 : Int32} {Q : MS → Prop} (hw : wfC S) (h : wX1_goThrough S x1 Q) : wX1_goThrough S x1 (fun u => Q u ∧ cfr [103] [(41, 5), (41, 6)] S u) := by
  have f : cfr [103] [(41, 5), (41, 6)] S S := cfr.rf
  unfold wX1_goThrough at h ⊢
  refine ⟨h.1, ?_⟩
  replace h := h.2
  refine ⟨h.1, ?_⟩
  replace h := h.2
  intro a6 ea6 
  replace h := h a6 ea6 
  refine ⟨fun c => ?_, fun c => ?_⟩
  · replace h := h.1 c
    exact fr_X1_goThrough_J29 f h
  · replace h := h.2 c
    refine ⟨fun c => ?_, fun c => ?_⟩
    · replace h := h.1 c
      exact fr_X1_goThrough_J29 f h
    · replace h := h.2 c
      obtain ⟨Q9, h0, h⟩ := h
      refine ⟨_, frX1_shuffle hw h0, ?_⟩
      intro S96 q24_ y25_ y26_
      replace h := h S96 q24_.1 y25_ y26_
      replace f := f.tr (q24_.2.mo (by decide) (by decide))
      exact ⟨h, f⟩
set_option maxRecDepth 100000 in
theorem fr_X2_headHolds_J89 {S0 : MS} {Q : Int32 → MS → Prop} {U89 : MS} {v89_1 : Int32} (f : cfr [] [(46, 2), (46, 3)] S0 U89) (h : w_X2_headHolds_J89 Q U89 v89_1) : w_X2_headHolds_J89 (fun r u => Q r u ∧ cfr [] [(46, 2), (46, 3)] S0 u) U89 v89_1 := by
  unfold w_X2_headHolds_J89 at h ⊢
  intro y1_
  replace h := h y1_
  obtain ⟨Q9, h0, h⟩ := h
  refine ⟨_, frX7_breaks y1_ h0, ?_⟩
  intro r15 S16 q2_ y3_ y4_
  replace h := h r15 S16 q2_.1 y3_ y4_
  replace f := f.tr (q2_.2.mo (by decide) (by decide))
  exact ⟨h, f⟩
set_option maxRecDepth 100000 in
theorem fr_X2_headHolds_J149 {S0 : MS} {Q : Int32 → MS → Prop} {U149 : MS} {v149_1 : Int32} (f : cfr [] [(46, 2), (46, 3)] S0 U149) (h : w_X2_headHolds_J149 Q U149 v149_1) : w_X2_headHolds_J149 (fun r u => Q r u ∧ cfr [] [(46, 2), (46, 3)] S0 u) U149 v149_1 := by
  unfold w_X2_headHolds_J149 at h ⊢
  intro y5_
  replace h := h y5_
  obtain ⟨Q9, h0, h⟩ := h
  refine ⟨_, frX7_breaks y5_ h0, ?_⟩
  intro r34 S35 q6_ y7_ y8_
  replace h := h r34 S35 q6_.1 y7_ y8_
  replace f := f.tr (q6_.2.mo (by decide) (by decide))
  exact ⟨h, f⟩
set_option maxRecDepth 100000 in
theorem frX2_headHolds {S : MS} {x1 : Int32} {x2 : Int32} {x3 : Int32} {Q : Int32 → MS → Prop} (hw : wfC S) (h : wX2_headHolds S x1 x2 x3 Q) : wX2_headHolds S x1 x2 x3 (fun r u => Q r u ∧ cfr [] [(46, 2), (46, 3)] S u) := by
  have f : cfr [] [(46, 2), (46, 3)] S S := cfr.rf
  unfold wX2_headHolds at h ⊢
  refine ⟨fun c => ?_, fun c => ?_⟩
  · replace h := h.1 c
    refine ⟨h.1, ?_⟩
    replace h := h.2
    refine ⟨fun c => ?_, fun c => ?_⟩
    · replace h := h.1 c
      refine ⟨fun c => ?_, fun c => ?_⟩
      · replace h := h.1 c
        refine ⟨h.1, ?_⟩
        replace h := h.2
        refine ⟨fun c => ?_, fun c => ?_⟩
        · replace h := h.1 c
          exact fr_X2_headHolds_J89 f h
        · replace h := h.2 c
          refine ⟨h.1, ?_⟩
          replace h := h.2
          refine ⟨fun c => ?_, fun c => ?_⟩
          · replace h := h.1 c
            refine ⟨fun c => ?_, fun c => ?_⟩
            · replace h := h.1 c
              refine ⟨h.1, ?_⟩
              replace h := h.2
              intro a30 ea30 
              replace h := h a30 ea30 
              refine ⟨fun c => ?_, fun c => ?_⟩
              · replace h := h.1 c
                exact fr_X2_headHolds_J149 f h
              · replace h := h.2 c
                refine ⟨fun c => ?_, fun c => ?_⟩
                · replace h := h.1 c
                  obtain ⟨Q9, h0, h⟩ := h
                  refine ⟨_, frX2_catchesHold hw h0, ?_⟩
                  intro r43 S44 q9_ y10_ y11_
                  replace h := h r43 S44 q9_.1 y10_ y11_
                  replace f := f.tr (q9_.2.mo (by decide) (by decide))
                  exact ⟨h, f⟩
                · replace h := h.2 c
                  exact fr_X2_headHolds_J149 f h
            · replace h := h.2 c
              obtain ⟨Q9, h0, h⟩ := h
              refine ⟨_, frX7_breaks hw h0, ?_⟩
              intro r47 S48 q12_ y13_ y14_
              replace h := h r47 S48 q12_.1 y13_ y14_
              replace f := f.tr (q12_.2.mo (by decide) (by decide))
              exact ⟨h, f⟩
          · replace h := h.2 c
            exact fr_X2_headHolds_J89 f h
      · replace h := h.2 c
        obtain ⟨Q9, h0, h⟩ := h
        refine ⟨_, frX7_breaks hw h0, ?_⟩
        intro r51 S52 q15_ y16_ y17_
        replace h := h r51 S52 q15_.1 y16_ y17_
        replace f := f.tr (q15_.2.mo (by decide) (by decide))
        exact ⟨h, f⟩
    · replace h := h.2 c
      obtain ⟨Q9, h0, h⟩ := h
      refine ⟨_, frX7_breaks hw h0, ?_⟩
      intro r55 S56 q18_ y19_ y20_
      replace h := h r55 S56 q18_.1 y19_ y20_
      replace f := f.tr (q18_.2.mo (by decide) (by decide))
      exact ⟨h, f⟩
  · replace h := h.2 c
    obtain ⟨Q9, h0, h⟩ := h
    refine ⟨_, frX7_breaks hw h0, ?_⟩
    intro r59 S60 q21_ y22_ y23_
    replace h := h r59 S60 q21_.1 y22_ y23_
    replace f := f.tr (q21_.2.mo (by decide) (by decide))
    exact ⟨h, f⟩
set_option maxRecDepth 100000 in
theorem fr_X2_lengthAt_J110 {S0 : MS} {Q : Int32 → MS → Prop} {U110 : MS} {v110_1 : Int32} {v110_2 : Int32} (f : cfr [] [] S0 U110) (h : w_X2_lengthAt_J110 Q U110 v110_1 v110_2) : w_X2_lengthAt_J110 (fun r u => Q r u ∧ cfr [] [] S0 u) U110 v110_1 v110_2 := by
  unfold w_X2_lengthAt_J110 at h ⊢
  intro y1_
  replace h := h y1_
  refine ⟨fun c => ?_, fun c => ?_⟩
  · replace h := h.1 c
    exact ⟨h, f⟩
  · replace h := h.2 c
    exact ⟨h, f⟩
set_option maxRecDepth 100000 in
theorem fr_X2_lengthAt_J97 {S0 : MS} {Q : Int32 → MS → Prop} {U97 : MS} {t97_0 : Int32} {v97_1 : Int32} (f : cfr [] [] S0 U97) (h : w_X2_lengthAt_J97 Q U97 t97_0 v97_1) : w_X2_lengthAt_J97 (fun r u => Q r u ∧ cfr [] [] S0 u) U97 t97_0 v97_1 := by
  unfold w_X2_lengthAt_J97 at h ⊢
  intro y2_
  replace h := h y2_
  exact fr_X2_lengthAt_J110 f h
set_option maxRecDepth 100000 in
theorem frX2_lengthAt {S : MS} {x1 : Int32} {Q : Int32 → MS → Prop} (hw : wfC S) (h : wX2_lengthAt S x1 Q) : wX2_lengthAt S x1 (fun r u => Q r u ∧ cfr [] [] S u) := by
  have f : cfr [] [] S S := cfr.rf
  unfold wX2_lengthAt at h ⊢
  refine ⟨h.1, ?_⟩
  replace h := h.2
  intro a4 ea4 
  replace h := h a4 ea4 
  refine ⟨fun c => ?_, fun c => ?_⟩
  · replace h := h.1 c
    refine ⟨h.1, ?_⟩
    replace h := h.2
    intro a10 ea10 
    replace h := h a10 ea10 
    exact fr_X2_lengthAt_J110 f h
  · replace h := h.2 c
    refine ⟨fun c => ?_, fun c => ?_⟩
    · replace h := h.1 c
      obtain ⟨Q9, h0, h⟩ := h
      refine ⟨_, frX2_lookupLength hw h0, ?_⟩
      intro r12 S13 q3_ y4_ y5_
      replace h := h r12 S13 q3_.1 y4_ y5_
      replace f := f.tr (q3_.2.mo (by decide) (by decide))
      exact fr_X2_lengthAt_J110 f h
    · replace h := h.2 c
      refine ⟨fun c => ?_, fun c => ?_⟩
      · replace h := h.1 c
        refine ⟨h.1, ?_⟩
        replace h := h.2
        intro a19 ea19 
        replace h := h a19 ea19 
        refine ⟨fun c => ?_, fun c => ?_⟩
        · replace h := h.1 c
          exact fr_X2_lengthAt_J97 f h
        · replace h := h.2 c
          exact fr_X2_lengthAt_J97 f h
      · replace h := h.2 c
        refine ⟨fun c => ?_, fun c => ?_⟩
        · replace h := h.1 c
          refine ⟨h.1, ?_⟩
          replace h := h.2
          intro a25 ea25 
          replace h := h a25 ea25 
          refine ⟨h.1, ?_⟩
          replace h := h.2
          intro a29 ea29 
          replace h := h a29 ea29 
          exact fr_X2_lengthAt_J110 f h
        · replace h := h.2 c
          refine ⟨h.1, ?_⟩
          replace h := h.2
          intro a33 ea33 
          replace h := h a33 ea33 
          refine ⟨h.1, ?_⟩
          replace h := h.2
          intro a37 ea37 
          replace h := h a37 ea37 
          exact fr_X2_lengthAt_J110 f h
set_option maxRecDepth 100000 in
theorem fr_X2_decode_J57 {S0 : MS} {Q : MS → Prop} {U57 : MS} {v57_2 : Int32} (f : cfr [] [(42, 9), (42, 10), (42, 11)] S0 U57) (h : w_X2_decode_J57 Q U57 v57_2) : w_X2_decode_J57 (fun u => Q u ∧ cfr [] [(42, 9), (42, 10), (42, 11)] S0 u) U57 v57_2 := by
  unfold w_X2_decode_J57 at h ⊢
  intro y1_
  replace h := h y1_
  obtain ⟨Q9, h0, h⟩ := h
  refine ⟨_, frX2_set y1_ h0, ?_⟩
  intro S10 q2_ y3_ y4_
  replace h := h S10 q2_.1 y3_ y4_
  replace f := f.tr (q2_.2.mo (by decide) (by decide))
  exact ⟨h, f⟩
set_option maxRecDepth 100000 in
theorem fr_X2_decode_J247 {S0 : MS} {Q : MS → Prop} {U247 : MS} {v247_1 : Int32} (f : cfr [] [(42, 9), (42, 10), (42, 11)] S0 U247) (h : w_X2_decode_J247 Q U247 v247_1) : w_X2_decode_J247 (fun u => Q u ∧ cfr [] [(42, 9), (42, 10), (42, 11)] S0 u) U247 v247_1 := by
  unfold w_X2_decode_J247 at h ⊢
  intro y5_
  replace h := h y5_
  obtain ⟨Q9, h0, h⟩ := h
  refine ⟨_, frX2_decodeLocal y5_ h0, ?_⟩
  intro S30 q6_ y7_ y8_
  replace h := h S30 q6_.1 y7_ y8_
  replace f := f.tr (q6_.2.mo (by decide) (by decide))
  exact ⟨h, f⟩
set_option maxRecDepth 100000 in
theorem fr_X2_decode_J45 {S0 : MS} {Q : MS → Prop} {U45 : MS} {v45_1 : Int32} {v45_2 : Int32} (f : cfr [] [(42, 9), (42, 10), (42, 11)] S0 U45) (h : w_X2_decode_J45 Q U45 v45_1 v45_2) : w_X2_decode_J45 (fun u => Q u ∧ cfr [] [(42, 9), (42, 10), (42, 11)] S0 u) U45 v45_1 v45_2 := by
  unfold w_X2_decode_J45 at h ⊢
  intro y9_
  replace h := h y9_
  refine ⟨fun c => ?_, fun c => ?_⟩
  · replace h := h.1 c
    exact fr_X2_decode_J57 f h
  · replace h := h.2 c
    refine ⟨fun c => ?_, fun c => ?_⟩
    · replace h := h.1 c
      exact fr_X2_decode_J57 f h
    · replace h := h.2 c
      refine ⟨fun c => ?_, fun c => ?_⟩
      · replace h := h.1 c
        refine ⟨h.1, ?_⟩
        replace h := h.2
        obtain ⟨Q9, h0, h⟩ := h
        refine ⟨_, frX2_set y9_ h0, ?_⟩
        intro S82 q10_ y11_ y12_
        replace h := h S82 q10_.1 y11_ y12_
        replace f := f.tr (q10_.2.mo (by decide) (by decide))
        exact ⟨h, f⟩
      · replace h := h.2 c
        refine ⟨fun c => ?_, fun c => ?_⟩
        · replace h := h.1 c
          refine ⟨h.1, ?_⟩
          replace h := h.2
          obtain ⟨Q9, h0, h⟩ := h
          refine ⟨_, frX2_set y9_ h0, ?_⟩
          intro S75 q13_ y14_ y15_
          replace h := h S75 q13_.1 y14_ y15_
          replace f := f.tr (q13_.2.mo (by decide) (by decide))
          exact ⟨h, f⟩
        · replace h := h.2 c
          refine ⟨fun c => ?_, fun c => ?_⟩
          · replace h := h.1 c
            refine ⟨h.1, ?_⟩
            replace h := h.2
            obtain ⟨Q9, h0, h⟩ := h
            refine ⟨_, frX2_set y9_ h0, ?_⟩
            intro S68 q16_ y17_ y18_
            replace h := h S68 q16_.1 y17_ y18_
            replace f := f.tr (q16_.2.mo (by decide) (by decide))
            exact ⟨h, f⟩
          · replace h := h.2 c
            refine ⟨fun c => ?_, fun c => ?_⟩
            · replace h := h.1 c
              refine ⟨h.1, ?_⟩
              replace h := h.2
              obtain ⟨Q9, h0, h⟩ := h
              refine ⟨_, frX2_set y9_ h0, ?_⟩
              intro S61 q19_ y20_ y21_
              replace h := h S61 q19_.1 y20_ y21_
              replace f := f.tr (q19_.2.mo (by decide) (by decide))
              exact ⟨h, f⟩
            · replace h := h.2 c
              refine ⟨h.1, ?_⟩
              replace h := h.2
              refine ⟨fun c => ?_, fun c => ?_⟩
              · replace h := h.1 c
                refine ⟨h.1, ?_⟩
                replace h := h.2
                refine ⟨fun c => ?_, fun c => ?_⟩
                · replace h := h.1 c
                  refine ⟨h.1, ?_⟩
                  replace h := h.2
                  refine ⟨fun c => ?_, fun c => ?_⟩
                  · replace h := h.1 c
                    refine ⟨fun c => ?_, fun c => ?_⟩
                    · replace h := h.1 c
                      exact fr_X2_decode_J247 f h
                    · replace h := h.2 c
                      refine ⟨h.1, ?_⟩
                      replace h := h.2
                      obtain ⟨Q9, h0, h⟩ := h
                      refine ⟨_, frX2_set y9_ h0, ?_⟩
                      intro S39 q22_ y23_ y24_
                      replace h := h S39 q22_.1 y23_ y24_
                      replace f := f.tr (q22_.2.mo (by decide) (by decide))
                      exact ⟨h, f⟩
                  · replace h := h.2 c
                    exact fr_X2_decode_J247 f h
                · replace h := h.2 c
                  refine ⟨h.1, ?_⟩
                  replace h := h.2
                  obtain ⟨Q9, h0, h⟩ := h
                  refine ⟨_, frX2_set y9_ h0, ?_⟩
                  intro S45 q25_ y26_ y27_
                  replace h := h S45 q25_.1 y26_ y27_
                  replace f := f.tr (q25_.2.mo (by decide) (by decide))
                  exact ⟨h, f⟩
              · replace h := h.2 c
                refine ⟨h.1, ?_⟩
                replace h := h.2
                obtain ⟨Q9, h0, h⟩ := h
                refine ⟨_, frX2_set y9_ h0, ?_⟩
                intro S53 q28_ y29_ y30_
                replace h := h S53 q28_.1 y29_ y30_
                replace f := f.tr (q28_.2.mo (by decide) (by decide))
                exact ⟨h, f⟩
set_option maxRecDepth 100000 in
theorem frX2_decode {S : MS} {x1 : Int32} {Q : MS → Prop} (hw : wfC S) (h : wX2_decode S x1 Q) : wX2_decode S x1 (fun u => Q u ∧ cfr [] [(42, 9), (42, 10), (42, 11)] S u) := by
  have f : cfr [] [(42, 9), (42, 10), (42, 11)] S S := cfr.rf
  unfold wX2_decode at h ⊢
  refine ⟨h.1, ?_⟩
  replace h := h.2
  intro a4 ea4 
  replace h := h a4 ea4 
  intro S5 eS5 y31_ y32_
  replace h := h S5 eS5 y31_ y32_
  replace f := f.tr (show cfr [] [(42, 9), (42, 10), (42, 11)] S S5 by rw [eS5]; exact cfr.oI y31_ (by decide))
  intro S6 eS6 y33_ y34_
  replace h := h S6 eS6 y33_ y34_
  replace f := f.tr (show cfr [] [(42, 9), (42, 10), (42, 11)] S5 S6 by rw [eS6]; exact cfr.oI y33_ (by decide))
  intro S7 eS7 y35_ y36_
  replace h := h S7 eS7 y35_ y36_
  replace f := f.tr (show cfr [] [(42, 9), (42, 10), (42, 11)] S6 S7 by rw [eS7]; exact cfr.oJ y35_ (by decide))
  refine ⟨fun c => ?_, fun c => ?_⟩
  · replace h := h.1 c
    exact fr_X2_decode_J45 f h
  · replace h := h.2 c
    refine ⟨fun c => ?_, fun c => ?_⟩
    · replace h := h.1 c
      exact fr_X2_decode_J45 f h
    · replace h := h.2 c
      obtain ⟨Q9, h0, h⟩ := h
      refine ⟨_, frX2_set y36_ h0, ?_⟩
      intro S88 q37_ y38_ y39_
      replace h := h S88 q37_.1 y38_ y39_
      replace f := f.tr (q37_.2.mo (by decide) (by decide))
      exact ⟨h, f⟩
set_option maxRecDepth 100000 in
theorem fr_X2_numberInstructions_J67 {S0 : MS} {Q : MS → Prop} {U67 : MS} (f : cfr [201] [(42, 8)] S0 U67) (h : w_X2_numberInstructions_J67 Q U67) : w_X2_numberInstructions_J67 (fun u => Q u ∧ cfr [201] [(42, 8)] S0 u) U67 := by
  unfold w_X2_numberInstructions_J67 at h ⊢
  intro y1_
  replace h := h y1_
  refine ⟨fun c => ?_, fun c => ?_⟩
  · replace h := h.1 c
    exact ⟨h, f⟩
  · replace h := h.2 c
    refine ⟨fun c => ?_, fun c => ?_⟩
    · replace h := h.1 c
      exact ⟨h, f⟩
    · replace h := h.2 c
      refine ⟨h.1, ?_⟩
      replace h := h.2
      intro S8 eS8 y2_ y3_
      replace h := h S8 eS8 y2_ y3_
      replace f := f.tr (show cfr [201] [(42, 8)] U67 S8 by rw [eS8]; exact cfr.aI y2_ (by decide))
      exact ⟨h, f⟩
set_option maxRecDepth 100000 in
theorem fr_X2_numberInstructions_L15 {S0 : MS} {Q : MS → Prop} : ∀ (n : Nat) {U15 : MS} {v15_1 : Int32}, cfr [201] [(42, 8)] S0 U15 → w_X2_numberInstructions_L15 Q n U15 v15_1 → w_X2_numberInstructions_L15 (fun u => Q u ∧ cfr [201] [(42, 8)] S0 u) n U15 v15_1 := by
  intro n
  induction n with
  | zero => intro U15 v15_1 f h; unfold w_X2_numberInstructions_L15 at h; exact h.elim
  | succ n ih =>
    intro U15 v15_1 f h
    unfold w_X2_numberInstructions_L15 at h ⊢
    intro y4_
    replace h := h y4_
    refine ⟨fun c => ?_, fun c => ?_⟩
    · replace h := h.1 c
      exact fr_X2_numberInstructions_J67 f h
    · replace h := h.2 c
      refine ⟨fun c => ?_, fun c => ?_⟩
      · replace h := h.1 c
        exact fr_X2_numberInstructions_J67 f h
      · replace h := h.2 c
        refine ⟨h.1, ?_⟩
        replace h := h.2
        intro S12 eS12 y5_ y6_
        replace h := h S12 eS12 y5_ y6_
        replace f := f.tr (show cfr [201] [(42, 8)] U15 S12 by rw [eS12]; exact cfr.aI y5_ (by decide))
        intro S14 eS14 y7_ y8_
        replace h := h S14 eS14 y7_ y8_
        replace f := f.tr (show cfr [201] [(42, 8)] S12 S14 by rw [eS14]; exact cfr.oI y7_ (by decide))
        obtain ⟨Q9, h0, h⟩ := h
        refine ⟨_, frX2_lengthAt y8_ h0, ?_⟩
        intro r16 S17 q9_ y10_ y11_
        replace h := h r16 S17 q9_.1 y10_ y11_
        replace f := f.tr (q9_.2.mo (by decide) (by decide))
        intro a21 ea21 
        replace h := h a21 ea21 
        exact ih f h
set_option maxRecDepth 100000 in
theorem frX2_numberInstructions {S : MS} {Q : MS → Prop} (hw : wfC S) (h : wX2_numberInstructions S Q) : wX2_numberInstructions S (fun u => Q u ∧ cfr [201] [(42, 8)] S u) := by
  have f : cfr [201] [(42, 8)] S S := cfr.rf
  unfold wX2_numberInstructions at h ⊢
  intro y12_
  replace h := h y12_
  obtain ⟨Q9, h0, h⟩ := h
  refine ⟨_, frJ7_fill_53178 y12_ (by decide) h0, ?_⟩
  intro S2 q13_ y14_ y15_
  replace h := h S2 q13_.1 y14_ y15_
  replace f := f.tr (q13_.2.mo (by decide) (by decide))
  intro S4 eS4 y16_ y17_
  replace h := h S4 eS4 y16_ y17_
  replace f := f.tr (show cfr [201] [(42, 8)] S2 S4 by rw [eS4]; exact cfr.oI y16_ (by decide))
  obtain ⟨n9, h⟩ := h
  exact ⟨n9, fr_X2_numberInstructions_L15 n9 f h⟩
set_option maxRecDepth 100000 in
theorem fr_X2_pointsWell_J172 {S0 : MS} {Q : Int32 → MS → Prop} {U172 : MS} (f : cfr [] [] S0 U172) (h : w_X2_pointsWell_J172 Q U172) : w_X2_pointsWell_J172 (fun r u => Q r u ∧ cfr [] [] S0 u) U172 := by
  unfold w_X2_pointsWell_J172 at h ⊢
  intro y1_
  replace h := h y1_
  obtain ⟨Q9, h0, h⟩ := h
  refine ⟨_, frX2_memberOf y1_ h0, ?_⟩
  intro r14 S15 q2_ y3_ y4_
  replace h := h r14 S15 q2_.1 y3_ y4_
  replace f := f.tr (q2_.2.mo (by decide) (by decide))
  refine ⟨fun c => ?_, fun c => ?_⟩
  · replace h := h.1 c
    exact ⟨h, f⟩
  · replace h := h.2 c
    exact ⟨h, f⟩
set_option maxRecDepth 100000 in
theorem frX2_pointsWell {S : MS} {Q : Int32 → MS → Prop} (hw : wfC S) (h : wX2_pointsWell S Q) : wX2_pointsWell S (fun r u => Q r u ∧ cfr [] [] S u) := by
  have f : cfr [] [] S S := cfr.rf
  unfold wX2_pointsWell at h ⊢
  refine ⟨h.1, ?_⟩
  replace h := h.2
  refine ⟨fun c => ?_, fun c => ?_⟩
  · replace h := h.1 c
    refine ⟨h.1, ?_⟩
    replace h := h.2
    refine ⟨fun c => ?_, fun c => ?_⟩
    · replace h := h.1 c
      refine ⟨h.1, ?_⟩
      replace h := h.2
      refine ⟨fun c => ?_, fun c => ?_⟩
      · replace h := h.1 c
        refine ⟨fun c => ?_, fun c => ?_⟩
        · replace h := h.1 c
          refine ⟨h.1, ?_⟩
          replace h := h.2
          refine ⟨fun c => ?_, fun c => ?_⟩
          · replace h := h.1 c
            exact ⟨h, f⟩
          · replace h := h.2 c
            exact ⟨h, f⟩
        · replace h := h.2 c
          refine ⟨fun c => ?_, fun c => ?_⟩
          · replace h := h.1 c
            refine ⟨h.1, ?_⟩
            replace h := h.2
            refine ⟨fun c => ?_, fun c => ?_⟩
            · replace h := h.1 c
              exact ⟨h, f⟩
            · replace h := h.2 c
              exact ⟨h, f⟩
          · replace h := h.2 c
            refine ⟨fun c => ?_, fun c => ?_⟩
            · replace h := h.1 c
              exact fr_X2_pointsWell_J172 f h
            · replace h := h.2 c
              refine ⟨fun c => ?_, fun c => ?_⟩
              · replace h := h.1 c
                exact fr_X2_pointsWell_J172 f h
              · replace h := h.2 c
                refine ⟨fun c => ?_, fun c => ?_⟩
                · replace h := h.1 c
                  obtain ⟨Q9, h0, h⟩ := h
                  refine ⟨_, frX2_memberOf hw h0, ?_⟩
                  intro r27 S28 q5_ y6_ y7_
                  replace h := h r27 S28 q5_.1 y6_ y7_
                  replace f := f.tr (q5_.2.mo (by decide) (by decide))
                  refine ⟨fun c => ?_, fun c => ?_⟩
                  · replace h := h.1 c
                    exact ⟨h, f⟩
                  · replace h := h.2 c
                    exact ⟨h, f⟩
                · replace h := h.2 c
                  exact ⟨h, f⟩
      · replace h := h.2 c
        refine ⟨h.1, ?_⟩
        replace h := h.2
        refine ⟨fun c => ?_, fun c => ?_⟩
        · replace h := h.1 c
          exact ⟨h, f⟩
        · replace h := h.2 c
          exact ⟨h, f⟩
    · replace h := h.2 c
      obtain ⟨Q9, h0, h⟩ := h
      refine ⟨_, frX2_targetsHold hw h0, ?_⟩
      intro r38 S39 q8_ y9_ y10_
      replace h := h r38 S39 q8_.1 y9_ y10_
      replace f := f.tr (q8_.2.mo (by decide) (by decide))
      exact ⟨h, f⟩
  · replace h := h.2 c
    refine ⟨h.1, ?_⟩
    replace h := h.2
    exact ⟨h, f⟩
