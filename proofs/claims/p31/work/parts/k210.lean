set_option maxRecDepth 100000 in
theorem fr_meet {S : MS} {x1 : Int32} {Q : Int32 → MS → Prop} (h : w_meet S x1 Q) : w_meet S x1 (fun r u => Q r u ∧ frm [88] [] S u) := by
  have f : frm [88] [] S S := frm.rf
  unfold w_meet at h ⊢
  refine ⟨h.1, ?_⟩
  replace h := h.2
  refine ⟨fun c => ?_, fun c => ?_⟩
  · replace h := h.1 c
    refine ⟨h.1, ?_⟩
    replace h := h.2
    intro S5 eS5
    replace h := h S5 eS5
    replace f := f.tr (show frm [88] [] S S5 by rw [eS5]; exact frm.pI (by decide))
    exact ⟨h, f⟩
  · replace h := h.2 c
    exact ⟨h, f⟩
set_option maxRecDepth 100000 in
theorem fr_meetFrom_J128 {S0 : MS} {Q : Int32 → MS → Prop} {k84 k84' : MS → Int32 → Int32 → Int32 → Prop} {U128 : MS} {v128_1 : Int32} {v128_2 : Int32} {v128_3 : Int32} (hk84 : ∀ (u : MS) (z0) (z1) (z2), frm [88] [] S0 u → k84 u z0 z1 z2 → k84' u z0 z1 z2) (f : frm [88] [] S0 U128) (h : w_meetFrom_J128 Q k84 U128 v128_1 v128_2 v128_3) : w_meetFrom_J128 (fun r u => Q r u ∧ frm [88] [] S0 u) k84' U128 v128_1 v128_2 v128_3 := by
  unfold w_meetFrom_J128 at h ⊢
  intro a14 ea14
  replace h := h a14 ea14
  exact hk84 _ _ _ _ f h
set_option maxRecDepth 100000 in
theorem fr_meetFrom_J127 {S0 : MS} {Q : Int32 → MS → Prop} {k84 k84' : MS → Int32 → Int32 → Int32 → Prop} {U127 : MS} {t127_0 : Int32} {v127_1 : Int32} {v127_3 : Int32} (hk84 : ∀ (u : MS) (z0) (z1) (z2), frm [88] [] S0 u → k84 u z0 z1 z2 → k84' u z0 z1 z2) (f : frm [88] [] S0 U127) (h : w_meetFrom_J127 Q k84 U127 t127_0 v127_1 v127_3) : w_meetFrom_J127 (fun r u => Q r u ∧ frm [88] [] S0 u) k84' U127 t127_0 v127_1 v127_3 := by
  unfold w_meetFrom_J127 at h ⊢
  exact fr_meetFrom_J128 hk84 f h
set_option maxRecDepth 100000 in
theorem fr_meetFrom_J122 {S0 : MS} {Q : Int32 → MS → Prop} {k84 k84' : MS → Int32 → Int32 → Int32 → Prop} {U122 : MS} {v122_1 : Int32} {v122_3 : Int32} (hk84 : ∀ (u : MS) (z0) (z1) (z2), frm [88] [] S0 u → k84 u z0 z1 z2 → k84' u z0 z1 z2) (f : frm [88] [] S0 U122) (h : w_meetFrom_J122 Q k84 U122 v122_1 v122_3) : w_meetFrom_J122 (fun r u => Q r u ∧ frm [88] [] S0 u) k84' U122 v122_1 v122_3 := by
  unfold w_meetFrom_J122 at h ⊢
  exact fr_meetFrom_J127 hk84 f h
set_option maxRecDepth 100000 in
theorem fr_meetFrom_J75 {S0 : MS} {Q : Int32 → MS → Prop} {k44 k44' : MS → Int32 → Int32 → Int32 → Prop} {U75 : MS} {t75_0 : Int32} {v75_1 : Int32} {v75_3 : Int32} (hk44 : ∀ (u : MS) (z0) (z1) (z2), frm [88] [] S0 u → k44 u z0 z1 z2 → k44' u z0 z1 z2) (f : frm [88] [] S0 U75) (h : w_meetFrom_J75 Q k44 U75 t75_0 v75_1 v75_3) : w_meetFrom_J75 (fun r u => Q r u ∧ frm [88] [] S0 u) k44' U75 t75_0 v75_1 v75_3 := by
  unfold w_meetFrom_J75 at h ⊢
  intro a36 ea36
  replace h := h a36 ea36
  exact hk44 _ _ _ _ f h
set_option maxRecDepth 100000 in
theorem fr_meetFrom_J70 {S0 : MS} {Q : Int32 → MS → Prop} {k44 k44' : MS → Int32 → Int32 → Int32 → Prop} {U70 : MS} {v70_1 : Int32} {v70_3 : Int32} (hk44 : ∀ (u : MS) (z0) (z1) (z2), frm [88] [] S0 u → k44 u z0 z1 z2 → k44' u z0 z1 z2) (f : frm [88] [] S0 U70) (h : w_meetFrom_J70 Q k44 U70 v70_1 v70_3) : w_meetFrom_J70 (fun r u => Q r u ∧ frm [88] [] S0 u) k44' U70 v70_1 v70_3 := by
  unfold w_meetFrom_J70 at h ⊢
  exact fr_meetFrom_J75 hk44 f h
set_option maxRecDepth 100000 in
theorem fr_meetFrom_L84 {S0 : MS} {Q : Int32 → MS → Prop} : ∀ (n : Nat) {U84 : MS} {v84_1 : Int32} {v84_2 : Int32} {v84_3 : Int32}, frm [88] [] S0 U84 → w_meetFrom_L84 Q n U84 v84_1 v84_2 v84_3 → w_meetFrom_L84 (fun r u => Q r u ∧ frm [88] [] S0 u) n U84 v84_1 v84_2 v84_3 := by
  intro n
  induction n with
  | zero => intro U84 v84_1 v84_2 v84_3 f h; unfold w_meetFrom_L84 at h; exact h.elim
  | succ n ih =>
    intro U84 v84_1 v84_2 v84_3 f h
    unfold w_meetFrom_L84 at h ⊢
    refine ⟨fun c => ?_, fun c => ?_⟩
    · replace h := h.1 c
      exact ⟨h, f⟩
    · replace h := h.2 c
      refine ⟨h.1, ?_⟩
      replace h := h.2
      refine ⟨fun c => ?_, fun c => ?_⟩
      · replace h := h.1 c
        exact fr_meetFrom_J128 (fun _ _ _ _ f h => ih f h) f h
      · replace h := h.2 c
        refine ⟨h.1, ?_⟩
        replace h := h.2
        obtain ⟨Q9, h0, h⟩ := h
        refine ⟨_, fr_here h0, ?_⟩
        · intro r19 S20 hq
          replace h := h r19 S20 hq.1
          replace f := f.tr (hq.2.mo (by decide) (by decide))
          obtain ⟨Q9, h0, h⟩ := h
          refine ⟨_, fr_meet h0, ?_⟩
          · intro r23 S24 hq
            replace h := h r23 S24 hq.1
            replace f := f.tr (hq.2.mo (by decide) (by decide))
            refine ⟨fun c => ?_, fun c => ?_⟩
            · replace h := h.1 c
              refine ⟨fun c => ?_, fun c => ?_⟩
              · replace h := h.1 c
                exact fr_meetFrom_J127 (fun _ _ _ _ f h => ih f h) f h
              · replace h := h.2 c
                exact fr_meetFrom_J122 (fun _ _ _ _ f h => ih f h) f h
            · replace h := h.2 c
              exact fr_meetFrom_J122 (fun _ _ _ _ f h => ih f h) f h
set_option maxRecDepth 100000 in
theorem fr_meetFrom_L44 {S0 : MS} {Q : Int32 → MS → Prop} : ∀ (n : Nat) {U44 : MS} {v44_1 : Int32} {v44_2 : Int32} {v44_3 : Int32}, frm [88] [] S0 U44 → w_meetFrom_L44 Q n U44 v44_1 v44_2 v44_3 → w_meetFrom_L44 (fun r u => Q r u ∧ frm [88] [] S0 u) n U44 v44_1 v44_2 v44_3 := by
  intro n
  induction n with
  | zero => intro U44 v44_1 v44_2 v44_3 f h; unfold w_meetFrom_L44 at h; exact h.elim
  | succ n ih =>
    intro U44 v44_1 v44_2 v44_3 f h
    unfold w_meetFrom_L44 at h ⊢
    refine ⟨h.1, ?_⟩
    replace h := h.2
    refine ⟨fun c => ?_, fun c => ?_⟩
    · replace h := h.1 c
      obtain ⟨n9, h⟩ := h
      exact ⟨n9, fr_meetFrom_L84 n9 f h⟩
    · replace h := h.2 c
      obtain ⟨Q9, h0, h⟩ := h
      refine ⟨_, fr_wayOf h0, ?_⟩
      · intro r29 S30 hq
        replace h := h r29 S30 hq.1
        replace f := f.tr (hq.2.mo (by decide) (by decide))
        obtain ⟨Q9, h0, h⟩ := h
        refine ⟨_, fr_meet h0, ?_⟩
        · intro r33 S34 hq
          replace h := h r33 S34 hq.1
          replace f := f.tr (hq.2.mo (by decide) (by decide))
          refine ⟨fun c => ?_, fun c => ?_⟩
          · replace h := h.1 c
            refine ⟨fun c => ?_, fun c => ?_⟩
            · replace h := h.1 c
              exact fr_meetFrom_J75 (fun _ _ _ _ f h => ih f h) f h
            · replace h := h.2 c
              exact fr_meetFrom_J70 (fun _ _ _ _ f h => ih f h) f h
          · replace h := h.2 c
            exact fr_meetFrom_J70 (fun _ _ _ _ f h => ih f h) f h
set_option maxRecDepth 100000 in
theorem fr_meetFrom_J41 {S0 : MS} {Q : Int32 → MS → Prop} {U41 : MS} {t41_0 : Int32} {v41_1 : Int32} (f : frm [88] [] S0 U41) (h : w_meetFrom_J41 Q U41 t41_0 v41_1) : w_meetFrom_J41 (fun r u => Q r u ∧ frm [88] [] S0 u) U41 t41_0 v41_1 := by
  unfold w_meetFrom_J41 at h ⊢
  obtain ⟨n9, h⟩ := h
  exact ⟨n9, fr_meetFrom_L44 n9 f h⟩
set_option maxRecDepth 100000 in
theorem fr_meetFrom_J40 {S0 : MS} {Q : Int32 → MS → Prop} {U40 : MS} {v40_1 : Int32} (f : frm [88] [] S0 U40) (h : w_meetFrom_J40 Q U40 v40_1) : w_meetFrom_J40 (fun r u => Q r u ∧ frm [88] [] S0 u) U40 v40_1 := by
  unfold w_meetFrom_J40 at h ⊢
  exact fr_meetFrom_J41 f h
set_option maxRecDepth 100000 in
theorem fr_meetFrom {S : MS} {x1 : Int32} {Q : Int32 → MS → Prop} (h : w_meetFrom S x1 Q) : w_meetFrom S x1 (fun r u => Q r u ∧ frm [88] [] S u) := by
  have f : frm [88] [] S S := frm.rf
  unfold w_meetFrom at h ⊢
  refine ⟨h.1, ?_⟩
  replace h := h.2
  refine ⟨h.1, ?_⟩
  replace h := h.2
  refine ⟨fun c => ?_, fun c => ?_⟩
  · replace h := h.1 c
    exact fr_meetFrom_J40 f h
  · replace h := h.2 c
    obtain ⟨Q9, h0, h⟩ := h
    refine ⟨_, fr_behind h0, ?_⟩
    · intro r41 S42 hq
      replace h := h r41 S42 hq.1
      replace f := f.tr (hq.2.mo (by decide) (by decide))
      refine ⟨fun c => ?_, fun c => ?_⟩
      · replace h := h.1 c
        exact fr_meetFrom_J40 f h
      · replace h := h.2 c
        obtain ⟨Q9, h0, h⟩ := h
        refine ⟨_, fr_behind h0, ?_⟩
        · intro r46 S47 hq
          replace h := h r46 S47 hq.1
          replace f := f.tr (hq.2.mo (by decide) (by decide))
          obtain ⟨Q9, h0, h⟩ := h
          refine ⟨_, fr_meet h0, ?_⟩
          · intro r50 S51 hq
            replace h := h r50 S51 hq.1
            replace f := f.tr (hq.2.mo (by decide) (by decide))
            refine ⟨fun c => ?_, fun c => ?_⟩
            · replace h := h.1 c
              exact fr_meetFrom_J40 f h
            · replace h := h.2 c
              exact fr_meetFrom_J41 f h
set_option maxRecDepth 100000 in
theorem fr_mustName {S : MS} {x1 : Int32} {Q : MS → Prop} {E : MS → Prop} (h : w_mustName S x1 Q E) : w_mustName S x1 (fun u => Q u ∧ frm [] [7, 8] S u) (fun u => E u ∧ frm [] [7, 8] S u) := by
  have f : frm [] [7, 8] S S := frm.rf
  unfold w_mustName at h ⊢
  refine ⟨h.1, ?_⟩
  replace h := h.2
  refine ⟨h.1, ?_⟩
  replace h := h.2
  obtain ⟨Q9, E9, h0, h⟩ := h
  refine ⟨_, _, fr_must h0, ?_, ?_⟩
  · intro S8 hq
    replace h := h.1 S8 hq.1
    replace f := f.tr (hq.2.mo (by decide) (by decide))
    exact ⟨h, f⟩
  · intro u9 hq
    exact ⟨h.2 u9 hq.1, f.tr (hq.2.mo (by decide) (by decide))⟩
set_option maxRecDepth 100000 in
theorem fr_names_J70 {S0 : MS} {Q : MS → Prop} {E : MS → Prop} {k4 k4' : MS → Int32 → Int32 → Prop} {U70 : MS} {v70_1 : Int32} {v70_2 : Int32} (hk4 : ∀ (u : MS) (z0) (z1), frm [] [7, 8] S0 u → k4 u z0 z1 → k4' u z0 z1) (f : frm [] [7, 8] S0 U70) (h : w_names_J70 Q E k4 U70 v70_1 v70_2) : w_names_J70 (fun u => Q u ∧ frm [] [7, 8] S0 u) (fun u => E u ∧ frm [] [7, 8] S0 u) k4' U70 v70_1 v70_2 := by
  unfold w_names_J70 at h ⊢
  intro a21 ea21
  replace h := h a21 ea21
  exact hk4 _ _ _ f h
set_option maxRecDepth 100000 in
theorem fr_names_L76 {S0 : MS} {Q : MS → Prop} {E : MS → Prop} : ∀ (n : Nat) {U76 : MS} {v76_1 : Int32}, frm [] [7, 8] S0 U76 → w_names_L76 Q E n U76 v76_1 → w_names_L76 (fun u => Q u ∧ frm [] [7, 8] S0 u) (fun u => E u ∧ frm [] [7, 8] S0 u) n U76 v76_1 := by
  intro n
  induction n with
  | zero => intro U76 v76_1 f h; unfold w_names_L76 at h; exact h.elim
  | succ n ih =>
    intro U76 v76_1 f h
    unfold w_names_L76 at h ⊢
    refine ⟨fun c => ?_, fun c => ?_⟩
    · replace h := h.1 c
      exact ⟨h, f⟩
    · replace h := h.2 c
      refine ⟨h.1, ?_⟩
      replace h := h.2
      obtain ⟨Q9, E9, h0, h⟩ := h
      refine ⟨_, _, fr_mustName h0, ?_, ?_⟩
      · intro S5 hq
        replace h := h.1 S5 hq.1
        replace f := f.tr (hq.2.mo (by decide) (by decide))
        intro a7 ea7
        replace h := h a7 ea7
        exact ih f h
      · intro u9 hq
        exact ⟨h.2 u9 hq.1, f.tr (hq.2.mo (by decide) (by decide))⟩
set_option maxRecDepth 100000 in
theorem fr_names_L36 {S0 : MS} {Q : MS → Prop} {E : MS → Prop} {k4 k4' : MS → Int32 → Int32 → Prop} (hk4 : ∀ (u : MS) (z0) (z1), frm [] [7, 8] S0 u → k4 u z0 z1 → k4' u z0 z1) : ∀ (n : Nat) {U36 : MS} {v36_1 : Int32} {v36_2 : Int32}, frm [] [7, 8] S0 U36 → w_names_L36 Q E k4 n U36 v36_1 v36_2 → w_names_L36 (fun u => Q u ∧ frm [] [7, 8] S0 u) (fun u => E u ∧ frm [] [7, 8] S0 u) k4' n U36 v36_1 v36_2 := by
  intro n
  induction n with
  | zero => intro U36 v36_1 v36_2 f h; unfold w_names_L36 at h; exact h.elim
  | succ n ih =>
    intro U36 v36_1 v36_2 f h
    unfold w_names_L36 at h ⊢
    refine ⟨fun c => ?_, fun c => ?_⟩
    · replace h := h.1 c
      exact fr_names_J70 hk4 f h
    · replace h := h.2 c
      refine ⟨h.1, ?_⟩
      replace h := h.2
      refine ⟨fun c => ?_, fun c => ?_⟩
      · replace h := h.1 c
        refine ⟨h.1, ?_⟩
        replace h := h.2
        obtain ⟨Q9, E9, h0, h⟩ := h
        refine ⟨_, _, fr_mustName h0, ?_, ?_⟩
        · intro S29 hq
          replace h := h.1 S29 hq.1
          replace f := f.tr (hq.2.mo (by decide) (by decide))
          intro a31 ea31
          replace h := h a31 ea31
          exact ih f h
        · intro u9 hq
          exact ⟨h.2 u9 hq.1, f.tr (hq.2.mo (by decide) (by decide))⟩
      · replace h := h.2 c
        exact fr_names_J70 hk4 f h
set_option maxRecDepth 100000 in
theorem fr_names_L4 {S0 : MS} {Q : MS → Prop} {E : MS → Prop} : ∀ (n : Nat) {U4 : MS} {v4_1 : Int32} {v4_2 : Int32}, frm [] [7, 8] S0 U4 → w_names_L4 Q E n U4 v4_1 v4_2 → w_names_L4 (fun u => Q u ∧ frm [] [7, 8] S0 u) (fun u => E u ∧ frm [] [7, 8] S0 u) n U4 v4_1 v4_2 := by
  intro n
  induction n with
  | zero => intro U4 v4_1 v4_2 f h; unfold w_names_L4 at h; exact h.elim
  | succ n ih =>
    intro U4 v4_1 v4_2 f h
    unfold w_names_L4 at h ⊢
    refine ⟨fun c => ?_, fun c => ?_⟩
    · replace h := h.1 c
      obtain ⟨n9, h⟩ := h
      exact ⟨n9, fr_names_L76 n9 f h⟩
    · replace h := h.2 c
      refine ⟨h.1, ?_⟩
      replace h := h.2
      obtain ⟨Q9, E9, h0, h⟩ := h
      refine ⟨_, _, fr_mustName h0, ?_, ?_⟩
      · intro S13 hq
        replace h := h.1 S13 hq.1
        replace f := f.tr (hq.2.mo (by decide) (by decide))
        refine ⟨h.1, ?_⟩
        replace h := h.2
        obtain ⟨Q9, E9, h0, h⟩ := h
        refine ⟨_, _, fr_mustName h0, ?_, ?_⟩
        · intro S19 hq
          replace h := h.1 S19 hq.1
          replace f := f.tr (hq.2.mo (by decide) (by decide))
          obtain ⟨n9, h⟩ := h
          exact ⟨n9, fr_names_L36 (fun _ _ _ f h => ih f h) n9 f h⟩
        · intro u9 hq
          exact ⟨h.2 u9 hq.1, f.tr (hq.2.mo (by decide) (by decide))⟩
      · intro u9 hq
        exact ⟨h.2 u9 hq.1, f.tr (hq.2.mo (by decide) (by decide))⟩
set_option maxRecDepth 100000 in
theorem fr_names {S : MS} {Q : MS → Prop} {E : MS → Prop} (h : w_names S  Q E) : w_names S  (fun u => Q u ∧ frm [] [7, 8] S u) (fun u => E u ∧ frm [] [7, 8] S u) := by
  have f : frm [] [7, 8] S S := frm.rf
  unfold w_names at h ⊢
  obtain ⟨n9, h⟩ := h
  exact ⟨n9, fr_names_L4 n9 f h⟩
set_option maxRecDepth 100000 in
theorem fr_onArrays_J135 {S0 : MS} {Q : Int32 → MS → Prop} {U135 : MS} (f : frm [38, 39, 40, 43, 44, 46, 48] [47, 48, 49, 50, 51, 52, 53, 54, 85, 86, 97, 98, 102] S0 U135) (h : w_onArrays_J135 Q U135) : w_onArrays_J135 (fun r u => Q r u ∧ frm [38, 39, 40, 43, 44, 46, 48] [47, 48, 49, 50, 51, 52, 53, 54, 85, 86, 97, 98, 102] S0 u) U135 := by
  unfold w_onArrays_J135 at h ⊢
  obtain ⟨Q9, h0, h⟩ := h
  refine ⟨_, fr_throwError h0, ?_⟩
  · intro S10 hq
    replace h := h S10 hq.1
    replace f := f.tr (hq.2.mo (by decide) (by decide))
    exact ⟨h, f⟩
set_option maxRecDepth 100000 in
theorem fr_onArrays_J81 {S0 : MS} {Q : Int32 → MS → Prop} {U81 : MS} {t81_0 : Int32} {v81_1 : Int32} {v81_2 : Int32} (f : frm [38, 39, 40, 43, 44, 46, 48] [47, 48, 49, 50, 51, 52, 53, 54, 85, 86, 97, 98, 102] S0 U81) (h : w_onArrays_J81 Q U81 t81_0 v81_1 v81_2) : w_onArrays_J81 (fun r u => Q r u ∧ frm [38, 39, 40, 43, 44, 46, 48] [47, 48, 49, 50, 51, 52, 53, 54, 85, 86, 97, 98, 102] S0 u) U81 t81_0 v81_1 v81_2 := by
  unfold w_onArrays_J81 at h ⊢
  obtain ⟨Q9, h0, h⟩ := h
  refine ⟨_, fr_gotInt h0, ?_⟩
  · intro r4 S5 hq
    replace h := h r4 S5 hq.1
    replace f := f.tr (hq.2.mo (by decide) (by decide))
    refine ⟨fun c => ?_, fun c => ?_⟩
    · replace h := h.1 c
      obtain ⟨Q9, h0, h⟩ := h
      refine ⟨_, fr_throwError h0, ?_⟩
      · intro S36 hq
        replace h := h S36 hq.1
        replace f := f.tr (hq.2.mo (by decide) (by decide))
        exact ⟨h, f⟩
    · replace h := h.2 c
      refine ⟨fun c => ?_, fun c => ?_⟩
      · replace h := h.1 c
        refine ⟨h.1, ?_⟩
        replace h := h.2
        obtain ⟨Q9, h0, h⟩ := h
        refine ⟨_, fr_putInt h0, ?_⟩
        · intro S33 hq
          replace h := h S33 hq.1
          replace f := f.tr (hq.2.mo (by decide) (by decide))
          exact ⟨h, f⟩
      · replace h := h.2 c
        refine ⟨fun c => ?_, fun c => ?_⟩
        · replace h := h.1 c
          exact fr_onArrays_J135 f h
        · replace h := h.2 c
          refine ⟨h.1, ?_⟩
          replace h := h.2
          refine ⟨fun c => ?_, fun c => ?_⟩
          · replace h := h.1 c
            refine ⟨fun c => ?_, fun c => ?_⟩
            · replace h := h.1 c
              refine ⟨h.1, ?_⟩
              replace h := h.2
              refine ⟨h.1, ?_⟩
              replace h := h.2
              intro S29 eS29
              replace h := h S29 eS29
              replace f := f.tr (show frm [38, 39, 40, 43, 44, 46, 48] [47, 48, 49, 50, 51, 52, 53, 54, 85, 86, 97, 98, 102] S5 S29 by rw [eS29]; exact frm.pI (by decide))
              exact ⟨h, f⟩
            · replace h := h.2 c
              refine ⟨h.1, ?_⟩
              replace h := h.2
              refine ⟨h.1, ?_⟩
              replace h := h.2
              obtain ⟨Q9, h0, h⟩ := h
              refine ⟨_, fr_putInt h0, ?_⟩
              · intro S23 hq
                replace h := h S23 hq.1
                replace f := f.tr (hq.2.mo (by decide) (by decide))
                exact ⟨h, f⟩
          · replace h := h.2 c
            exact fr_onArrays_J135 f h
set_option maxRecDepth 100000 in
theorem fr_onArrays_J65 {S0 : MS} {Q : Int32 → MS → Prop} {U65 : MS} {t65_0 : Int32} {v65_1 : Int32} (f : frm [38, 39, 40, 43, 44, 46, 48] [47, 48, 49, 50, 51, 52, 53, 54, 85, 86, 97, 98, 102] S0 U65) (h : w_onArrays_J65 Q U65 t65_0 v65_1) : w_onArrays_J65 (fun r u => Q r u ∧ frm [38, 39, 40, 43, 44, 46, 48] [47, 48, 49, 50, 51, 52, 53, 54, 85, 86, 97, 98, 102] S0 u) U65 t65_0 v65_1 := by
  unfold w_onArrays_J65 at h ⊢
  refine ⟨fun c => ?_, fun c => ?_⟩
  · replace h := h.1 c
    exact fr_onArrays_J81 f h
  · replace h := h.2 c
    obtain ⟨Q9, h0, h⟩ := h
    refine ⟨_, fr_gotInt h0, ?_⟩
    · intro r40 S41 hq
      replace h := h r40 S41 hq.1
      replace f := f.tr (hq.2.mo (by decide) (by decide))
      exact fr_onArrays_J81 f h
set_option maxRecDepth 100000 in
theorem fr_onArrays {S : MS} {x1 : Int32} {Q : Int32 → MS → Prop} (h : w_onArrays S x1 Q) : w_onArrays S x1 (fun r u => Q r u ∧ frm [38, 39, 40, 43, 44, 46, 48] [47, 48, 49, 50, 51, 52, 53, 54, 85, 86, 97, 98, 102] S u) := by
  have f : frm [38, 39, 40, 43, 44, 46, 48] [47, 48, 49, 50, 51, 52, 53, 54, 85, 86, 97, 98, 102] S S := frm.rf
  unfold w_onArrays at h ⊢
  refine ⟨fun c => ?_, fun c => ?_⟩
  · replace h := h.1 c
    obtain ⟨Q9, h0, h⟩ := h
    refine ⟨_, fr_gotInt h0, ?_⟩
    · intro r62 S63 hq
      replace h := h r62 S63 hq.1
      replace f := f.tr (hq.2.mo (by decide) (by decide))
      obtain ⟨Q9, h0, h⟩ := h
      refine ⟨_, fr_made h0, ?_⟩
      · intro r66 S67 hq
        replace h := h r66 S67 hq.1
        replace f := f.tr (hq.2.mo (by decide) (by decide))
        exact ⟨h, f⟩
  · replace h := h.2 c
    refine ⟨fun c => ?_, fun c => ?_⟩
    · replace h := h.1 c
      obtain ⟨Q9, h0, h⟩ := h
      refine ⟨_, fr_got h0, ?_⟩
      · intro r49 S50 hq
        replace h := h r49 S50 hq.1
        replace f := f.tr (hq.2.mo (by decide) (by decide))
        refine ⟨fun c => ?_, fun c => ?_⟩
        · replace h := h.1 c
          obtain ⟨Q9, h0, h⟩ := h
          refine ⟨_, fr_throwError h0, ?_⟩
          · intro S59 hq
            replace h := h S59 hq.1
            replace f := f.tr (hq.2.mo (by decide) (by decide))
            exact ⟨h, f⟩
        · replace h := h.2 c
          obtain ⟨Q9, h0, h⟩ := h
          refine ⟨_, fr_throwError h0, ?_⟩
          · intro S56 hq
            replace h := h S56 hq.1
            replace f := f.tr (hq.2.mo (by decide) (by decide))
            exact ⟨h, f⟩
    · replace h := h.2 c
      refine ⟨fun c => ?_, fun c => ?_⟩
      · replace h := h.1 c
        obtain ⟨Q9, h0, h⟩ := h
        refine ⟨_, fr_gotInt h0, ?_⟩
        · intro r45 S46 hq
          replace h := h r45 S46 hq.1
          replace f := f.tr (hq.2.mo (by decide) (by decide))
          exact fr_onArrays_J65 f h
      · replace h := h.2 c
        exact fr_onArrays_J65 f h
set_option maxRecDepth 100000 in
theorem fr_sweep_J146 {S0 : MS} {Q : Int32 → MS → Prop} {k98 k98' : MS → Int32 → Int32 → Prop} {U146 : MS} {v146_2 : Int32} {v146_3 : Int32} (hk98 : ∀ (u : MS) (z0) (z1), frm [77, 81, 86, 87, 88] [] S0 u → k98 u z0 z1 → k98' u z0 z1) (f : frm [77, 81, 86, 87, 88] [] S0 U146) (h : w_sweep_J146 Q k98 U146 v146_2 v146_3) : w_sweep_J146 (fun r u => Q r u ∧ frm [77, 81, 86, 87, 88] [] S0 u) k98' U146 v146_2 v146_3 := by
  unfold w_sweep_J146 at h ⊢
  intro a18 ea18
  replace h := h a18 ea18
  exact hk98 _ _ _ f h
set_option maxRecDepth 100000 in
theorem fr_sweep_J85 {S0 : MS} {Q : Int32 → MS → Prop} {k41 k41' : MS → Int32 → Int32 → Prop} {U85 : MS} {v85_1 : Int32} {v85_2 : Int32} (hk41 : ∀ (u : MS) (z0) (z1), frm [77, 81, 86, 87, 88] [] S0 u → k41 u z0 z1 → k41' u z0 z1) (f : frm [77, 81, 86, 87, 88] [] S0 U85) (h : w_sweep_J85 Q k41 U85 v85_1 v85_2) : w_sweep_J85 (fun r u => Q r u ∧ frm [77, 81, 86, 87, 88] [] S0 u) k41' U85 v85_1 v85_2 := by
  unfold w_sweep_J85 at h ⊢
  intro a31 ea31
  replace h := h a31 ea31
  exact hk41 _ _ _ f h
set_option maxRecDepth 100000 in
theorem fr_sweep_J84 {S0 : MS} {Q : Int32 → MS → Prop} {k41 k41' : MS → Int32 → Int32 → Prop} {U84 : MS} {t84_0 : Int32} {v84_2 : Int32} (hk41 : ∀ (u : MS) (z0) (z1), frm [77, 81, 86, 87, 88] [] S0 u → k41 u z0 z1 → k41' u z0 z1) (f : frm [77, 81, 86, 87, 88] [] S0 U84) (h : w_sweep_J84 Q k41 U84 t84_0 v84_2) : w_sweep_J84 (fun r u => Q r u ∧ frm [77, 81, 86, 87, 88] [] S0 u) k41' U84 t84_0 v84_2 := by
  unfold w_sweep_J84 at h ⊢
  exact fr_sweep_J85 hk41 f h
set_option maxRecDepth 100000 in
theorem fr_sweep_J79 {S0 : MS} {Q : Int32 → MS → Prop} {k41 k41' : MS → Int32 → Int32 → Prop} {U79 : MS} {v79_2 : Int32} (hk41 : ∀ (u : MS) (z0) (z1), frm [77, 81, 86, 87, 88] [] S0 u → k41 u z0 z1 → k41' u z0 z1) (f : frm [77, 81, 86, 87, 88] [] S0 U79) (h : w_sweep_J79 Q k41 U79 v79_2) : w_sweep_J79 (fun r u => Q r u ∧ frm [77, 81, 86, 87, 88] [] S0 u) k41' U79 v79_2 := by
  unfold w_sweep_J79 at h ⊢
  exact fr_sweep_J84 hk41 f h
set_option maxRecDepth 100000 in
theorem fr_sweep_L98 {S0 : MS} {Q : Int32 → MS → Prop} : ∀ (n : Nat) {U98 : MS} {v98_2 : Int32} {v98_3 : Int32}, frm [77, 81, 86, 87, 88] [] S0 U98 → w_sweep_L98 Q n U98 v98_2 v98_3 → w_sweep_L98 (fun r u => Q r u ∧ frm [77, 81, 86, 87, 88] [] S0 u) n U98 v98_2 v98_3 := by
  intro n
  induction n with
  | zero => intro U98 v98_2 v98_3 f h; unfold w_sweep_L98 at h; exact h.elim
  | succ n ih =>
    intro U98 v98_2 v98_3 f h
    unfold w_sweep_L98 at h ⊢
    refine ⟨fun c => ?_, fun c => ?_⟩
    · replace h := h.1 c
      obtain ⟨Q9, h0, h⟩ := h
      refine ⟨_, fr_mark h0, ?_⟩
      · intro S13 hq
        replace h := h S13 hq.1
        replace f := f.tr (hq.2.mo (by decide) (by decide))
        refine ⟨h.1, ?_⟩
        replace h := h.2
        exact ⟨h, f⟩
    · replace h := h.2 c
      refine ⟨h.1, ?_⟩
      replace h := h.2
      refine ⟨fun c => ?_, fun c => ?_⟩
      · replace h := h.1 c
        refine ⟨h.1, ?_⟩
        replace h := h.2
        refine ⟨fun c => ?_, fun c => ?_⟩
        · replace h := h.1 c
          refine ⟨h.1, ?_⟩
          replace h := h.2
          intro S24 eS24
          replace h := h S24 eS24
          replace f := f.tr (show frm [77, 81, 86, 87, 88] [] U98 S24 by rw [eS24]; exact frm.pI (by decide))
          intro S27 eS27
          replace h := h S27 eS27
          replace f := f.tr (show frm [77, 81, 86, 87, 88] [] S24 S27 by rw [eS27]; exact frm.pI (by decide))
          exact fr_sweep_J146 (fun _ _ _ f h => ih f h) f h
        · replace h := h.2 c
          exact fr_sweep_J146 (fun _ _ _ f h => ih f h) f h
      · replace h := h.2 c
        exact fr_sweep_J146 (fun _ _ _ f h => ih f h) f h
set_option maxRecDepth 100000 in
theorem fr_sweep_L41 {S0 : MS} {Q : Int32 → MS → Prop} {k33 k33' : MS → Int32 → Prop} (hk33 : ∀ (u : MS) (z0), frm [77, 81, 86, 87, 88] [] S0 u → k33 u z0 → k33' u z0) : ∀ (n : Nat) {U41 : MS} {v41_1 : Int32} {v41_2 : Int32}, frm [77, 81, 86, 87, 88] [] S0 U41 → w_sweep_L41 Q k33 n U41 v41_1 v41_2 → w_sweep_L41 (fun r u => Q r u ∧ frm [77, 81, 86, 87, 88] [] S0 u) k33' n U41 v41_1 v41_2 := by
  intro n
  induction n with
  | zero => intro U41 v41_1 v41_2 f h; unfold w_sweep_L41 at h; exact h.elim
  | succ n ih =>
    intro U41 v41_1 v41_2 f h
    unfold w_sweep_L41 at h ⊢
    refine ⟨fun c => ?_, fun c => ?_⟩
    · replace h := h.1 c
      exact hk33 _ _ f h
    · replace h := h.2 c
      refine ⟨h.1, ?_⟩
      replace h := h.2
      refine ⟨fun c => ?_, fun c => ?_⟩
      · replace h := h.1 c
        refine ⟨h.1, ?_⟩
        replace h := h.2
        refine ⟨fun c => ?_, fun c => ?_⟩
        · replace h := h.1 c
          exact fr_sweep_J85 (fun _ _ _ f h => ih f h) f h
        · replace h := h.2 c
          obtain ⟨Q9, h0, h⟩ := h
          refine ⟨_, fr_meetFrom h0, ?_⟩
          · intro r37 S38 hq
            replace h := h r37 S38 hq.1
            replace f := f.tr (hq.2.mo (by decide) (by decide))
            refine ⟨fun c => ?_, fun c => ?_⟩
            · replace h := h.1 c
              refine ⟨fun c => ?_, fun c => ?_⟩
              · replace h := h.1 c
                exact fr_sweep_J84 (fun _ _ _ f h => ih f h) f h
              · replace h := h.2 c
                exact fr_sweep_J79 (fun _ _ _ f h => ih f h) f h
            · replace h := h.2 c
              exact fr_sweep_J79 (fun _ _ _ f h => ih f h) f h
      · replace h := h.2 c
        exact fr_sweep_J85 (fun _ _ _ f h => ih f h) f h
set_option maxRecDepth 100000 in
theorem fr_sweep_L33 {S0 : MS} {Q : Int32 → MS → Prop} : ∀ (n : Nat) {U33 : MS} {v33_1 : Int32}, frm [77, 81, 86, 87, 88] [] S0 U33 → w_sweep_L33 Q n U33 v33_1 → w_sweep_L33 (fun r u => Q r u ∧ frm [77, 81, 86, 87, 88] [] S0 u) n U33 v33_1 := by
  intro n
  induction n with
  | zero => intro U33 v33_1 f h; unfold w_sweep_L33 at h; exact h.elim
  | succ n ih =>
    intro U33 v33_1 f h
    unfold w_sweep_L33 at h ⊢
    refine ⟨fun c => ?_, fun c => ?_⟩
    · replace h := h.1 c
      obtain ⟨n9, h⟩ := h
      exact ⟨n9, fr_sweep_L98 n9 f h⟩
    · replace h := h.2 c
      obtain ⟨n9, h⟩ := h
      exact ⟨n9, fr_sweep_L41 (fun _ _ f h => ih f h) n9 f h⟩
set_option maxRecDepth 100000 in
theorem fr_sweep_L2 {S0 : MS} {Q : Int32 → MS → Prop} : ∀ (n : Nat) {U2 : MS} {v2_1 : Int32}, frm [77, 81, 86, 87, 88] [] S0 U2 → w_sweep_L2 Q n U2 v2_1 → w_sweep_L2 (fun r u => Q r u ∧ frm [77, 81, 86, 87, 88] [] S0 u) n U2 v2_1 := by
  intro n
  induction n with
  | zero => intro U2 v2_1 f h; unfold w_sweep_L2 at h; exact h.elim
  | succ n ih =>
    intro U2 v2_1 f h
    unfold w_sweep_L2 at h ⊢
    refine ⟨fun c => ?_, fun c => ?_⟩
    · replace h := h.1 c
      obtain ⟨Q9, h0, h⟩ := h
      refine ⟨_, fr_here h0, ?_⟩
      · intro r3 S4 hq
        replace h := h r3 S4 hq.1
        replace f := f.tr (hq.2.mo (by decide) (by decide))
        obtain ⟨Q9, h0, h⟩ := h
        refine ⟨_, fr_meet h0, ?_⟩
        · intro r7 S8 hq
          replace h := h r7 S8 hq.1
          replace f := f.tr (hq.2.mo (by decide) (by decide))
          obtain ⟨n9, h⟩ := h
          exact ⟨n9, fr_sweep_L33 n9 f h⟩
    · replace h := h.2 c
      refine ⟨h.1, ?_⟩
      replace h := h.2
      intro S43 eS43
      replace h := h S43 eS43
      replace f := f.tr (show frm [77, 81, 86, 87, 88] [] U2 S43 by rw [eS43]; exact frm.pI (by decide))
      intro a44 ea44
      replace h := h a44 ea44
      exact ih f h
set_option maxRecDepth 100000 in
theorem fr_sweep {S : MS} {Q : Int32 → MS → Prop} (h : w_sweep S  Q) : w_sweep S  (fun r u => Q r u ∧ frm [77, 81, 86, 87, 88] [] S u) := by
  have f : frm [77, 81, 86, 87, 88] [] S S := frm.rf
  unfold w_sweep at h ⊢
  obtain ⟨n9, h⟩ := h
  exact ⟨n9, fr_sweep_L2 n9 f h⟩
set_option maxRecDepth 100000 in
theorem fr_pass_J65 {S0 : MS} {Q : Int32 → MS → Prop} {k32 k32' : MS → Int32 → Int32 → Int32 → Prop} {U65 : MS} {v65_1 : Int32} {v65_2 : Int32} {v65_3 : Int32} (hk32 : ∀ (u : MS) (z0) (z1) (z2), frm [75, 77, 78, 79, 80, 81, 86, 87, 88, 89, 90] [139] S0 u → k32 u z0 z1 z2 → k32' u z0 z1 z2) (f : frm [75, 77, 78, 79, 80, 81, 86, 87, 88, 89, 90] [139] S0 U65) (h : w_pass_J65 Q k32 U65 v65_1 v65_2 v65_3) : w_pass_J65 (fun r u => Q r u ∧ frm [75, 77, 78, 79, 80, 81, 86, 87, 88, 89, 90] [139] S0 u) k32' U65 v65_1 v65_2 v65_3 := by
  unfold w_pass_J65 at h ⊢
  obtain ⟨Q9, h0, h⟩ := h
  refine ⟨_, fr_here h0, ?_⟩
  · intro r23 S24 hq
    replace h := h r23 S24 hq.1
    replace f := f.tr (hq.2.mo (by decide) (by decide))
    exact hk32 _ _ _ _ f h
set_option maxRecDepth 100000 in
theorem fr_pass_L32 {S0 : MS} {Q : Int32 → MS → Prop} : ∀ (n : Nat) {U32 : MS} {v32_1 : Int32} {v32_2 : Int32} {v32_3 : Int32}, frm [75, 77, 78, 79, 80, 81, 86, 87, 88, 89, 90] [139] S0 U32 → w_pass_L32 Q n U32 v32_1 v32_2 v32_3 → w_pass_L32 (fun r u => Q r u ∧ frm [75, 77, 78, 79, 80, 81, 86, 87, 88, 89, 90] [139] S0 u) n U32 v32_1 v32_2 v32_3 := by
  intro n
  induction n with
  | zero => intro U32 v32_1 v32_2 v32_3 f h; unfold w_pass_L32 at h; exact h.elim
  | succ n ih =>
    intro U32 v32_1 v32_2 v32_3 f h
    unfold w_pass_L32 at h ⊢
    refine ⟨fun c => ?_, fun c => ?_⟩
    · replace h := h.1 c
      exact ⟨h, f⟩
    · replace h := h.2 c
      obtain ⟨Q9, h0, h⟩ := h
      refine ⟨_, fr_apply h0, ?_⟩
      · intro r11 S12 hq
        replace h := h r11 S12 hq.1
        replace f := f.tr (hq.2.mo (by decide) (by decide))
        refine ⟨fun c => ?_, fun c => ?_⟩
        · replace h := h.1 c
          obtain ⟨Q9, h0, h⟩ := h
          refine ⟨_, fr_behind h0, ?_⟩
          · intro r16 S17 hq
            replace h := h r16 S17 hq.1
            replace f := f.tr (hq.2.mo (by decide) (by decide))
            exact ih f h
        · replace h := h.2 c
          obtain ⟨Q9, h0, h⟩ := h
          refine ⟨_, fr_mark h0, ?_⟩
          · intro S20 hq
            replace h := h S20 hq.1
            replace f := f.tr (hq.2.mo (by decide) (by decide))
            refine ⟨fun c => ?_, fun c => ?_⟩
            · replace h := h.1 c
              exact fr_pass_J65 (fun _ _ _ _ f h => ih f h) f h
            · replace h := h.2 c
              obtain ⟨Q9, h0, h⟩ := h
              refine ⟨_, fr_findLive h0, ?_⟩
              · intro S28 hq
                replace h := h S28 hq.1
                replace f := f.tr (hq.2.mo (by decide) (by decide))
                exact fr_pass_J65 (fun _ _ _ _ f h => ih f h) f h
set_option maxRecDepth 100000 in
theorem fr_pass_J24 {S0 : MS} {Q : Int32 → MS → Prop} {U24 : MS} {v24_1 : Int32} (f : frm [75, 77, 78, 79, 80, 81, 86, 87, 88, 89, 90] [139] S0 U24) (h : w_pass_J24 Q U24 v24_1) : w_pass_J24 (fun r u => Q r u ∧ frm [75, 77, 78, 79, 80, 81, 86, 87, 88, 89, 90] [139] S0 u) U24 v24_1 := by
  unfold w_pass_J24 at h ⊢
  obtain ⟨Q9, h0, h⟩ := h
  refine ⟨_, fr_here h0, ?_⟩
  · intro r6 S7 hq
    replace h := h r6 S7 hq.1
    replace f := f.tr (hq.2.mo (by decide) (by decide))
    obtain ⟨n9, h⟩ := h
    exact ⟨n9, fr_pass_L32 n9 f h⟩
set_option maxRecDepth 100000 in
theorem fr_pass {S : MS} {x1 : Int32} {Q : Int32 → MS → Prop} (h : w_pass S x1 Q) : w_pass S x1 (fun r u => Q r u ∧ frm [75, 77, 78, 79, 80, 81, 86, 87, 88, 89, 90] [139] S u) := by
  have f : frm [75, 77, 78, 79, 80, 81, 86, 87, 88, 89, 90] [139] S S := frm.rf
  unfold w_pass at h ⊢
  obtain ⟨Q9, h0, h⟩ := h
  refine ⟨_, fr_mark h0, ?_⟩
  · intro S2 hq
    replace h := h S2 hq.1
    replace f := f.tr (hq.2.mo (by decide) (by decide))
    refine ⟨fun c => ?_, fun c => ?_⟩
    · replace h := h.1 c
      obtain ⟨Q9, h0, h⟩ := h
      refine ⟨_, fr_sweep h0, ?_⟩
      · intro r35 S36 hq
        replace h := h r35 S36 hq.1
        replace f := f.tr (hq.2.mo (by decide) (by decide))
        exact ⟨h, f⟩
    · replace h := h.2 c
      refine ⟨fun c => ?_, fun c => ?_⟩
      · replace h := h.1 c
        exact fr_pass_J24 f h
      · replace h := h.2 c
        obtain ⟨Q9, h0, h⟩ := h
        refine ⟨_, fr_findLive h0, ?_⟩
        · intro S32 hq
          replace h := h S32 hq.1
          replace f := f.tr (hq.2.mo (by decide) (by decide))
          exact fr_pass_J24 f h
set_option maxRecDepth 100000 in
theorem fr_shuffle {S : MS} {x1 : Int32} {Q : MS → Prop} (h : w_shuffle S x1 Q) : w_shuffle S x1 (fun u => Q u ∧ frm [44, 46, 48] [] S u) := by
  have f : frm [44, 46, 48] [] S S := frm.rf
  unfold w_shuffle at h ⊢
  intro a2 ea2
  replace h := h a2 ea2
  refine ⟨h.1, ?_⟩
  replace h := h.2
  intro a7 ea7
  replace h := h a7 ea7
  refine ⟨h.1, ?_⟩
  replace h := h.2
  intro a11 ea11
  replace h := h a11 ea11
  refine ⟨h.1, ?_⟩
  replace h := h.2
  intro a15 ea15
  replace h := h a15 ea15
  refine ⟨fun c => ?_, fun c => ?_⟩
  · replace h := h.1 c
    obtain ⟨Q9, h0, h⟩ := h
    refine ⟨_, fr_putTagged h0, ?_⟩
    · intro S49 hq
      replace h := h S49 hq.1
      replace f := f.tr (hq.2.mo (by decide) (by decide))
      exact ⟨h, f⟩
  · replace h := h.2 c
    refine ⟨h.1, ?_⟩
    replace h := h.2
    intro a20 ea20
    replace h := h a20 ea20
    refine ⟨h.1, ?_⟩
    replace h := h.2
    intro a24 ea24
    replace h := h a24 ea24
    refine ⟨fun c => ?_, fun c => ?_⟩
    · replace h := h.1 c
      obtain ⟨Q9, h0, h⟩ := h
      refine ⟨_, fr_putTagged h0, ?_⟩
      · intro S43 hq
        replace h := h S43 hq.1
        replace f := f.tr (hq.2.mo (by decide) (by decide))
        obtain ⟨Q9, h0, h⟩ := h
        refine ⟨_, fr_putTagged h0, ?_⟩
        · intro S46 hq
          replace h := h S46 hq.1
          replace f := f.tr (hq.2.mo (by decide) (by decide))
          exact ⟨h, f⟩
    · replace h := h.2 c
      refine ⟨h.1, ?_⟩
      replace h := h.2
      intro S28 eS28
      replace h := h S28 eS28
      replace f := f.tr (show frm [44, 46, 48] [] S S28 by rw [eS28]; exact frm.pJ (by decide))
      refine ⟨h.1, ?_⟩
      replace h := h.2
      intro S31 eS31
      replace h := h S31 eS31
      replace f := f.tr (show frm [44, 46, 48] [] S28 S31 by rw [eS31]; exact frm.pI (by decide))
      refine ⟨h.1, ?_⟩
      replace h := h.2
      intro S34 eS34
      replace h := h S34 eS34
      replace f := f.tr (show frm [44, 46, 48] [] S31 S34 by rw [eS34]; exact frm.pJ (by decide))
      refine ⟨h.1, ?_⟩
      replace h := h.2
      intro S37 eS37
      replace h := h S37 eS37
      replace f := f.tr (show frm [44, 46, 48] [] S34 S37 by rw [eS37]; exact frm.pI (by decide))
      refine ⟨fun c => ?_, fun c => ?_⟩
      · replace h := h.1 c
        obtain ⟨Q9, h0, h⟩ := h
        refine ⟨_, fr_putTagged h0, ?_⟩
        · intro S40 hq
          replace h := h S40 hq.1
          replace f := f.tr (hq.2.mo (by decide) (by decide))
          exact ⟨h, f⟩
      · replace h := h.2 c
        exact ⟨h, f⟩
set_option maxRecDepth 100000 in
theorem fr_plain_J542 {S0 : MS} {Q : Int32 → MS → Prop} {U542 : MS} {t542_0 : Int32} {t542_1 : Int64} (f : frm [37, 38, 39, 40, 43, 44, 45, 46, 47, 48] [47, 48, 49, 50, 51, 52, 53, 54, 85, 86, 97, 98, 102] S0 U542) (h : w_plain_J542 Q U542 t542_0 t542_1) : w_plain_J542 (fun r u => Q r u ∧ frm [37, 38, 39, 40, 43, 44, 45, 46, 47, 48] [47, 48, 49, 50, 51, 52, 53, 54, 85, 86, 97, 98, 102] S0 u) U542 t542_0 t542_1 := by
  unfold w_plain_J542 at h ⊢
  obtain ⟨Q9, h0, h⟩ := h
  refine ⟨_, fr_put h0, ?_⟩
  · intro S217 hq
    replace h := h S217 hq.1
    replace f := f.tr (hq.2.mo (by decide) (by decide))
    exact ⟨h, f⟩
set_option maxRecDepth 100000 in
theorem fr_plain_J576 {S0 : MS} {Q : Int32 → MS → Prop} {U576 : MS} {t576_0 : Int32} {t576_2 : Int32} (f : frm [37, 38, 39, 40, 43, 44, 45, 46, 47, 48] [47, 48, 49, 50, 51, 52, 53, 54, 85, 86, 97, 98, 102] S0 U576) (h : w_plain_J576 Q U576 t576_0 t576_2) : w_plain_J576 (fun r u => Q r u ∧ frm [37, 38, 39, 40, 43, 44, 45, 46, 47, 48] [47, 48, 49, 50, 51, 52, 53, 54, 85, 86, 97, 98, 102] S0 u) U576 t576_0 t576_2 := by
  unfold w_plain_J576 at h ⊢
  obtain ⟨Q9, h0, h⟩ := h
  refine ⟨_, fr_got h0, ?_⟩
  · intro r235 S236 hq
    replace h := h r235 S236 hq.1
    replace f := f.tr (hq.2.mo (by decide) (by decide))
    refine ⟨h.1, ?_⟩
    replace h := h.2
    intro S239 eS239
    replace h := h S239 eS239
    replace f := f.tr (show frm [37, 38, 39, 40, 43, 44, 45, 46, 47, 48] [47, 48, 49, 50, 51, 52, 53, 54, 85, 86, 97, 98, 102] S236 S239 by rw [eS239]; exact frm.pJ (by decide))
    exact ⟨h, f⟩
set_option maxRecDepth 100000 in
theorem fr_plain {S : MS} {x1 : Int32} {x2 : Int32} {x3 : Int32} {Q : Int32 → MS → Prop} (h : w_plain S x1 x2 x3 Q) : w_plain S x1 x2 x3 (fun r u => Q r u ∧ frm [37, 38, 39, 40, 43, 44, 45, 46, 47, 48] [47, 48, 49, 50, 51, 52, 53, 54, 85, 86, 97, 98, 102] S u) := by
  have f : frm [37, 38, 39, 40, 43, 44, 45, 46, 47, 48] [47, 48, 49, 50, 51, 52, 53, 54, 85, 86, 97, 98, 102] S S := frm.rf
  unfold w_plain at h ⊢
  refine ⟨fun c => ?_, fun c => ?_⟩
  · replace h := h.1 c
    exact ⟨h, f⟩
  · replace h := h.2 c
    refine ⟨fun c => ?_, fun c => ?_⟩
    · replace h := h.1 c
      obtain ⟨Q9, h0, h⟩ := h
      refine ⟨_, fr_put h0, ?_⟩
      · intro S2 hq
        replace h := h S2 hq.1
        replace f := f.tr (hq.2.mo (by decide) (by decide))
        exact ⟨h, f⟩
    · replace h := h.2 c
      refine ⟨fun c => ?_, fun c => ?_⟩
      · replace h := h.1 c
        obtain ⟨Q9, h0, h⟩ := h
        refine ⟨_, fr_putInt h0, ?_⟩
        · intro S5 hq
          replace h := h S5 hq.1
          replace f := f.tr (hq.2.mo (by decide) (by decide))
          exact ⟨h, f⟩
      · replace h := h.2 c
        refine ⟨fun c => ?_, fun c => ?_⟩
        · replace h := h.1 c
          refine ⟨h.1, ?_⟩
          replace h := h.2
          obtain ⟨Q9, h0, h⟩ := h
          refine ⟨_, fr_put h0, ?_⟩
          · intro S11 hq
            replace h := h S11 hq.1
            replace f := f.tr (hq.2.mo (by decide) (by decide))
            exact ⟨h, f⟩
        · replace h := h.2 c
          refine ⟨fun c => ?_, fun c => ?_⟩
          · replace h := h.1 c
            refine ⟨h.1, ?_⟩
            replace h := h.2
            refine ⟨h.1, ?_⟩
            replace h := h.2
            refine ⟨h.1, ?_⟩
            replace h := h.2
            refine ⟨h.1, ?_⟩
            replace h := h.2
            obtain ⟨Q9, h0, h⟩ := h
            refine ⟨_, fr_putTagged h0, ?_⟩
            · intro S24 hq
              replace h := h S24 hq.1
              replace f := f.tr (hq.2.mo (by decide) (by decide))
              exact ⟨h, f⟩
          · replace h := h.2 c
            refine ⟨fun c => ?_, fun c => ?_⟩
            · replace h := h.1 c
              refine ⟨h.1, ?_⟩
              replace h := h.2
              refine ⟨h.1, ?_⟩
              replace h := h.2
              obtain ⟨Q9, h0, h⟩ := h
              refine ⟨_, fr_put h0, ?_⟩
              · intro S32 hq
                replace h := h S32 hq.1
                replace f := f.tr (hq.2.mo (by decide) (by decide))
                exact ⟨h, f⟩
            · replace h := h.2 c
              refine ⟨fun c => ?_, fun c => ?_⟩
              · replace h := h.1 c
                refine ⟨h.1, ?_⟩
                replace h := h.2
                refine ⟨h.1, ?_⟩
                replace h := h.2
                refine ⟨h.1, ?_⟩
                replace h := h.2
                refine ⟨h.1, ?_⟩
                replace h := h.2
                obtain ⟨Q9, h0, h⟩ := h
                refine ⟨_, fr_putTagged h0, ?_⟩
                · intro S45 hq
                  replace h := h S45 hq.1
                  replace f := f.tr (hq.2.mo (by decide) (by decide))
                  exact ⟨h, f⟩
              · replace h := h.2 c
                refine ⟨fun c => ?_, fun c => ?_⟩
                · replace h := h.1 c
                  refine ⟨h.1, ?_⟩
                  replace h := h.2
                  refine ⟨h.1, ?_⟩
                  replace h := h.2
                  refine ⟨h.1, ?_⟩
                  replace h := h.2
                  intro S54 eS54
                  replace h := h S54 eS54
                  replace f := f.tr (show frm [37, 38, 39, 40, 43, 44, 45, 46, 47, 48] [47, 48, 49, 50, 51, 52, 53, 54, 85, 86, 97, 98, 102] S S54 by rw [eS54]; exact frm.pI (by decide))
                  refine ⟨h.1, ?_⟩
                  replace h := h.2
                  obtain ⟨Q9, h0, h⟩ := h
                  refine ⟨_, fr_got h0, ?_⟩
                  · intro r59 S60 hq
                    replace h := h r59 S60 hq.1
                    replace f := f.tr (hq.2.mo (by decide) (by decide))
                    refine ⟨h.1, ?_⟩
                    replace h := h.2
                    intro S63 eS63
                    replace h := h S63 eS63
                    replace f := f.tr (show frm [37, 38, 39, 40, 43, 44, 45, 46, 47, 48] [47, 48, 49, 50, 51, 52, 53, 54, 85, 86, 97, 98, 102] S60 S63 by rw [eS63]; exact frm.pJ (by decide))
                    exact ⟨h, f⟩
                · replace h := h.2 c
                  refine ⟨fun c => ?_, fun c => ?_⟩
                  · replace h := h.1 c
                    refine ⟨h.1, ?_⟩
                    replace h := h.2
                    refine ⟨h.1, ?_⟩
                    replace h := h.2
                    refine ⟨h.1, ?_⟩
                    replace h := h.2
                    intro S71 eS71
                    replace h := h S71 eS71
                    replace f := f.tr (show frm [37, 38, 39, 40, 43, 44, 45, 46, 47, 48] [47, 48, 49, 50, 51, 52, 53, 54, 85, 86, 97, 98, 102] S S71 by rw [eS71]; exact frm.pI (by decide))
                    refine ⟨h.1, ?_⟩
                    replace h := h.2
                    refine ⟨h.1, ?_⟩
                    replace h := h.2
                    refine ⟨h.1, ?_⟩
                    replace h := h.2
                    intro S80 eS80
                    replace h := h S80 eS80
                    replace f := f.tr (show frm [37, 38, 39, 40, 43, 44, 45, 46, 47, 48] [47, 48, 49, 50, 51, 52, 53, 54, 85, 86, 97, 98, 102] S71 S80 by rw [eS80]; exact frm.pI (by decide))
                    refine ⟨h.1, ?_⟩
                    replace h := h.2
                    obtain ⟨Q9, h0, h⟩ := h
                    refine ⟨_, fr_got h0, ?_⟩
                    · intro r85 S86 hq
                      replace h := h r85 S86 hq.1
                      replace f := f.tr (hq.2.mo (by decide) (by decide))
                      refine ⟨h.1, ?_⟩
                      replace h := h.2
                      intro S89 eS89
                      replace h := h S89 eS89
                      replace f := f.tr (show frm [37, 38, 39, 40, 43, 44, 45, 46, 47, 48] [47, 48, 49, 50, 51, 52, 53, 54, 85, 86, 97, 98, 102] S86 S89 by rw [eS89]; exact frm.pJ (by decide))
                      exact ⟨h, f⟩
                  · replace h := h.2 c
                    refine ⟨fun c => ?_, fun c => ?_⟩
                    · replace h := h.1 c
                      refine ⟨h.1, ?_⟩
                      replace h := h.2
                      refine ⟨h.1, ?_⟩
                      replace h := h.2
                      refine ⟨h.1, ?_⟩
                      replace h := h.2
                      intro S97 eS97
                      replace h := h S97 eS97
                      replace f := f.tr (show frm [37, 38, 39, 40, 43, 44, 45, 46, 47, 48] [47, 48, 49, 50, 51, 52, 53, 54, 85, 86, 97, 98, 102] S S97 by rw [eS97]; exact frm.pI (by decide))
                      refine ⟨h.1, ?_⟩
                      replace h := h.2
                      obtain ⟨Q9, h0, h⟩ := h
                      refine ⟨_, fr_got h0, ?_⟩
                      · intro r102 S103 hq
                        replace h := h r102 S103 hq.1
                        replace f := f.tr (hq.2.mo (by decide) (by decide))
                        refine ⟨h.1, ?_⟩
                        replace h := h.2
                        intro S106 eS106
                        replace h := h S106 eS106
                        replace f := f.tr (show frm [37, 38, 39, 40, 43, 44, 45, 46, 47, 48] [47, 48, 49, 50, 51, 52, 53, 54, 85, 86, 97, 98, 102] S103 S106 by rw [eS106]; exact frm.pJ (by decide))
                        exact ⟨h, f⟩
                    · replace h := h.2 c
                      refine ⟨fun c => ?_, fun c => ?_⟩
                      · replace h := h.1 c
                        refine ⟨h.1, ?_⟩
                        replace h := h.2
                        refine ⟨h.1, ?_⟩
                        replace h := h.2
                        intro S112 eS112
                        replace h := h S112 eS112
                        replace f := f.tr (show frm [37, 38, 39, 40, 43, 44, 45, 46, 47, 48] [47, 48, 49, 50, 51, 52, 53, 54, 85, 86, 97, 98, 102] S S112 by rw [eS112]; exact frm.pI (by decide))
                        exact ⟨h, f⟩
                      · replace h := h.2 c
                        refine ⟨fun c => ?_, fun c => ?_⟩
                        · replace h := h.1 c
                          refine ⟨h.1, ?_⟩
                          replace h := h.2
                          refine ⟨h.1, ?_⟩
                          replace h := h.2
                          intro S118 eS118
                          replace h := h S118 eS118
                          replace f := f.tr (show frm [37, 38, 39, 40, 43, 44, 45, 46, 47, 48] [47, 48, 49, 50, 51, 52, 53, 54, 85, 86, 97, 98, 102] S S118 by rw [eS118]; exact frm.pI (by decide))
                          exact ⟨h, f⟩
                        · replace h := h.2 c
                          refine ⟨fun c => ?_, fun c => ?_⟩
                          · replace h := h.1 c
                            obtain ⟨Q9, h0, h⟩ := h
                            refine ⟨_, fr_shuffle h0, ?_⟩
                            · intro S120 hq
                              replace h := h S120 hq.1
                              replace f := f.tr (hq.2.mo (by decide) (by decide))
                              exact ⟨h, f⟩
                          · replace h := h.2 c
                            refine ⟨fun c => ?_, fun c => ?_⟩
                            · replace h := h.1 c
                              obtain ⟨Q9, h0, h⟩ := h
                              refine ⟨_, fr_shuffle h0, ?_⟩
                              · intro S123 hq
                                replace h := h S123 hq.1
                                replace f := f.tr (hq.2.mo (by decide) (by decide))
                                exact ⟨h, f⟩
                            · replace h := h.2 c
                              refine ⟨fun c => ?_, fun c => ?_⟩
                              · replace h := h.1 c
                                obtain ⟨Q9, h0, h⟩ := h
                                refine ⟨_, fr_shuffle h0, ?_⟩
                                · intro S126 hq
                                  replace h := h S126 hq.1
                                  replace f := f.tr (hq.2.mo (by decide) (by decide))
                                  exact ⟨h, f⟩
                              · replace h := h.2 c
                                refine ⟨fun c => ?_, fun c => ?_⟩
                                · replace h := h.1 c
                                  obtain ⟨Q9, h0, h⟩ := h
                                  refine ⟨_, fr_shuffle h0, ?_⟩
                                  · intro S129 hq
                                    replace h := h S129 hq.1
                                    replace f := f.tr (hq.2.mo (by decide) (by decide))
                                    exact ⟨h, f⟩
                                · replace h := h.2 c
                                  refine ⟨fun c => ?_, fun c => ?_⟩
                                  · replace h := h.1 c
                                    refine ⟨h.1, ?_⟩
                                    replace h := h.2
                                    refine ⟨h.1, ?_⟩
                                    replace h := h.2
                                    refine ⟨h.1, ?_⟩
                                    replace h := h.2
                                    refine ⟨h.1, ?_⟩
                                    replace h := h.2
                                    refine ⟨h.1, ?_⟩
                                    replace h := h.2
                                    intro S144 eS144
                                    replace h := h S144 eS144
                                    replace f := f.tr (show frm [37, 38, 39, 40, 43, 44, 45, 46, 47, 48] [47, 48, 49, 50, 51, 52, 53, 54, 85, 86, 97, 98, 102] S S144 by rw [eS144]; exact frm.pJ (by decide))
                                    exact ⟨h, f⟩
                                  · replace h := h.2 c
                                    refine ⟨fun c => ?_, fun c => ?_⟩
                                    · replace h := h.1 c
                                      obtain ⟨Q9, h0, h⟩ := h
                                      refine ⟨_, fr_got h0, ?_⟩
                                      · intro r146 S147 hq
                                        replace h := h r146 S147 hq.1
                                        replace f := f.tr (hq.2.mo (by decide) (by decide))
                                        refine ⟨h.1, ?_⟩
                                        replace h := h.2
                                        obtain ⟨Q9, h0, h⟩ := h
                                        refine ⟨_, fr_put h0, ?_⟩
                                        · intro S153 hq
                                          replace h := h S153 hq.1
                                          replace f := f.tr (hq.2.mo (by decide) (by decide))
                                          exact ⟨h, f⟩
                                    · replace h := h.2 c
                                      refine ⟨fun c => ?_, fun c => ?_⟩
                                      · replace h := h.1 c
                                        obtain ⟨Q9, h0, h⟩ := h
                                        refine ⟨_, fr_got h0, ?_⟩
                                        · intro r156 S157 hq
                                          replace h := h r156 S157 hq.1
                                          replace f := f.tr (hq.2.mo (by decide) (by decide))
                                          refine ⟨h.1, ?_⟩
                                          replace h := h.2
                                          obtain ⟨Q9, h0, h⟩ := h
                                          refine ⟨_, fr_putInt h0, ?_⟩
                                          · intro S163 hq
                                            replace h := h S163 hq.1
                                            replace f := f.tr (hq.2.mo (by decide) (by decide))
                                            exact ⟨h, f⟩
                                      · replace h := h.2 c
                                        refine ⟨fun c => ?_, fun c => ?_⟩
                                        · replace h := h.1 c
                                          obtain ⟨Q9, h0, h⟩ := h
                                          refine ⟨_, fr_got h0, ?_⟩
                                          · intro r166 S167 hq
                                            replace h := h r166 S167 hq.1
                                            replace f := f.tr (hq.2.mo (by decide) (by decide))
                                            refine ⟨h.1, ?_⟩
                                            replace h := h.2
                                            obtain ⟨Q9, h0, h⟩ := h
                                            refine ⟨_, fr_putInt h0, ?_⟩
                                            · intro S173 hq
                                              replace h := h S173 hq.1
                                              replace f := f.tr (hq.2.mo (by decide) (by decide))
                                              exact ⟨h, f⟩
                                        · replace h := h.2 c
                                          refine ⟨fun c => ?_, fun c => ?_⟩
                                          · replace h := h.1 c
                                            obtain ⟨Q9, h0, h⟩ := h
                                            refine ⟨_, fr_got h0, ?_⟩
                                            · intro r176 S177 hq
                                              replace h := h r176 S177 hq.1
                                              replace f := f.tr (hq.2.mo (by decide) (by decide))
                                              refine ⟨h.1, ?_⟩
                                              replace h := h.2
                                              obtain ⟨Q9, h0, h⟩ := h
                                              refine ⟨_, fr_putInt h0, ?_⟩
                                              · intro S183 hq
                                                replace h := h S183 hq.1
                                                replace f := f.tr (hq.2.mo (by decide) (by decide))
                                                exact ⟨h, f⟩
                                          · replace h := h.2 c
                                            refine ⟨fun c => ?_, fun c => ?_⟩
                                            · replace h := h.1 c
                                              obtain ⟨Q9, h0, h⟩ := h
                                              refine ⟨_, fr_got h0, ?_⟩
                                              · intro r186 S187 hq
                                                replace h := h r186 S187 hq.1
                                                replace f := f.tr (hq.2.mo (by decide) (by decide))
                                                refine ⟨h.1, ?_⟩
                                                replace h := h.2
                                                obtain ⟨Q9, h0, h⟩ := h
                                                refine ⟨_, fr_putInt h0, ?_⟩
                                                · intro S193 hq
                                                  replace h := h S193 hq.1
                                                  replace f := f.tr (hq.2.mo (by decide) (by decide))
                                                  exact ⟨h, f⟩
                                            · replace h := h.2 c
                                              refine ⟨fun c => ?_, fun c => ?_⟩
                                              · replace h := h.1 c
                                                refine ⟨h.1, ?_⟩
                                                replace h := h.2
                                                refine ⟨h.1, ?_⟩
                                                replace h := h.2
                                                refine ⟨h.1, ?_⟩
                                                replace h := h.2
                                                refine ⟨h.1, ?_⟩
                                                replace h := h.2
                                                refine ⟨fun c => ?_, fun c => ?_⟩
                                                · replace h := h.1 c
                                                  refine ⟨h.1, ?_⟩
                                                  replace h := h.2
                                                  refine ⟨h.1, ?_⟩
                                                  replace h := h.2
                                                  refine ⟨h.1, ?_⟩
                                                  replace h := h.2
                                                  refine ⟨h.1, ?_⟩
                                                  replace h := h.2
                                                  refine ⟨h.1, ?_⟩
                                                  replace h := h.2
                                                  refine ⟨fun c => ?_, fun c => ?_⟩
                                                  · replace h := h.1 c
                                                    exact fr_plain_J542 f h
                                                  · replace h := h.2 c
                                                    exact fr_plain_J542 f h
                                                · replace h := h.2 c
                                                  refine ⟨h.1, ?_⟩
                                                  replace h := h.2
                                                  obtain ⟨Q9, h0, h⟩ := h
                                                  refine ⟨_, fr_putInt h0, ?_⟩
                                                  · intro S223 hq
                                                    replace h := h S223 hq.1
                                                    replace f := f.tr (hq.2.mo (by decide) (by decide))
                                                    exact ⟨h, f⟩
                                              · replace h := h.2 c
                                                refine ⟨fun c => ?_, fun c => ?_⟩
                                                · replace h := h.1 c
                                                  refine ⟨h.1, ?_⟩
                                                  replace h := h.2
                                                  refine ⟨h.1, ?_⟩
                                                  replace h := h.2
                                                  refine ⟨h.1, ?_⟩
                                                  replace h := h.2
                                                  refine ⟨h.1, ?_⟩
                                                  replace h := h.2
                                                  refine ⟨fun c => ?_, fun c => ?_⟩
                                                  · replace h := h.1 c
                                                    exact fr_plain_J576 f h
                                                  · replace h := h.2 c
                                                    exact fr_plain_J576 f h
                                                · replace h := h.2 c
                                                  obtain ⟨Q9, h0, h⟩ := h
                                                  refine ⟨_, fr_onArrays h0, ?_⟩
                                                  · intro r242 S243 hq
                                                    replace h := h r242 S243 hq.1
                                                    replace f := f.tr (hq.2.mo (by decide) (by decide))
                                                    exact ⟨h, f⟩
set_option maxRecDepth 100000 in
theorem fr_rounds_J57 {S0 : MS} {Q : MS → Prop} {k19 k19' : MS → Int32 → Int32 → Int32 → Int32 → Prop} {U57 : MS} {v57_1 : Int32} {v57_2 : Int32} {v57_3 : Int32} {v57_4 : Int32} (hk19 : ∀ (u : MS) (z0) (z1) (z2) (z3), frm [75, 77, 78, 79, 80, 81, 86, 87, 88, 89, 90] [139] S0 u → k19 u z0 z1 z2 z3 → k19' u z0 z1 z2 z3) (f : frm [75, 77, 78, 79, 80, 81, 86, 87, 88, 89, 90] [139] S0 U57) (h : w_rounds_J57 Q k19 U57 v57_1 v57_2 v57_3 v57_4) : w_rounds_J57 (fun u => Q u ∧ frm [75, 77, 78, 79, 80, 81, 86, 87, 88, 89, 90] [139] S0 u) k19' U57 v57_1 v57_2 v57_3 v57_4 := by
  unfold w_rounds_J57 at h ⊢
  intro a8 ea8
  replace h := h a8 ea8
  exact hk19 _ _ _ _ _ f h
set_option maxRecDepth 100000 in
theorem fr_rounds_J56 {S0 : MS} {Q : MS → Prop} {k19 k19' : MS → Int32 → Int32 → Int32 → Int32 → Prop} {U56 : MS} {t56_0 : Int32} {v56_1 : Int32} {v56_3 : Int32} {v56_4 : Int32} (hk19 : ∀ (u : MS) (z0) (z1) (z2) (z3), frm [75, 77, 78, 79, 80, 81, 86, 87, 88, 89, 90] [139] S0 u → k19 u z0 z1 z2 z3 → k19' u z0 z1 z2 z3) (f : frm [75, 77, 78, 79, 80, 81, 86, 87, 88, 89, 90] [139] S0 U56) (h : w_rounds_J56 Q k19 U56 t56_0 v56_1 v56_3 v56_4) : w_rounds_J56 (fun u => Q u ∧ frm [75, 77, 78, 79, 80, 81, 86, 87, 88, 89, 90] [139] S0 u) k19' U56 t56_0 v56_1 v56_3 v56_4 := by
  unfold w_rounds_J56 at h ⊢
  exact fr_rounds_J57 hk19 f h
set_option maxRecDepth 100000 in
theorem fr_rounds_J51 {S0 : MS} {Q : MS → Prop} {k19 k19' : MS → Int32 → Int32 → Int32 → Int32 → Prop} {U51 : MS} {v51_1 : Int32} {v51_3 : Int32} {v51_4 : Int32} (hk19 : ∀ (u : MS) (z0) (z1) (z2) (z3), frm [75, 77, 78, 79, 80, 81, 86, 87, 88, 89, 90] [139] S0 u → k19 u z0 z1 z2 z3 → k19' u z0 z1 z2 z3) (f : frm [75, 77, 78, 79, 80, 81, 86, 87, 88, 89, 90] [139] S0 U51) (h : w_rounds_J51 Q k19 U51 v51_1 v51_3 v51_4) : w_rounds_J51 (fun u => Q u ∧ frm [75, 77, 78, 79, 80, 81, 86, 87, 88, 89, 90] [139] S0 u) k19' U51 v51_1 v51_3 v51_4 := by
  unfold w_rounds_J51 at h ⊢
  exact fr_rounds_J56 hk19 f h
set_option maxRecDepth 100000 in
theorem fr_rounds_L19 {S0 : MS} {Q : MS → Prop} {k4 k4' : MS → Int32 → Int32 → Int32 → Prop} (hk4 : ∀ (u : MS) (z0) (z1) (z2), frm [75, 77, 78, 79, 80, 81, 86, 87, 88, 89, 90] [139] S0 u → k4 u z0 z1 z2 → k4' u z0 z1 z2) : ∀ (n : Nat) {U19 : MS} {v19_1 : Int32} {v19_2 : Int32} {v19_3 : Int32} {v19_4 : Int32}, frm [75, 77, 78, 79, 80, 81, 86, 87, 88, 89, 90] [139] S0 U19 → w_rounds_L19 Q k4 n U19 v19_1 v19_2 v19_3 v19_4 → w_rounds_L19 (fun u => Q u ∧ frm [75, 77, 78, 79, 80, 81, 86, 87, 88, 89, 90] [139] S0 u) k4' n U19 v19_1 v19_2 v19_3 v19_4 := by
  intro n
  induction n with
  | zero => intro U19 v19_1 v19_2 v19_3 v19_4 f h; unfold w_rounds_L19 at h; exact h.elim
  | succ n ih =>
    intro U19 v19_1 v19_2 v19_3 v19_4 f h
    unfold w_rounds_L19 at h ⊢
    refine ⟨fun c => ?_, fun c => ?_⟩
    · replace h := h.1 c
      intro a4 ea4
      replace h := h a4 ea4
      exact hk4 _ _ _ _ f h
    · replace h := h.2 c
      refine ⟨fun c => ?_, fun c => ?_⟩
      · replace h := h.1 c
        obtain ⟨Q9, h0, h⟩ := h
        refine ⟨_, fr_pass h0, ?_⟩
        · intro r11 S12 hq
          replace h := h r11 S12 hq.1
          replace f := f.tr (hq.2.mo (by decide) (by decide))
          refine ⟨fun c => ?_, fun c => ?_⟩
          · replace h := h.1 c
            refine ⟨fun c => ?_, fun c => ?_⟩
            · replace h := h.1 c
              exact fr_rounds_J56 (fun _ _ _ _ _ f h => ih f h) f h
            · replace h := h.2 c
              exact fr_rounds_J51 (fun _ _ _ _ _ f h => ih f h) f h
          · replace h := h.2 c
            exact fr_rounds_J51 (fun _ _ _ _ _ f h => ih f h) f h
      · replace h := h.2 c
        exact fr_rounds_J57 (fun _ _ _ _ _ f h => ih f h) f h
set_option maxRecDepth 100000 in
theorem fr_rounds_L4 {S0 : MS} {Q : MS → Prop} : ∀ (n : Nat) {U4 : MS} {v4_1 : Int32} {v4_2 : Int32} {v4_3 : Int32}, frm [75, 77, 78, 79, 80, 81, 86, 87, 88, 89, 90] [139] S0 U4 → w_rounds_L4 Q n U4 v4_1 v4_2 v4_3 → w_rounds_L4 (fun u => Q u ∧ frm [75, 77, 78, 79, 80, 81, 86, 87, 88, 89, 90] [139] S0 u) n U4 v4_1 v4_2 v4_3 := by
  intro n
  induction n with
  | zero => intro U4 v4_1 v4_2 v4_3 f h; unfold w_rounds_L4 at h; exact h.elim
  | succ n ih =>
    intro U4 v4_1 v4_2 v4_3 f h
    unfold w_rounds_L4 at h ⊢
    refine ⟨fun c => ?_, fun c => ?_⟩
    · replace h := h.1 c
      exact ⟨h, f⟩
    · replace h := h.2 c
      refine ⟨fun c => ?_, fun c => ?_⟩
      · replace h := h.1 c
        exact ⟨h, f⟩
      · replace h := h.2 c
        obtain ⟨n9, h⟩ := h
        exact ⟨n9, fr_rounds_L19 (fun _ _ _ _ f h => ih f h) n9 f h⟩
set_option maxRecDepth 100000 in
theorem fr_rounds {S : MS} {x1 : Int32} {Q : MS → Prop} (h : w_rounds S x1 Q) : w_rounds S x1 (fun u => Q u ∧ frm [75, 77, 78, 79, 80, 81, 86, 87, 88, 89, 90] [139] S u) := by
  have f : frm [75, 77, 78, 79, 80, 81, 86, 87, 88, 89, 90] [139] S S := frm.rf
  unfold w_rounds at h ⊢
  obtain ⟨n9, h⟩ := h
  exact ⟨n9, fr_rounds_L4 n9 f h⟩
set_option maxRecDepth 100000 in
theorem fr_watch_J244 {S0 : MS} {Q : MS → Prop} {U244 : MS} {v244_3 : Int32} (f : frm [] [96] S0 U244) (h : w_watch_J244 Q U244 v244_3) : w_watch_J244 (fun u => Q u ∧ frm [] [96] S0 u) U244 v244_3 := by
  unfold w_watch_J244 at h ⊢
  refine ⟨fun c => ?_, fun c => ?_⟩
  · replace h := h.1 c
    intro S15 eS15
    replace h := h S15 eS15
    replace f := f.tr (show frm [] [96] U244 S15 by rw [eS15]; exact frm.pI0 (by decide))
    exact ⟨h, f⟩
  · replace h := h.2 c
    exact ⟨h, f⟩
set_option maxRecDepth 100000 in
theorem fr_watch_J235 {S0 : MS} {Q : MS → Prop} {k148 k148' : MS → Int32 → Nat → Int32 → Int32 → Prop} {U235 : MS} {t235_0 : Int32} {t235_1 : Int32} {v235_3 : Int32} {v235_4 : Nat} {v235_6 : Int32} (hk148 : ∀ (u : MS) (z0) (z1) (z2) (z3), frm [] [96] S0 u → k148 u z0 z1 z2 z3 → k148' u z0 z1 z2 z3) (f : frm [] [96] S0 U235) (h : w_watch_J235 Q k148 U235 t235_0 t235_1 v235_3 v235_4 v235_6) : w_watch_J235 (fun u => Q u ∧ frm [] [96] S0 u) k148' U235 t235_0 t235_1 v235_3 v235_4 v235_6 := by
  unfold w_watch_J235 at h ⊢
  intro a29 ea29
  replace h := h a29 ea29
  intro a30 ea30
  replace h := h a30 ea30
  exact hk148 _ _ _ _ _ f h
set_option maxRecDepth 100000 in
theorem fr_watch_J215 {S0 : MS} {Q : MS → Prop} {k148 k148' : MS → Int32 → Nat → Int32 → Int32 → Prop} {U215 : MS} {t215_0 : Int32} {v215_4 : Nat} {v215_5 : Int32} {v215_6 : Int32} (hk148 : ∀ (u : MS) (z0) (z1) (z2) (z3), frm [] [96] S0 u → k148 u z0 z1 z2 z3 → k148' u z0 z1 z2 z3) (f : frm [] [96] S0 U215) (h : w_watch_J215 Q k148 U215 t215_0 v215_4 v215_5 v215_6) : w_watch_J215 (fun u => Q u ∧ frm [] [96] S0 u) k148' U215 t215_0 v215_4 v215_5 v215_6 := by
  unfold w_watch_J215 at h ⊢
  refine ⟨h.1, ?_⟩
  replace h := h.2
  refine ⟨fun c => ?_, fun c => ?_⟩
  · replace h := h.1 c
    exact fr_watch_J235 hk148 f h
  · replace h := h.2 c
    exact fr_watch_J235 hk148 f h
set_option maxRecDepth 100000 in
theorem fr_watch_J195 {S0 : MS} {Q : MS → Prop} {k148 k148' : MS → Int32 → Nat → Int32 → Int32 → Prop} {U195 : MS} {v195_4 : Nat} {v195_5 : Int32} {v195_6 : Int32} (hk148 : ∀ (u : MS) (z0) (z1) (z2) (z3), frm [] [96] S0 u → k148 u z0 z1 z2 z3 → k148' u z0 z1 z2 z3) (f : frm [] [96] S0 U195) (h : w_watch_J195 Q k148 U195 v195_4 v195_5 v195_6) : w_watch_J195 (fun u => Q u ∧ frm [] [96] S0 u) k148' U195 v195_4 v195_5 v195_6 := by
  unfold w_watch_J195 at h ⊢
  exact fr_watch_J215 hk148 f h
set_option maxRecDepth 100000 in
theorem fr_watch_L148 {S0 : MS} {Q : MS → Prop} : ∀ (n : Nat) {U148 : MS} {v148_3 : Int32} {v148_4 : Nat} {v148_5 : Int32} {v148_6 : Int32}, frm [] [96] S0 U148 → w_watch_L148 Q n U148 v148_3 v148_4 v148_5 v148_6 → w_watch_L148 (fun u => Q u ∧ frm [] [96] S0 u) n U148 v148_3 v148_4 v148_5 v148_6 := by
  intro n
  induction n with
  | zero => intro U148 v148_3 v148_4 v148_5 v148_6 f h; unfold w_watch_L148 at h; exact h.elim
  | succ n ih =>
    intro U148 v148_3 v148_4 v148_5 v148_6 f h
    unfold w_watch_L148 at h ⊢
    refine ⟨fun c => ?_, fun c => ?_⟩
    · replace h := h.1 c
      exact fr_watch_J244 f h
    · replace h := h.2 c
      refine ⟨fun c => ?_, fun c => ?_⟩
      · replace h := h.1 c
        exact fr_watch_J244 f h
      · replace h := h.2 c
        refine ⟨h.1, ?_⟩
        replace h := h.2
        refine ⟨fun c => ?_, fun c => ?_⟩
        · replace h := h.1 c
          refine ⟨h.1, ?_⟩
          replace h := h.2
          refine ⟨fun c => ?_, fun c => ?_⟩
          · replace h := h.1 c
            refine ⟨h.1, ?_⟩
            replace h := h.2
            refine ⟨fun c => ?_, fun c => ?_⟩
            · replace h := h.1 c
              exact fr_watch_J215 (fun _ _ _ _ _ f h => ih f h) f h
            · replace h := h.2 c
              exact fr_watch_J195 (fun _ _ _ _ _ f h => ih f h) f h
          · replace h := h.2 c
            exact fr_watch_J195 (fun _ _ _ _ _ f h => ih f h) f h
        · replace h := h.2 c
          refine ⟨h.1, ?_⟩
          replace h := h.2
          refine ⟨h.1, ?_⟩
          replace h := h.2
          refine ⟨h.1, ?_⟩
          replace h := h.2
          exact fr_watch_J215 (fun _ _ _ _ _ f h => ih f h) f h
set_option maxRecDepth 100000 in
theorem fr_watch_J129 {S0 : MS} {Q : MS → Prop} {U129 : MS} {v129_1 : Int32} {v129_3 : Int32} (f : frm [] [96] S0 U129) (h : w_watch_J129 Q U129 v129_1 v129_3) : w_watch_J129 (fun u => Q u ∧ frm [] [96] S0 u) U129 v129_1 v129_3 := by
  unfold w_watch_J129 at h ⊢
  refine ⟨h.1, ?_⟩
  replace h := h.2
  intro a21 ea21
  replace h := h a21 ea21
  obtain ⟨n9, h⟩ := h
  exact ⟨n9, fr_watch_L148 n9 f h⟩
set_option maxRecDepth 100000 in
theorem fr_watch_J101 {S0 : MS} {Q : MS → Prop} {U101 : MS} {v101_1 : Int32} {v101_3 : Int32} (f : frm [] [96] S0 U101) (h : w_watch_J101 Q U101 v101_1 v101_3) : w_watch_J101 (fun u => Q u ∧ frm [] [96] S0 u) U101 v101_1 v101_3 := by
  unfold w_watch_J101 at h ⊢
  refine ⟨fun c => ?_, fun c => ?_⟩
  · replace h := h.1 c
    exact fr_watch_J129 f h
  · replace h := h.2 c
    refine ⟨h.1, ?_⟩
    replace h := h.2
    refine ⟨h.1, ?_⟩
    replace h := h.2
    refine ⟨fun c => ?_, fun c => ?_⟩
    · replace h := h.1 c
      exact fr_watch_J129 f h
    · replace h := h.2 c
      refine ⟨h.1, ?_⟩
      replace h := h.2
      refine ⟨h.1, ?_⟩
      replace h := h.2
      intro a64 ea64
      replace h := h a64 ea64
      exact fr_watch_J244 f h
set_option maxRecDepth 100000 in
theorem fr_watch_L41 {S0 : MS} {Q : MS → Prop} : ∀ (n : Nat) {U41 : MS} {v41_1 : Int32} {v41_2 : Int32} {v41_3 : Int32} {v41_4 : Int32}, frm [] [96] S0 U41 → w_watch_L41 Q n U41 v41_1 v41_2 v41_3 v41_4 → w_watch_L41 (fun u => Q u ∧ frm [] [96] S0 u) n U41 v41_1 v41_2 v41_3 v41_4 := by
  intro n
  induction n with
  | zero => intro U41 v41_1 v41_2 v41_3 v41_4 f h; unfold w_watch_L41 at h; exact h.elim
  | succ n ih =>
    intro U41 v41_1 v41_2 v41_3 v41_4 f h
    unfold w_watch_L41 at h ⊢
    refine ⟨fun c => ?_, fun c => ?_⟩
    · replace h := h.1 c
      exact fr_watch_J101 f h
    · replace h := h.2 c
      refine ⟨fun c => ?_, fun c => ?_⟩
      · replace h := h.1 c
        exact fr_watch_J101 f h
      · replace h := h.2 c
        refine ⟨h.1, ?_⟩
        replace h := h.2
        refine ⟨h.1, ?_⟩
        replace h := h.2
        refine ⟨h.1, ?_⟩
        replace h := h.2
        refine ⟨h.1, ?_⟩
        replace h := h.2
        refine ⟨h.1, ?_⟩
        replace h := h.2
        refine ⟨h.1, ?_⟩
        replace h := h.2
        intro a88 ea88
        replace h := h a88 ea88
        intro a89 ea89
        replace h := h a89 ea89
        exact ih f h
set_option maxRecDepth 100000 in
theorem fr_watch_J37 {S0 : MS} {Q : MS → Prop} {U37 : MS} {t37_0 : Int32} {v37_1 : Int32} {v37_2 : Int32} (f : frm [] [96] S0 U37) (h : w_watch_J37 Q U37 t37_0 v37_1 v37_2) : w_watch_J37 (fun u => Q u ∧ frm [] [96] S0 u) U37 t37_0 v37_1 v37_2 := by
  unfold w_watch_J37 at h ⊢
  obtain ⟨n9, h⟩ := h
  exact ⟨n9, fr_watch_L41 n9 f h⟩
set_option maxRecDepth 100000 in
theorem fr_watch {S : MS} {x1 : Int32} {Q : MS → Prop} (h : w_watch S x1 Q) : w_watch S x1 (fun u => Q u ∧ frm [] [96] S u) := by
  have f : frm [] [96] S S := frm.rf
  unfold w_watch at h ⊢
  intro a3 ea3
  replace h := h a3 ea3
  refine ⟨h.1, ?_⟩
  replace h := h.2
  refine ⟨h.1, ?_⟩
  replace h := h.2
  refine ⟨h.1, ?_⟩
  replace h := h.2
  refine ⟨h.1, ?_⟩
  replace h := h.2
  refine ⟨fun c => ?_, fun c => ?_⟩
  · replace h := h.1 c
    exact fr_watch_J37 f h
  · replace h := h.2 c
    exact fr_watch_J37 f h
set_option maxRecDepth 100000 in
theorem fr_workOne_J32 {S0 : MS} {Q : Int32 → MS → Prop} {U32 : MS} {v32_2 : Int32} (f : frm [43, 44, 46, 48] [47, 48, 49, 50, 51, 52, 53, 54, 97, 98, 102] S0 U32) (h : w_workOne_J32 Q U32 v32_2) : w_workOne_J32 (fun r u => Q r u ∧ frm [43, 44, 46, 48] [47, 48, 49, 50, 51, 52, 53, 54, 97, 98, 102] S0 u) U32 v32_2 := by
  unfold w_workOne_J32 at h ⊢
  refine ⟨fun c => ?_, fun c => ?_⟩
  · replace h := h.1 c
    obtain ⟨Q9, h0, h⟩ := h
    refine ⟨_, fr_gotInt h0, ?_⟩
    · intro r3 S4 hq
      replace h := h r3 S4 hq.1
      replace f := f.tr (hq.2.mo (by decide) (by decide))
      obtain ⟨Q9, h0, h⟩ := h
      refine ⟨_, fr_putInt h0, ?_⟩
      · intro S8 hq
        replace h := h S8 hq.1
        replace f := f.tr (hq.2.mo (by decide) (by decide))
        exact ⟨h, f⟩
  · replace h := h.2 c
    obtain ⟨Q9, h0, h⟩ := h
    refine ⟨_, fr_got h0, ?_⟩
    · intro r11 S12 hq
      replace h := h r11 S12 hq.1
      replace f := f.tr (hq.2.mo (by decide) (by decide))
      obtain ⟨Q9, h0, h⟩ := h
      refine ⟨_, fr_put h0, ?_⟩
      · intro S16 hq
        replace h := h S16 hq.1
        replace f := f.tr (hq.2.mo (by decide) (by decide))
        exact ⟨h, f⟩
set_option maxRecDepth 100000 in
theorem fr_workOne_J171 {S0 : MS} {Q : Int32 → MS → Prop} {U171 : MS} {v171_1 : Int32} {v171_2 : Int32} {v171_3 : Int64} {v171_5 : Int64} (f : frm [43, 44, 46, 48] [47, 48, 49, 50, 51, 52, 53, 54, 97, 98, 102] S0 U171) (h : w_workOne_J171 Q U171 v171_1 v171_2 v171_3 v171_5) : w_workOne_J171 (fun r u => Q r u ∧ frm [43, 44, 46, 48] [47, 48, 49, 50, 51, 52, 53, 54, 97, 98, 102] S0 u) U171 v171_1 v171_2 v171_3 v171_5 := by
  unfold w_workOne_J171 at h ⊢
  refine ⟨fun c => ?_, fun c => ?_⟩
  · replace h := h.1 c
    refine ⟨h.1, ?_⟩
    replace h := h.2
    obtain ⟨Q9, h0, h⟩ := h
    refine ⟨_, fr_putInt h0, ?_⟩
    · intro S30 hq
      replace h := h S30 hq.1
      replace f := f.tr (hq.2.mo (by decide) (by decide))
      exact ⟨h, f⟩
  · replace h := h.2 c
    refine ⟨h.1, ?_⟩
    replace h := h.2
    obtain ⟨Q9, h0, h⟩ := h
    refine ⟨_, fr_put h0, ?_⟩
    · intro S36 hq
      replace h := h S36 hq.1
      replace f := f.tr (hq.2.mo (by decide) (by decide))
      exact ⟨h, f⟩
set_option maxRecDepth 100000 in
theorem fr_workOne_J105 {S0 : MS} {Q : Int32 → MS → Prop} {U105 : MS} {t105_0 : Int32} {v105_1 : Int32} {v105_2 : Int32} {v105_3 : Int64} (f : frm [43, 44, 46, 48] [47, 48, 49, 50, 51, 52, 53, 54, 97, 98, 102] S0 U105) (h : w_workOne_J105 Q U105 t105_0 v105_1 v105_2 v105_3) : w_workOne_J105 (fun r u => Q r u ∧ frm [43, 44, 46, 48] [47, 48, 49, 50, 51, 52, 53, 54, 97, 98, 102] S0 u) U105 t105_0 v105_1 v105_2 v105_3 := by
  unfold w_workOne_J105 at h ⊢
  obtain ⟨Q9, h0, h⟩ := h
  refine ⟨_, fr_got h0, ?_⟩
  · intro r21 S22 hq
    replace h := h r21 S22 hq.1
    replace f := f.tr (hq.2.mo (by decide) (by decide))
    refine ⟨fun c => ?_, fun c => ?_⟩
    · replace h := h.1 c
      refine ⟨fun c => ?_, fun c => ?_⟩
      · replace h := h.1 c
        refine ⟨fun c => ?_, fun c => ?_⟩
        · replace h := h.1 c
          obtain ⟨Q9, h0, h⟩ := h
          refine ⟨_, fr_putInt h0, ?_⟩
          · intro S50 hq
            replace h := h S50 hq.1
            replace f := f.tr (hq.2.mo (by decide) (by decide))
            exact ⟨h, f⟩
        · replace h := h.2 c
          obtain ⟨Q9, h0, h⟩ := h
          refine ⟨_, fr_putInt h0, ?_⟩
          · intro S53 hq
            replace h := h S53 hq.1
            replace f := f.tr (hq.2.mo (by decide) (by decide))
            exact ⟨h, f⟩
      · replace h := h.2 c
        obtain ⟨Q9, h0, h⟩ := h
        refine ⟨_, fr_putInt h0, ?_⟩
        · intro S56 hq
          replace h := h S56 hq.1
          replace f := f.tr (hq.2.mo (by decide) (by decide))
          exact ⟨h, f⟩
    · replace h := h.2 c
      refine ⟨fun c => ?_, fun c => ?_⟩
      · replace h := h.1 c
        exact fr_workOne_J171 f h
      · replace h := h.2 c
        refine ⟨fun c => ?_, fun c => ?_⟩
        · replace h := h.1 c
          exact fr_workOne_J171 f h
        · replace h := h.2 c
          refine ⟨fun c => ?_, fun c => ?_⟩
          · replace h := h.1 c
            obtain ⟨Q9, h0, h⟩ := h
            refine ⟨_, fr_throwError h0, ?_⟩
            · intro S43 hq
              replace h := h S43 hq.1
              replace f := f.tr (hq.2.mo (by decide) (by decide))
              exact ⟨h, f⟩
          · replace h := h.2 c
            exact fr_workOne_J171 f h
set_option maxRecDepth 100000 in
theorem fr_workOne_J94 {S0 : MS} {Q : Int32 → MS → Prop} {U94 : MS} {t94_0 : Int64} {v94_1 : Int32} {v94_2 : Int32} (f : frm [43, 44, 46, 48] [47, 48, 49, 50, 51, 52, 53, 54, 97, 98, 102] S0 U94) (h : w_workOne_J94 Q U94 t94_0 v94_1 v94_2) : w_workOne_J94 (fun r u => Q r u ∧ frm [43, 44, 46, 48] [47, 48, 49, 50, 51, 52, 53, 54, 97, 98, 102] S0 u) U94 t94_0 v94_1 v94_2 := by
  unfold w_workOne_J94 at h ⊢
  refine ⟨fun c => ?_, fun c => ?_⟩
  · replace h := h.1 c
    exact fr_workOne_J105 f h
  · replace h := h.2 c
    exact fr_workOne_J105 f h
set_option maxRecDepth 100000 in
theorem fr_workOne_J91 {S0 : MS} {Q : Int32 → MS → Prop} {U91 : MS} {t91_0 : Int32} {v91_1 : Int32} {v91_2 : Int32} (f : frm [43, 44, 46, 48] [47, 48, 49, 50, 51, 52, 53, 54, 97, 98, 102] S0 U91) (h : w_workOne_J91 Q U91 t91_0 v91_1 v91_2) : w_workOne_J91 (fun r u => Q r u ∧ frm [43, 44, 46, 48] [47, 48, 49, 50, 51, 52, 53, 54, 97, 98, 102] S0 u) U91 t91_0 v91_1 v91_2 := by
  unfold w_workOne_J91 at h ⊢
  obtain ⟨Q9, h0, h⟩ := h
  refine ⟨_, fr_got h0, ?_⟩
  · intro r60 S61 hq
    replace h := h r60 S61 hq.1
    replace f := f.tr (hq.2.mo (by decide) (by decide))
    exact fr_workOne_J94 f h
set_option maxRecDepth 100000 in
theorem fr_workOne_J81 {S0 : MS} {Q : Int32 → MS → Prop} {U81 : MS} {v81_1 : Int32} {v81_2 : Int32} (f : frm [43, 44, 46, 48] [47, 48, 49, 50, 51, 52, 53, 54, 97, 98, 102] S0 U81) (h : w_workOne_J81 Q U81 v81_1 v81_2) : w_workOne_J81 (fun r u => Q r u ∧ frm [43, 44, 46, 48] [47, 48, 49, 50, 51, 52, 53, 54, 97, 98, 102] S0 u) U81 v81_1 v81_2 := by
  unfold w_workOne_J81 at h ⊢
  refine ⟨fun c => ?_, fun c => ?_⟩
  · replace h := h.1 c
    exact fr_workOne_J91 f h
  · replace h := h.2 c
    exact fr_workOne_J91 f h
set_option maxRecDepth 100000 in
theorem fr_workOne_J19 {S0 : MS} {Q : Int32 → MS → Prop} {U19 : MS} {t19_0 : Int32} {v19_1 : Int32} (f : frm [43, 44, 46, 48] [47, 48, 49, 50, 51, 52, 53, 54, 97, 98, 102] S0 U19) (h : w_workOne_J19 Q U19 t19_0 v19_1) : w_workOne_J19 (fun r u => Q r u ∧ frm [43, 44, 46, 48] [47, 48, 49, 50, 51, 52, 53, 54, 97, 98, 102] S0 u) U19 t19_0 v19_1 := by
  unfold w_workOne_J19 at h ⊢
  refine ⟨fun c => ?_, fun c => ?_⟩
  · replace h := h.1 c
    exact fr_workOne_J32 f h
  · replace h := h.2 c
    refine ⟨fun c => ?_, fun c => ?_⟩
    · replace h := h.1 c
      exact fr_workOne_J32 f h
    · replace h := h.2 c
      refine ⟨fun c => ?_, fun c => ?_⟩
      · replace h := h.1 c
        exact fr_workOne_J81 f h
      · replace h := h.2 c
        refine ⟨fun c => ?_, fun c => ?_⟩
        · replace h := h.1 c
          exact fr_workOne_J81 f h
        · replace h := h.2 c
          obtain ⟨Q9, h0, h⟩ := h
          refine ⟨_, fr_got h0, ?_⟩
          · intro r67 S68 hq
            replace h := h r67 S68 hq.1
            replace f := f.tr (hq.2.mo (by decide) (by decide))
            exact fr_workOne_J94 f h
set_option maxRecDepth 100000 in
theorem fr_workOne_J14 {S0 : MS} {Q : Int32 → MS → Prop} {U14 : MS} {v14_1 : Int32} (f : frm [43, 44, 46, 48] [47, 48, 49, 50, 51, 52, 53, 54, 97, 98, 102] S0 U14) (h : w_workOne_J14 Q U14 v14_1) : w_workOne_J14 (fun r u => Q r u ∧ frm [43, 44, 46, 48] [47, 48, 49, 50, 51, 52, 53, 54, 97, 98, 102] S0 u) U14 v14_1 := by
  unfold w_workOne_J14 at h ⊢
  exact fr_workOne_J19 f h
set_option maxRecDepth 100000 in
theorem fr_workOne {S : MS} {x1 : Int32} {Q : Int32 → MS → Prop} (h : w_workOne S x1 Q) : w_workOne S x1 (fun r u => Q r u ∧ frm [43, 44, 46, 48] [47, 48, 49, 50, 51, 52, 53, 54, 97, 98, 102] S u) := by
  have f : frm [43, 44, 46, 48] [47, 48, 49, 50, 51, 52, 53, 54, 97, 98, 102] S S := frm.rf
  unfold w_workOne at h ⊢
  refine ⟨fun c => ?_, fun c => ?_⟩
  · replace h := h.1 c
    exact fr_workOne_J14 f h
  · replace h := h.2 c
    refine ⟨fun c => ?_, fun c => ?_⟩
    · replace h := h.1 c
      exact fr_workOne_J14 f h
    · replace h := h.2 c
      exact fr_workOne_J19 f h
set_option maxRecDepth 100000 in
theorem fr_step_J85 {S0 : MS} {Q : MS → Prop} {U85 : MS} {v85_1 : Int32} {v85_2 : Int32} (f : frm [37, 38, 39, 40, 42, 43, 44, 45, 46, 47, 48] [47, 48, 49, 50, 51, 52, 53, 54, 85, 86, 96, 97, 98, 101, 102] S0 U85) (h : w_step_J85 Q U85 v85_1 v85_2) : w_step_J85 (fun u => Q u ∧ frm [37, 38, 39, 40, 42, 43, 44, 45, 46, 47, 48] [47, 48, 49, 50, 51, 52, 53, 54, 85, 86, 96, 97, 98, 101, 102] S0 u) U85 v85_1 v85_2 := by
  unfold w_step_J85 at h ⊢
  obtain ⟨Q9, h0, h⟩ := h
  refine ⟨_, fr_workOne h0, ?_⟩
  · intro r29 S30 hq
    replace h := h r29 S30 hq.1
    replace f := f.tr (hq.2.mo (by decide) (by decide))
    refine ⟨fun c => ?_, fun c => ?_⟩
    · replace h := h.1 c
      exact ⟨h, f⟩
    · replace h := h.2 c
      obtain ⟨Q9, h0, h⟩ := h
      refine ⟨_, fr_goTo h0, ?_⟩
      · intro S35 hq
        replace h := h S35 hq.1
        replace f := f.tr (hq.2.mo (by decide) (by decide))
        exact ⟨h, f⟩
set_option maxRecDepth 100000 in
theorem fr_step_J154 {S0 : MS} {Q : MS → Prop} {U154 : MS} {v154_2 : Int32} (f : frm [37, 38, 39, 40, 42, 43, 44, 45, 46, 47, 48] [47, 48, 49, 50, 51, 52, 53, 54, 85, 86, 96, 97, 98, 101, 102] S0 U154) (h : w_step_J154 Q U154 v154_2) : w_step_J154 (fun u => Q u ∧ frm [37, 38, 39, 40, 42, 43, 44, 45, 46, 47, 48] [47, 48, 49, 50, 51, 52, 53, 54, 85, 86, 96, 97, 98, 101, 102] S0 u) U154 v154_2 := by
  unfold w_step_J154 at h ⊢
  obtain ⟨Q9, h0, h⟩ := h
  refine ⟨_, fr_leave h0, ?_⟩
  · intro S43 hq
    replace h := h S43 hq.1
    replace f := f.tr (hq.2.mo (by decide) (by decide))
    exact ⟨h, f⟩
set_option maxRecDepth 100000 in
theorem fr_step_J78 {S0 : MS} {Q : MS → Prop} {U78 : MS} {v78_1 : Int32} {v78_2 : Int32} {v78_3 : Int32} (f : frm [37, 38, 39, 40, 42, 43, 44, 45, 46, 47, 48] [47, 48, 49, 50, 51, 52, 53, 54, 85, 86, 96, 97, 98, 101, 102] S0 U78) (h : w_step_J78 Q U78 v78_1 v78_2 v78_3) : w_step_J78 (fun u => Q u ∧ frm [37, 38, 39, 40, 42, 43, 44, 45, 46, 47, 48] [47, 48, 49, 50, 51, 52, 53, 54, 85, 86, 96, 97, 98, 101, 102] S0 u) U78 v78_1 v78_2 v78_3 := by
  unfold w_step_J78 at h ⊢
  refine ⟨fun c => ?_, fun c => ?_⟩
  · replace h := h.1 c
    exact fr_step_J85 f h
  · replace h := h.2 c
    refine ⟨h.1, ?_⟩
    replace h := h.2
    refine ⟨fun c => ?_, fun c => ?_⟩
    · replace h := h.1 c
      refine ⟨fun c => ?_, fun c => ?_⟩
      · replace h := h.1 c
        exact fr_step_J154 f h
      · replace h := h.2 c
        refine ⟨fun c => ?_, fun c => ?_⟩
        · replace h := h.1 c
          exact fr_step_J154 f h
        · replace h := h.2 c
          refine ⟨fun c => ?_, fun c => ?_⟩
          · replace h := h.1 c
            exact fr_step_J154 f h
          · replace h := h.2 c
            refine ⟨fun c => ?_, fun c => ?_⟩
            · replace h := h.1 c
              exact fr_step_J154 f h
            · replace h := h.2 c
              refine ⟨fun c => ?_, fun c => ?_⟩
              · replace h := h.1 c
                obtain ⟨Q9, h0, h⟩ := h
                refine ⟨_, fr_called h0, ?_⟩
                · intro S60 hq
                  replace h := h S60 hq.1
                  replace f := f.tr (hq.2.mo (by decide) (by decide))
                  exact ⟨h, f⟩
              · replace h := h.2 c
                obtain ⟨Q9, h0, h⟩ := h
                refine ⟨_, fr_plain h0, ?_⟩
                · intro r51 S52 hq
                  replace h := h r51 S52 hq.1
                  replace f := f.tr (hq.2.mo (by decide) (by decide))
                  refine ⟨fun c => ?_, fun c => ?_⟩
                  · replace h := h.1 c
                    exact ⟨h, f⟩
                  · replace h := h.2 c
                    obtain ⟨Q9, h0, h⟩ := h
                    refine ⟨_, fr_goTo h0, ?_⟩
                    · intro S57 hq
                      replace h := h S57 hq.1
                      replace f := f.tr (hq.2.mo (by decide) (by decide))
                      exact ⟨h, f⟩
    · replace h := h.2 c
      obtain ⟨Q9, h0, h⟩ := h
      refine ⟨_, fr_gotInt h0, ?_⟩
      · intro r63 S64 hq
        replace h := h r63 S64 hq.1
        replace f := f.tr (hq.2.mo (by decide) (by decide))
        obtain ⟨Q9, h0, h⟩ := h
        refine ⟨_, fr_chosen h0, ?_⟩
        · intro r67 S68 hq
          replace h := h r67 S68 hq.1
          replace f := f.tr (hq.2.mo (by decide) (by decide))
          obtain ⟨Q9, h0, h⟩ := h
          refine ⟨_, fr_goTo h0, ?_⟩
          · intro S71 hq
            replace h := h S71 hq.1
            replace f := f.tr (hq.2.mo (by decide) (by decide))
            exact ⟨h, f⟩
set_option maxRecDepth 100000 in
theorem fr_step {S : MS} {Q : MS → Prop} (h : w_step S  Q) : w_step S  (fun u => Q u ∧ frm [37, 38, 39, 40, 42, 43, 44, 45, 46, 47, 48] [47, 48, 49, 50, 51, 52, 53, 54, 85, 86, 96, 97, 98, 101, 102] S u) := by
  have f : frm [37, 38, 39, 40, 42, 43, 44, 45, 46, 47, 48] [47, 48, 49, 50, 51, 52, 53, 54, 85, 86, 96, 97, 98, 101, 102] S S := frm.rf
  unfold w_step at h ⊢
  refine ⟨h.1, ?_⟩
  replace h := h.2
  refine ⟨h.1, ?_⟩
  replace h := h.2
  obtain ⟨Q9, h0, h⟩ := h
  refine ⟨_, fr_look h0, ?_⟩
  · intro S7 hq
    replace h := h S7 hq.1
    replace f := f.tr (hq.2.mo (by decide) (by decide))
    refine ⟨h.1, ?_⟩
    replace h := h.2
    intro a12 ea12
    replace h := h a12 ea12
    obtain ⟨Q9, h0, h⟩ := h
    refine ⟨_, fr_watch h0, ?_⟩
    · intro S14 hq
      replace h := h S14 hq.1
      replace f := f.tr (hq.2.mo (by decide) (by decide))
      refine ⟨h.1, ?_⟩
      replace h := h.2
      intro a19 ea19
      replace h := h a19 ea19
      refine ⟨h.1, ?_⟩
      replace h := h.2
      intro a23 ea23
      replace h := h a23 ea23
      refine ⟨h.1, ?_⟩
      replace h := h.2
      refine ⟨fun c => ?_, fun c => ?_⟩
      · replace h := h.1 c
        refine ⟨fun c => ?_, fun c => ?_⟩
        · replace h := h.1 c
          exact fr_step_J78 f h
        · replace h := h.2 c
          refine ⟨fun c => ?_, fun c => ?_⟩
          · replace h := h.1 c
            exact fr_step_J85 f h
          · replace h := h.2 c
            exact fr_step_J78 f h
      · replace h := h.2 c
        obtain ⟨Q9, h0, h⟩ := h
        refine ⟨_, fr_jump h0, ?_⟩
        · intro S76 hq
          replace h := h S76 hq.1
          replace f := f.tr (hq.2.mo (by decide) (by decide))
          exact ⟨h, f⟩
set_option maxRecDepth 100000 in
theorem fr_run_J299 {S0 : MS} {Q : Int32 → MS → Prop} {k165 k165' : MS → Int32 → Int32 → Nat → Int32 → Int32 → Prop} {U299 : MS} {t299_0 : Int32} {t299_1 : Int32} {v299_2 : Int32} {v299_3 : Int32} {v299_4 : Nat} {v299_6 : Int32} (hk165 : ∀ (u : MS) (z0) (z1) (z2) (z3) (z4), frm [37, 38, 39, 40, 42, 43, 44, 45, 46, 47, 48] [47, 48, 49, 50, 51, 52, 53, 54, 85, 86, 88, 96, 97, 98, 100, 101, 102] S0 u → k165 u z0 z1 z2 z3 z4 → k165' u z0 z1 z2 z3 z4) (f : frm [37, 38, 39, 40, 42, 43, 44, 45, 46, 47, 48] [47, 48, 49, 50, 51, 52, 53, 54, 85, 86, 88, 96, 97, 98, 100, 101, 102] S0 U299) (h : w_run_J299 Q k165 U299 t299_0 t299_1 v299_2 v299_3 v299_4 v299_6) : w_run_J299 (fun r u => Q r u ∧ frm [37, 38, 39, 40, 42, 43, 44, 45, 46, 47, 48] [47, 48, 49, 50, 51, 52, 53, 54, 85, 86, 88, 96, 97, 98, 100, 101, 102] S0 u) k165' U299 t299_0 t299_1 v299_2 v299_3 v299_4 v299_6 := by
  unfold w_run_J299 at h ⊢
  intro a53 ea53
  replace h := h a53 ea53
  intro a54 ea54
  replace h := h a54 ea54
  exact hk165 _ _ _ _ _ _ f h
set_option maxRecDepth 100000 in
theorem fr_run_J280 {S0 : MS} {Q : Int32 → MS → Prop} {k165 k165' : MS → Int32 → Int32 → Nat → Int32 → Int32 → Prop} {U280 : MS} {v280_2 : Int32} {v280_3 : Int32} {v280_4 : Nat} {v280_5 : Int32} {v280_6 : Int32} (hk165 : ∀ (u : MS) (z0) (z1) (z2) (z3) (z4), frm [37, 38, 39, 40, 42, 43, 44, 45, 46, 47, 48] [47, 48, 49, 50, 51, 52, 53, 54, 85, 86, 88, 96, 97, 98, 100, 101, 102] S0 u → k165 u z0 z1 z2 z3 z4 → k165' u z0 z1 z2 z3 z4) (f : frm [37, 38, 39, 40, 42, 43, 44, 45, 46, 47, 48] [47, 48, 49, 50, 51, 52, 53, 54, 85, 86, 88, 96, 97, 98, 100, 101, 102] S0 U280) (h : w_run_J280 Q k165 U280 v280_2 v280_3 v280_4 v280_5 v280_6) : w_run_J280 (fun r u => Q r u ∧ frm [37, 38, 39, 40, 42, 43, 44, 45, 46, 47, 48] [47, 48, 49, 50, 51, 52, 53, 54, 85, 86, 88, 96, 97, 98, 100, 101, 102] S0 u) k165' U280 v280_2 v280_3 v280_4 v280_5 v280_6 := by
  unfold w_run_J280 at h ⊢
  refine ⟨h.1, ?_⟩
  replace h := h.2
  refine ⟨fun c => ?_, fun c => ?_⟩
  · replace h := h.1 c
    exact fr_run_J299 hk165 f h
  · replace h := h.2 c
    exact fr_run_J299 hk165 f h
set_option maxRecDepth 100000 in
theorem fr_run_J257 {S0 : MS} {Q : Int32 → MS → Prop} {k165 k165' : MS → Int32 → Int32 → Nat → Int32 → Int32 → Prop} {U257 : MS} {t257_0 : Int32} {t257_1 : Int32} {v257_2 : Int32} {v257_3 : Int32} {v257_4 : Nat} {v257_5 : Int32} {v257_6 : Int32} (hk165 : ∀ (u : MS) (z0) (z1) (z2) (z3) (z4), frm [37, 38, 39, 40, 42, 43, 44, 45, 46, 47, 48] [47, 48, 49, 50, 51, 52, 53, 54, 85, 86, 88, 96, 97, 98, 100, 101, 102] S0 u → k165 u z0 z1 z2 z3 z4 → k165' u z0 z1 z2 z3 z4) (f : frm [37, 38, 39, 40, 42, 43, 44, 45, 46, 47, 48] [47, 48, 49, 50, 51, 52, 53, 54, 85, 86, 88, 96, 97, 98, 100, 101, 102] S0 U257) (h : w_run_J257 Q k165 U257 t257_0 t257_1 v257_2 v257_3 v257_4 v257_5 v257_6) : w_run_J257 (fun r u => Q r u ∧ frm [37, 38, 39, 40, 42, 43, 44, 45, 46, 47, 48] [47, 48, 49, 50, 51, 52, 53, 54, 85, 86, 88, 96, 97, 98, 100, 101, 102] S0 u) k165' U257 t257_0 t257_1 v257_2 v257_3 v257_4 v257_5 v257_6 := by
  unfold w_run_J257 at h ⊢
  refine ⟨h.1, ?_⟩
  replace h := h.2
  intro S47 eS47
  replace h := h S47 eS47
  replace f := f.tr (show frm [37, 38, 39, 40, 42, 43, 44, 45, 46, 47, 48] [47, 48, 49, 50, 51, 52, 53, 54, 85, 86, 88, 96, 97, 98, 100, 101, 102] U257 S47 by rw [eS47]; exact frm.pI (by decide))
  refine ⟨h.1, ?_⟩
  replace h := h.2
  refine ⟨fun c => ?_, fun c => ?_⟩
  · replace h := h.1 c
    refine ⟨h.1, ?_⟩
    replace h := h.2
    intro S59 eS59
    replace h := h S59 eS59
    replace f := f.tr (show frm [37, 38, 39, 40, 42, 43, 44, 45, 46, 47, 48] [47, 48, 49, 50, 51, 52, 53, 54, 85, 86, 88, 96, 97, 98, 100, 101, 102] S47 S59 by rw [eS59]; exact frm.pI (by decide))
    exact fr_run_J280 hk165 f h
  · replace h := h.2 c
    exact fr_run_J280 hk165 f h
set_option maxRecDepth 100000 in
theorem fr_run_J208 {S0 : MS} {Q : Int32 → MS → Prop} {k165 k165' : MS → Int32 → Int32 → Nat → Int32 → Int32 → Prop} {U208 : MS} {t208_0 : Int64} {t208_1 : Int32} {v208_2 : Int32} {v208_3 : Int32} {v208_4 : Nat} {v208_5 : Int32} {v208_6 : Int32} (hk165 : ∀ (u : MS) (z0) (z1) (z2) (z3) (z4), frm [37, 38, 39, 40, 42, 43, 44, 45, 46, 47, 48] [47, 48, 49, 50, 51, 52, 53, 54, 85, 86, 88, 96, 97, 98, 100, 101, 102] S0 u → k165 u z0 z1 z2 z3 z4 → k165' u z0 z1 z2 z3 z4) (f : frm [37, 38, 39, 40, 42, 43, 44, 45, 46, 47, 48] [47, 48, 49, 50, 51, 52, 53, 54, 85, 86, 88, 96, 97, 98, 100, 101, 102] S0 U208) (h : w_run_J208 Q k165 U208 t208_0 t208_1 v208_2 v208_3 v208_4 v208_5 v208_6) : w_run_J208 (fun r u => Q r u ∧ frm [37, 38, 39, 40, 42, 43, 44, 45, 46, 47, 48] [47, 48, 49, 50, 51, 52, 53, 54, 85, 86, 88, 96, 97, 98, 100, 101, 102] S0 u) k165' U208 t208_0 t208_1 v208_2 v208_3 v208_4 v208_5 v208_6 := by
  unfold w_run_J208 at h ⊢
  refine ⟨h.1, ?_⟩
  replace h := h.2
  intro S43 eS43
  replace h := h S43 eS43
  replace f := f.tr (show frm [37, 38, 39, 40, 42, 43, 44, 45, 46, 47, 48] [47, 48, 49, 50, 51, 52, 53, 54, 85, 86, 88, 96, 97, 98, 100, 101, 102] U208 S43 by rw [eS43]; exact frm.pJ (by decide))
  refine ⟨h.1, ?_⟩
  replace h := h.2
  refine ⟨fun c => ?_, fun c => ?_⟩
  · replace h := h.1 c
    exact fr_run_J257 hk165 f h
  · replace h := h.2 c
    refine ⟨h.1, ?_⟩
    replace h := h.2
    refine ⟨fun c => ?_, fun c => ?_⟩
    · replace h := h.1 c
      exact fr_run_J257 hk165 f h
    · replace h := h.2 c
      refine ⟨h.1, ?_⟩
      replace h := h.2
      refine ⟨h.1, ?_⟩
      replace h := h.2
      exact fr_run_J257 hk165 f h
set_option maxRecDepth 100000 in
theorem fr_run_J109 {S0 : MS} {Q : Int32 → MS → Prop} {k60 k60' : MS → Int32 → Int32 → Int32 → Nat → Int32 → Prop} {U109 : MS} {v109_1 : Int32} {v109_2 : Int32} {v109_3 : Int32} {v109_4 : Nat} {v109_5 : Int32} (hk60 : ∀ (u : MS) (z0) (z1) (z2) (z3) (z4), frm [37, 38, 39, 40, 42, 43, 44, 45, 46, 47, 48] [47, 48, 49, 50, 51, 52, 53, 54, 85, 86, 88, 96, 97, 98, 100, 101, 102] S0 u → k60 u z0 z1 z2 z3 z4 → k60' u z0 z1 z2 z3 z4) (f : frm [37, 38, 39, 40, 42, 43, 44, 45, 46, 47, 48] [47, 48, 49, 50, 51, 52, 53, 54, 85, 86, 88, 96, 97, 98, 100, 101, 102] S0 U109) (h : w_run_J109 Q k60 U109 v109_1 v109_2 v109_3 v109_4 v109_5) : w_run_J109 (fun r u => Q r u ∧ frm [37, 38, 39, 40, 42, 43, 44, 45, 46, 47, 48] [47, 48, 49, 50, 51, 52, 53, 54, 85, 86, 88, 96, 97, 98, 100, 101, 102] S0 u) k60' U109 v109_1 v109_2 v109_3 v109_4 v109_5 := by
  unfold w_run_J109 at h ⊢
  intro a76 ea76
  replace h := h a76 ea76
  exact hk60 _ _ _ _ _ _ f h
set_option maxRecDepth 100000 in
theorem fr_run_L308 {S0 : MS} {Q : Int32 → MS → Prop} : ∀ (n : Nat) {U308 : MS} {v308_2 : Int32}, frm [37, 38, 39, 40, 42, 43, 44, 45, 46, 47, 48] [47, 48, 49, 50, 51, 52, 53, 54, 85, 86, 88, 96, 97, 98, 100, 101, 102] S0 U308 → w_run_L308 Q n U308 v308_2 → w_run_L308 (fun r u => Q r u ∧ frm [37, 38, 39, 40, 42, 43, 44, 45, 46, 47, 48] [47, 48, 49, 50, 51, 52, 53, 54, 85, 86, 88, 96, 97, 98, 100, 101, 102] S0 u) n U308 v308_2 := by
  intro n
  induction n with
  | zero => intro U308 v308_2 f h; unfold w_run_L308 at h; exact h.elim
  | succ n ih =>
    intro U308 v308_2 f h
    unfold w_run_L308 at h ⊢
    refine ⟨fun c => ?_, fun c => ?_⟩
    · replace h := h.1 c
      refine ⟨fun c => ?_, fun c => ?_⟩
      · replace h := h.1 c
        exact ⟨h, f⟩
      · replace h := h.2 c
        intro S31 eS31
        replace h := h S31 eS31
        replace f := f.tr (show frm [37, 38, 39, 40, 42, 43, 44, 45, 46, 47, 48] [47, 48, 49, 50, 51, 52, 53, 54, 85, 86, 88, 96, 97, 98, 100, 101, 102] U308 S31 by rw [eS31]; exact frm.pJ0 (by decide))
        exact ⟨h, f⟩
    · replace h := h.2 c
      refine ⟨fun c => ?_, fun c => ?_⟩
      · replace h := h.1 c
        intro S38 eS38
        replace h := h S38 eS38
        replace f := f.tr (show frm [37, 38, 39, 40, 42, 43, 44, 45, 46, 47, 48] [47, 48, 49, 50, 51, 52, 53, 54, 85, 86, 88, 96, 97, 98, 100, 101, 102] U308 S38 by rw [eS38]; exact frm.pI0 (by decide))
        exact ih f h
      · replace h := h.2 c
        intro S34 eS34
        replace h := h S34 eS34
        replace f := f.tr (show frm [37, 38, 39, 40, 42, 43, 44, 45, 46, 47, 48] [47, 48, 49, 50, 51, 52, 53, 54, 85, 86, 88, 96, 97, 98, 100, 101, 102] U308 S34 by rw [eS34]; exact frm.pI0 (by decide))
        obtain ⟨Q9, h0, h⟩ := h
        refine ⟨_, fr_step h0, ?_⟩
        · intro S36 hq
          replace h := h S36 hq.1
          replace f := f.tr (hq.2.mo (by decide) (by decide))
          exact ih f h
set_option maxRecDepth 100000 in
theorem fr_run_L165 {S0 : MS} {Q : Int32 → MS → Prop} : ∀ (n : Nat) {U165 : MS} {v165_2 : Int32} {v165_3 : Int32} {v165_4 : Nat} {v165_5 : Int32} {v165_6 : Int32}, frm [37, 38, 39, 40, 42, 43, 44, 45, 46, 47, 48] [47, 48, 49, 50, 51, 52, 53, 54, 85, 86, 88, 96, 97, 98, 100, 101, 102] S0 U165 → w_run_L165 Q n U165 v165_2 v165_3 v165_4 v165_5 v165_6 → w_run_L165 (fun r u => Q r u ∧ frm [37, 38, 39, 40, 42, 43, 44, 45, 46, 47, 48] [47, 48, 49, 50, 51, 52, 53, 54, 85, 86, 88, 96, 97, 98, 100, 101, 102] S0 u) n U165 v165_2 v165_3 v165_4 v165_5 v165_6 := by
  intro n
  induction n with
  | zero => intro U165 v165_2 v165_3 v165_4 v165_5 v165_6 f h; unfold w_run_L165 at h; exact h.elim
  | succ n ih =>
    intro U165 v165_2 v165_3 v165_4 v165_5 v165_6 f h
    unfold w_run_L165 at h ⊢
    refine ⟨fun c => ?_, fun c => ?_⟩
    · replace h := h.1 c
      obtain ⟨n9, h⟩ := h
      exact ⟨n9, fr_run_L308 n9 f h⟩
    · replace h := h.2 c
      refine ⟨h.1, ?_⟩
      replace h := h.2
      refine ⟨fun c => ?_, fun c => ?_⟩
      · replace h := h.1 c
        refine ⟨h.1, ?_⟩
        replace h := h.2
        exact fr_run_J208 (fun _ _ _ _ _ _ f h => ih f h) f h
      · replace h := h.2 c
        refine ⟨h.1, ?_⟩
        replace h := h.2
        exact fr_run_J208 (fun _ _ _ _ _ _ f h => ih f h) f h
set_option maxRecDepth 100000 in
theorem fr_run_L60 {S0 : MS} {Q : Int32 → MS → Prop} : ∀ (n : Nat) {U60 : MS} {v60_1 : Int32} {v60_2 : Int32} {v60_3 : Int32} {v60_4 : Nat} {v60_5 : Int32}, frm [37, 38, 39, 40, 42, 43, 44, 45, 46, 47, 48] [47, 48, 49, 50, 51, 52, 53, 54, 85, 86, 88, 96, 97, 98, 100, 101, 102] S0 U60 → w_run_L60 Q n U60 v60_1 v60_2 v60_3 v60_4 v60_5 → w_run_L60 (fun r u => Q r u ∧ frm [37, 38, 39, 40, 42, 43, 44, 45, 46, 47, 48] [47, 48, 49, 50, 51, 52, 53, 54, 85, 86, 88, 96, 97, 98, 100, 101, 102] S0 u) n U60 v60_1 v60_2 v60_3 v60_4 v60_5 := by
  intro n
  induction n with
  | zero => intro U60 v60_1 v60_2 v60_3 v60_4 v60_5 f h; unfold w_run_L60 at h; exact h.elim
  | succ n ih =>
    intro U60 v60_1 v60_2 v60_3 v60_4 v60_5 f h
    unfold w_run_L60 at h ⊢
    refine ⟨fun c => ?_, fun c => ?_⟩
    · replace h := h.1 c
      refine ⟨fun c => ?_, fun c => ?_⟩
      · replace h := h.1 c
        exact ⟨h, f⟩
      · replace h := h.2 c
        refine ⟨fun c => ?_, fun c => ?_⟩
        · replace h := h.1 c
          intro S21 eS21
          replace h := h S21 eS21
          replace f := f.tr (show frm [37, 38, 39, 40, 42, 43, 44, 45, 46, 47, 48] [47, 48, 49, 50, 51, 52, 53, 54, 85, 86, 88, 96, 97, 98, 100, 101, 102] U60 S21 by rw [eS21]; exact frm.pI0 (by decide))
          intro S22 eS22
          replace h := h S22 eS22
          replace f := f.tr (show frm [37, 38, 39, 40, 42, 43, 44, 45, 46, 47, 48] [47, 48, 49, 50, 51, 52, 53, 54, 85, 86, 88, 96, 97, 98, 100, 101, 102] S21 S22 by rw [eS22]; exact frm.pI0 (by decide))
          intro S23 eS23
          replace h := h S23 eS23
          replace f := f.tr (show frm [37, 38, 39, 40, 42, 43, 44, 45, 46, 47, 48] [47, 48, 49, 50, 51, 52, 53, 54, 85, 86, 88, 96, 97, 98, 100, 101, 102] S22 S23 by rw [eS23]; exact frm.pI0 (by decide))
          intro S24 eS24
          replace h := h S24 eS24
          replace f := f.tr (show frm [37, 38, 39, 40, 42, 43, 44, 45, 46, 47, 48] [47, 48, 49, 50, 51, 52, 53, 54, 85, 86, 88, 96, 97, 98, 100, 101, 102] S23 S24 by rw [eS24]; exact frm.pJ0 (by decide))
          intro S25 eS25
          replace h := h S25 eS25
          replace f := f.tr (show frm [37, 38, 39, 40, 42, 43, 44, 45, 46, 47, 48] [47, 48, 49, 50, 51, 52, 53, 54, 85, 86, 88, 96, 97, 98, 100, 101, 102] S24 S25 by rw [eS25]; exact frm.pI0 (by decide))
          obtain ⟨Q9, h0, h⟩ := h
          refine ⟨_, fr_enter h0, ?_⟩
          · intro S27 hq
            replace h := h S27 hq.1
            replace f := f.tr (hq.2.mo (by decide) (by decide))
            obtain ⟨n9, h⟩ := h
            exact ⟨n9, fr_run_L165 n9 f h⟩
        · replace h := h.2 c
          exact ⟨h, f⟩
    · replace h := h.2 c
      refine ⟨h.1, ?_⟩
      replace h := h.2
      refine ⟨fun c => ?_, fun c => ?_⟩
      · replace h := h.1 c
        refine ⟨h.1, ?_⟩
        replace h := h.2
        refine ⟨fun c => ?_, fun c => ?_⟩
        · replace h := h.1 c
          exact ⟨h, f⟩
        · replace h := h.2 c
          refine ⟨h.1, ?_⟩
          replace h := h.2
          refine ⟨fun c => ?_, fun c => ?_⟩
          · replace h := h.1 c
            exact fr_run_J109 (fun _ _ _ _ _ _ f h => ih f h) f h
          · replace h := h.2 c
            exact ⟨h, f⟩
      · replace h := h.2 c
        exact fr_run_J109 (fun _ _ _ _ _ _ f h => ih f h) f h
set_option maxRecDepth 100000 in
theorem fr_run {S : MS} {x1 : Int32} {x2 : Int32} {Q : Int32 → MS → Prop} (h : w_run S x1 x2 Q) : w_run S x1 x2 (fun r u => Q r u ∧ frm [37, 38, 39, 40, 42, 43, 44, 45, 46, 47, 48] [47, 48, 49, 50, 51, 52, 53, 54, 85, 86, 88, 96, 97, 98, 100, 101, 102] S u) := by
  have f : frm [37, 38, 39, 40, 42, 43, 44, 45, 46, 47, 48] [47, 48, 49, 50, 51, 52, 53, 54, 85, 86, 88, 96, 97, 98, 100, 101, 102] S S := frm.rf
  unfold w_run at h ⊢
  intro a1 ea1
  replace h := h a1 ea1
  intro S2 eS2
  replace h := h S2 eS2
  replace f := f.tr (show frm [37, 38, 39, 40, 42, 43, 44, 45, 46, 47, 48] [47, 48, 49, 50, 51, 52, 53, 54, 85, 86, 88, 96, 97, 98, 100, 101, 102] S S2 by rw [eS2]; exact frm.pI0 (by decide))
  refine ⟨fun c => ?_, fun c => ?_⟩
  · replace h := h.1 c
    exact ⟨h, f⟩
  · replace h := h.2 c
    refine ⟨fun c => ?_, fun c => ?_⟩
    · replace h := h.1 c
      exact ⟨h, f⟩
    · replace h := h.2 c
      refine ⟨h.1, ?_⟩
      replace h := h.2
      refine ⟨fun c => ?_, fun c => ?_⟩
      · replace h := h.1 c
        refine ⟨h.1, ?_⟩
        replace h := h.2
        refine ⟨h.1, ?_⟩
        replace h := h.2
        refine ⟨h.1, ?_⟩
        replace h := h.2
        refine ⟨h.1, ?_⟩
        replace h := h.2
        refine ⟨fun c => ?_, fun c => ?_⟩
        · replace h := h.1 c
          obtain ⟨n9, h⟩ := h
          exact ⟨n9, fr_run_L60 n9 f h⟩
        · replace h := h.2 c
          exact ⟨h, f⟩
      · replace h := h.2 c
        exact ⟨h, f⟩
set_option maxRecDepth 100000 in
theorem fr_switchSpan_J73 {S0 : MS} {Q : Int32 → MS → Prop} {U73 : MS} (f : frm [] [] S0 U73) (h : w_switchSpan_J73 Q U73) : w_switchSpan_J73 (fun r u => Q r u ∧ frm [] [] S0 u) U73 := by
  unfold w_switchSpan_J73 at h ⊢
  exact ⟨h, f⟩
set_option maxRecDepth 100000 in
theorem fr_switchSpan_L136 {S0 : MS} {Q : Int32 → MS → Prop} : ∀ (n : Nat) {U136 : MS} {v136_1 : Int32} {v136_3 : Int32} {v136_4 : Int32} {v136_5 : Int32}, frm [] [] S0 U136 → w_switchSpan_L136 Q n U136 v136_1 v136_3 v136_4 v136_5 → w_switchSpan_L136 (fun r u => Q r u ∧ frm [] [] S0 u) n U136 v136_1 v136_3 v136_4 v136_5 := by
  intro n
  induction n with
  | zero => intro U136 v136_1 v136_3 v136_4 v136_5 f h; unfold w_switchSpan_L136 at h; exact h.elim
  | succ n ih =>
    intro U136 v136_1 v136_3 v136_4 v136_5 f h
    unfold w_switchSpan_L136 at h ⊢
    refine ⟨fun c => ?_, fun c => ?_⟩
    · replace h := h.1 c
      exact ⟨h, f⟩
    · replace h := h.2 c
      refine ⟨h.1, ?_⟩
      replace h := h.2
      refine ⟨h.1, ?_⟩
      replace h := h.2
      refine ⟨fun c => ?_, fun c => ?_⟩
      · replace h := h.1 c
        intro a36 ea36
        replace h := h a36 ea36
        exact ih f h
      · replace h := h.2 c
        exact ⟨h, f⟩
set_option maxRecDepth 100000 in
theorem fr_switchSpan_J20 {S0 : MS} {Q : Int32 → MS → Prop} {U20 : MS} {t20_0 : Int32} {t20_1 : Int32} {v20_1 : Int32} {v20_2 : Int32} {v20_3 : Int32} (f : frm [] [] S0 U20) (h : w_switchSpan_J20 Q U20 t20_0 t20_1 v20_1 v20_2 v20_3) : w_switchSpan_J20 (fun r u => Q r u ∧ frm [] [] S0 u) U20 t20_0 t20_1 v20_1 v20_2 v20_3 := by
  unfold w_switchSpan_J20 at h ⊢
  refine ⟨fun c => ?_, fun c => ?_⟩
  · replace h := h.1 c
    refine ⟨fun c => ?_, fun c => ?_⟩
    · replace h := h.1 c
      refine ⟨h.1, ?_⟩
      replace h := h.2
      refine ⟨h.1, ?_⟩
      replace h := h.2
      intro a46 ea46
      replace h := h a46 ea46
      refine ⟨fun c => ?_, fun c => ?_⟩
      · replace h := h.1 c
        exact fr_switchSpan_J73 f h
      · replace h := h.2 c
        refine ⟨fun c => ?_, fun c => ?_⟩
        · replace h := h.1 c
          exact ⟨h, f⟩
        · replace h := h.2 c
          exact fr_switchSpan_J73 f h
    · replace h := h.2 c
      refine ⟨h.1, ?_⟩
      replace h := h.2
      intro a12 ea12
      replace h := h a12 ea12
      refine ⟨fun c => ?_, fun c => ?_⟩
      · replace h := h.1 c
        exact ⟨h, f⟩
      · replace h := h.2 c
        refine ⟨fun c => ?_, fun c => ?_⟩
        · replace h := h.1 c
          exact ⟨h, f⟩
        · replace h := h.2 c
          refine ⟨fun c => ?_, fun c => ?_⟩
          · replace h := h.1 c
            obtain ⟨n9, h⟩ := h
            exact ⟨n9, fr_switchSpan_L136 n9 f h⟩
          · replace h := h.2 c
            exact ⟨h, f⟩
  · replace h := h.2 c
    exact ⟨h, f⟩
set_option maxRecDepth 100000 in
theorem fr_switchSpan {S : MS} {x1 : Int32} {x2 : Int32} {Q : Int32 → MS → Prop} (h : w_switchSpan S x1 x2 Q) : w_switchSpan S x1 x2 (fun r u => Q r u ∧ frm [] [] S u) := by
  have f : frm [] [] S S := frm.rf
  unfold w_switchSpan at h ⊢
  refine ⟨h.1, ?_⟩
  replace h := h.2
  intro a4 ea4
  replace h := h a4 ea4
  refine ⟨fun c => ?_, fun c => ?_⟩
  · replace h := h.1 c
    exact fr_switchSpan_J20 f h
  · replace h := h.2 c
    exact fr_switchSpan_J20 f h
set_option maxRecDepth 100000 in
theorem fr_span_J152 {S0 : MS} {Q : Int32 → MS → Prop} {U152 : MS} {v152_3 : Int32} (f : frm [] [] S0 U152) (h : w_span_J152 Q U152 v152_3) : w_span_J152 (fun r u => Q r u ∧ frm [] [] S0 u) U152 v152_3 := by
  unfold w_span_J152 at h ⊢
  exact ⟨h, f⟩
set_option maxRecDepth 100000 in
theorem fr_span_J113 {S0 : MS} {Q : Int32 → MS → Prop} {U113 : MS} {v113_1 : Int32} {v113_2 : Int32} {v113_3 : Int32} (f : frm [] [] S0 U113) (h : w_span_J113 Q U113 v113_1 v113_2 v113_3) : w_span_J113 (fun r u => Q r u ∧ frm [] [] S0 u) U113 v113_1 v113_2 v113_3 := by
  unfold w_span_J113 at h ⊢
  refine ⟨fun c => ?_, fun c => ?_⟩
  · replace h := h.1 c
    exact ⟨h, f⟩
  · replace h := h.2 c
    refine ⟨fun c => ?_, fun c => ?_⟩
    · replace h := h.1 c
      refine ⟨fun c => ?_, fun c => ?_⟩
      · replace h := h.1 c
        refine ⟨h.1, ?_⟩
        replace h := h.2
        refine ⟨fun c => ?_, fun c => ?_⟩
        · replace h := h.1 c
          exact fr_span_J152 f h
        · replace h := h.2 c
          exact ⟨h, f⟩
      · replace h := h.2 c
        exact fr_span_J152 f h
    · replace h := h.2 c
      exact ⟨h, f⟩
set_option maxRecDepth 100000 in
theorem fr_span_J101 {S0 : MS} {Q : Int32 → MS → Prop} {U101 : MS} {v101_1 : Int32} {v101_2 : Int32} {v101_3 : Int32} (f : frm [] [] S0 U101) (h : w_span_J101 Q U101 v101_1 v101_2 v101_3) : w_span_J101 (fun r u => Q r u ∧ frm [] [] S0 u) U101 v101_1 v101_2 v101_3 := by
  unfold w_span_J101 at h ⊢
  refine ⟨fun c => ?_, fun c => ?_⟩
  · replace h := h.1 c
    obtain ⟨Q9, h0, h⟩ := h
    refine ⟨_, fr_switchSpan h0, ?_⟩
    · intro r20 S21 hq
      replace h := h r20 S21 hq.1
      replace f := f.tr (hq.2.mo (by decide) (by decide))
      exact fr_span_J113 f h
  · replace h := h.2 c
    exact fr_span_J113 f h
set_option maxRecDepth 100000 in
theorem fr_span_J100 {S0 : MS} {Q : Int32 → MS → Prop} {U100 : MS} {t100_0 : Int32} {v100_1 : Int32} {v100_2 : Int32} (f : frm [] [] S0 U100) (h : w_span_J100 Q U100 t100_0 v100_1 v100_2) : w_span_J100 (fun r u => Q r u ∧ frm [] [] S0 u) U100 t100_0 v100_1 v100_2 := by
  unfold w_span_J100 at h ⊢
  exact fr_span_J101 f h
set_option maxRecDepth 100000 in
theorem fr_span_J95 {S0 : MS} {Q : Int32 → MS → Prop} {U95 : MS} {v95_1 : Int32} {v95_2 : Int32} (f : frm [] [] S0 U95) (h : w_span_J95 Q U95 v95_1 v95_2) : w_span_J95 (fun r u => Q r u ∧ frm [] [] S0 u) U95 v95_1 v95_2 := by
  unfold w_span_J95 at h ⊢
  exact fr_span_J100 f h
set_option maxRecDepth 100000 in
theorem fr_span_J38 {S0 : MS} {Q : Int32 → MS → Prop} {U38 : MS} {t38_0 : Int32} {v38_1 : Int32} {v38_2 : Int32} (f : frm [] [] S0 U38) (h : w_span_J38 Q U38 t38_0 v38_1 v38_2) : w_span_J38 (fun r u => Q r u ∧ frm [] [] S0 u) U38 t38_0 v38_1 v38_2 := by
  unfold w_span_J38 at h ⊢
  refine ⟨fun c => ?_, fun c => ?_⟩
  · replace h := h.1 c
    exact fr_span_J100 f h
  · replace h := h.2 c
    refine ⟨fun c => ?_, fun c => ?_⟩
    · replace h := h.1 c
      exact fr_span_J95 f h
    · replace h := h.2 c
      refine ⟨fun c => ?_, fun c => ?_⟩
      · replace h := h.1 c
        exact fr_span_J95 f h
      · replace h := h.2 c
        refine ⟨fun c => ?_, fun c => ?_⟩
        · replace h := h.1 c
          exact fr_span_J95 f h
        · replace h := h.2 c
          refine ⟨fun c => ?_, fun c => ?_⟩
          · replace h := h.1 c
            exact fr_span_J95 f h
          · replace h := h.2 c
            refine ⟨fun c => ?_, fun c => ?_⟩
            · replace h := h.1 c
              exact fr_span_J95 f h
            · replace h := h.2 c
              refine ⟨fun c => ?_, fun c => ?_⟩
              · replace h := h.1 c
                exact fr_span_J95 f h
              · replace h := h.2 c
                exact fr_span_J100 f h
set_option maxRecDepth 100000 in
theorem fr_span {S : MS} {x1 : Int32} {Q : Int32 → MS → Prop} (h : w_span S x1 Q) : w_span S x1 (fun r u => Q r u ∧ frm [] [] S u) := by
  have f : frm [] [] S S := frm.rf
  unfold w_span at h ⊢
  refine ⟨h.1, ?_⟩
  replace h := h.2
  intro a4 ea4
  replace h := h a4 ea4
  refine ⟨h.1, ?_⟩
  replace h := h.2
  intro a8 ea8
  replace h := h a8 ea8
  refine ⟨fun c => ?_, fun c => ?_⟩
  · replace h := h.1 c
    refine ⟨fun c => ?_, fun c => ?_⟩
    · replace h := h.1 c
      exact fr_span_J38 f h
    · replace h := h.2 c
      refine ⟨h.1, ?_⟩
      replace h := h.2
      exact fr_span_J38 f h
  · replace h := h.2 c
    exact fr_span_J101 f h
