set_option maxRecDepth 100000 in
theorem fr_reach_J119 {S0 : MS} {Q : MS → Prop} {k41 k41' : MS → Int32 → Int32 → Prop} {U119 : MS} {v119_1 : Int32} {v119_2 : Int32} (hk41 : ∀ (u : MS) (z0) (z1), frm [53] [] S0 u → k41 u z0 z1 → k41' u z0 z1) (f : frm [53] [] S0 U119) (h : w_reach_J119 Q k41 U119 v119_1 v119_2) : w_reach_J119 (fun u => Q u ∧ frm [53] [] S0 u) k41' U119 v119_1 v119_2 := by
  unfold w_reach_J119 at h ⊢
  intro a9 ea9
  replace h := h a9 ea9
  exact hk41 _ _ _ f h
set_option maxRecDepth 100000 in
theorem fr_reach_J100 {S0 : MS} {Q : MS → Prop} {k56 k56' : MS → Int32 → Int32 → Int32 → Prop} {U100 : MS} {t100_0 : Int32} {v100_2 : Int32} {v100_3 : Int32} (hk56 : ∀ (u : MS) (z0) (z1) (z2), frm [53] [] S0 u → k56 u z0 z1 z2 → k56' u z0 z1 z2) (f : frm [53] [] S0 U100) (h : w_reach_J100 Q k56 U100 t100_0 v100_2 v100_3) : w_reach_J100 (fun u => Q u ∧ frm [53] [] S0 u) k56' U100 t100_0 v100_2 v100_3 := by
  unfold w_reach_J100 at h ⊢
  refine ⟨h.1, ?_⟩
  replace h := h.2
  refine ⟨h.1, ?_⟩
  replace h := h.2
  intro S18 eS18
  replace h := h S18 eS18
  replace f := f.tr (show frm [53] [] U100 S18 by rw [eS18]; exact frm.pI (by decide))
  intro a19 ea19
  replace h := h a19 ea19
  exact hk56 _ _ _ _ f h
set_option maxRecDepth 100000 in
theorem fr_reach_J95 {S0 : MS} {Q : MS → Prop} {k56 k56' : MS → Int32 → Int32 → Int32 → Prop} {U95 : MS} {v95_2 : Int32} {v95_3 : Int32} (hk56 : ∀ (u : MS) (z0) (z1) (z2), frm [53] [] S0 u → k56 u z0 z1 z2 → k56' u z0 z1 z2) (f : frm [53] [] S0 U95) (h : w_reach_J95 Q k56 U95 v95_2 v95_3) : w_reach_J95 (fun u => Q u ∧ frm [53] [] S0 u) k56' U95 v95_2 v95_3 := by
  unfold w_reach_J95 at h ⊢
  exact fr_reach_J100 hk56 f h
set_option maxRecDepth 100000 in
theorem fr_reach_J24 {S0 : MS} {Q : MS → Prop} {k2 k2' : MS → Int32 → Prop} {U24 : MS} {t24_0 : Int32} {t24_1 : Int32} {v24_1 : Int32} (hk2 : ∀ (u : MS) (z0), frm [53] [] S0 u → k2 u z0 → k2' u z0) (f : frm [53] [] S0 U24) (h : w_reach_J24 Q k2 U24 t24_0 t24_1 v24_1) : w_reach_J24 (fun u => Q u ∧ frm [53] [] S0 u) k2' U24 t24_0 t24_1 v24_1 := by
  unfold w_reach_J24 at h ⊢
  refine ⟨h.1, ?_⟩
  replace h := h.2
  intro S27 eS27
  replace h := h S27 eS27
  replace f := f.tr (show frm [53] [] U24 S27 by rw [eS27]; exact frm.pI (by decide))
  intro a28 ea28
  replace h := h a28 ea28
  exact hk2 _ _ f h
set_option maxRecDepth 100000 in
theorem fr_reach_L56 {S0 : MS} {Q : MS → Prop} {k41 k41' : MS → Int32 → Int32 → Prop} (hk41 : ∀ (u : MS) (z0) (z1), frm [53] [] S0 u → k41 u z0 z1 → k41' u z0 z1) : ∀ (n : Nat) {U56 : MS} {v56_1 : Int32} {v56_2 : Int32} {v56_3 : Int32}, frm [53] [] S0 U56 → w_reach_L56 Q k41 n U56 v56_1 v56_2 v56_3 → w_reach_L56 (fun u => Q u ∧ frm [53] [] S0 u) k41' n U56 v56_1 v56_2 v56_3 := by
  intro n
  induction n with
  | zero => intro U56 v56_1 v56_2 v56_3 f h; unfold w_reach_L56 at h; exact h.elim
  | succ n ih =>
    intro U56 v56_1 v56_2 v56_3 f h
    unfold w_reach_L56 at h ⊢
    refine ⟨h.1, ?_⟩
    replace h := h.2
    refine ⟨fun c => ?_, fun c => ?_⟩
    · replace h := h.1 c
      exact fr_reach_J119 hk41 f h
    · replace h := h.2 c
      refine ⟨h.1, ?_⟩
      replace h := h.2
      refine ⟨fun c => ?_, fun c => ?_⟩
      · replace h := h.1 c
        exact fr_reach_J119 hk41 f h
      · replace h := h.2 c
        refine ⟨fun c => ?_, fun c => ?_⟩
        · replace h := h.1 c
          refine ⟨h.1, ?_⟩
          replace h := h.2
          refine ⟨h.1, ?_⟩
          replace h := h.2
          refine ⟨fun c => ?_, fun c => ?_⟩
          · replace h := h.1 c
            exact fr_reach_J95 (fun _ _ _ _ f h => ih f h) f h
          · replace h := h.2 c
            exact fr_reach_J100 (fun _ _ _ _ f h => ih f h) f h
        · replace h := h.2 c
          exact fr_reach_J95 (fun _ _ _ _ f h => ih f h) f h
set_option maxRecDepth 100000 in
theorem fr_reach_L41 {S0 : MS} {Q : MS → Prop} {k33 k33' : MS → Int32 → Prop} (hk33 : ∀ (u : MS) (z0), frm [53] [] S0 u → k33 u z0 → k33' u z0) : ∀ (n : Nat) {U41 : MS} {v41_1 : Int32} {v41_2 : Int32}, frm [53] [] S0 U41 → w_reach_L41 Q k33 n U41 v41_1 v41_2 → w_reach_L41 (fun u => Q u ∧ frm [53] [] S0 u) k33' n U41 v41_1 v41_2 := by
  intro n
  induction n with
  | zero => intro U41 v41_1 v41_2 f h; unfold w_reach_L41 at h; exact h.elim
  | succ n ih =>
    intro U41 v41_1 v41_2 f h
    unfold w_reach_L41 at h ⊢
    refine ⟨fun c => ?_, fun c => ?_⟩
    · replace h := h.1 c
      exact hk33 _ _ f h
    · replace h := h.2 c
      refine ⟨h.1, ?_⟩
      replace h := h.2
      intro a6 ea6
      replace h := h a6 ea6
      obtain ⟨n9, h⟩ := h
      exact ⟨n9, fr_reach_L56 (fun _ _ _ f h => ih f h) n9 f h⟩
set_option maxRecDepth 100000 in
theorem fr_reach_L33 {S0 : MS} {Q : MS → Prop} : ∀ (n : Nat) {U33 : MS} {v33_1 : Int32}, frm [53] [] S0 U33 → w_reach_L33 Q n U33 v33_1 → w_reach_L33 (fun u => Q u ∧ frm [53] [] S0 u) n U33 v33_1 := by
  intro n
  induction n with
  | zero => intro U33 v33_1 f h; unfold w_reach_L33 at h; exact h.elim
  | succ n ih =>
    intro U33 v33_1 f h
    unfold w_reach_L33 at h ⊢
    refine ⟨fun c => ?_, fun c => ?_⟩
    · replace h := h.1 c
      exact ⟨h, f⟩
    · replace h := h.2 c
      obtain ⟨n9, h⟩ := h
      exact ⟨n9, fr_reach_L41 (fun _ _ f h => ih f h) n9 f h⟩
set_option maxRecDepth 100000 in
theorem fr_reach_L2 {S0 : MS} {Q : MS → Prop} : ∀ (n : Nat) {U2 : MS} {v2_1 : Int32}, frm [53] [] S0 U2 → w_reach_L2 Q n U2 v2_1 → w_reach_L2 (fun u => Q u ∧ frm [53] [] S0 u) n U2 v2_1 := by
  intro n
  induction n with
  | zero => intro U2 v2_1 f h; unfold w_reach_L2 at h; exact h.elim
  | succ n ih =>
    intro U2 v2_1 f h
    unfold w_reach_L2 at h ⊢
    refine ⟨fun c => ?_, fun c => ?_⟩
    · replace h := h.1 c
      obtain ⟨n9, h⟩ := h
      exact ⟨n9, fr_reach_L33 n9 f h⟩
    · replace h := h.2 c
      refine ⟨fun c => ?_, fun c => ?_⟩
      · replace h := h.1 c
        exact fr_reach_J24 (fun _ _ f h => ih f h) f h
      · replace h := h.2 c
        exact fr_reach_J24 (fun _ _ f h => ih f h) f h
set_option maxRecDepth 100000 in
theorem fr_reach {S : MS} {Q : MS → Prop} (h : w_reach S  Q) : w_reach S  (fun u => Q u ∧ frm [53] [] S u) := by
  have f : frm [53] [] S S := frm.rf
  unfold w_reach at h ⊢
  obtain ⟨n9, h⟩ := h
  exact ⟨n9, fr_reach_L2 n9 f h⟩
set_option maxRecDepth 100000 in
theorem fr_draw_J205 {S0 : MS} {Q : MS → Prop} {k167 k167' : MS → Int32 → Prop} {U205 : MS} {v205_3 : Int32} (hk167 : ∀ (u : MS) (z0), frm [49, 50, 51, 52, 53] [47, 48, 49, 50, 51, 52, 53, 54, 105, 110] S0 u → k167 u z0 → k167' u z0) (f : frm [49, 50, 51, 52, 53] [47, 48, 49, 50, 51, 52, 53, 54, 105, 110] S0 U205) (h : w_draw_J205 Q k167 U205 v205_3) : w_draw_J205 (fun u => Q u ∧ frm [49, 50, 51, 52, 53] [47, 48, 49, 50, 51, 52, 53, 54, 105, 110] S0 u) k167' U205 v205_3 := by
  unfold w_draw_J205 at h ⊢
  refine ⟨h.1, ?_⟩
  replace h := h.2
  intro S22 eS22
  replace h := h S22 eS22
  replace f := f.tr (show frm [49, 50, 51, 52, 53] [47, 48, 49, 50, 51, 52, 53, 54, 105, 110] U205 S22 by rw [eS22]; exact frm.pI (by decide))
  intro a23 ea23
  replace h := h a23 ea23
  exact hk167 _ _ f h
set_option maxRecDepth 100000 in
theorem fr_draw_L81 {S0 : MS} {Q : MS → Prop} {k38 k38' : MS → Int32 → Prop} (hk38 : ∀ (u : MS) (z0), frm [49, 50, 51, 52, 53] [47, 48, 49, 50, 51, 52, 53, 54, 105, 110] S0 u → k38 u z0 → k38' u z0) : ∀ (n : Nat) {U81 : MS} {v81_3 : Int32} {v81_5 : Int32}, frm [49, 50, 51, 52, 53] [47, 48, 49, 50, 51, 52, 53, 54, 105, 110] S0 U81 → w_draw_L81 Q k38 n U81 v81_3 v81_5 → w_draw_L81 (fun u => Q u ∧ frm [49, 50, 51, 52, 53] [47, 48, 49, 50, 51, 52, 53, 54, 105, 110] S0 u) k38' n U81 v81_3 v81_5 := by
  intro n
  induction n with
  | zero => intro U81 v81_3 v81_5 f h; unfold w_draw_L81 at h; exact h.elim
  | succ n ih =>
    intro U81 v81_3 v81_5 f h
    unfold w_draw_L81 at h ⊢
    refine ⟨h.1, ?_⟩
    replace h := h.2
    refine ⟨fun c => ?_, fun c => ?_⟩
    · replace h := h.1 c
      intro a48 ea48
      replace h := h a48 ea48
      exact hk38 _ _ f h
    · replace h := h.2 c
      refine ⟨h.1, ?_⟩
      replace h := h.2
      refine ⟨h.1, ?_⟩
      replace h := h.2
      intro S53 eS53
      replace h := h S53 eS53
      replace f := f.tr (show frm [49, 50, 51, 52, 53] [47, 48, 49, 50, 51, 52, 53, 54, 105, 110] U81 S53 by rw [eS53]; exact frm.pI (by decide))
      intro a54 ea54
      replace h := h a54 ea54
      exact ih f h
set_option maxRecDepth 100000 in
theorem fr_draw_J78 {S0 : MS} {Q : MS → Prop} {k38 k38' : MS → Int32 → Prop} {U78 : MS} {v78_3 : Int32} (hk38 : ∀ (u : MS) (z0), frm [49, 50, 51, 52, 53] [47, 48, 49, 50, 51, 52, 53, 54, 105, 110] S0 u → k38 u z0 → k38' u z0) (f : frm [49, 50, 51, 52, 53] [47, 48, 49, 50, 51, 52, 53, 54, 105, 110] S0 U78) (h : w_draw_J78 Q k38 U78 v78_3) : w_draw_J78 (fun u => Q u ∧ frm [49, 50, 51, 52, 53] [47, 48, 49, 50, 51, 52, 53, 54, 105, 110] S0 u) k38' U78 v78_3 := by
  unfold w_draw_J78 at h ⊢
  obtain ⟨n9, h⟩ := h
  exact ⟨n9, fr_draw_L81 hk38 n9 f h⟩
set_option maxRecDepth 100000 in
theorem fr_draw_J69 {S0 : MS} {Q : MS → Prop} {k38 k38' : MS → Int32 → Prop} {U69 : MS} {v69_3 : Int32} (hk38 : ∀ (u : MS) (z0), frm [49, 50, 51, 52, 53] [47, 48, 49, 50, 51, 52, 53, 54, 105, 110] S0 u → k38 u z0 → k38' u z0) (f : frm [49, 50, 51, 52, 53] [47, 48, 49, 50, 51, 52, 53, 54, 105, 110] S0 U69) (h : w_draw_J69 Q k38 U69 v69_3) : w_draw_J69 (fun u => Q u ∧ frm [49, 50, 51, 52, 53] [47, 48, 49, 50, 51, 52, 53, 54, 105, 110] S0 u) k38' U69 v69_3 := by
  unfold w_draw_J69 at h ⊢
  refine ⟨h.1, ?_⟩
  replace h := h.2
  intro S57 eS57
  replace h := h S57 eS57
  replace f := f.tr (show frm [49, 50, 51, 52, 53] [47, 48, 49, 50, 51, 52, 53, 54, 105, 110] U69 S57 by rw [eS57]; exact frm.pI (by decide))
  exact fr_draw_J78 hk38 f h
set_option maxRecDepth 100000 in
theorem fr_draw_L167 {S0 : MS} {Q : MS → Prop} : ∀ (n : Nat) {U167 : MS} {v167_3 : Int32}, frm [49, 50, 51, 52, 53] [47, 48, 49, 50, 51, 52, 53, 54, 105, 110] S0 U167 → w_draw_L167 Q n U167 v167_3 → w_draw_L167 (fun u => Q u ∧ frm [49, 50, 51, 52, 53] [47, 48, 49, 50, 51, 52, 53, 54, 105, 110] S0 u) n U167 v167_3 := by
  intro n
  induction n with
  | zero => intro U167 v167_3 f h; unfold w_draw_L167 at h; exact h.elim
  | succ n ih =>
    intro U167 v167_3 f h
    unfold w_draw_L167 at h ⊢
    refine ⟨fun c => ?_, fun c => ?_⟩
    · replace h := h.1 c
      refine ⟨h.1, ?_⟩
      replace h := h.2
      intro S11 eS11
      replace h := h S11 eS11
      replace f := f.tr (show frm [49, 50, 51, 52, 53] [47, 48, 49, 50, 51, 52, 53, 54, 105, 110] U167 S11 by rw [eS11]; exact frm.pI (by decide))
      obtain ⟨Q9, h0, h⟩ := h
      refine ⟨_, fr_edges h0, ?_⟩
      · intro S13 hq
        replace h := h S13 hq.1
        replace f := f.tr (hq.2.mo (by decide) (by decide))
        obtain ⟨Q9, h0, h⟩ := h
        refine ⟨_, fr_reach h0, ?_⟩
        · intro S16 hq
          replace h := h S16 hq.1
          replace f := f.tr (hq.2.mo (by decide) (by decide))
          exact ⟨h, f⟩
    · replace h := h.2 c
      refine ⟨h.1, ?_⟩
      replace h := h.2
      refine ⟨fun c => ?_, fun c => ?_⟩
      · replace h := h.1 c
        refine ⟨h.1, ?_⟩
        replace h := h.2
        intro S26 eS26
        replace h := h S26 eS26
        replace f := f.tr (show frm [49, 50, 51, 52, 53] [47, 48, 49, 50, 51, 52, 53, 54, 105, 110] U167 S26 by rw [eS26]; exact frm.pI (by decide))
        intro S28 eS28
        replace h := h S28 eS28
        replace f := f.tr (show frm [49, 50, 51, 52, 53] [47, 48, 49, 50, 51, 52, 53, 54, 105, 110] S26 S28 by rw [eS28]; exact frm.pI0 (by decide))
        exact fr_draw_J205 (fun _ _ f h => ih f h) f h
      · replace h := h.2 c
        exact fr_draw_J205 (fun _ _ f h => ih f h) f h
set_option maxRecDepth 100000 in
theorem fr_draw_L129 {S0 : MS} {Q : MS → Prop} {k118 k118' : MS → Int32 → Prop} (hk118 : ∀ (u : MS) (z0), frm [49, 50, 51, 52, 53] [47, 48, 49, 50, 51, 52, 53, 54, 105, 110] S0 u → k118 u z0 → k118' u z0) : ∀ (n : Nat) {U129 : MS} {v129_3 : Int32} {v129_4 : Int32}, frm [49, 50, 51, 52, 53] [47, 48, 49, 50, 51, 52, 53, 54, 105, 110] S0 U129 → w_draw_L129 Q k118 n U129 v129_3 v129_4 → w_draw_L129 (fun u => Q u ∧ frm [49, 50, 51, 52, 53] [47, 48, 49, 50, 51, 52, 53, 54, 105, 110] S0 u) k118' n U129 v129_3 v129_4 := by
  intro n
  induction n with
  | zero => intro U129 v129_3 v129_4 f h; unfold w_draw_L129 at h; exact h.elim
  | succ n ih =>
    intro U129 v129_3 v129_4 f h
    unfold w_draw_L129 at h ⊢
    refine ⟨fun c => ?_, fun c => ?_⟩
    · replace h := h.1 c
      intro a30 ea30
      replace h := h a30 ea30
      exact hk118 _ _ f h
    · replace h := h.2 c
      refine ⟨h.1, ?_⟩
      replace h := h.2
      refine ⟨h.1, ?_⟩
      replace h := h.2
      intro S35 eS35
      replace h := h S35 eS35
      replace f := f.tr (show frm [49, 50, 51, 52, 53] [47, 48, 49, 50, 51, 52, 53, 54, 105, 110] U129 S35 by rw [eS35]; exact frm.pI (by decide))
      intro a36 ea36
      replace h := h a36 ea36
      exact ih f h
set_option maxRecDepth 100000 in
theorem fr_draw_L118 {S0 : MS} {Q : MS → Prop} : ∀ (n : Nat) {U118 : MS} {v118_3 : Int32}, frm [49, 50, 51, 52, 53] [47, 48, 49, 50, 51, 52, 53, 54, 105, 110] S0 U118 → w_draw_L118 Q n U118 v118_3 → w_draw_L118 (fun u => Q u ∧ frm [49, 50, 51, 52, 53] [47, 48, 49, 50, 51, 52, 53, 54, 105, 110] S0 u) n U118 v118_3 := by
  intro n
  induction n with
  | zero => intro U118 v118_3 f h; unfold w_draw_L118 at h; exact h.elim
  | succ n ih =>
    intro U118 v118_3 f h
    unfold w_draw_L118 at h ⊢
    refine ⟨fun c => ?_, fun c => ?_⟩
    · replace h := h.1 c
      intro S8 eS8
      replace h := h S8 eS8
      replace f := f.tr (show frm [49, 50, 51, 52, 53] [47, 48, 49, 50, 51, 52, 53, 54, 105, 110] U118 S8 by rw [eS8]; exact frm.pI0 (by decide))
      obtain ⟨n9, h⟩ := h
      exact ⟨n9, fr_draw_L167 n9 f h⟩
    · replace h := h.2 c
      obtain ⟨n9, h⟩ := h
      exact ⟨n9, fr_draw_L129 (fun _ _ f h => ih f h) n9 f h⟩
set_option maxRecDepth 100000 in
theorem fr_draw_L38 {S0 : MS} {Q : MS → Prop} : ∀ (n : Nat) {U38 : MS} {v38_3 : Int32}, frm [49, 50, 51, 52, 53] [47, 48, 49, 50, 51, 52, 53, 54, 105, 110] S0 U38 → w_draw_L38 Q n U38 v38_3 → w_draw_L38 (fun u => Q u ∧ frm [49, 50, 51, 52, 53] [47, 48, 49, 50, 51, 52, 53, 54, 105, 110] S0 u) n U38 v38_3 := by
  intro n
  induction n with
  | zero => intro U38 v38_3 f h; unfold w_draw_L38 at h; exact h.elim
  | succ n ih =>
    intro U38 v38_3 f h
    unfold w_draw_L38 at h ⊢
    refine ⟨fun c => ?_, fun c => ?_⟩
    · replace h := h.1 c
      obtain ⟨n9, h⟩ := h
      exact ⟨n9, fr_draw_L118 n9 f h⟩
    · replace h := h.2 c
      refine ⟨h.1, ?_⟩
      replace h := h.2
      intro a40 ea40
      replace h := h a40 ea40
      refine ⟨h.1, ?_⟩
      replace h := h.2
      refine ⟨fun c => ?_, fun c => ?_⟩
      · replace h := h.1 c
        refine ⟨h.1, ?_⟩
        replace h := h.2
        refine ⟨fun c => ?_, fun c => ?_⟩
        · replace h := h.1 c
          exact fr_draw_J69 (fun _ _ f h => ih f h) f h
        · replace h := h.2 c
          exact fr_draw_J78 (fun _ _ f h => ih f h) f h
      · replace h := h.2 c
        exact fr_draw_J69 (fun _ _ f h => ih f h) f h
set_option maxRecDepth 100000 in
theorem fr_draw_L8 {S0 : MS} {Q : MS → Prop} : ∀ (n : Nat) {U8 : MS} {v8_3 : Int32}, frm [49, 50, 51, 52, 53] [47, 48, 49, 50, 51, 52, 53, 54, 105, 110] S0 U8 → w_draw_L8 Q n U8 v8_3 → w_draw_L8 (fun u => Q u ∧ frm [49, 50, 51, 52, 53] [47, 48, 49, 50, 51, 52, 53, 54, 105, 110] S0 u) n U8 v8_3 := by
  intro n
  induction n with
  | zero => intro U8 v8_3 f h; unfold w_draw_L8 at h; exact h.elim
  | succ n ih =>
    intro U8 v8_3 f h
    unfold w_draw_L8 at h ⊢
    refine ⟨fun c => ?_, fun c => ?_⟩
    · replace h := h.1 c
      intro S5 eS5
      replace h := h S5 eS5
      replace f := f.tr (show frm [49, 50, 51, 52, 53] [47, 48, 49, 50, 51, 52, 53, 54, 105, 110] U8 S5 by rw [eS5]; exact frm.pI (by decide))
      obtain ⟨n9, h⟩ := h
      exact ⟨n9, fr_draw_L38 n9 f h⟩
    · replace h := h.2 c
      refine ⟨h.1, ?_⟩
      replace h := h.2
      intro S64 eS64
      replace h := h S64 eS64
      replace f := f.tr (show frm [49, 50, 51, 52, 53] [47, 48, 49, 50, 51, 52, 53, 54, 105, 110] U8 S64 by rw [eS64]; exact frm.pI (by decide))
      intro a65 ea65
      replace h := h a65 ea65
      exact ih f h
set_option maxRecDepth 100000 in
theorem fr_draw {S : MS} {p1 : Nat} {x2 : Int32} {Q : MS → Prop} (h : w_draw S p1 x2 Q) : w_draw S p1 x2 (fun u => Q u ∧ frm [49, 50, 51, 52, 53] [47, 48, 49, 50, 51, 52, 53, 54, 105, 110] S u) := by
  have f : frm [49, 50, 51, 52, 53] [47, 48, 49, 50, 51, 52, 53, 54, 105, 110] S S := frm.rf
  unfold w_draw at h ⊢
  obtain ⟨Q9, h0, h⟩ := h
  refine ⟨_, fr_look h0, ?_⟩
  · intro S2 hq
    replace h := h S2 hq.1
    replace f := f.tr (hq.2.mo (by decide) (by decide))
    obtain ⟨n9, h⟩ := h
    exact ⟨n9, fr_draw_L8 n9 f h⟩
set_option maxRecDepth 100000 in
theorem fr_loop_J294 {S0 : MS} {Q : MS → Prop} {k264 k264' : MS → Int32 → Prop} {U294 : MS} {v294_4 : Int32} (hk264 : ∀ (u : MS) (z0), frm [56, 57, 58] [] S0 u → k264 u z0 → k264' u z0) (f : frm [56, 57, 58] [] S0 U294) (h : w_loop_J294 Q k264 U294 v294_4) : w_loop_J294 (fun u => Q u ∧ frm [56, 57, 58] [] S0 u) k264' U294 v294_4 := by
  unfold w_loop_J294 at h ⊢
  intro a11 ea11
  replace h := h a11 ea11
  exact hk264 _ _ f h
set_option maxRecDepth 100000 in
theorem fr_loop_J252 {S0 : MS} {Q : MS → Prop} {k137 k137' : MS → Int32 → Int32 → Int32 → Prop} {U252 : MS} {v252_1 : Int32} {v252_3 : Int32} {v252_4 : Int32} (hk137 : ∀ (u : MS) (z0) (z1) (z2), frm [56, 57, 58] [] S0 u → k137 u z0 z1 z2 → k137' u z0 z1 z2) (f : frm [56, 57, 58] [] S0 U252) (h : w_loop_J252 Q k137 U252 v252_1 v252_3 v252_4) : w_loop_J252 (fun u => Q u ∧ frm [56, 57, 58] [] S0 u) k137' U252 v252_1 v252_3 v252_4 := by
  unfold w_loop_J252 at h ⊢
  intro a21 ea21
  replace h := h a21 ea21
  exact hk137 _ _ _ _ f h
set_option maxRecDepth 100000 in
theorem fr_loop_J251 {S0 : MS} {Q : MS → Prop} {k137 k137' : MS → Int32 → Int32 → Int32 → Prop} {U251 : MS} {t251_0 : Int32} {v251_1 : Int32} {v251_4 : Int32} (hk137 : ∀ (u : MS) (z0) (z1) (z2), frm [56, 57, 58] [] S0 u → k137 u z0 z1 z2 → k137' u z0 z1 z2) (f : frm [56, 57, 58] [] S0 U251) (h : w_loop_J251 Q k137 U251 t251_0 v251_1 v251_4) : w_loop_J251 (fun u => Q u ∧ frm [56, 57, 58] [] S0 u) k137' U251 t251_0 v251_1 v251_4 := by
  unfold w_loop_J251 at h ⊢
  exact fr_loop_J252 hk137 f h
set_option maxRecDepth 100000 in
theorem fr_loop_J246 {S0 : MS} {Q : MS → Prop} {k137 k137' : MS → Int32 → Int32 → Int32 → Prop} {U246 : MS} {v246_1 : Int32} {v246_4 : Int32} (hk137 : ∀ (u : MS) (z0) (z1) (z2), frm [56, 57, 58] [] S0 u → k137 u z0 z1 z2 → k137' u z0 z1 z2) (f : frm [56, 57, 58] [] S0 U246) (h : w_loop_J246 Q k137 U246 v246_1 v246_4) : w_loop_J246 (fun u => Q u ∧ frm [56, 57, 58] [] S0 u) k137' U246 v246_1 v246_4 := by
  unfold w_loop_J246 at h ⊢
  exact fr_loop_J251 hk137 f h
set_option maxRecDepth 100000 in
theorem fr_loop_J226 {S0 : MS} {Q : MS → Prop} {k178 k178' : MS → Int32 → Int32 → Int32 → Int32 → Prop} {U226 : MS} {v226_1 : Int32} {v226_3 : Int32} {v226_4 : Int32} {v226_5 : Int32} (hk178 : ∀ (u : MS) (z0) (z1) (z2) (z3), frm [56, 57, 58] [] S0 u → k178 u z0 z1 z2 z3 → k178' u z0 z1 z2 z3) (f : frm [56, 57, 58] [] S0 U226) (h : w_loop_J226 Q k178 U226 v226_1 v226_3 v226_4 v226_5) : w_loop_J226 (fun u => Q u ∧ frm [56, 57, 58] [] S0 u) k178' U226 v226_1 v226_3 v226_4 v226_5 := by
  unfold w_loop_J226 at h ⊢
  intro a41 ea41
  replace h := h a41 ea41
  exact hk178 _ _ _ _ _ f h
set_option maxRecDepth 100000 in
theorem fr_loop_J100 {S0 : MS} {Q : MS → Prop} {k4 k4' : MS → Int32 → Int32 → Int32 → Prop} {U100 : MS} {t100_0 : Int32} {v100_1 : Int32} {v100_3 : Int32} (hk4 : ∀ (u : MS) (z0) (z1) (z2), frm [56, 57, 58] [] S0 u → k4 u z0 z1 z2 → k4' u z0 z1 z2) (f : frm [56, 57, 58] [] S0 U100) (h : w_loop_J100 Q k4 U100 t100_0 v100_1 v100_3) : w_loop_J100 (fun u => Q u ∧ frm [56, 57, 58] [] S0 u) k4' U100 t100_0 v100_1 v100_3 := by
  unfold w_loop_J100 at h ⊢
  intro a55 ea55
  replace h := h a55 ea55
  exact hk4 _ _ _ _ f h
set_option maxRecDepth 100000 in
theorem fr_loop_J95 {S0 : MS} {Q : MS → Prop} {k4 k4' : MS → Int32 → Int32 → Int32 → Prop} {U95 : MS} {v95_1 : Int32} {v95_3 : Int32} (hk4 : ∀ (u : MS) (z0) (z1) (z2), frm [56, 57, 58] [] S0 u → k4 u z0 z1 z2 → k4' u z0 z1 z2) (f : frm [56, 57, 58] [] S0 U95) (h : w_loop_J95 Q k4 U95 v95_1 v95_3) : w_loop_J95 (fun u => Q u ∧ frm [56, 57, 58] [] S0 u) k4' U95 v95_1 v95_3 := by
  unfold w_loop_J95 at h ⊢
  exact fr_loop_J100 hk4 f h
set_option maxRecDepth 100000 in
theorem fr_loop_J82 {S0 : MS} {Q : MS → Prop} {k4 k4' : MS → Int32 → Int32 → Int32 → Prop} {U82 : MS} {v82_1 : Int32} {v82_2 : Int32} {v82_3 : Int32} (hk4 : ∀ (u : MS) (z0) (z1) (z2), frm [56, 57, 58] [] S0 u → k4 u z0 z1 z2 → k4' u z0 z1 z2) (f : frm [56, 57, 58] [] S0 U82) (h : w_loop_J82 Q k4 U82 v82_1 v82_2 v82_3) : w_loop_J82 (fun u => Q u ∧ frm [56, 57, 58] [] S0 u) k4' U82 v82_1 v82_2 v82_3 := by
  unfold w_loop_J82 at h ⊢
  refine ⟨fun c => ?_, fun c => ?_⟩
  · replace h := h.1 c
    refine ⟨h.1, ?_⟩
    replace h := h.2
    refine ⟨fun c => ?_, fun c => ?_⟩
    · replace h := h.1 c
      exact fr_loop_J100 hk4 f h
    · replace h := h.2 c
      exact fr_loop_J95 hk4 f h
  · replace h := h.2 c
    exact fr_loop_J95 hk4 f h
set_option maxRecDepth 100000 in
theorem fr_loop_J76 {S0 : MS} {Q : MS → Prop} {k27 k27' : MS → Int32 → Int32 → Int32 → Int32 → Prop} {U76 : MS} {v76_1 : Int32} {v76_2 : Int32} {v76_3 : Int32} {v76_4 : Int32} (hk27 : ∀ (u : MS) (z0) (z1) (z2) (z3), frm [56, 57, 58] [] S0 u → k27 u z0 z1 z2 z3 → k27' u z0 z1 z2 z3) (f : frm [56, 57, 58] [] S0 U76) (h : w_loop_J76 Q k27 U76 v76_1 v76_2 v76_3 v76_4) : w_loop_J76 (fun u => Q u ∧ frm [56, 57, 58] [] S0 u) k27' U76 v76_1 v76_2 v76_3 v76_4 := by
  unfold w_loop_J76 at h ⊢
  intro a67 ea67
  replace h := h a67 ea67
  exact hk27 _ _ _ _ _ f h
set_option maxRecDepth 100000 in
theorem fr_loop_L264 {S0 : MS} {Q : MS → Prop} : ∀ (n : Nat) {U264 : MS} {v264_4 : Int32}, frm [56, 57, 58] [] S0 U264 → w_loop_L264 Q n U264 v264_4 → w_loop_L264 (fun u => Q u ∧ frm [56, 57, 58] [] S0 u) n U264 v264_4 := by
  intro n
  induction n with
  | zero => intro U264 v264_4 f h; unfold w_loop_L264 at h; exact h.elim
  | succ n ih =>
    intro U264 v264_4 f h
    unfold w_loop_L264 at h ⊢
    refine ⟨fun c => ?_, fun c => ?_⟩
    · replace h := h.1 c
      exact ⟨h, f⟩
    · replace h := h.2 c
      refine ⟨h.1, ?_⟩
      replace h := h.2
      refine ⟨fun c => ?_, fun c => ?_⟩
      · replace h := h.1 c
        exact fr_loop_J294 (fun _ _ f h => ih f h) f h
      · replace h := h.2 c
        refine ⟨h.1, ?_⟩
        replace h := h.2
        refine ⟨h.1, ?_⟩
        replace h := h.2
        intro S17 eS17
        replace h := h S17 eS17
        replace f := f.tr (show frm [56, 57, 58] [] U264 S17 by rw [eS17]; exact frm.pI (by decide))
        exact fr_loop_J294 (fun _ _ f h => ih f h) f h
set_option maxRecDepth 100000 in
theorem fr_loop_L178 {S0 : MS} {Q : MS → Prop} {k137 k137' : MS → Int32 → Int32 → Int32 → Prop} (hk137 : ∀ (u : MS) (z0) (z1) (z2), frm [56, 57, 58] [] S0 u → k137 u z0 z1 z2 → k137' u z0 z1 z2) : ∀ (n : Nat) {U178 : MS} {v178_1 : Int32} {v178_3 : Int32} {v178_4 : Int32} {v178_5 : Int32}, frm [56, 57, 58] [] S0 U178 → w_loop_L178 Q k137 n U178 v178_1 v178_3 v178_4 v178_5 → w_loop_L178 (fun u => Q u ∧ frm [56, 57, 58] [] S0 u) k137' n U178 v178_1 v178_3 v178_4 v178_5 := by
  intro n
  induction n with
  | zero => intro U178 v178_1 v178_3 v178_4 v178_5 f h; unfold w_loop_L178 at h; exact h.elim
  | succ n ih =>
    intro U178 v178_1 v178_3 v178_4 v178_5 f h
    unfold w_loop_L178 at h ⊢
    refine ⟨h.1, ?_⟩
    replace h := h.2
    refine ⟨fun c => ?_, fun c => ?_⟩
    · replace h := h.1 c
      refine ⟨fun c => ?_, fun c => ?_⟩
      · replace h := h.1 c
        refine ⟨h.1, ?_⟩
        replace h := h.2
        refine ⟨fun c => ?_, fun c => ?_⟩
        · replace h := h.1 c
          exact fr_loop_J251 hk137 f h
        · replace h := h.2 c
          exact fr_loop_J246 hk137 f h
      · replace h := h.2 c
        exact fr_loop_J246 hk137 f h
    · replace h := h.2 c
      refine ⟨h.1, ?_⟩
      replace h := h.2
      refine ⟨h.1, ?_⟩
      replace h := h.2
      refine ⟨fun c => ?_, fun c => ?_⟩
      · replace h := h.1 c
        exact fr_loop_J226 (fun _ _ _ _ _ f h => ih f h) f h
      · replace h := h.2 c
        refine ⟨h.1, ?_⟩
        replace h := h.2
        refine ⟨fun c => ?_, fun c => ?_⟩
        · replace h := h.1 c
          exact fr_loop_J226 (fun _ _ _ _ _ f h => ih f h) f h
        · replace h := h.2 c
          refine ⟨h.1, ?_⟩
          replace h := h.2
          intro S47 eS47
          replace h := h S47 eS47
          replace f := f.tr (show frm [56, 57, 58] [] U178 S47 by rw [eS47]; exact frm.pI (by decide))
          exact fr_loop_J226 (fun _ _ _ _ _ f h => ih f h) f h
set_option maxRecDepth 100000 in
theorem fr_loop_L137 {S0 : MS} {Q : MS → Prop} {k128 k128' : MS → Int32 → Int32 → Prop} (hk128 : ∀ (u : MS) (z0) (z1), frm [56, 57, 58] [] S0 u → k128 u z0 z1 → k128' u z0 z1) : ∀ (n : Nat) {U137 : MS} {v137_1 : Int32} {v137_3 : Int32} {v137_4 : Int32}, frm [56, 57, 58] [] S0 U137 → w_loop_L137 Q k128 n U137 v137_1 v137_3 v137_4 → w_loop_L137 (fun u => Q u ∧ frm [56, 57, 58] [] S0 u) k128' n U137 v137_1 v137_3 v137_4 := by
  intro n
  induction n with
  | zero => intro U137 v137_1 v137_3 v137_4 f h; unfold w_loop_L137 at h; exact h.elim
  | succ n ih =>
    intro U137 v137_1 v137_3 v137_4 f h
    unfold w_loop_L137 at h ⊢
    refine ⟨fun c => ?_, fun c => ?_⟩
    · replace h := h.1 c
      exact hk128 _ _ _ f h
    · replace h := h.2 c
      refine ⟨h.1, ?_⟩
      replace h := h.2
      refine ⟨fun c => ?_, fun c => ?_⟩
      · replace h := h.1 c
        refine ⟨h.1, ?_⟩
        replace h := h.2
        refine ⟨fun c => ?_, fun c => ?_⟩
        · replace h := h.1 c
          exact fr_loop_J252 (fun _ _ _ _ f h => ih f h) f h
        · replace h := h.2 c
          refine ⟨h.1, ?_⟩
          replace h := h.2
          intro a28 ea28
          replace h := h a28 ea28
          obtain ⟨n9, h⟩ := h
          exact ⟨n9, fr_loop_L178 (fun _ _ _ _ f h => ih f h) n9 f h⟩
      · replace h := h.2 c
        exact fr_loop_J252 (fun _ _ _ _ f h => ih f h) f h
set_option maxRecDepth 100000 in
theorem fr_loop_L128 {S0 : MS} {Q : MS → Prop} : ∀ (n : Nat) {U128 : MS} {v128_1 : Int32} {v128_3 : Int32}, frm [56, 57, 58] [] S0 U128 → w_loop_L128 Q n U128 v128_1 v128_3 → w_loop_L128 (fun u => Q u ∧ frm [56, 57, 58] [] S0 u) n U128 v128_1 v128_3 := by
  intro n
  induction n with
  | zero => intro U128 v128_1 v128_3 f h; unfold w_loop_L128 at h; exact h.elim
  | succ n ih =>
    intro U128 v128_1 v128_3 f h
    unfold w_loop_L128 at h ⊢
    refine ⟨fun c => ?_, fun c => ?_⟩
    · replace h := h.1 c
      obtain ⟨n9, h⟩ := h
      exact ⟨n9, fr_loop_L264 n9 f h⟩
    · replace h := h.2 c
      obtain ⟨n9, h⟩ := h
      exact ⟨n9, fr_loop_L137 (fun _ _ _ f h => ih f h) n9 f h⟩
set_option maxRecDepth 100000 in
theorem fr_loop_L27 {S0 : MS} {Q : MS → Prop} {k4 k4' : MS → Int32 → Int32 → Int32 → Prop} (hk4 : ∀ (u : MS) (z0) (z1) (z2), frm [56, 57, 58] [] S0 u → k4 u z0 z1 z2 → k4' u z0 z1 z2) : ∀ (n : Nat) {U27 : MS} {v27_1 : Int32} {v27_2 : Int32} {v27_3 : Int32} {v27_4 : Int32}, frm [56, 57, 58] [] S0 U27 → w_loop_L27 Q k4 n U27 v27_1 v27_2 v27_3 v27_4 → w_loop_L27 (fun u => Q u ∧ frm [56, 57, 58] [] S0 u) k4' n U27 v27_1 v27_2 v27_3 v27_4 := by
  intro n
  induction n with
  | zero => intro U27 v27_1 v27_2 v27_3 v27_4 f h; unfold w_loop_L27 at h; exact h.elim
  | succ n ih =>
    intro U27 v27_1 v27_2 v27_3 v27_4 f h
    unfold w_loop_L27 at h ⊢
    refine ⟨h.1, ?_⟩
    replace h := h.2
    refine ⟨fun c => ?_, fun c => ?_⟩
    · replace h := h.1 c
      exact fr_loop_J82 hk4 f h
    · replace h := h.2 c
      refine ⟨h.1, ?_⟩
      replace h := h.2
      refine ⟨fun c => ?_, fun c => ?_⟩
      · replace h := h.1 c
        exact fr_loop_J82 hk4 f h
      · replace h := h.2 c
        refine ⟨h.1, ?_⟩
        replace h := h.2
        refine ⟨fun c => ?_, fun c => ?_⟩
        · replace h := h.1 c
          refine ⟨h.1, ?_⟩
          replace h := h.2
          refine ⟨fun c => ?_, fun c => ?_⟩
          · replace h := h.1 c
            exact fr_loop_J76 (fun _ _ _ _ _ f h => ih f h) f h
          · replace h := h.2 c
            refine ⟨h.1, ?_⟩
            replace h := h.2
            intro S74 eS74
            replace h := h S74 eS74
            replace f := f.tr (show frm [56, 57, 58] [] U27 S74 by rw [eS74]; exact frm.pI (by decide))
            exact fr_loop_J76 (fun _ _ _ _ _ f h => ih f h) f h
        · replace h := h.2 c
          exact fr_loop_J76 (fun _ _ _ _ _ f h => ih f h) f h
set_option maxRecDepth 100000 in
theorem fr_loop_L4 {S0 : MS} {Q : MS → Prop} : ∀ (n : Nat) {U4 : MS} {v4_1 : Int32} {v4_2 : Int32} {v4_3 : Int32}, frm [56, 57, 58] [] S0 U4 → w_loop_L4 Q n U4 v4_1 v4_2 v4_3 → w_loop_L4 (fun u => Q u ∧ frm [56, 57, 58] [] S0 u) n U4 v4_1 v4_2 v4_3 := by
  intro n
  induction n with
  | zero => intro U4 v4_1 v4_2 v4_3 f h; unfold w_loop_L4 at h; exact h.elim
  | succ n ih =>
    intro U4 v4_1 v4_2 v4_3 f h
    unfold w_loop_L4 at h ⊢
    refine ⟨fun c => ?_, fun c => ?_⟩
    · replace h := h.1 c
      refine ⟨fun c => ?_, fun c => ?_⟩
      · replace h := h.1 c
        exact ⟨h, f⟩
      · replace h := h.2 c
        refine ⟨h.1, ?_⟩
        replace h := h.2
        intro S4 eS4
        replace h := h S4 eS4
        replace f := f.tr (show frm [56, 57, 58] [] U4 S4 by rw [eS4]; exact frm.pI (by decide))
        refine ⟨h.1, ?_⟩
        replace h := h.2
        intro S6 eS6
        replace h := h S6 eS6
        replace f := f.tr (show frm [56, 57, 58] [] S4 S6 by rw [eS6]; exact frm.pI (by decide))
        obtain ⟨n9, h⟩ := h
        exact ⟨n9, fr_loop_L128 n9 f h⟩
    · replace h := h.2 c
      refine ⟨h.1, ?_⟩
      replace h := h.2
      intro S49 eS49
      replace h := h S49 eS49
      replace f := f.tr (show frm [56, 57, 58] [] U4 S49 by rw [eS49]; exact frm.pI (by decide))
      refine ⟨h.1, ?_⟩
      replace h := h.2
      intro a52 ea52
      replace h := h a52 ea52
      obtain ⟨n9, h⟩ := h
      exact ⟨n9, fr_loop_L27 (fun _ _ _ _ f h => ih f h) n9 f h⟩
set_option maxRecDepth 100000 in
theorem fr_loop {S : MS} {x1 : Int32} {Q : MS → Prop} (h : w_loop S x1 Q) : w_loop S x1 (fun u => Q u ∧ frm [56, 57, 58] [] S u) := by
  have f : frm [56, 57, 58] [] S S := frm.rf
  unfold w_loop at h ⊢
  obtain ⟨n9, h⟩ := h
  exact ⟨n9, fr_loop_L4 n9 f h⟩
set_option maxRecDepth 100000 in
theorem fr_loops_J54 {S0 : MS} {Q : MS → Prop} {k32 k32' : MS → Int32 → Prop} {U54 : MS} {v54_1 : Int32} (hk32 : ∀ (u : MS) (z0), frm [56, 57, 58] [] S0 u → k32 u z0 → k32' u z0) (f : frm [56, 57, 58] [] S0 U54) (h : w_loops_J54 Q k32 U54 v54_1) : w_loops_J54 (fun u => Q u ∧ frm [56, 57, 58] [] S0 u) k32' U54 v54_1 := by
  unfold w_loops_J54 at h ⊢
  intro a5 ea5
  replace h := h a5 ea5
  exact hk32 _ _ f h
set_option maxRecDepth 100000 in
theorem fr_loops_L32 {S0 : MS} {Q : MS → Prop} : ∀ (n : Nat) {U32 : MS} {v32_1 : Int32}, frm [56, 57, 58] [] S0 U32 → w_loops_L32 Q n U32 v32_1 → w_loops_L32 (fun u => Q u ∧ frm [56, 57, 58] [] S0 u) n U32 v32_1 := by
  intro n
  induction n with
  | zero => intro U32 v32_1 f h; unfold w_loops_L32 at h; exact h.elim
  | succ n ih =>
    intro U32 v32_1 f h
    unfold w_loops_L32 at h ⊢
    refine ⟨fun c => ?_, fun c => ?_⟩
    · replace h := h.1 c
      exact ⟨h, f⟩
    · replace h := h.2 c
      refine ⟨h.1, ?_⟩
      replace h := h.2
      refine ⟨fun c => ?_, fun c => ?_⟩
      · replace h := h.1 c
        exact fr_loops_J54 (fun _ _ f h => ih f h) f h
      · replace h := h.2 c
        obtain ⟨Q9, h0, h⟩ := h
        refine ⟨_, fr_loop h0, ?_⟩
        · intro S8 hq
          replace h := h S8 hq.1
          replace f := f.tr (hq.2.mo (by decide) (by decide))
          exact fr_loops_J54 (fun _ _ f h => ih f h) f h
set_option maxRecDepth 100000 in
theorem fr_loops_L2 {S0 : MS} {Q : MS → Prop} : ∀ (n : Nat) {U2 : MS} {v2_1 : Int32}, frm [56, 57, 58] [] S0 U2 → w_loops_L2 Q n U2 v2_1 → w_loops_L2 (fun u => Q u ∧ frm [56, 57, 58] [] S0 u) n U2 v2_1 := by
  intro n
  induction n with
  | zero => intro U2 v2_1 f h; unfold w_loops_L2 at h; exact h.elim
  | succ n ih =>
    intro U2 v2_1 f h
    unfold w_loops_L2 at h ⊢
    refine ⟨fun c => ?_, fun c => ?_⟩
    · replace h := h.1 c
      obtain ⟨n9, h⟩ := h
      exact ⟨n9, fr_loops_L32 n9 f h⟩
    · replace h := h.2 c
      refine ⟨h.1, ?_⟩
      replace h := h.2
      intro S11 eS11
      replace h := h S11 eS11
      replace f := f.tr (show frm [56, 57, 58] [] U2 S11 by rw [eS11]; exact frm.pI (by decide))
      refine ⟨h.1, ?_⟩
      replace h := h.2
      intro S13 eS13
      replace h := h S13 eS13
      replace f := f.tr (show frm [56, 57, 58] [] S11 S13 by rw [eS13]; exact frm.pI (by decide))
      intro a14 ea14
      replace h := h a14 ea14
      exact ih f h
set_option maxRecDepth 100000 in
theorem fr_loops {S : MS} {Q : MS → Prop} (h : w_loops S  Q) : w_loops S  (fun u => Q u ∧ frm [56, 57, 58] [] S u) := by
  have f : frm [56, 57, 58] [] S S := frm.rf
  unfold w_loops at h ⊢
  obtain ⟨n9, h⟩ := h
  exact ⟨n9, fr_loops_L2 n9 f h⟩
set_option maxRecDepth 100000 in
theorem fr_graph_J17 {S0 : MS} {Q : MS → Prop} {U17 : MS} {v17_1 : Int32} {v17_2 : Int32} (f : frm [49, 50, 51, 52, 53, 54, 55, 56, 57, 58, 59] [47, 48, 49, 50, 51, 52, 53, 54, 105, 106, 107, 110] S0 U17) (h : w_graph_J17 Q U17 v17_1 v17_2) : w_graph_J17 (fun u => Q u ∧ frm [49, 50, 51, 52, 53, 54, 55, 56, 57, 58, 59] [47, 48, 49, 50, 51, 52, 53, 54, 105, 106, 107, 110] S0 u) U17 v17_1 v17_2 := by
  unfold w_graph_J17 at h ⊢
  refine ⟨h.1, ?_⟩
  replace h := h.2
  refine ⟨h.1, ?_⟩
  replace h := h.2
  obtain ⟨Q9, h0, h⟩ := h
  refine ⟨_, fr_draw h0, ?_⟩
  · intro S5 hq
    replace h := h S5 hq.1
    replace f := f.tr (hq.2.mo (by decide) (by decide))
    obtain ⟨Q9, h0, h⟩ := h
    refine ⟨_, fr_dominate h0, ?_⟩
    · intro S8 hq
      replace h := h S8 hq.1
      replace f := f.tr (hq.2.mo (by decide) (by decide))
      obtain ⟨Q9, h0, h⟩ := h
      refine ⟨_, fr_loops h0, ?_⟩
      · intro S11 hq
        replace h := h S11 hq.1
        replace f := f.tr (hq.2.mo (by decide) (by decide))
        intro S13 eS13
        replace h := h S13 eS13
        replace f := f.tr (show frm [49, 50, 51, 52, 53, 54, 55, 56, 57, 58, 59] [47, 48, 49, 50, 51, 52, 53, 54, 105, 106, 107, 110] S11 S13 by rw [eS13]; exact frm.pI0 (by decide))
        intro S14 eS14
        replace h := h S14 eS14
        replace f := f.tr (show frm [49, 50, 51, 52, 53, 54, 55, 56, 57, 58, 59] [47, 48, 49, 50, 51, 52, 53, 54, 105, 106, 107, 110] S13 S14 by rw [eS14]; exact frm.pI0 (by decide))
        exact ⟨h, f⟩
set_option maxRecDepth 100000 in
theorem fr_graph {S : MS} {x1 : Int32} {x2 : Int32} {Q : MS → Prop} (h : w_graph S x1 x2 Q) : w_graph S x1 x2 (fun u => Q u ∧ frm [49, 50, 51, 52, 53, 54, 55, 56, 57, 58, 59] [47, 48, 49, 50, 51, 52, 53, 54, 105, 106, 107, 110] S u) := by
  have f : frm [49, 50, 51, 52, 53, 54, 55, 56, 57, 58, 59] [47, 48, 49, 50, 51, 52, 53, 54, 105, 106, 107, 110] S S := frm.rf
  unfold w_graph at h ⊢
  refine ⟨fun c => ?_, fun c => ?_⟩
  · replace h := h.1 c
    refine ⟨fun c => ?_, fun c => ?_⟩
    · replace h := h.1 c
      exact ⟨h, f⟩
    · replace h := h.2 c
      exact fr_graph_J17 f h
  · replace h := h.2 c
    exact fr_graph_J17 f h
set_option maxRecDepth 100000 in
theorem fr_fileAt_J21 {S0 : MS} {Q : Option Nat → MS → Prop} {U21 : MS} (f : frm [] [] S0 U21) (h : w_fileAt_J21 Q U21) : w_fileAt_J21 (fun r u => Q r u ∧ frm [] [] S0 u) U21 := by
  unfold w_fileAt_J21 at h ⊢
  exact ⟨h, f⟩
set_option maxRecDepth 100000 in
theorem fr_fileAt {S : MS} {x1 : Int32} {Q : Option Nat → MS → Prop} (h : w_fileAt S x1 Q) : w_fileAt S x1 (fun r u => Q r u ∧ frm [] [] S u) := by
  have f : frm [] [] S S := frm.rf
  unfold w_fileAt at h ⊢
  refine ⟨fun c => ?_, fun c => ?_⟩
  · replace h := h.1 c
    exact fr_fileAt_J21 f h
  · replace h := h.2 c
    refine ⟨fun c => ?_, fun c => ?_⟩
    · replace h := h.1 c
      exact fr_fileAt_J21 f h
    · replace h := h.2 c
      refine ⟨h.1, ?_⟩
      replace h := h.2
      refine ⟨h.1, ?_⟩
      replace h := h.2
      exact ⟨h, f⟩
set_option maxRecDepth 100000 in
theorem fr_isMethod_J29 {S0 : MS} {Q : Int32 → MS → Prop} {U29 : MS} (f : frm [] [] S0 U29) (h : w_isMethod_J29 Q U29) : w_isMethod_J29 (fun r u => Q r u ∧ frm [] [] S0 u) U29 := by
  unfold w_isMethod_J29 at h ⊢
  exact ⟨h, f⟩
set_option maxRecDepth 100000 in
theorem fr_isMethod {S : MS} {x1 : Int32} {x2 : Int32} {Q : Int32 → MS → Prop} (h : w_isMethod S x1 x2 Q) : w_isMethod S x1 x2 (fun r u => Q r u ∧ frm [] [] S u) := by
  have f : frm [] [] S S := frm.rf
  unfold w_isMethod at h ⊢
  obtain ⟨Q9, h0, h⟩ := h
  refine ⟨_, fr_fileAt h0, ?_⟩
  · intro b5 S3 hq
    replace h := h b5 S3 hq.1
    replace f := f.tr (hq.2.mo (by decide) (by decide))
    refine ⟨fun c => ?_, fun c => ?_⟩
    · replace h := h.1 c
      exact fr_isMethod_J29 f h
    · replace h := h.2 c
      refine ⟨fun c => ?_, fun c => ?_⟩
      · replace h := h.1 c
        exact fr_isMethod_J29 f h
      · replace h := h.2 c
        refine ⟨h.1, ?_⟩
        replace h := h.2
        refine ⟨h.1, ?_⟩
        replace h := h.2
        refine ⟨fun c => ?_, fun c => ?_⟩
        · replace h := h.1 c
          exact fr_isMethod_J29 f h
        · replace h := h.2 c
          exact ⟨h, f⟩
set_option maxRecDepth 100000 in
theorem fr_block {S : MS} {x1 : Int32} {x2 : Int32} {x3 : Int32} {x4 : Int32} {Q : Int32 → MS → Prop} (h : w_block S x1 x2 x3 x4 Q) : w_block S x1 x2 x3 x4 (fun r u => Q r u ∧ frm [49, 50, 51, 52, 53, 54, 55, 56, 57, 58, 59] [47, 48, 49, 50, 51, 52, 53, 54, 105, 106, 107, 110] S u) := by
  have f : frm [49, 50, 51, 52, 53, 54, 55, 56, 57, 58, 59] [47, 48, 49, 50, 51, 52, 53, 54, 105, 106, 107, 110] S S := frm.rf
  unfold w_block at h ⊢
  obtain ⟨Q9, h0, h⟩ := h
  refine ⟨_, fr_isMethod h0, ?_⟩
  · intro r2 S3 hq
    replace h := h r2 S3 hq.1
    replace f := f.tr (hq.2.mo (by decide) (by decide))
    refine ⟨fun c => ?_, fun c => ?_⟩
    · replace h := h.1 c
      exact ⟨h, f⟩
    · replace h := h.2 c
      obtain ⟨Q9, h0, h⟩ := h
      refine ⟨_, fr_graph h0, ?_⟩
      · intro S7 hq
        replace h := h S7 hq.1
        replace f := f.tr (hq.2.mo (by decide) (by decide))
        refine ⟨fun c => ?_, fun c => ?_⟩
        · replace h := h.1 c
          exact ⟨h, f⟩
        · replace h := h.2 c
          refine ⟨fun c => ?_, fun c => ?_⟩
          · replace h := h.1 c
            refine ⟨fun c => ?_, fun c => ?_⟩
            · replace h := h.1 c
              refine ⟨h.1, ?_⟩
              replace h := h.2
              exact ⟨h, f⟩
            · replace h := h.2 c
              refine ⟨fun c => ?_, fun c => ?_⟩
              · replace h := h.1 c
                refine ⟨h.1, ?_⟩
                replace h := h.2
                refine ⟨fun c => ?_, fun c => ?_⟩
                · replace h := h.1 c
                  exact ⟨h, f⟩
                · replace h := h.2 c
                  exact ⟨h, f⟩
              · replace h := h.2 c
                refine ⟨fun c => ?_, fun c => ?_⟩
                · replace h := h.1 c
                  refine ⟨h.1, ?_⟩
                  replace h := h.2
                  exact ⟨h, f⟩
                · replace h := h.2 c
                  refine ⟨fun c => ?_, fun c => ?_⟩
                  · replace h := h.1 c
                    refine ⟨h.1, ?_⟩
                    replace h := h.2
                    refine ⟨fun c => ?_, fun c => ?_⟩
                    · replace h := h.1 c
                      exact ⟨h, f⟩
                    · replace h := h.2 c
                      exact ⟨h, f⟩
                  · replace h := h.2 c
                    refine ⟨fun c => ?_, fun c => ?_⟩
                    · replace h := h.1 c
                      refine ⟨h.1, ?_⟩
                      replace h := h.2
                      exact ⟨h, f⟩
                    · replace h := h.2 c
                      refine ⟨fun c => ?_, fun c => ?_⟩
                      · replace h := h.1 c
                        refine ⟨h.1, ?_⟩
                        replace h := h.2
                        refine ⟨h.1, ?_⟩
                        replace h := h.2
                        exact ⟨h, f⟩
                      · replace h := h.2 c
                        exact ⟨h, f⟩
          · replace h := h.2 c
            exact ⟨h, f⟩
set_option maxRecDepth 100000 in
theorem fr_blocks {S : MS} {x1 : Int32} {x2 : Int32} {Q : Int32 → MS → Prop} (h : w_blocks S x1 x2 Q) : w_blocks S x1 x2 (fun r u => Q r u ∧ frm [49, 50, 51, 52, 53, 54, 55, 56, 57, 58, 59] [47, 48, 49, 50, 51, 52, 53, 54, 105, 106, 107, 110] S u) := by
  have f : frm [49, 50, 51, 52, 53, 54, 55, 56, 57, 58, 59] [47, 48, 49, 50, 51, 52, 53, 54, 105, 106, 107, 110] S S := frm.rf
  unfold w_blocks at h ⊢
  obtain ⟨Q9, h0, h⟩ := h
  refine ⟨_, fr_isMethod h0, ?_⟩
  · intro r2 S3 hq
    replace h := h r2 S3 hq.1
    replace f := f.tr (hq.2.mo (by decide) (by decide))
    refine ⟨fun c => ?_, fun c => ?_⟩
    · replace h := h.1 c
      exact ⟨h, f⟩
    · replace h := h.2 c
      obtain ⟨Q9, h0, h⟩ := h
      refine ⟨_, fr_graph h0, ?_⟩
      · intro S7 hq
        replace h := h S7 hq.1
        replace f := f.tr (hq.2.mo (by decide) (by decide))
        exact ⟨h, f⟩
set_option maxRecDepth 100000 in
theorem fr_needConstant_J212 {S0 : MS} {Q : Int32 → MS → Prop} {E : MS → Prop} {U212 : MS} {t212_0 : Int32} {t212_1 : Int32} {v212_1 : Int32} (f : frm [28, 29, 30, 31, 32, 33] [7, 8, 73, 74] S0 U212) (h : w_needConstant_J212 Q E U212 t212_0 t212_1 v212_1) : w_needConstant_J212 (fun r u => Q r u ∧ frm [28, 29, 30, 31, 32, 33] [7, 8, 73, 74] S0 u) (fun u => E u ∧ frm [28, 29, 30, 31, 32, 33] [7, 8, 73, 74] S0 u) U212 t212_0 t212_1 v212_1 := by
  unfold w_needConstant_J212 at h ⊢
  intro S18 eS18
  replace h := h S18 eS18
  replace f := f.tr (show frm [28, 29, 30, 31, 32, 33] [7, 8, 73, 74] U212 S18 by rw [eS18]; exact frm.pI0 (by decide))
  refine ⟨fun c => ?_, fun c => ?_⟩
  · replace h := h.1 c
    exact ⟨h, f⟩
  · replace h := h.2 c
    exact ⟨h, f⟩
set_option maxRecDepth 100000 in
theorem fr_needConstant_J98 {S0 : MS} {Q : Int32 → MS → Prop} {E : MS → Prop} {k3 k3' : MS → Int32 → Int32 → Int32 → Int64 → Nat → Int32 → Prop} {U98 : MS} {v98_1 : Int32} {v98_2 : Int32} {v98_3 : Int32} {v98_4 : Int64} {v98_6 : Nat} {v98_7 : Int32} (hk3 : ∀ (u : MS) (z0) (z1) (z2) (z3) (z4) (z5), frm [28, 29, 30, 31, 32, 33] [7, 8, 73, 74] S0 u → k3 u z0 z1 z2 z3 z4 z5 → k3' u z0 z1 z2 z3 z4 z5) (f : frm [28, 29, 30, 31, 32, 33] [7, 8, 73, 74] S0 U98) (h : w_needConstant_J98 Q E k3 U98 v98_1 v98_2 v98_3 v98_4 v98_6 v98_7) : w_needConstant_J98 (fun r u => Q r u ∧ frm [28, 29, 30, 31, 32, 33] [7, 8, 73, 74] S0 u) (fun u => E u ∧ frm [28, 29, 30, 31, 32, 33] [7, 8, 73, 74] S0 u) k3' U98 v98_1 v98_2 v98_3 v98_4 v98_6 v98_7 := by
  unfold w_needConstant_J98 at h ⊢
  intro a30 ea30
  replace h := h a30 ea30
  exact hk3 _ _ _ _ _ _ _ f h
set_option maxRecDepth 100000 in
theorem fr_needConstant_J90 {S0 : MS} {Q : Int32 → MS → Prop} {E : MS → Prop} {U90 : MS} {v90_7 : Int32} (f : frm [28, 29, 30, 31, 32, 33] [7, 8, 73, 74] S0 U90) (h : w_needConstant_J90 Q E U90 v90_7) : w_needConstant_J90 (fun r u => Q r u ∧ frm [28, 29, 30, 31, 32, 33] [7, 8, 73, 74] S0 u) (fun u => E u ∧ frm [28, 29, 30, 31, 32, 33] [7, 8, 73, 74] S0 u) U90 v90_7 := by
  unfold w_needConstant_J90 at h ⊢
  refine ⟨h.1, ?_⟩
  replace h := h.2
  exact ⟨h, f⟩
set_option maxRecDepth 100000 in
theorem fr_needConstant_J63 {S0 : MS} {Q : Int32 → MS → Prop} {E : MS → Prop} {k3 k3' : MS → Int32 → Int32 → Int32 → Int64 → Nat → Int32 → Prop} {U63 : MS} {t63_0 : Int32} {v63_1 : Int32} {v63_2 : Int32} {v63_3 : Int32} {v63_4 : Int64} {v63_6 : Nat} {v63_7 : Int32} (hk3 : ∀ (u : MS) (z0) (z1) (z2) (z3) (z4) (z5), frm [28, 29, 30, 31, 32, 33] [7, 8, 73, 74] S0 u → k3 u z0 z1 z2 z3 z4 z5 → k3' u z0 z1 z2 z3 z4 z5) (f : frm [28, 29, 30, 31, 32, 33] [7, 8, 73, 74] S0 U63) (h : w_needConstant_J63 Q E k3 U63 t63_0 v63_1 v63_2 v63_3 v63_4 v63_6 v63_7) : w_needConstant_J63 (fun r u => Q r u ∧ frm [28, 29, 30, 31, 32, 33] [7, 8, 73, 74] S0 u) (fun u => E u ∧ frm [28, 29, 30, 31, 32, 33] [7, 8, 73, 74] S0 u) k3' U63 t63_0 v63_1 v63_2 v63_3 v63_4 v63_6 v63_7 := by
  unfold w_needConstant_J63 at h ⊢
  refine ⟨fun c => ?_, fun c => ?_⟩
  · replace h := h.1 c
    exact fr_needConstant_J98 hk3 f h
  · replace h := h.2 c
    refine ⟨fun c => ?_, fun c => ?_⟩
    · replace h := h.1 c
      refine ⟨h.1, ?_⟩
      replace h := h.2
      refine ⟨h.1, ?_⟩
      replace h := h.2
      refine ⟨fun c => ?_, fun c => ?_⟩
      · replace h := h.1 c
        exact fr_needConstant_J98 hk3 f h
      · replace h := h.2 c
        exact fr_needConstant_J90 f h
    · replace h := h.2 c
      exact fr_needConstant_J90 f h
set_option maxRecDepth 100000 in
theorem fr_needConstant_J62 {S0 : MS} {Q : Int32 → MS → Prop} {E : MS → Prop} {k3 k3' : MS → Int32 → Int32 → Int32 → Int64 → Nat → Int32 → Prop} {U62 : MS} {v62_1 : Int32} {v62_2 : Int32} {v62_3 : Int32} {v62_4 : Int64} {v62_6 : Nat} {v62_7 : Int32} (hk3 : ∀ (u : MS) (z0) (z1) (z2) (z3) (z4) (z5), frm [28, 29, 30, 31, 32, 33] [7, 8, 73, 74] S0 u → k3 u z0 z1 z2 z3 z4 z5 → k3' u z0 z1 z2 z3 z4 z5) (f : frm [28, 29, 30, 31, 32, 33] [7, 8, 73, 74] S0 U62) (h : w_needConstant_J62 Q E k3 U62 v62_1 v62_2 v62_3 v62_4 v62_6 v62_7) : w_needConstant_J62 (fun r u => Q r u ∧ frm [28, 29, 30, 31, 32, 33] [7, 8, 73, 74] S0 u) (fun u => E u ∧ frm [28, 29, 30, 31, 32, 33] [7, 8, 73, 74] S0 u) k3' U62 v62_1 v62_2 v62_3 v62_4 v62_6 v62_7 := by
  unfold w_needConstant_J62 at h ⊢
  exact fr_needConstant_J63 hk3 f h
set_option maxRecDepth 100000 in
theorem fr_needConstant_L3 {S0 : MS} {Q : Int32 → MS → Prop} {E : MS → Prop} : ∀ (n : Nat) {U3 : MS} {v3_1 : Int32} {v3_2 : Int32} {v3_3 : Int32} {v3_4 : Int64} {v3_6 : Nat} {v3_7 : Int32}, frm [28, 29, 30, 31, 32, 33] [7, 8, 73, 74] S0 U3 → w_needConstant_L3 Q E n U3 v3_1 v3_2 v3_3 v3_4 v3_6 v3_7 → w_needConstant_L3 (fun r u => Q r u ∧ frm [28, 29, 30, 31, 32, 33] [7, 8, 73, 74] S0 u) (fun u => E u ∧ frm [28, 29, 30, 31, 32, 33] [7, 8, 73, 74] S0 u) n U3 v3_1 v3_2 v3_3 v3_4 v3_6 v3_7 := by
  intro n
  induction n with
  | zero => intro U3 v3_1 v3_2 v3_3 v3_4 v3_6 v3_7 f h; unfold w_needConstant_L3 at h; exact h.elim
  | succ n ih =>
    intro U3 v3_1 v3_2 v3_3 v3_4 v3_6 v3_7 f h
    unfold w_needConstant_L3 at h ⊢
    refine ⟨fun c => ?_, fun c => ?_⟩
    · replace h := h.1 c
      refine ⟨fun c => ?_, fun c => ?_⟩
      · replace h := h.1 c
        obtain ⟨Q9, h0, h⟩ := h
        refine ⟨_, fr_broken h0, ?_⟩
        · intro b27 S25 hq
          replace h := h b27 S25 hq.1
          replace f := f.tr (hq.2.mo (by decide) (by decide))
          exact ⟨h, f⟩
      · replace h := h.2 c
        refine ⟨h.1, ?_⟩
        replace h := h.2
        intro S4 eS4
        replace h := h S4 eS4
        replace f := f.tr (show frm [28, 29, 30, 31, 32, 33] [7, 8, 73, 74] U3 S4 by rw [eS4]; exact frm.pI (by decide))
        refine ⟨h.1, ?_⟩
        replace h := h.2
        intro S6 eS6
        replace h := h S6 eS6
        replace f := f.tr (show frm [28, 29, 30, 31, 32, 33] [7, 8, 73, 74] S4 S6 by rw [eS6]; exact frm.pI (by decide))
        refine ⟨h.1, ?_⟩
        replace h := h.2
        intro S8 eS8
        replace h := h S8 eS8
        replace f := f.tr (show frm [28, 29, 30, 31, 32, 33] [7, 8, 73, 74] S6 S8 by rw [eS8]; exact frm.pI (by decide))
        refine ⟨h.1, ?_⟩
        replace h := h.2
        intro S10 eS10
        replace h := h S10 eS10
        replace f := f.tr (show frm [28, 29, 30, 31, 32, 33] [7, 8, 73, 74] S8 S10 by rw [eS10]; exact frm.pJ (by decide))
        refine ⟨h.1, ?_⟩
        replace h := h.2
        intro S12 eS12
        replace h := h S12 eS12
        replace f := f.tr (show frm [28, 29, 30, 31, 32, 33] [7, 8, 73, 74] S10 S12 by rw [eS12]; exact frm.pR (by decide))
        refine ⟨h.1, ?_⟩
        replace h := h.2
        intro S14 eS14
        replace h := h S14 eS14
        replace f := f.tr (show frm [28, 29, 30, 31, 32, 33] [7, 8, 73, 74] S12 S14 by rw [eS14]; exact frm.pI (by decide))
        intro S16 eS16
        replace h := h S16 eS16
        replace f := f.tr (show frm [28, 29, 30, 31, 32, 33] [7, 8, 73, 74] S14 S16 by rw [eS16]; exact frm.pI0 (by decide))
        refine ⟨fun c => ?_, fun c => ?_⟩
        · replace h := h.1 c
          exact fr_needConstant_J212 f h
        · replace h := h.2 c
          exact fr_needConstant_J212 f h
    · replace h := h.2 c
      refine ⟨h.1, ?_⟩
      replace h := h.2
      refine ⟨fun c => ?_, fun c => ?_⟩
      · replace h := h.1 c
        refine ⟨h.1, ?_⟩
        replace h := h.2
        refine ⟨fun c => ?_, fun c => ?_⟩
        · replace h := h.1 c
          refine ⟨h.1, ?_⟩
          replace h := h.2
          refine ⟨fun c => ?_, fun c => ?_⟩
          · replace h := h.1 c
            refine ⟨h.1, ?_⟩
            replace h := h.2
            refine ⟨fun c => ?_, fun c => ?_⟩
            · replace h := h.1 c
              exact fr_needConstant_J63 (fun _ _ _ _ _ _ _ f h => ih f h) f h
            · replace h := h.2 c
              exact fr_needConstant_J62 (fun _ _ _ _ _ _ _ f h => ih f h) f h
          · replace h := h.2 c
            exact fr_needConstant_J62 (fun _ _ _ _ _ _ _ f h => ih f h) f h
        · replace h := h.2 c
          exact fr_needConstant_J62 (fun _ _ _ _ _ _ _ f h => ih f h) f h
      · replace h := h.2 c
        exact fr_needConstant_J62 (fun _ _ _ _ _ _ _ f h => ih f h) f h
set_option maxRecDepth 100000 in
theorem fr_needConstant {S : MS} {x1 : Int32} {x2 : Int32} {x3 : Int32} {y4 : Int64} {p6 : Nat} {Q : Int32 → MS → Prop} {E : MS → Prop} (h : w_needConstant S x1 x2 x3 y4 p6 Q E) : w_needConstant S x1 x2 x3 y4 p6 (fun r u => Q r u ∧ frm [28, 29, 30, 31, 32, 33] [7, 8, 73, 74] S u) (fun u => E u ∧ frm [28, 29, 30, 31, 32, 33] [7, 8, 73, 74] S u) := by
  have f : frm [28, 29, 30, 31, 32, 33] [7, 8, 73, 74] S S := frm.rf
  unfold w_needConstant at h ⊢
  obtain ⟨n9, h⟩ := h
  exact ⟨n9, fr_needConstant_L3 n9 f h⟩
set_option maxRecDepth 100000 in
theorem fr_nameNumber {S : MS} {p1 : Nat} {Q : Int32 → MS → Prop} {E : MS → Prop} (h : w_nameNumber S p1 Q E) : w_nameNumber S p1 (fun r u => Q r u ∧ frm [28, 29, 30, 31, 32, 33] [7, 8, 73, 74] S u) (fun u => E u ∧ frm [28, 29, 30, 31, 32, 33] [7, 8, 73, 74] S u) := by
  have f : frm [28, 29, 30, 31, 32, 33] [7, 8, 73, 74] S S := frm.rf
  unfold w_nameNumber at h ⊢
  obtain ⟨Q9, E9, h0, h⟩ := h
  refine ⟨_, _, fr_needConstant h0, ?_, ?_⟩
  · intro r2 S3 hq
    replace h := h.1 r2 S3 hq.1
    replace f := f.tr (hq.2.mo (by decide) (by decide))
    exact ⟨h, f⟩
  · intro u9 hq
    exact ⟨h.2 u9 hq.1, f.tr (hq.2.mo (by decide) (by decide))⟩
set_option maxRecDepth 100000 in
theorem fr_classNumber {S : MS} {p1 : Nat} {Q : Int32 → MS → Prop} {E : MS → Prop} (h : w_classNumber S p1 Q E) : w_classNumber S p1 (fun r u => Q r u ∧ frm [28, 29, 30, 31, 32, 33] [7, 8, 73, 74] S u) (fun u => E u ∧ frm [28, 29, 30, 31, 32, 33] [7, 8, 73, 74] S u) := by
  have f : frm [28, 29, 30, 31, 32, 33] [7, 8, 73, 74] S S := frm.rf
  unfold w_classNumber at h ⊢
  obtain ⟨Q9, E9, h0, h⟩ := h
  refine ⟨_, _, fr_nameNumber h0, ?_, ?_⟩
  · intro r2 S3 hq
    replace h := h.1 r2 S3 hq.1
    replace f := f.tr (hq.2.mo (by decide) (by decide))
    obtain ⟨Q9, E9, h0, h⟩ := h
    refine ⟨_, _, fr_needConstant h0, ?_, ?_⟩
    · intro r7 S8 hq
      replace h := h.1 r7 S8 hq.1
      replace f := f.tr (hq.2.mo (by decide) (by decide))
      exact ⟨h, f⟩
    · intro u9 hq
      exact ⟨h.2 u9 hq.1, f.tr (hq.2.mo (by decide) (by decide))⟩
  · intro u9 hq
    exact ⟨h.2 u9 hq.1, f.tr (hq.2.mo (by decide) (by decide))⟩
set_option maxRecDepth 100000 in
theorem fr_memberNumber {S : MS} {x1 : Int32} {p2 : Nat} {p3 : Nat} {Q : Int32 → MS → Prop} {E : MS → Prop} (h : w_memberNumber S x1 p2 p3 Q E) : w_memberNumber S x1 p2 p3 (fun r u => Q r u ∧ frm [28, 29, 30, 31, 32, 33] [7, 8, 73, 74] S u) (fun u => E u ∧ frm [28, 29, 30, 31, 32, 33] [7, 8, 73, 74] S u) := by
  have f : frm [28, 29, 30, 31, 32, 33] [7, 8, 73, 74] S S := frm.rf
  unfold w_memberNumber at h ⊢
  refine ⟨h.1, ?_⟩
  replace h := h.2
  refine ⟨h.1, ?_⟩
  replace h := h.2
  obtain ⟨Q9, E9, h0, h⟩ := h
  refine ⟨_, _, fr_classNumber h0, ?_, ?_⟩
  · intro r6 S7 hq
    replace h := h.1 r6 S7 hq.1
    replace f := f.tr (hq.2.mo (by decide) (by decide))
    obtain ⟨Q9, E9, h0, h⟩ := h
    refine ⟨_, _, fr_nameNumber h0, ?_, ?_⟩
    · intro r10 S11 hq
      replace h := h.1 r10 S11 hq.1
      replace f := f.tr (hq.2.mo (by decide) (by decide))
      obtain ⟨Q9, E9, h0, h⟩ := h
      refine ⟨_, _, fr_nameNumber h0, ?_, ?_⟩
      · intro r14 S15 hq
        replace h := h.1 r14 S15 hq.1
        replace f := f.tr (hq.2.mo (by decide) (by decide))
        obtain ⟨Q9, E9, h0, h⟩ := h
        refine ⟨_, _, fr_needConstant h0, ?_, ?_⟩
        · intro r19 S20 hq
          replace h := h.1 r19 S20 hq.1
          replace f := f.tr (hq.2.mo (by decide) (by decide))
          obtain ⟨Q9, E9, h0, h⟩ := h
          refine ⟨_, _, fr_needConstant h0, ?_, ?_⟩
          · intro r24 S25 hq
            replace h := h.1 r24 S25 hq.1
            replace f := f.tr (hq.2.mo (by decide) (by decide))
            exact ⟨h, f⟩
          · intro u9 hq
            exact ⟨h.2 u9 hq.1, f.tr (hq.2.mo (by decide) (by decide))⟩
        · intro u9 hq
          exact ⟨h.2 u9 hq.1, f.tr (hq.2.mo (by decide) (by decide))⟩
      · intro u9 hq
        exact ⟨h.2 u9 hq.1, f.tr (hq.2.mo (by decide) (by decide))⟩
    · intro u9 hq
      exact ⟨h.2 u9 hq.1, f.tr (hq.2.mo (by decide) (by decide))⟩
  · intro u9 hq
    exact ⟨h.2 u9 hq.1, f.tr (hq.2.mo (by decide) (by decide))⟩
set_option maxRecDepth 100000 in
theorem fr_needOf_J108 {S0 : MS} {Q : Int32 → MS → Prop} {E : MS → Prop} {U108 : MS} (f : frm [28, 29, 30, 31, 32, 33] [7, 8, 73, 74] S0 U108) (h : w_needOf_J108 Q E U108) : w_needOf_J108 (fun r u => Q r u ∧ frm [28, 29, 30, 31, 32, 33] [7, 8, 73, 74] S0 u) (fun u => E u ∧ frm [28, 29, 30, 31, 32, 33] [7, 8, 73, 74] S0 u) U108 := by
  unfold w_needOf_J108 at h ⊢
  exact ⟨h, f⟩
set_option maxRecDepth 100000 in
theorem fr_needOf {S : MS} {x1 : Int32} {Q : Int32 → MS → Prop} {E : MS → Prop} (h : w_needOf S x1 Q E) : w_needOf S x1 (fun r u => Q r u ∧ frm [28, 29, 30, 31, 32, 33] [7, 8, 73, 74] S u) (fun u => E u ∧ frm [28, 29, 30, 31, 32, 33] [7, 8, 73, 74] S u) := by
  have f : frm [28, 29, 30, 31, 32, 33] [7, 8, 73, 74] S S := frm.rf
  unfold w_needOf at h ⊢
  refine ⟨h.1, ?_⟩
  replace h := h.2
  refine ⟨fun c => ?_, fun c => ?_⟩
  · replace h := h.1 c
    refine ⟨h.1, ?_⟩
    replace h := h.2
    refine ⟨h.1, ?_⟩
    replace h := h.2
    refine ⟨fun c => ?_, fun c => ?_⟩
    · replace h := h.1 c
      refine ⟨h.1, ?_⟩
      replace h := h.2
      obtain ⟨Q9, E9, h0, h⟩ := h
      refine ⟨_, _, fr_needConstant h0, ?_, ?_⟩
      · intro r16 S17 hq
        replace h := h.1 r16 S17 hq.1
        replace f := f.tr (hq.2.mo (by decide) (by decide))
        exact ⟨h, f⟩
      · intro u9 hq
        exact ⟨h.2 u9 hq.1, f.tr (hq.2.mo (by decide) (by decide))⟩
    · replace h := h.2 c
      exact ⟨h, f⟩
  · replace h := h.2 c
    refine ⟨fun c => ?_, fun c => ?_⟩
    · replace h := h.1 c
      refine ⟨h.1, ?_⟩
      replace h := h.2
      refine ⟨fun c => ?_, fun c => ?_⟩
      · replace h := h.1 c
        exact fr_needOf_J108 f h
      · replace h := h.2 c
        refine ⟨h.1, ?_⟩
        replace h := h.2
        refine ⟨fun c => ?_, fun c => ?_⟩
        · replace h := h.1 c
          exact fr_needOf_J108 f h
        · replace h := h.2 c
          refine ⟨h.1, ?_⟩
          replace h := h.2
          obtain ⟨Q9, E9, h0, h⟩ := h
          refine ⟨_, _, fr_needConstant h0, ?_, ?_⟩
          · intro r34 S35 hq
            replace h := h.1 r34 S35 hq.1
            replace f := f.tr (hq.2.mo (by decide) (by decide))
            exact ⟨h, f⟩
          · intro u9 hq
            exact ⟨h.2 u9 hq.1, f.tr (hq.2.mo (by decide) (by decide))⟩
    · replace h := h.2 c
      refine ⟨fun c => ?_, fun c => ?_⟩
      · replace h := h.1 c
        refine ⟨h.1, ?_⟩
        replace h := h.2
        refine ⟨h.1, ?_⟩
        replace h := h.2
        refine ⟨h.1, ?_⟩
        replace h := h.2
        refine ⟨h.1, ?_⟩
        replace h := h.2
        refine ⟨h.1, ?_⟩
        replace h := h.2
        refine ⟨h.1, ?_⟩
        replace h := h.2
        refine ⟨h.1, ?_⟩
        replace h := h.2
        refine ⟨h.1, ?_⟩
        replace h := h.2
        refine ⟨h.1, ?_⟩
        replace h := h.2
        refine ⟨h.1, ?_⟩
        replace h := h.2
        obtain ⟨Q9, E9, h0, h⟩ := h
        refine ⟨_, _, fr_memberNumber h0, ?_, ?_⟩
        · intro r58 S59 hq
          replace h := h.1 r58 S59 hq.1
          replace f := f.tr (hq.2.mo (by decide) (by decide))
          exact ⟨h, f⟩
        · intro u9 hq
          exact ⟨h.2 u9 hq.1, f.tr (hq.2.mo (by decide) (by decide))⟩
      · replace h := h.2 c
        refine ⟨fun c => ?_, fun c => ?_⟩
        · replace h := h.1 c
          refine ⟨h.1, ?_⟩
          replace h := h.2
          refine ⟨h.1, ?_⟩
          replace h := h.2
          refine ⟨h.1, ?_⟩
          replace h := h.2
          refine ⟨h.1, ?_⟩
          replace h := h.2
          refine ⟨h.1, ?_⟩
          replace h := h.2
          refine ⟨h.1, ?_⟩
          replace h := h.2
          refine ⟨h.1, ?_⟩
          replace h := h.2
          refine ⟨h.1, ?_⟩
          replace h := h.2
          refine ⟨h.1, ?_⟩
          replace h := h.2
          refine ⟨h.1, ?_⟩
          replace h := h.2
          obtain ⟨Q9, E9, h0, h⟩ := h
          refine ⟨_, _, fr_memberNumber h0, ?_, ?_⟩
          · intro r82 S83 hq
            replace h := h.1 r82 S83 hq.1
            replace f := f.tr (hq.2.mo (by decide) (by decide))
            exact ⟨h, f⟩
          · intro u9 hq
            exact ⟨h.2 u9 hq.1, f.tr (hq.2.mo (by decide) (by decide))⟩
        · replace h := h.2 c
          refine ⟨fun c => ?_, fun c => ?_⟩
          · replace h := h.1 c
            refine ⟨h.1, ?_⟩
            replace h := h.2
            refine ⟨h.1, ?_⟩
            replace h := h.2
            refine ⟨h.1, ?_⟩
            replace h := h.2
            refine ⟨h.1, ?_⟩
            replace h := h.2
            refine ⟨h.1, ?_⟩
            replace h := h.2
            refine ⟨h.1, ?_⟩
            replace h := h.2
            refine ⟨h.1, ?_⟩
            replace h := h.2
            refine ⟨h.1, ?_⟩
            replace h := h.2
            refine ⟨h.1, ?_⟩
            replace h := h.2
            refine ⟨h.1, ?_⟩
            replace h := h.2
            obtain ⟨Q9, E9, h0, h⟩ := h
            refine ⟨_, _, fr_memberNumber h0, ?_, ?_⟩
            · intro r106 S107 hq
              replace h := h.1 r106 S107 hq.1
              replace f := f.tr (hq.2.mo (by decide) (by decide))
              exact ⟨h, f⟩
            · intro u9 hq
              exact ⟨h.2 u9 hq.1, f.tr (hq.2.mo (by decide) (by decide))⟩
          · replace h := h.2 c
            exact ⟨h, f⟩
set_option maxRecDepth 100000 in
theorem fr_bytesOf_J191 {S0 : MS} {Q : Int32 → MS → Prop} {E : MS → Prop} {U191 : MS} (f : frm [28, 29, 30, 31, 32, 33] [7, 8, 73, 74] S0 U191) (h : w_bytesOf_J191 Q E U191) : w_bytesOf_J191 (fun r u => Q r u ∧ frm [28, 29, 30, 31, 32, 33] [7, 8, 73, 74] S0 u) (fun u => E u ∧ frm [28, 29, 30, 31, 32, 33] [7, 8, 73, 74] S0 u) U191 := by
  unfold w_bytesOf_J191 at h ⊢
  exact ⟨h, f⟩
set_option maxRecDepth 100000 in
theorem fr_bytesOf_J160 {S0 : MS} {Q : Int32 → MS → Prop} {E : MS → Prop} {U160 : MS} {v160_1 : Int32} {v160_4 : Int32} (f : frm [28, 29, 30, 31, 32, 33] [7, 8, 73, 74] S0 U160) (h : w_bytesOf_J160 Q E U160 v160_1 v160_4) : w_bytesOf_J160 (fun r u => Q r u ∧ frm [28, 29, 30, 31, 32, 33] [7, 8, 73, 74] S0 u) (fun u => E u ∧ frm [28, 29, 30, 31, 32, 33] [7, 8, 73, 74] S0 u) U160 v160_1 v160_4 := by
  unfold w_bytesOf_J160 at h ⊢
  refine ⟨h.1, ?_⟩
  replace h := h.2
  refine ⟨fun c => ?_, fun c => ?_⟩
  · replace h := h.1 c
    refine ⟨h.1, ?_⟩
    replace h := h.2
    refine ⟨fun c => ?_, fun c => ?_⟩
    · replace h := h.1 c
      obtain ⟨Q9, E9, h0, h⟩ := h
      refine ⟨_, _, fr_needOf h0, ?_, ?_⟩
      · intro r18 S19 hq
        replace h := h.1 r18 S19 hq.1
        replace f := f.tr (hq.2.mo (by decide) (by decide))
        refine ⟨fun c => ?_, fun c => ?_⟩
        · replace h := h.1 c
          exact ⟨h, f⟩
        · replace h := h.2 c
          exact fr_bytesOf_J191 f h
      · intro u9 hq
        exact ⟨h.2 u9 hq.1, f.tr (hq.2.mo (by decide) (by decide))⟩
    · replace h := h.2 c
      exact fr_bytesOf_J191 f h
  · replace h := h.2 c
    exact ⟨h, f⟩
set_option maxRecDepth 100000 in
theorem fr_bytesOf_J217 {S0 : MS} {Q : Int32 → MS → Prop} {E : MS → Prop} {U217 : MS} (f : frm [28, 29, 30, 31, 32, 33] [7, 8, 73, 74] S0 U217) (h : w_bytesOf_J217 Q E U217) : w_bytesOf_J217 (fun r u => Q r u ∧ frm [28, 29, 30, 31, 32, 33] [7, 8, 73, 74] S0 u) (fun u => E u ∧ frm [28, 29, 30, 31, 32, 33] [7, 8, 73, 74] S0 u) U217 := by
  unfold w_bytesOf_J217 at h ⊢
  exact ⟨h, f⟩
set_option maxRecDepth 100000 in
theorem fr_bytesOf {S : MS} {x1 : Int32} {x2 : Int32} {Q : Int32 → MS → Prop} {E : MS → Prop} (h : w_bytesOf S x1 x2 Q E) : w_bytesOf S x1 x2 (fun r u => Q r u ∧ frm [28, 29, 30, 31, 32, 33] [7, 8, 73, 74] S u) (fun u => E u ∧ frm [28, 29, 30, 31, 32, 33] [7, 8, 73, 74] S u) := by
  have f : frm [28, 29, 30, 31, 32, 33] [7, 8, 73, 74] S S := frm.rf
  unfold w_bytesOf at h ⊢
  refine ⟨h.1, ?_⟩
  replace h := h.2
  intro a4 ea4
  replace h := h a4 ea4
  refine ⟨h.1, ?_⟩
  replace h := h.2
  intro a8 ea8
  replace h := h a8 ea8
  refine ⟨fun c => ?_, fun c => ?_⟩
  · replace h := h.1 c
    refine ⟨fun c => ?_, fun c => ?_⟩
    · replace h := h.1 c
      exact fr_bytesOf_J160 f h
    · replace h := h.2 c
      refine ⟨fun c => ?_, fun c => ?_⟩
      · replace h := h.1 c
        exact fr_bytesOf_J160 f h
      · replace h := h.2 c
        exact ⟨h, f⟩
  · replace h := h.2 c
    refine ⟨fun c => ?_, fun c => ?_⟩
    · replace h := h.1 c
      refine ⟨h.1, ?_⟩
      replace h := h.2
      refine ⟨fun c => ?_, fun c => ?_⟩
      · replace h := h.1 c
        exact fr_bytesOf_J217 f h
      · replace h := h.2 c
        refine ⟨h.1, ?_⟩
        replace h := h.2
        refine ⟨fun c => ?_, fun c => ?_⟩
        · replace h := h.1 c
          exact fr_bytesOf_J217 f h
        · replace h := h.2 c
          exact ⟨h, f⟩
    · replace h := h.2 c
      refine ⟨fun c => ?_, fun c => ?_⟩
      · replace h := h.1 c
        refine ⟨fun c => ?_, fun c => ?_⟩
        · replace h := h.1 c
          exact ⟨h, f⟩
        · replace h := h.2 c
          exact ⟨h, f⟩
      · replace h := h.2 c
        refine ⟨fun c => ?_, fun c => ?_⟩
        · replace h := h.1 c
          refine ⟨fun c => ?_, fun c => ?_⟩
          · replace h := h.1 c
            exact ⟨h, f⟩
          · replace h := h.2 c
            exact ⟨h, f⟩
        · replace h := h.2 c
          refine ⟨fun c => ?_, fun c => ?_⟩
          · replace h := h.1 c
            refine ⟨fun c => ?_, fun c => ?_⟩
            · replace h := h.1 c
              exact ⟨h, f⟩
            · replace h := h.2 c
              exact ⟨h, f⟩
          · replace h := h.2 c
            refine ⟨fun c => ?_, fun c => ?_⟩
            · replace h := h.1 c
              refine ⟨fun c => ?_, fun c => ?_⟩
              · replace h := h.1 c
                exact ⟨h, f⟩
              · replace h := h.2 c
                exact ⟨h, f⟩
            · replace h := h.2 c
              refine ⟨fun c => ?_, fun c => ?_⟩
              · replace h := h.1 c
                refine ⟨fun c => ?_, fun c => ?_⟩
                · replace h := h.1 c
                  exact ⟨h, f⟩
                · replace h := h.2 c
                  exact ⟨h, f⟩
              · replace h := h.2 c
                refine ⟨fun c => ?_, fun c => ?_⟩
                · replace h := h.1 c
                  refine ⟨fun c => ?_, fun c => ?_⟩
                  · replace h := h.1 c
                    exact ⟨h, f⟩
                  · replace h := h.2 c
                    exact ⟨h, f⟩
                · replace h := h.2 c
                  refine ⟨fun c => ?_, fun c => ?_⟩
                  · replace h := h.1 c
                    refine ⟨h.1, ?_⟩
                    replace h := h.2
                    refine ⟨h.1, ?_⟩
                    replace h := h.2
                    refine ⟨fun c => ?_, fun c => ?_⟩
                    · replace h := h.1 c
                      exact ⟨h, f⟩
                    · replace h := h.2 c
                      exact ⟨h, f⟩
                  · replace h := h.2 c
                    refine ⟨fun c => ?_, fun c => ?_⟩
                    · replace h := h.1 c
                      refine ⟨h.1, ?_⟩
                      replace h := h.2
                      refine ⟨h.1, ?_⟩
                      replace h := h.2
                      exact ⟨h, f⟩
                    · replace h := h.2 c
                      refine ⟨fun c => ?_, fun c => ?_⟩
                      · replace h := h.1 c
                        refine ⟨h.1, ?_⟩
                        replace h := h.2
                        refine ⟨h.1, ?_⟩
                        replace h := h.2
                        exact ⟨h, f⟩
                      · replace h := h.2 c
                        refine ⟨fun c => ?_, fun c => ?_⟩
                        · replace h := h.1 c
                          exact ⟨h, f⟩
                        · replace h := h.2 c
                          refine ⟨fun c => ?_, fun c => ?_⟩
                          · replace h := h.1 c
                            exact ⟨h, f⟩
                          · replace h := h.2 c
                            refine ⟨fun c => ?_, fun c => ?_⟩
                            · replace h := h.1 c
                              exact ⟨h, f⟩
                            · replace h := h.2 c
                              refine ⟨fun c => ?_, fun c => ?_⟩
                              · replace h := h.1 c
                                exact ⟨h, f⟩
                              · replace h := h.2 c
                                refine ⟨h.1, ?_⟩
                                replace h := h.2
                                refine ⟨fun c => ?_, fun c => ?_⟩
                                · replace h := h.1 c
                                  exact ⟨h, f⟩
                                · replace h := h.2 c
                                  exact ⟨h, f⟩
set_option maxRecDepth 100000 in
theorem fr_enter_L32 {S0 : MS} {Q : MS → Prop} : ∀ (n : Nat) {U32 : MS} {v32_2 : Int32}, frm [42, 43, 44, 45, 47] [97] S0 U32 → w_enter_L32 Q n U32 v32_2 → w_enter_L32 (fun u => Q u ∧ frm [42, 43, 44, 45, 47] [97] S0 u) n U32 v32_2 := by
  intro n
  induction n with
  | zero => intro U32 v32_2 f h; unfold w_enter_L32 at h; exact h.elim
  | succ n ih =>
    intro U32 v32_2 f h
    unfold w_enter_L32 at h ⊢
    refine ⟨fun c => ?_, fun c => ?_⟩
    · replace h := h.1 c
      intro S9 eS9
      replace h := h S9 eS9
      replace f := f.tr (show frm [42, 43, 44, 45, 47] [97] U32 S9 by rw [eS9]; exact frm.pI0 (by decide))
      exact ⟨h, f⟩
    · replace h := h.2 c
      refine ⟨h.1, ?_⟩
      replace h := h.2
      intro S13 eS13
      replace h := h S13 eS13
      replace f := f.tr (show frm [42, 43, 44, 45, 47] [97] U32 S13 by rw [eS13]; exact frm.pJ (by decide))
      refine ⟨h.1, ?_⟩
      replace h := h.2
      intro S17 eS17
      replace h := h S17 eS17
      replace f := f.tr (show frm [42, 43, 44, 45, 47] [97] S13 S17 by rw [eS17]; exact frm.pI (by decide))
      intro a18 ea18
      replace h := h a18 ea18
      exact ih f h
set_option maxRecDepth 100000 in
theorem fr_enter {S : MS} {x1 : Int32} {Q : MS → Prop} (h : w_enter S x1 Q) : w_enter S x1 (fun u => Q u ∧ frm [42, 43, 44, 45, 47] [97] S u) := by
  have f : frm [42, 43, 44, 45, 47] [97] S S := frm.rf
  unfold w_enter at h ⊢
  refine ⟨h.1, ?_⟩
  replace h := h.2
  intro S2 eS2
  replace h := h S2 eS2
  replace f := f.tr (show frm [42, 43, 44, 45, 47] [97] S S2 by rw [eS2]; exact frm.pI (by decide))
  refine ⟨h.1, ?_⟩
  replace h := h.2
  intro S4 eS4
  replace h := h S4 eS4
  replace f := f.tr (show frm [42, 43, 44, 45, 47] [97] S2 S4 by rw [eS4]; exact frm.pI (by decide))
  refine ⟨h.1, ?_⟩
  replace h := h.2
  intro S6 eS6
  replace h := h S6 eS6
  replace f := f.tr (show frm [42, 43, 44, 45, 47] [97] S4 S6 by rw [eS6]; exact frm.pI (by decide))
  obtain ⟨n9, h⟩ := h
  exact ⟨n9, fr_enter_L32 n9 f h⟩
set_option maxRecDepth 100000 in
theorem fr_placesOf_J28 {S0 : MS} {Q : Int32 → MS → Prop} {k4 k4' : MS → Nat → Int32 → Int32 → Prop} {U28 : MS} {t28_0 : Int32} {t28_1 : Int32} {v28_0 : Nat} {v28_2 : Int32} (hk4 : ∀ (u : MS) (z0) (z1) (z2), frm [] [] S0 u → k4 u z0 z1 z2 → k4' u z0 z1 z2) (f : frm [] [] S0 U28) (h : w_placesOf_J28 Q k4 U28 t28_0 t28_1 v28_0 v28_2) : w_placesOf_J28 (fun r u => Q r u ∧ frm [] [] S0 u) k4' U28 t28_0 t28_1 v28_0 v28_2 := by
  unfold w_placesOf_J28 at h ⊢
  intro a6 ea6
  replace h := h a6 ea6
  intro a7 ea7
  replace h := h a7 ea7
  exact hk4 _ _ _ _ f h
set_option maxRecDepth 100000 in
theorem fr_placesOf_L4 {S0 : MS} {Q : Int32 → MS → Prop} : ∀ (n : Nat) {U4 : MS} {v4_0 : Nat} {v4_1 : Int32} {v4_2 : Int32}, frm [] [] S0 U4 → w_placesOf_L4 Q n U4 v4_0 v4_1 v4_2 → w_placesOf_L4 (fun r u => Q r u ∧ frm [] [] S0 u) n U4 v4_0 v4_1 v4_2 := by
  intro n
  induction n with
  | zero => intro U4 v4_0 v4_1 v4_2 f h; unfold w_placesOf_L4 at h; exact h.elim
  | succ n ih =>
    intro U4 v4_0 v4_1 v4_2 f h
    unfold w_placesOf_L4 at h ⊢
    refine ⟨fun c => ?_, fun c => ?_⟩
    · replace h := h.1 c
      exact ⟨h, f⟩
    · replace h := h.2 c
      refine ⟨h.1, ?_⟩
      replace h := h.2
      refine ⟨fun c => ?_, fun c => ?_⟩
      · replace h := h.1 c
        exact fr_placesOf_J28 (fun _ _ _ _ f h => ih f h) f h
      · replace h := h.2 c
        exact fr_placesOf_J28 (fun _ _ _ _ f h => ih f h) f h
set_option maxRecDepth 100000 in
theorem fr_placesOf {S : MS} {p0 : Nat} {Q : Int32 → MS → Prop} (h : w_placesOf S p0 Q) : w_placesOf S p0 (fun r u => Q r u ∧ frm [] [] S u) := by
  have f : frm [] [] S S := frm.rf
  unfold w_placesOf at h ⊢
  obtain ⟨n9, h⟩ := h
  exact ⟨n9, fr_placesOf_L4 n9 f h⟩
set_option maxRecDepth 100000 in
theorem fr_called_L88 {S0 : MS} {Q : MS → Prop} : ∀ (n : Nat) {U88 : MS} {v88_3 : Int32} {v88_5 : Int32} {v88_6 : Int32}, frm [42, 43, 44, 45, 47] [97, 98] S0 U88 → w_called_L88 Q n U88 v88_3 v88_5 v88_6 → w_called_L88 (fun u => Q u ∧ frm [42, 43, 44, 45, 47] [97, 98] S0 u) n U88 v88_3 v88_5 v88_6 := by
  intro n
  induction n with
  | zero => intro U88 v88_3 v88_5 v88_6 f h; unfold w_called_L88 at h; exact h.elim
  | succ n ih =>
    intro U88 v88_3 v88_5 v88_6 f h
    unfold w_called_L88 at h ⊢
    refine ⟨fun c => ?_, fun c => ?_⟩
    · replace h := h.1 c
      exact ⟨h, f⟩
    · replace h := h.2 c
      refine ⟨h.1, ?_⟩
      replace h := h.2
      refine ⟨h.1, ?_⟩
      replace h := h.2
      refine ⟨h.1, ?_⟩
      replace h := h.2
      intro S44 eS44
      replace h := h S44 eS44
      replace f := f.tr (show frm [42, 43, 44, 45, 47] [97, 98] U88 S44 by rw [eS44]; exact frm.pJ (by decide))
      refine ⟨h.1, ?_⟩
      replace h := h.2
      refine ⟨h.1, ?_⟩
      replace h := h.2
      refine ⟨h.1, ?_⟩
      replace h := h.2
      intro S52 eS52
      replace h := h S52 eS52
      replace f := f.tr (show frm [42, 43, 44, 45, 47] [97, 98] S44 S52 by rw [eS52]; exact frm.pI (by decide))
      intro a53 ea53
      replace h := h a53 ea53
      exact ih f h
set_option maxRecDepth 100000 in
theorem fr_called {S : MS} {x1 : Int32} {Q : MS → Prop} (h : w_called S x1 Q) : w_called S x1 (fun u => Q u ∧ frm [42, 43, 44, 45, 47] [97, 98] S u) := by
  have f : frm [42, 43, 44, 45, 47] [97, 98] S S := frm.rf
  unfold w_called at h ⊢
  refine ⟨fun c => ?_, fun c => ?_⟩
  · replace h := h.1 c
    intro S54 eS54
    replace h := h S54 eS54
    replace f := f.tr (show frm [42, 43, 44, 45, 47] [97, 98] S S54 by rw [eS54]; exact frm.pI0 (by decide))
    exact ⟨h, f⟩
  · replace h := h.2 c
    refine ⟨h.1, ?_⟩
    replace h := h.2
    refine ⟨h.1, ?_⟩
    replace h := h.2
    refine ⟨h.1, ?_⟩
    replace h := h.2
    refine ⟨h.1, ?_⟩
    replace h := h.2
    refine ⟨h.1, ?_⟩
    replace h := h.2
    refine ⟨h.1, ?_⟩
    replace h := h.2
    obtain ⟨Q9, h0, h⟩ := h
    refine ⟨_, fr_placesOf h0, ?_⟩
    · intro r17 S18 hq
      replace h := h r17 S18 hq.1
      replace f := f.tr (hq.2.mo (by decide) (by decide))
      intro a21 ea21
      replace h := h a21 ea21
      intro a25 ea25
      replace h := h a25 ea25
      refine ⟨h.1, ?_⟩
      replace h := h.2
      intro S28 eS28
      replace h := h S28 eS28
      replace f := f.tr (show frm [42, 43, 44, 45, 47] [97, 98] S18 S28 by rw [eS28]; exact frm.pI (by decide))
      obtain ⟨Q9, h0, h⟩ := h
      refine ⟨_, fr_enter h0, ?_⟩
      · intro S30 hq
        replace h := h S30 hq.1
        replace f := f.tr (hq.2.mo (by decide) (by decide))
        obtain ⟨Q9, h0, h⟩ := h
        refine ⟨_, fr_placesOf h0, ?_⟩
        · intro r33 S34 hq
          replace h := h r33 S34 hq.1
          replace f := f.tr (hq.2.mo (by decide) (by decide))
          obtain ⟨n9, h⟩ := h
          exact ⟨n9, fr_called_L88 n9 f h⟩
set_option maxRecDepth 100000 in
theorem fr_isText_L17 {S0 : MS} {Q : Int32 → MS → Prop} : ∀ (n : Nat) {U17 : MS} {v17_1 : Int32} {v17_2 : Nat} {v17_3 : Int32}, frm [] [] S0 U17 → w_isText_L17 Q n U17 v17_1 v17_2 v17_3 → w_isText_L17 (fun r u => Q r u ∧ frm [] [] S0 u) n U17 v17_1 v17_2 v17_3 := by
  intro n
  induction n with
  | zero => intro U17 v17_1 v17_2 v17_3 f h; unfold w_isText_L17 at h; exact h.elim
  | succ n ih =>
    intro U17 v17_1 v17_2 v17_3 f h
    unfold w_isText_L17 at h ⊢
    refine ⟨fun c => ?_, fun c => ?_⟩
    · replace h := h.1 c
      exact ⟨h, f⟩
    · replace h := h.2 c
      refine ⟨h.1, ?_⟩
      replace h := h.2
      refine ⟨h.1, ?_⟩
      replace h := h.2
      refine ⟨fun c => ?_, fun c => ?_⟩
      · replace h := h.1 c
        intro a13 ea13
        replace h := h a13 ea13
        exact ih f h
      · replace h := h.2 c
        exact ⟨h, f⟩
set_option maxRecDepth 100000 in
theorem fr_isText {S : MS} {x1 : Int32} {p2 : Nat} {Q : Int32 → MS → Prop} (h : w_isText S x1 p2 Q) : w_isText S x1 p2 (fun r u => Q r u ∧ frm [] [] S u) := by
  have f : frm [] [] S S := frm.rf
  unfold w_isText at h ⊢
  refine ⟨h.1, ?_⟩
  replace h := h.2
  refine ⟨fun c => ?_, fun c => ?_⟩
  · replace h := h.1 c
    obtain ⟨n9, h⟩ := h
    exact ⟨n9, fr_isText_L17 n9 f h⟩
  · replace h := h.2 c
    exact ⟨h, f⟩
set_option maxRecDepth 100000 in
theorem fr_must {S : MS} {x1 : Int32} {x2 : Int32} {x3 : Int32} {Q : MS → Prop} {E : MS → Prop} (h : w_must S x1 x2 x3 Q E) : w_must S x1 x2 x3 (fun u => Q u ∧ frm [] [7, 8] S u) (fun u => E u ∧ frm [] [7, 8] S u) := by
  have f : frm [] [7, 8] S S := frm.rf
  unfold w_must at h ⊢
  refine ⟨fun c => ?_, fun c => ?_⟩
  · replace h := h.1 c
    obtain ⟨Q9, h0, h⟩ := h
    refine ⟨_, fr_broken h0, ?_⟩
    · intro b6 S4 hq
      replace h := h b6 S4 hq.1
      replace f := f.tr (hq.2.mo (by decide) (by decide))
      exact ⟨h, f⟩
  · replace h := h.2 c
    exact ⟨h, f⟩
set_option maxRecDepth 100000 in
theorem fr_caught_J161 {S0 : MS} {Q : MS → Prop} {E : MS → Prop} {U161 : MS} {v161_2 : Int32} {v161_3 : Int32} {v161_4 : Int32} {v161_6 : Int32} (f : frm [21] [7, 8, 45] S0 U161) (h : w_caught_J161 Q E U161 v161_2 v161_3 v161_4 v161_6) : w_caught_J161 (fun u => Q u ∧ frm [21] [7, 8, 45] S0 u) (fun u => E u ∧ frm [21] [7, 8, 45] S0 u) U161 v161_2 v161_3 v161_4 v161_6 := by
  unfold w_caught_J161 at h ⊢
  refine ⟨h.1, ?_⟩
  replace h := h.2
  refine ⟨h.1, ?_⟩
  replace h := h.2
  intro S30 eS30
  replace h := h S30 eS30
  replace f := f.tr (show frm [21] [7, 8, 45] U161 S30 by rw [eS30]; exact frm.pI (by decide))
  refine ⟨h.1, ?_⟩
  replace h := h.2
  refine ⟨h.1, ?_⟩
  replace h := h.2
  intro S36 eS36
  replace h := h S36 eS36
  replace f := f.tr (show frm [21] [7, 8, 45] S30 S36 by rw [eS36]; exact frm.pI (by decide))
  refine ⟨h.1, ?_⟩
  replace h := h.2
  refine ⟨h.1, ?_⟩
  replace h := h.2
  intro S42 eS42
  replace h := h S42 eS42
  replace f := f.tr (show frm [21] [7, 8, 45] S36 S42 by rw [eS42]; exact frm.pI (by decide))
  refine ⟨h.1, ?_⟩
  replace h := h.2
  intro S46 eS46
  replace h := h S46 eS46
  replace f := f.tr (show frm [21] [7, 8, 45] S42 S46 by rw [eS46]; exact frm.pI (by decide))
  intro S48 eS48
  replace h := h S48 eS48
  replace f := f.tr (show frm [21] [7, 8, 45] S46 S48 by rw [eS48]; exact frm.pI0 (by decide))
  exact ⟨h, f⟩
set_option maxRecDepth 100000 in
theorem fr_caught_J155 {S0 : MS} {Q : MS → Prop} {E : MS → Prop} {U155 : MS} {t155_0 : Int32} {v155_1 : Int32} {v155_2 : Int32} {v155_3 : Int32} {v155_4 : Int32} {v155_6 : Int32} (f : frm [21] [7, 8, 45] S0 U155) (h : w_caught_J155 Q E U155 t155_0 v155_1 v155_2 v155_3 v155_4 v155_6) : w_caught_J155 (fun u => Q u ∧ frm [21] [7, 8, 45] S0 u) (fun u => E u ∧ frm [21] [7, 8, 45] S0 u) U155 t155_0 v155_1 v155_2 v155_3 v155_4 v155_6 := by
  unfold w_caught_J155 at h ⊢
  obtain ⟨Q9, E9, h0, h⟩ := h
  refine ⟨_, _, fr_must h0, ?_, ?_⟩
  · intro S58 hq
    replace h := h.1 S58 hq.1
    replace f := f.tr (hq.2.mo (by decide) (by decide))
    exact fr_caught_J161 f h
  · intro u9 hq
    exact ⟨h.2 u9 hq.1, f.tr (hq.2.mo (by decide) (by decide))⟩
set_option maxRecDepth 100000 in
theorem fr_caught_J138 {S0 : MS} {Q : MS → Prop} {E : MS → Prop} {k109 k109' : MS → Int32 → Int32 → Int32 → Int32 → Int32 → Int32 → Int32 → Prop} {U138 : MS} {v138_1 : Int32} {v138_2 : Int32} {v138_3 : Int32} {v138_4 : Int32} {v138_5 : Int32} {v138_6 : Int32} {v138_7 : Int32} (hk109 : ∀ (u : MS) (z0) (z1) (z2) (z3) (z4) (z5) (z6), frm [21] [7, 8, 45] S0 u → k109 u z0 z1 z2 z3 z4 z5 z6 → k109' u z0 z1 z2 z3 z4 z5 z6) (f : frm [21] [7, 8, 45] S0 U138) (h : w_caught_J138 Q E k109 U138 v138_1 v138_2 v138_3 v138_4 v138_5 v138_6 v138_7) : w_caught_J138 (fun u => Q u ∧ frm [21] [7, 8, 45] S0 u) (fun u => E u ∧ frm [21] [7, 8, 45] S0 u) k109' U138 v138_1 v138_2 v138_3 v138_4 v138_5 v138_6 v138_7 := by
  unfold w_caught_J138 at h ⊢
  intro a70 ea70
  replace h := h a70 ea70
  exact hk109 _ _ _ _ _ _ _ _ f h
set_option maxRecDepth 100000 in
theorem fr_caught_L109 {S0 : MS} {Q : MS → Prop} {E : MS → Prop} : ∀ (n : Nat) {U109 : MS} {v109_1 : Int32} {v109_2 : Int32} {v109_3 : Int32} {v109_4 : Int32} {v109_5 : Int32} {v109_6 : Int32} {v109_7 : Int32}, frm [21] [7, 8, 45] S0 U109 → w_caught_L109 Q E n U109 v109_1 v109_2 v109_3 v109_4 v109_5 v109_6 v109_7 → w_caught_L109 (fun u => Q u ∧ frm [21] [7, 8, 45] S0 u) (fun u => E u ∧ frm [21] [7, 8, 45] S0 u) n U109 v109_1 v109_2 v109_3 v109_4 v109_5 v109_6 v109_7 := by
  intro n
  induction n with
  | zero => intro U109 v109_1 v109_2 v109_3 v109_4 v109_5 v109_6 v109_7 f h; unfold w_caught_L109 at h; exact h.elim
  | succ n ih =>
    intro U109 v109_1 v109_2 v109_3 v109_4 v109_5 v109_6 v109_7 f h
    unfold w_caught_L109 at h ⊢
    refine ⟨fun c => ?_, fun c => ?_⟩
    · replace h := h.1 c
      refine ⟨fun c => ?_, fun c => ?_⟩
      · replace h := h.1 c
        exact fr_caught_J155 f h
      · replace h := h.2 c
        exact fr_caught_J155 f h
    · replace h := h.2 c
      refine ⟨h.1, ?_⟩
      replace h := h.2
      refine ⟨h.1, ?_⟩
      replace h := h.2
      obtain ⟨Q9, h0, h⟩ := h
      refine ⟨_, fr_isText h0, ?_⟩
      · intro r67 S68 hq
        replace h := h r67 S68 hq.1
        replace f := f.tr (hq.2.mo (by decide) (by decide))
        refine ⟨fun c => ?_, fun c => ?_⟩
        · replace h := h.1 c
          exact fr_caught_J138 (fun _ _ _ _ _ _ _ _ f h => ih f h) f h
        · replace h := h.2 c
          exact fr_caught_J138 (fun _ _ _ _ _ _ _ _ f h => ih f h) f h
set_option maxRecDepth 100000 in
theorem fr_caught_J77 {S0 : MS} {Q : MS → Prop} {E : MS → Prop} {U77 : MS} {t77_0 : Int32} {v77_1 : Int32} {v77_2 : Int32} {v77_3 : Int32} {v77_4 : Int32} {v77_5 : Int32} (f : frm [21] [7, 8, 45] S0 U77) (h : w_caught_J77 Q E U77 t77_0 v77_1 v77_2 v77_3 v77_4 v77_5) : w_caught_J77 (fun u => Q u ∧ frm [21] [7, 8, 45] S0 u) (fun u => E u ∧ frm [21] [7, 8, 45] S0 u) U77 t77_0 v77_1 v77_2 v77_3 v77_4 v77_5 := by
  unfold w_caught_J77 at h ⊢
  obtain ⟨Q9, E9, h0, h⟩ := h
  refine ⟨_, _, fr_must h0, ?_, ?_⟩
  · intro S24 hq
    replace h := h.1 S24 hq.1
    replace f := f.tr (hq.2.mo (by decide) (by decide))
    refine ⟨fun c => ?_, fun c => ?_⟩
    · replace h := h.1 c
      exact fr_caught_J161 f h
    · replace h := h.2 c
      refine ⟨h.1, ?_⟩
      replace h := h.2
      obtain ⟨Q9, E9, h0, h⟩ := h
      refine ⟨_, _, fr_must h0, ?_, ?_⟩
      · intro S54 hq
        replace h := h.1 S54 hq.1
        replace f := f.tr (hq.2.mo (by decide) (by decide))
        obtain ⟨n9, h⟩ := h
        exact ⟨n9, fr_caught_L109 n9 f h⟩
      · intro u9 hq
        exact ⟨h.2 u9 hq.1, f.tr (hq.2.mo (by decide) (by decide))⟩
  · intro u9 hq
    exact ⟨h.2 u9 hq.1, f.tr (hq.2.mo (by decide) (by decide))⟩
set_option maxRecDepth 100000 in
theorem fr_caught_J76 {S0 : MS} {Q : MS → Prop} {E : MS → Prop} {U76 : MS} {v76_1 : Int32} {v76_2 : Int32} {v76_3 : Int32} {v76_4 : Int32} {v76_5 : Int32} (f : frm [21] [7, 8, 45] S0 U76) (h : w_caught_J76 Q E U76 v76_1 v76_2 v76_3 v76_4 v76_5) : w_caught_J76 (fun u => Q u ∧ frm [21] [7, 8, 45] S0 u) (fun u => E u ∧ frm [21] [7, 8, 45] S0 u) U76 v76_1 v76_2 v76_3 v76_4 v76_5 := by
  unfold w_caught_J76 at h ⊢
  exact fr_caught_J77 f h
set_option maxRecDepth 100000 in
theorem fr_caught_J58 {S0 : MS} {Q : MS → Prop} {E : MS → Prop} {U58 : MS} {v58_1 : Int32} {v58_2 : Int32} {v58_3 : Int32} {v58_4 : Int32} {v58_5 : Int32} (f : frm [21] [7, 8, 45] S0 U58) (h : w_caught_J58 Q E U58 v58_1 v58_2 v58_3 v58_4 v58_5) : w_caught_J58 (fun u => Q u ∧ frm [21] [7, 8, 45] S0 u) (fun u => E u ∧ frm [21] [7, 8, 45] S0 u) U58 v58_1 v58_2 v58_3 v58_4 v58_5 := by
  unfold w_caught_J58 at h ⊢
  refine ⟨h.1, ?_⟩
  replace h := h.2
  refine ⟨fun c => ?_, fun c => ?_⟩
  · replace h := h.1 c
    exact fr_caught_J76 f h
  · replace h := h.2 c
    refine ⟨fun c => ?_, fun c => ?_⟩
    · replace h := h.1 c
      exact fr_caught_J76 f h
    · replace h := h.2 c
      exact fr_caught_J77 f h
set_option maxRecDepth 100000 in
theorem fr_caught {S : MS} {x1 : Int32} {Q : MS → Prop} {E : MS → Prop} (h : w_caught S x1 Q E) : w_caught S x1 (fun u => Q u ∧ frm [21] [7, 8, 45] S u) (fun u => E u ∧ frm [21] [7, 8, 45] S u) := by
  have f : frm [21] [7, 8, 45] S S := frm.rf
  unfold w_caught at h ⊢
  refine ⟨h.1, ?_⟩
  replace h := h.2
  intro a4 ea4
  replace h := h a4 ea4
  refine ⟨h.1, ?_⟩
  replace h := h.2
  intro a9 ea9
  replace h := h a9 ea9
  refine ⟨h.1, ?_⟩
  replace h := h.2
  intro a14 ea14
  replace h := h a14 ea14
  refine ⟨h.1, ?_⟩
  replace h := h.2
  intro a19 ea19
  replace h := h a19 ea19
  refine ⟨h.1, ?_⟩
  replace h := h.2
  refine ⟨fun c => ?_, fun c => ?_⟩
  · replace h := h.1 c
    exact fr_caught_J76 f h
  · replace h := h.2 c
    refine ⟨fun c => ?_, fun c => ?_⟩
    · replace h := h.1 c
      exact fr_caught_J58 f h
    · replace h := h.2 c
      refine ⟨h.1, ?_⟩
      replace h := h.2
      refine ⟨fun c => ?_, fun c => ?_⟩
      · replace h := h.1 c
        exact fr_caught_J76 f h
      · replace h := h.2 c
        exact fr_caught_J58 f h
set_option maxRecDepth 100000 in
theorem fr_chosen_L2 {S0 : MS} {Q : Int32 → MS → Prop} : ∀ (n : Nat) {U2 : MS} {v2_1 : Int32} {v2_2 : Int32} {v2_3 : Int32}, frm [] [] S0 U2 → w_chosen_L2 Q n U2 v2_1 v2_2 v2_3 → w_chosen_L2 (fun r u => Q r u ∧ frm [] [] S0 u) n U2 v2_1 v2_2 v2_3 := by
  intro n
  induction n with
  | zero => intro U2 v2_1 v2_2 v2_3 f h; unfold w_chosen_L2 at h; exact h.elim
  | succ n ih =>
    intro U2 v2_1 v2_2 v2_3 f h
    unfold w_chosen_L2 at h ⊢
    refine ⟨h.1, ?_⟩
    replace h := h.2
    refine ⟨fun c => ?_, fun c => ?_⟩
    · replace h := h.1 c
      refine ⟨h.1, ?_⟩
      replace h := h.2
      refine ⟨h.1, ?_⟩
      replace h := h.2
      refine ⟨h.1, ?_⟩
      replace h := h.2
      exact ⟨h, f⟩
    · replace h := h.2 c
      refine ⟨h.1, ?_⟩
      replace h := h.2
      refine ⟨h.1, ?_⟩
      replace h := h.2
      refine ⟨h.1, ?_⟩
      replace h := h.2
      refine ⟨fun c => ?_, fun c => ?_⟩
      · replace h := h.1 c
        refine ⟨h.1, ?_⟩
        replace h := h.2
        refine ⟨h.1, ?_⟩
        replace h := h.2
        refine ⟨h.1, ?_⟩
        replace h := h.2
        exact ⟨h, f⟩
      · replace h := h.2 c
        intro a23 ea23
        replace h := h a23 ea23
        exact ih f h
set_option maxRecDepth 100000 in
theorem fr_chosen {S : MS} {x1 : Int32} {x2 : Int32} {Q : Int32 → MS → Prop} (h : w_chosen S x1 x2 Q) : w_chosen S x1 x2 (fun r u => Q r u ∧ frm [] [] S u) := by
  have f : frm [] [] S S := frm.rf
  unfold w_chosen at h ⊢
  obtain ⟨n9, h⟩ := h
  exact ⟨n9, fr_chosen_L2 n9 f h⟩
set_option maxRecDepth 100000 in
theorem fr_classes_J76 {S0 : MS} {Q : MS → Prop} {E : MS → Prop} {U76 : MS} {t76_0 : Int32} (f : frm [] [7, 8] S0 U76) (h : w_classes_J76 Q E U76 t76_0) : w_classes_J76 (fun u => Q u ∧ frm [] [7, 8] S0 u) (fun u => E u ∧ frm [] [7, 8] S0 u) U76 t76_0 := by
  unfold w_classes_J76 at h ⊢
  obtain ⟨Q9, E9, h0, h⟩ := h
  refine ⟨_, _, fr_must h0, ?_, ?_⟩
  · intro S29 hq
    replace h := h.1 S29 hq.1
    replace f := f.tr (hq.2.mo (by decide) (by decide))
    exact ⟨h, f⟩
  · intro u9 hq
    exact ⟨h.2 u9 hq.1, f.tr (hq.2.mo (by decide) (by decide))⟩
set_option maxRecDepth 100000 in
theorem fr_classes {S : MS} {Q : MS → Prop} {E : MS → Prop} (h : w_classes S  Q E) : w_classes S  (fun u => Q u ∧ frm [] [7, 8] S u) (fun u => E u ∧ frm [] [7, 8] S u) := by
  have f : frm [] [7, 8] S S := frm.rf
  unfold w_classes at h ⊢
  refine ⟨h.1, ?_⟩
  replace h := h.2
  refine ⟨h.1, ?_⟩
  replace h := h.2
  obtain ⟨Q9, E9, h0, h⟩ := h
  refine ⟨_, _, fr_must h0, ?_, ?_⟩
  · intro S10 hq
    replace h := h.1 S10 hq.1
    replace f := f.tr (hq.2.mo (by decide) (by decide))
    refine ⟨h.1, ?_⟩
    replace h := h.2
    refine ⟨h.1, ?_⟩
    replace h := h.2
    obtain ⟨Q9, E9, h0, h⟩ := h
    refine ⟨_, _, fr_must h0, ?_, ?_⟩
    · intro S21 hq
      replace h := h.1 S21 hq.1
      replace f := f.tr (hq.2.mo (by decide) (by decide))
      refine ⟨h.1, ?_⟩
      replace h := h.2
      refine ⟨fun c => ?_, fun c => ?_⟩
      · replace h := h.1 c
        exact fr_classes_J76 f h
      · replace h := h.2 c
        exact fr_classes_J76 f h
    · intro u9 hq
      exact ⟨h.2 u9 hq.1, f.tr (hq.2.mo (by decide) (by decide))⟩
  · intro u9 hq
    exact ⟨h.2 u9 hq.1, f.tr (hq.2.mo (by decide) (by decide))⟩
set_option maxRecDepth 100000 in
theorem fr_codeOf_J59 {S0 : MS} {Q : Int32 → MS → Prop} {k4 k4' : MS → Int32 → Int32 → Int32 → Prop} {U59 : MS} {v59_1 : Int32} {v59_2 : Int32} {v59_3 : Int32} (hk4 : ∀ (u : MS) (z0) (z1) (z2), frm [] [] S0 u → k4 u z0 z1 z2 → k4' u z0 z1 z2) (f : frm [] [] S0 U59) (h : w_codeOf_J59 Q k4 U59 v59_1 v59_2 v59_3) : w_codeOf_J59 (fun r u => Q r u ∧ frm [] [] S0 u) k4' U59 v59_1 v59_2 v59_3 := by
  unfold w_codeOf_J59 at h ⊢
  intro a4 ea4
  replace h := h a4 ea4
  exact hk4 _ _ _ _ f h
set_option maxRecDepth 100000 in
theorem fr_codeOf_L4 {S0 : MS} {Q : Int32 → MS → Prop} : ∀ (n : Nat) {U4 : MS} {v4_1 : Int32} {v4_2 : Int32} {v4_3 : Int32}, frm [] [] S0 U4 → w_codeOf_L4 Q n U4 v4_1 v4_2 v4_3 → w_codeOf_L4 (fun r u => Q r u ∧ frm [] [] S0 u) n U4 v4_1 v4_2 v4_3 := by
  intro n
  induction n with
  | zero => intro U4 v4_1 v4_2 v4_3 f h; unfold w_codeOf_L4 at h; exact h.elim
  | succ n ih =>
    intro U4 v4_1 v4_2 v4_3 f h
    unfold w_codeOf_L4 at h ⊢
    refine ⟨fun c => ?_, fun c => ?_⟩
    · replace h := h.1 c
      exact ⟨h, f⟩
    · replace h := h.2 c
      refine ⟨h.1, ?_⟩
      replace h := h.2
      refine ⟨fun c => ?_, fun c => ?_⟩
      · replace h := h.1 c
        refine ⟨h.1, ?_⟩
        replace h := h.2
        refine ⟨h.1, ?_⟩
        replace h := h.2
        obtain ⟨Q9, h0, h⟩ := h
        refine ⟨_, fr_isText h0, ?_⟩
        · intro r13 S14 hq
          replace h := h r13 S14 hq.1
          replace f := f.tr (hq.2.mo (by decide) (by decide))
          refine ⟨fun c => ?_, fun c => ?_⟩
          · replace h := h.1 c
            exact fr_codeOf_J59 (fun _ _ _ _ f h => ih f h) f h
          · replace h := h.2 c
            refine ⟨fun c => ?_, fun c => ?_⟩
            · replace h := h.1 c
              refine ⟨h.1, ?_⟩
              replace h := h.2
              intro a20 ea20
              replace h := h a20 ea20
              exact fr_codeOf_J59 (fun _ _ _ _ f h => ih f h) f h
            · replace h := h.2 c
              exact ⟨h, f⟩
      · replace h := h.2 c
        exact fr_codeOf_J59 (fun _ _ _ _ f h => ih f h) f h
set_option maxRecDepth 100000 in
theorem fr_codeOf {S : MS} {x1 : Int32} {Q : Int32 → MS → Prop} (h : w_codeOf S x1 Q) : w_codeOf S x1 (fun r u => Q r u ∧ frm [] [] S u) := by
  have f : frm [] [] S S := frm.rf
  unfold w_codeOf at h ⊢
  obtain ⟨n9, h⟩ := h
  exact ⟨n9, fr_codeOf_L4 n9 f h⟩
set_option maxRecDepth 100000 in
theorem fr_parameterPlaces_J118 {S0 : MS} {Q : Int32 → MS → Prop} {U118 : MS} (f : frm [] [] S0 U118) (h : w_parameterPlaces_J118 Q U118) : w_parameterPlaces_J118 (fun r u => Q r u ∧ frm [] [] S0 u) U118 := by
  unfold w_parameterPlaces_J118 at h ⊢
  exact ⟨h, f⟩
set_option maxRecDepth 100000 in
theorem fr_parameterPlaces_J94 {S0 : MS} {Q : Int32 → MS → Prop} {U94 : MS} {t94_0 : Int32} {v94_1 : Int32} {v94_2 : Int32} {v94_3 : Int32} (f : frm [] [] S0 U94) (h : w_parameterPlaces_J94 Q U94 t94_0 v94_1 v94_2 v94_3) : w_parameterPlaces_J94 (fun r u => Q r u ∧ frm [] [] S0 u) U94 t94_0 v94_1 v94_2 v94_3 := by
  unfold w_parameterPlaces_J94 at h ⊢
  refine ⟨fun c => ?_, fun c => ?_⟩
  · replace h := h.1 c
    exact fr_parameterPlaces_J118 f h
  · replace h := h.2 c
    refine ⟨h.1, ?_⟩
    replace h := h.2
    refine ⟨fun c => ?_, fun c => ?_⟩
    · replace h := h.1 c
      exact ⟨h, f⟩
    · replace h := h.2 c
      exact fr_parameterPlaces_J118 f h
set_option maxRecDepth 100000 in
theorem fr_parameterPlaces_J43 {S0 : MS} {Q : Int32 → MS → Prop} {k17 k17' : MS → Int32 → Int32 → Int32 → Prop} {U43 : MS} {t43_0 : Int32} {t43_1 : Int32} {v43_1 : Int32} {v43_2 : Int32} (hk17 : ∀ (u : MS) (z0) (z1) (z2), frm [] [] S0 u → k17 u z0 z1 z2 → k17' u z0 z1 z2) (f : frm [] [] S0 U43) (h : w_parameterPlaces_J43 Q k17 U43 t43_0 t43_1 v43_1 v43_2) : w_parameterPlaces_J43 (fun r u => Q r u ∧ frm [] [] S0 u) k17' U43 t43_0 t43_1 v43_1 v43_2 := by
  unfold w_parameterPlaces_J43 at h ⊢
  intro a30 ea30
  replace h := h a30 ea30
  refine ⟨h.1, ?_⟩
  replace h := h.2
  intro a35 ea35
  replace h := h a35 ea35
  exact hk17 _ _ _ _ f h
set_option maxRecDepth 100000 in
theorem fr_parameterPlaces_L17 {S0 : MS} {Q : Int32 → MS → Prop} : ∀ (n : Nat) {U17 : MS} {v17_1 : Int32} {v17_2 : Int32} {v17_3 : Int32}, frm [] [] S0 U17 → w_parameterPlaces_L17 Q n U17 v17_1 v17_2 v17_3 → w_parameterPlaces_L17 (fun r u => Q r u ∧ frm [] [] S0 u) n U17 v17_1 v17_2 v17_3 := by
  intro n
  induction n with
  | zero => intro U17 v17_1 v17_2 v17_3 f h; unfold w_parameterPlaces_L17 at h; exact h.elim
  | succ n ih =>
    intro U17 v17_1 v17_2 v17_3 f h
    unfold w_parameterPlaces_L17 at h ⊢
    refine ⟨h.1, ?_⟩
    replace h := h.2
    refine ⟨fun c => ?_, fun c => ?_⟩
    · replace h := h.1 c
      refine ⟨h.1, ?_⟩
      replace h := h.2
      refine ⟨fun c => ?_, fun c => ?_⟩
      · replace h := h.1 c
        intro a13 ea13
        replace h := h a13 ea13
        refine ⟨h.1, ?_⟩
        replace h := h.2
        refine ⟨fun c => ?_, fun c => ?_⟩
        · replace h := h.1 c
          exact fr_parameterPlaces_J94 f h
        · replace h := h.2 c
          refine ⟨h.1, ?_⟩
          replace h := h.2
          exact fr_parameterPlaces_J94 f h
      · replace h := h.2 c
        exact ⟨h, f⟩
    · replace h := h.2 c
      refine ⟨h.1, ?_⟩
      replace h := h.2
      refine ⟨fun c => ?_, fun c => ?_⟩
      · replace h := h.1 c
        exact fr_parameterPlaces_J43 (fun _ _ _ _ f h => ih f h) f h
      · replace h := h.2 c
        exact fr_parameterPlaces_J43 (fun _ _ _ _ f h => ih f h) f h
set_option maxRecDepth 100000 in
theorem fr_parameterPlaces {S : MS} {x1 : Int32} {Q : Int32 → MS → Prop} (h : w_parameterPlaces S x1 Q) : w_parameterPlaces S x1 (fun r u => Q r u ∧ frm [] [] S u) := by
  have f : frm [] [] S S := frm.rf
  unfold w_parameterPlaces at h ⊢
  refine ⟨h.1, ?_⟩
  replace h := h.2
  refine ⟨fun c => ?_, fun c => ?_⟩
  · replace h := h.1 c
    obtain ⟨n9, h⟩ := h
    exact ⟨n9, fr_parameterPlaces_L17 n9 f h⟩
  · replace h := h.2 c
    exact ⟨h, f⟩
