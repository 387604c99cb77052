/-! what a method leaves as it was: all but the rows W and the fields J -/
def frm (W J : List Nat) (S u : MS) : Prop := qT u = qT S ∧ qN u = qN S ∧ qn u = qn S ∧ qu u = qu S ∧ (∀ h : Nat, h ≠ 0 → h ∉ W → qI u h = qI S h ∧ qJ u h = qJ S h ∧ qR u h = qR S h) ∧ ∀ j : Nat, j ∉ J → qI u 0 j = qI S 0 j ∧ qJ u 0 j = qJ S 0 j ∧ qR u 0 j = qR S 0 j
theorem frm.rf {W J : List Nat} {S : MS} : frm W J S S := ⟨rfl, rfl, rfl, rfl, fun _ _ _ => ⟨rfl, rfl, rfl⟩, fun _ _ => ⟨rfl, rfl, rfl⟩⟩
theorem frm.tr {W J : List Nat} {S u v : MS} (h : frm W J S u) (k : frm W J u v) : frm W J S v := ⟨k.1.trans h.1, k.2.1.trans h.2.1, k.2.2.1.trans h.2.2.1, k.2.2.2.1.trans h.2.2.2.1, fun a h0 hn => ⟨(k.2.2.2.2.1 a h0 hn).1.trans (h.2.2.2.2.1 a h0 hn).1, (k.2.2.2.2.1 a h0 hn).2.1.trans (h.2.2.2.2.1 a h0 hn).2.1, (k.2.2.2.2.1 a h0 hn).2.2.trans (h.2.2.2.2.1 a h0 hn).2.2⟩, fun j hj => ⟨(k.2.2.2.2.2 j hj).1.trans (h.2.2.2.2.2 j hj).1, (k.2.2.2.2.2 j hj).2.1.trans (h.2.2.2.2.2 j hj).2.1, (k.2.2.2.2.2 j hj).2.2.trans (h.2.2.2.2.2 j hj).2.2⟩⟩
theorem frm.mo {W J W' J' : List Nat} {S u : MS} (h : frm W J S u) (hW : W.all (fun x => W'.contains x) = true) (hJ : J.all (fun x => J'.contains x) = true) : frm W' J' S u :=
  ⟨h.1, h.2.1, h.2.2.1, h.2.2.2.1, fun a h0 hn => h.2.2.2.2.1 a h0 (fun q => hn (by have z := List.all_eq_true.mp hW a q; exact List.contains_iff_mem.mp z)), fun j hj => h.2.2.2.2.2 j (fun q => hj (by have z := List.all_eq_true.mp hJ j q; exact List.contains_iff_mem.mp z))⟩
theorem frm.pI {W J : List Nat} {S : MS} {h i : Nat} {v : Int32} (hm : W.contains h = true ∧ h ≠ 0) : frm W J S (wI S h i v) := ⟨rfl, rfl, rfl, rfl, fun a h0 hn => ⟨if_neg (fun (q : a = h) => hn (by rw [q]; exact List.contains_iff_mem.mp hm.1)), rfl, rfl⟩, fun j hj => ⟨by rw [qI_wI, if_neg (fun q => hm.2 q.1.symm)], rfl, rfl⟩⟩
theorem frm.pJ {W J : List Nat} {S : MS} {h i : Nat} {v : Int64} (hm : W.contains h = true ∧ h ≠ 0) : frm W J S (wJ S h i v) := ⟨rfl, rfl, rfl, rfl, fun a h0 hn => ⟨rfl, if_neg (fun (q : a = h) => hn (by rw [q]; exact List.contains_iff_mem.mp hm.1)), rfl⟩, fun j hj => ⟨rfl, by rw [qJ_wJ, if_neg (fun q => hm.2 q.1.symm)], rfl⟩⟩
theorem frm.pR {W J : List Nat} {S : MS} {h i : Nat} {v : Option Nat} (hm : W.contains h = true ∧ h ≠ 0) : frm W J S (wR S h i v) := ⟨rfl, rfl, rfl, rfl, fun a h0 hn => ⟨rfl, rfl, if_neg (fun (q : a = h) => hn (by rw [q]; exact List.contains_iff_mem.mp hm.1))⟩, fun j hj => ⟨rfl, rfl, by rw [qR_wR, if_neg (fun q => hm.2 q.1.symm)]⟩⟩
theorem frm.pI0 {W J : List Nat} {S : MS} {i : Nat} {v : Int32} (hm : J.contains i = true) : frm W J S (wI S 0 i v) := ⟨rfl, rfl, rfl, rfl, fun a h0 hn => ⟨if_neg h0, rfl, rfl⟩, fun j hj => ⟨by rw [qI_wI, if_neg (fun q => hj (by rw [q.2]; exact List.contains_iff_mem.mp hm))], rfl, rfl⟩⟩
theorem frm.pJ0 {W J : List Nat} {S : MS} {i : Nat} {v : Int64} (hm : J.contains i = true) : frm W J S (wJ S 0 i v) := ⟨rfl, rfl, rfl, rfl, fun a h0 hn => ⟨rfl, if_neg h0, rfl⟩, fun j hj => ⟨rfl, by rw [qJ_wJ, if_neg (fun q => hj (by rw [q.2]; exact List.contains_iff_mem.mp hm))], rfl⟩⟩
theorem frm.pR0 {W J : List Nat} {S : MS} {i : Nat} {v : Option Nat} (hm : J.contains i = true) : frm W J S (wR S 0 i v) := ⟨rfl, rfl, rfl, rfl, fun a h0 hn => ⟨rfl, rfl, if_neg h0⟩, fun j hj => ⟨rfl, rfl, by rw [qR_wR, if_neg (fun q => hj (by rw [q.2]; exact List.contains_iff_mem.mp hm))]⟩⟩
set_option maxRecDepth 100000 in
theorem fr_here_L2 {S0 : MS} {Q : Int32 → MS → Prop} : ∀ (n : Nat) {U2 : MS} {v2_2 : Int32}, frm [] [] S0 U2 → w_here_L2 Q n U2 v2_2 → w_here_L2 (fun r u => Q r u ∧ frm [] [] S0 u) n U2 v2_2 := by
  intro n
  induction n with
  | zero => intro U2 v2_2 f h; unfold w_here_L2 at h; exact h.elim
  | succ n ih =>
    intro U2 v2_2 f h
    unfold w_here_L2 at h ⊢
    refine ⟨fun c => ?_, fun c => ?_⟩
    · replace h := h.1 c
      exact ⟨h, f⟩
    · replace h := h.2 c
      refine ⟨h.1, ?_⟩
      replace h := h.2
      refine ⟨fun c => ?_, fun c => ?_⟩
      · replace h := h.1 c
        exact ⟨h, f⟩
      · replace h := h.2 c
        intro a5 ea5
        replace h := h a5 ea5
        exact ih f h
set_option maxRecDepth 100000 in
theorem fr_here {S : MS} {x1 : Int32} {Q : Int32 → MS → Prop} (h : w_here S x1 Q) : w_here S x1 (fun r u => Q r u ∧ frm [] [] S u) := by
  have f : frm [] [] S S := frm.rf
  unfold w_here at h ⊢
  obtain ⟨n9, h⟩ := h
  exact ⟨n9, fr_here_L2 n9 f h⟩
set_option maxRecDepth 100000 in
theorem fr_behind {S : MS} {x1 : Int32} {Q : Int32 → MS → Prop} (h : w_behind S x1 Q) : w_behind S x1 (fun r u => Q r u ∧ frm [] [] S u) := by
  have f : frm [] [] S S := frm.rf
  unfold w_behind at h ⊢
  obtain ⟨Q9, h0, h⟩ := h
  refine ⟨_, fr_here h0, ?_⟩
  · intro r3 S4 hq
    replace h := h r3 S4 hq.1
    replace f := f.tr (hq.2.mo (by decide) (by decide))
    exact ⟨h, f⟩
set_option maxRecDepth 100000 in
theorem fr_wayOf {S : MS} {x1 : Int32} {x2 : Int32} {Q : Int32 → MS → Prop} (h : w_wayOf S x1 x2 Q) : w_wayOf S x1 x2 (fun r u => Q r u ∧ frm [] [] S u) := by
  have f : frm [] [] S S := frm.rf
  unfold w_wayOf at h ⊢
  refine ⟨h.1, ?_⟩
  replace h := h.2
  refine ⟨h.1, ?_⟩
  replace h := h.2
  refine ⟨fun c => ?_, fun c => ?_⟩
  · replace h := h.1 c
    refine ⟨h.1, ?_⟩
    replace h := h.2
    refine ⟨h.1, ?_⟩
    replace h := h.2
    obtain ⟨Q9, h0, h⟩ := h
    refine ⟨_, fr_here h0, ?_⟩
    · intro r14 S15 hq
      replace h := h r14 S15 hq.1
      replace f := f.tr (hq.2.mo (by decide) (by decide))
      exact ⟨h, f⟩
  · replace h := h.2 c
    refine ⟨h.1, ?_⟩
    replace h := h.2
    obtain ⟨Q9, h0, h⟩ := h
    refine ⟨_, fr_here h0, ?_⟩
    · intro r20 S21 hq
      replace h := h r20 S21 hq.1
      replace f := f.tr (hq.2.mo (by decide) (by decide))
      exact ⟨h, f⟩
set_option maxRecDepth 100000 in
theorem fr_liveBehind_L41 {S0 : MS} {Q : Int32 → MS → Prop} : ∀ (n : Nat) {U41 : MS} {v41_1 : Int32} {v41_2 : Int32} {v41_3 : Int32}, frm [] [] S0 U41 → w_liveBehind_L41 Q n U41 v41_1 v41_2 v41_3 → w_liveBehind_L41 (fun r u => Q r u ∧ frm [] [] S0 u) n U41 v41_1 v41_2 v41_3 := by
  intro n
  induction n with
  | zero => intro U41 v41_1 v41_2 v41_3 f h; unfold w_liveBehind_L41 at h; exact h.elim
  | succ n ih =>
    intro U41 v41_1 v41_2 v41_3 f h
    unfold w_liveBehind_L41 at h ⊢
    refine ⟨h.1, ?_⟩
    replace h := h.2
    refine ⟨fun c => ?_, fun c => ?_⟩
    · replace h := h.1 c
      exact ⟨h, f⟩
    · replace h := h.2 c
      obtain ⟨Q9, h0, h⟩ := h
      refine ⟨_, fr_wayOf h0, ?_⟩
      · intro r11 S12 hq
        replace h := h r11 S12 hq.1
        replace f := f.tr (hq.2.mo (by decide) (by decide))
        refine ⟨h.1, ?_⟩
        replace h := h.2
        intro a17 ea17
        replace h := h a17 ea17
        intro a18 ea18
        replace h := h a18 ea18
        exact ih f h
set_option maxRecDepth 100000 in
theorem fr_liveBehind_J38 {S0 : MS} {Q : Int32 → MS → Prop} {U38 : MS} {t38_0 : Int32} {v38_1 : Int32} (f : frm [] [] S0 U38) (h : w_liveBehind_J38 Q U38 t38_0 v38_1) : w_liveBehind_J38 (fun r u => Q r u ∧ frm [] [] S0 u) U38 t38_0 v38_1 := by
  unfold w_liveBehind_J38 at h ⊢
  obtain ⟨n9, h⟩ := h
  exact ⟨n9, fr_liveBehind_L41 n9 f h⟩
set_option maxRecDepth 100000 in
theorem fr_liveBehind_J37 {S0 : MS} {Q : Int32 → MS → Prop} {U37 : MS} {v37_1 : Int32} (f : frm [] [] S0 U37) (h : w_liveBehind_J37 Q U37 v37_1) : w_liveBehind_J37 (fun r u => Q r u ∧ frm [] [] S0 u) U37 v37_1 := by
  unfold w_liveBehind_J37 at h ⊢
  exact fr_liveBehind_J38 f h
set_option maxRecDepth 100000 in
theorem fr_liveBehind {S : MS} {x1 : Int32} {Q : Int32 → MS → Prop} (h : w_liveBehind S x1 Q) : w_liveBehind S x1 (fun r u => Q r u ∧ frm [] [] S u) := by
  have f : frm [] [] S S := frm.rf
  unfold w_liveBehind at h ⊢
  refine ⟨h.1, ?_⟩
  replace h := h.2
  refine ⟨h.1, ?_⟩
  replace h := h.2
  refine ⟨fun c => ?_, fun c => ?_⟩
  · replace h := h.1 c
    exact fr_liveBehind_J37 f h
  · replace h := h.2 c
    obtain ⟨Q9, h0, h⟩ := h
    refine ⟨_, fr_behind h0, ?_⟩
    · intro r21 S22 hq
      replace h := h r21 S22 hq.1
      replace f := f.tr (hq.2.mo (by decide) (by decide))
      refine ⟨fun c => ?_, fun c => ?_⟩
      · replace h := h.1 c
        exact fr_liveBehind_J37 f h
      · replace h := h.2 c
        obtain ⟨Q9, h0, h⟩ := h
        refine ⟨_, fr_behind h0, ?_⟩
        · intro r26 S27 hq
          replace h := h r26 S27 hq.1
          replace f := f.tr (hq.2.mo (by decide) (by decide))
          refine ⟨h.1, ?_⟩
          replace h := h.2
          exact fr_liveBehind_J38 f h
set_option maxRecDepth 100000 in
theorem fr_dead_J95 {S0 : MS} {Q : Int32 → MS → Prop} {U95 : MS} {t95_0 : Int32} {t95_1 : Int32} {v95_1 : Int32} (f : frm [78, 79, 80, 81] [] S0 U95) (h : w_dead_J95 Q U95 t95_0 t95_1 v95_1) : w_dead_J95 (fun r u => Q r u ∧ frm [78, 79, 80, 81] [] S0 u) U95 t95_0 t95_1 v95_1 := by
  unfold w_dead_J95 at h ⊢
  refine ⟨h.1, ?_⟩
  replace h := h.2
  intro S25 eS25
  replace h := h S25 eS25
  replace f := f.tr (show frm [78, 79, 80, 81] [] U95 S25 by rw [eS25]; exact frm.pI (by decide))
  refine ⟨h.1, ?_⟩
  replace h := h.2
  intro S27 eS27
  replace h := h S27 eS27
  replace f := f.tr (show frm [78, 79, 80, 81] [] S25 S27 by rw [eS27]; exact frm.pI (by decide))
  refine ⟨h.1, ?_⟩
  replace h := h.2
  intro S29 eS29
  replace h := h S29 eS29
  replace f := f.tr (show frm [78, 79, 80, 81] [] S27 S29 by rw [eS29]; exact frm.pI (by decide))
  exact ⟨h, f⟩
set_option maxRecDepth 100000 in
theorem fr_dead_J24 {S0 : MS} {Q : Int32 → MS → Prop} {U24 : MS} {v24_1 : Int32} (f : frm [78, 79, 80, 81] [] S0 U24) (h : w_dead_J24 Q U24 v24_1) : w_dead_J24 (fun r u => Q r u ∧ frm [78, 79, 80, 81] [] S0 u) U24 v24_1 := by
  unfold w_dead_J24 at h ⊢
  obtain ⟨Q9, h0, h⟩ := h
  refine ⟨_, fr_liveBehind h0, ?_⟩
  · intro r7 S8 hq
    replace h := h r7 S8 hq.1
    replace f := f.tr (hq.2.mo (by decide) (by decide))
    refine ⟨h.1, ?_⟩
    replace h := h.2
    refine ⟨h.1, ?_⟩
    replace h := h.2
    refine ⟨h.1, ?_⟩
    replace h := h.2
    refine ⟨fun c => ?_, fun c => ?_⟩
    · replace h := h.1 c
      refine ⟨h.1, ?_⟩
      replace h := h.2
      refine ⟨fun c => ?_, fun c => ?_⟩
      · replace h := h.1 c
        refine ⟨h.1, ?_⟩
        replace h := h.2
        intro S32 eS32
        replace h := h S32 eS32
        replace f := f.tr (show frm [78, 79, 80, 81] [] S8 S32 by rw [eS32]; exact frm.pI (by decide))
        exact ⟨h, f⟩
      · replace h := h.2 c
        refine ⟨h.1, ?_⟩
        replace h := h.2
        refine ⟨fun c => ?_, fun c => ?_⟩
        · replace h := h.1 c
          exact fr_dead_J95 f h
        · replace h := h.2 c
          exact fr_dead_J95 f h
    · replace h := h.2 c
      exact ⟨h, f⟩
set_option maxRecDepth 100000 in
theorem fr_dead {S : MS} {x1 : Int32} {Q : Int32 → MS → Prop} (h : w_dead S x1 Q) : w_dead S x1 (fun r u => Q r u ∧ frm [78, 79, 80, 81] [] S u) := by
  have f : frm [78, 79, 80, 81] [] S S := frm.rf
  unfold w_dead at h ⊢
  refine ⟨h.1, ?_⟩
  replace h := h.2
  refine ⟨h.1, ?_⟩
  replace h := h.2
  refine ⟨fun c => ?_, fun c => ?_⟩
  · replace h := h.1 c
    refine ⟨h.1, ?_⟩
    replace h := h.2
    refine ⟨fun c => ?_, fun c => ?_⟩
    · replace h := h.1 c
      exact fr_dead_J24 f h
    · replace h := h.2 c
      exact ⟨h, f⟩
  · replace h := h.2 c
    exact fr_dead_J24 f h
set_option maxRecDepth 100000 in
theorem fr_settle {S : MS} {x1 : Int32} {x2 : Int32} {x3 : Int32} {Q : MS → Prop} (h : w_settle S x1 x2 x3 Q) : w_settle S x1 x2 x3 (fun u => Q u ∧ frm [78, 79, 80, 81] [] S u) := by
  have f : frm [78, 79, 80, 81] [] S S := frm.rf
  unfold w_settle at h ⊢
  refine ⟨h.1, ?_⟩
  replace h := h.2
  intro a3 ea3
  replace h := h a3 ea3
  refine ⟨h.1, ?_⟩
  replace h := h.2
  intro S5 eS5
  replace h := h S5 eS5
  replace f := f.tr (show frm [78, 79, 80, 81] [] S S5 by rw [eS5]; exact frm.pI (by decide))
  refine ⟨fun c => ?_, fun c => ?_⟩
  · replace h := h.1 c
    refine ⟨h.1, ?_⟩
    replace h := h.2
    intro S14 eS14
    replace h := h S14 eS14
    replace f := f.tr (show frm [78, 79, 80, 81] [] S5 S14 by rw [eS14]; exact frm.pI (by decide))
    exact ⟨h, f⟩
  · replace h := h.2 c
    refine ⟨h.1, ?_⟩
    replace h := h.2
    intro S8 eS8
    replace h := h S8 eS8
    replace f := f.tr (show frm [78, 79, 80, 81] [] S5 S8 by rw [eS8]; exact frm.pI (by decide))
    refine ⟨h.1, ?_⟩
    replace h := h.2
    intro S10 eS10
    replace h := h S10 eS10
    replace f := f.tr (show frm [78, 79, 80, 81] [] S8 S10 by rw [eS10]; exact frm.pI (by decide))
    refine ⟨h.1, ?_⟩
    replace h := h.2
    intro S12 eS12
    replace h := h S12 eS12
    replace f := f.tr (show frm [78, 79, 80, 81] [] S10 S12 by rw [eS12]; exact frm.pI (by decide))
    exact ⟨h, f⟩
set_option maxRecDepth 100000 in
theorem fr_decided_J65 {S0 : MS} {Q : Int32 → MS → Prop} {U65 : MS} {v65_1 : Int32} {v65_2 : Int32} {v65_3 : Int32} (f : frm [78, 79, 80, 81] [] S0 U65) (h : w_decided_J65 Q U65 v65_1 v65_2 v65_3) : w_decided_J65 (fun r u => Q r u ∧ frm [78, 79, 80, 81] [] S0 u) U65 v65_1 v65_2 v65_3 := by
  unfold w_decided_J65 at h ⊢
  obtain ⟨Q9, h0, h⟩ := h
  refine ⟨_, fr_behind h0, ?_⟩
  · intro r7 S8 hq
    replace h := h r7 S8 hq.1
    replace f := f.tr (hq.2.mo (by decide) (by decide))
    refine ⟨h.1, ?_⟩
    replace h := h.2
    refine ⟨fun c => ?_, fun c => ?_⟩
    · replace h := h.1 c
      refine ⟨fun c => ?_, fun c => ?_⟩
      · replace h := h.1 c
        exact ⟨h, f⟩
      · replace h := h.2 c
        refine ⟨fun c => ?_, fun c => ?_⟩
        · replace h := h.1 c
          exact ⟨h, f⟩
        · replace h := h.2 c
          refine ⟨h.1, ?_⟩
          replace h := h.2
          refine ⟨fun c => ?_, fun c => ?_⟩
          · replace h := h.1 c
            refine ⟨h.1, ?_⟩
            replace h := h.2
            refine ⟨fun c => ?_, fun c => ?_⟩
            · replace h := h.1 c
              exact ⟨h, f⟩
            · replace h := h.2 c
              refine ⟨h.1, ?_⟩
              replace h := h.2
              refine ⟨fun c => ?_, fun c => ?_⟩
              · replace h := h.1 c
                refine ⟨h.1, ?_⟩
                replace h := h.2
                refine ⟨h.1, ?_⟩
                replace h := h.2
                refine ⟨h.1, ?_⟩
                replace h := h.2
                refine ⟨h.1, ?_⟩
                replace h := h.2
                intro a34 ea34
                replace h := h a34 ea34
                refine ⟨h.1, ?_⟩
                replace h := h.2
                intro S36 eS36
                replace h := h S36 eS36
                replace f := f.tr (show frm [78, 79, 80, 81] [] S8 S36 by rw [eS36]; exact frm.pI (by decide))
                obtain ⟨Q9, h0, h⟩ := h
                refine ⟨_, fr_settle h0, ?_⟩
                · intro S38 hq
                  replace h := h S38 hq.1
                  replace f := f.tr (hq.2.mo (by decide) (by decide))
                  exact ⟨h, f⟩
              · replace h := h.2 c
                exact ⟨h, f⟩
          · replace h := h.2 c
            exact ⟨h, f⟩
    · replace h := h.2 c
      exact ⟨h, f⟩
set_option maxRecDepth 100000 in
theorem fr_decided {S : MS} {x1 : Int32} {x2 : Int32} {x3 : Int32} {Q : Int32 → MS → Prop} (h : w_decided S x1 x2 x3 Q) : w_decided S x1 x2 x3 (fun r u => Q r u ∧ frm [78, 79, 80, 81] [] S u) := by
  have f : frm [78, 79, 80, 81] [] S S := frm.rf
  unfold w_decided at h ⊢
  refine ⟨h.1, ?_⟩
  replace h := h.2
  refine ⟨fun c => ?_, fun c => ?_⟩
  · replace h := h.1 c
    refine ⟨h.1, ?_⟩
    replace h := h.2
    refine ⟨fun c => ?_, fun c => ?_⟩
    · replace h := h.1 c
      exact fr_decided_J65 f h
    · replace h := h.2 c
      refine ⟨h.1, ?_⟩
      replace h := h.2
      refine ⟨fun c => ?_, fun c => ?_⟩
      · replace h := h.1 c
        exact fr_decided_J65 f h
      · replace h := h.2 c
        refine ⟨h.1, ?_⟩
        replace h := h.2
        refine ⟨h.1, ?_⟩
        replace h := h.2
        refine ⟨h.1, ?_⟩
        replace h := h.2
        obtain ⟨Q9, h0, h⟩ := h
        refine ⟨_, fr_settle h0, ?_⟩
        · intro S53 hq
          replace h := h S53 hq.1
          replace f := f.tr (hq.2.mo (by decide) (by decide))
          exact ⟨h, f⟩
  · replace h := h.2 c
    exact ⟨h, f⟩
set_option maxRecDepth 100000 in
theorem fr_become_J28 {S0 : MS} {Q : MS → Prop} {U28 : MS} {t28_0 : Int32} {t28_1 : Int32} {v28_1 : Int32} {v28_2 : Int32} {v28_3 : Int64} (f : frm [78, 79, 80] [] S0 U28) (h : w_become_J28 Q U28 t28_0 t28_1 v28_1 v28_2 v28_3) : w_become_J28 (fun u => Q u ∧ frm [78, 79, 80] [] S0 u) U28 t28_0 t28_1 v28_1 v28_2 v28_3 := by
  unfold w_become_J28 at h ⊢
  refine ⟨h.1, ?_⟩
  replace h := h.2
  intro S4 eS4
  replace h := h S4 eS4
  replace f := f.tr (show frm [78, 79, 80] [] U28 S4 by rw [eS4]; exact frm.pI (by decide))
  refine ⟨fun c => ?_, fun c => ?_⟩
  · replace h := h.1 c
    refine ⟨h.1, ?_⟩
    replace h := h.2
    intro S9 eS9
    replace h := h S9 eS9
    replace f := f.tr (show frm [78, 79, 80] [] S4 S9 by rw [eS9]; exact frm.pI (by decide))
    exact ⟨h, f⟩
  · replace h := h.2 c
    refine ⟨h.1, ?_⟩
    replace h := h.2
    intro S7 eS7
    replace h := h S7 eS7
    replace f := f.tr (show frm [78, 79, 80] [] S4 S7 by rw [eS7]; exact frm.pI (by decide))
    exact ⟨h, f⟩
set_option maxRecDepth 100000 in
theorem fr_become {S : MS} {x1 : Int32} {x2 : Int32} {y3 : Int64} {Q : MS → Prop} (h : w_become S x1 x2 y3 Q) : w_become S x1 x2 y3 (fun u => Q u ∧ frm [78, 79, 80] [] S u) := by
  have f : frm [78, 79, 80] [] S S := frm.rf
  unfold w_become at h ⊢
  refine ⟨h.1, ?_⟩
  replace h := h.2
  intro S2 eS2
  replace h := h S2 eS2
  replace f := f.tr (show frm [78, 79, 80] [] S S2 by rw [eS2]; exact frm.pI (by decide))
  refine ⟨fun c => ?_, fun c => ?_⟩
  · replace h := h.1 c
    exact fr_become_J28 f h
  · replace h := h.2 c
    exact fr_become_J28 f h
set_option maxRecDepth 100000 in
theorem fr_folded_J217 {S0 : MS} {Q : Int32 → MS → Prop} {U217 : MS} {v217_2 : Int32} {v217_4 : Int32} (f : frm [78, 79, 80, 81] [] S0 U217) (h : w_folded_J217 Q U217 v217_2 v217_4) : w_folded_J217 (fun r u => Q r u ∧ frm [78, 79, 80, 81] [] S0 u) U217 v217_2 v217_4 := by
  unfold w_folded_J217 at h ⊢
  refine ⟨h.1, ?_⟩
  replace h := h.2
  intro S40 eS40
  replace h := h S40 eS40
  replace f := f.tr (show frm [78, 79, 80, 81] [] U217 S40 by rw [eS40]; exact frm.pI (by decide))
  refine ⟨h.1, ?_⟩
  replace h := h.2
  intro S42 eS42
  replace h := h S42 eS42
  replace f := f.tr (show frm [78, 79, 80, 81] [] S40 S42 by rw [eS42]; exact frm.pI (by decide))
  exact ⟨h, f⟩
set_option maxRecDepth 100000 in
theorem fr_folded_J162 {S0 : MS} {Q : Int32 → MS → Prop} {U162 : MS} {t162_0 : Int64} {t162_1 : Int32} {t162_2 : Int32} {v162_2 : Int32} {v162_4 : Int32} (f : frm [78, 79, 80, 81] [] S0 U162) (h : w_folded_J162 Q U162 t162_0 t162_1 t162_2 v162_2 v162_4) : w_folded_J162 (fun r u => Q r u ∧ frm [78, 79, 80, 81] [] S0 u) U162 t162_0 t162_1 t162_2 v162_2 v162_4 := by
  unfold w_folded_J162 at h ⊢
  obtain ⟨Q9, h0, h⟩ := h
  refine ⟨_, fr_become h0, ?_⟩
  · intro S61 hq
    replace h := h S61 hq.1
    replace f := f.tr (hq.2.mo (by decide) (by decide))
    exact fr_folded_J217 f h
set_option maxRecDepth 100000 in
theorem fr_folded_J123 {S0 : MS} {Q : Int32 → MS → Prop} {U123 : MS} {v123_1 : Int32} {v123_2 : Int32} {v123_4 : Int32} {v123_5 : Int32} {v123_6 : Int64} {v123_8 : Int64} (f : frm [78, 79, 80, 81] [] S0 U123) (h : w_folded_J123 Q U123 v123_1 v123_2 v123_4 v123_5 v123_6 v123_8) : w_folded_J123 (fun r u => Q r u ∧ frm [78, 79, 80, 81] [] S0 u) U123 v123_1 v123_2 v123_4 v123_5 v123_6 v123_8 := by
  unfold w_folded_J123 at h ⊢
  refine ⟨fun c => ?_, fun c => ?_⟩
  · replace h := h.1 c
    refine ⟨fun c => ?_, fun c => ?_⟩
    · replace h := h.1 c
      refine ⟨fun c => ?_, fun c => ?_⟩
      · replace h := h.1 c
        exact fr_folded_J162 f h
      · replace h := h.2 c
        exact fr_folded_J162 f h
    · replace h := h.2 c
      exact fr_folded_J162 f h
  · replace h := h.2 c
    refine ⟨h.1, ?_⟩
    replace h := h.2
    refine ⟨fun c => ?_, fun c => ?_⟩
    · replace h := h.1 c
      refine ⟨h.1, ?_⟩
      replace h := h.2
      obtain ⟨Q9, h0, h⟩ := h
      refine ⟨_, fr_become h0, ?_⟩
      · intro S57 hq
        replace h := h S57 hq.1
        replace f := f.tr (hq.2.mo (by decide) (by decide))
        exact fr_folded_J217 f h
    · replace h := h.2 c
      refine ⟨h.1, ?_⟩
      replace h := h.2
      obtain ⟨Q9, h0, h⟩ := h
      refine ⟨_, fr_become h0, ?_⟩
      · intro S51 hq
        replace h := h S51 hq.1
        replace f := f.tr (hq.2.mo (by decide) (by decide))
        exact fr_folded_J217 f h
set_option maxRecDepth 100000 in
theorem fr_folded {S : MS} {x1 : Int32} {x2 : Int32} {x3 : Int32} {Q : Int32 → MS → Prop} (h : w_folded S x1 x2 x3 Q) : w_folded S x1 x2 x3 (fun r u => Q r u ∧ frm [78, 79, 80, 81] [] S u) := by
  have f : frm [78, 79, 80, 81] [] S S := frm.rf
  unfold w_folded at h ⊢
  obtain ⟨Q9, h0, h⟩ := h
  refine ⟨_, fr_behind h0, ?_⟩
  · intro r2 S3 hq
    replace h := h r2 S3 hq.1
    replace f := f.tr (hq.2.mo (by decide) (by decide))
    refine ⟨fun c => ?_, fun c => ?_⟩
    · replace h := h.1 c
      exact ⟨h, f⟩
    · replace h := h.2 c
      refine ⟨fun c => ?_, fun c => ?_⟩
      · replace h := h.1 c
        exact ⟨h, f⟩
      · replace h := h.2 c
        refine ⟨h.1, ?_⟩
        replace h := h.2
        refine ⟨fun c => ?_, fun c => ?_⟩
        · replace h := h.1 c
          refine ⟨h.1, ?_⟩
          replace h := h.2
          refine ⟨h.1, ?_⟩
          replace h := h.2
          refine ⟨fun c => ?_, fun c => ?_⟩
          · replace h := h.1 c
            exact ⟨h, f⟩
          · replace h := h.2 c
            refine ⟨h.1, ?_⟩
            replace h := h.2
            intro a18 ea18
            replace h := h a18 ea18
            refine ⟨h.1, ?_⟩
            replace h := h.2
            refine ⟨h.1, ?_⟩
            replace h := h.2
            refine ⟨fun c => ?_, fun c => ?_⟩
            · replace h := h.1 c
              refine ⟨h.1, ?_⟩
              replace h := h.2
              refine ⟨h.1, ?_⟩
              replace h := h.2
              refine ⟨fun c => ?_, fun c => ?_⟩
              · replace h := h.1 c
                refine ⟨h.1, ?_⟩
                replace h := h.2
                intro a34 ea34
                replace h := h a34 ea34
                refine ⟨h.1, ?_⟩
                replace h := h.2
                intro a38 ea38
                replace h := h a38 ea38
                refine ⟨fun c => ?_, fun c => ?_⟩
                · replace h := h.1 c
                  exact fr_folded_J123 f h
                · replace h := h.2 c
                  refine ⟨fun c => ?_, fun c => ?_⟩
                  · replace h := h.1 c
                    exact fr_folded_J123 f h
                  · replace h := h.2 c
                    refine ⟨fun c => ?_, fun c => ?_⟩
                    · replace h := h.1 c
                      exact ⟨h, f⟩
                    · replace h := h.2 c
                      exact fr_folded_J123 f h
              · replace h := h.2 c
                exact ⟨h, f⟩
            · replace h := h.2 c
              exact ⟨h, f⟩
        · replace h := h.2 c
          exact ⟨h, f⟩
set_option maxRecDepth 100000 in
theorem fr_goBoth {S : MS} {x1 : Int32} {x2 : Int32} {Q : Int32 → MS → Prop} (h : w_goBoth S x1 x2 Q) : w_goBoth S x1 x2 (fun r u => Q r u ∧ frm [81] [] S u) := by
  have f : frm [81] [] S S := frm.rf
  unfold w_goBoth at h ⊢
  refine ⟨h.1, ?_⟩
  replace h := h.2
  intro S2 eS2
  replace h := h S2 eS2
  replace f := f.tr (show frm [81] [] S S2 by rw [eS2]; exact frm.pI (by decide))
  refine ⟨h.1, ?_⟩
  replace h := h.2
  intro S4 eS4
  replace h := h S4 eS4
  replace f := f.tr (show frm [81] [] S2 S4 by rw [eS4]; exact frm.pI (by decide))
  exact ⟨h, f⟩
set_option maxRecDepth 100000 in
theorem fr_isBack_J73 {S0 : MS} {Q : Int32 → MS → Prop} {U73 : MS} (f : frm [] [] S0 U73) (h : w_isBack_J73 Q U73) : w_isBack_J73 (fun r u => Q r u ∧ frm [] [] S0 u) U73 := by
  unfold w_isBack_J73 at h ⊢
  exact ⟨h, f⟩
set_option maxRecDepth 100000 in
theorem fr_isBack {S : MS} {x1 : Int32} {x2 : Int32} {Q : Int32 → MS → Prop} (h : w_isBack S x1 x2 Q) : w_isBack S x1 x2 (fun r u => Q r u ∧ frm [] [] S u) := by
  have f : frm [] [] S S := frm.rf
  unfold w_isBack at h ⊢
  refine ⟨h.1, ?_⟩
  replace h := h.2
  refine ⟨h.1, ?_⟩
  replace h := h.2
  refine ⟨fun c => ?_, fun c => ?_⟩
  · replace h := h.1 c
    exact fr_isBack_J73 f h
  · replace h := h.2 c
    refine ⟨h.1, ?_⟩
    replace h := h.2
    refine ⟨h.1, ?_⟩
    replace h := h.2
    refine ⟨fun c => ?_, fun c => ?_⟩
    · replace h := h.1 c
      refine ⟨h.1, ?_⟩
      replace h := h.2
      refine ⟨h.1, ?_⟩
      replace h := h.2
      refine ⟨fun c => ?_, fun c => ?_⟩
      · replace h := h.1 c
        obtain ⟨Q9, h0, h⟩ := h
        refine ⟨_, fr_liveBehind h0, ?_⟩
        · intro r19 S20 hq
          replace h := h r19 S20 hq.1
          replace f := f.tr (hq.2.mo (by decide) (by decide))
          refine ⟨h.1, ?_⟩
          replace h := h.2
          refine ⟨h.1, ?_⟩
          replace h := h.2
          refine ⟨h.1, ?_⟩
          replace h := h.2
          refine ⟨fun c => ?_, fun c => ?_⟩
          · replace h := h.1 c
            exact ⟨h, f⟩
          · replace h := h.2 c
            exact fr_isBack_J73 f h
      · replace h := h.2 c
        exact fr_isBack_J73 f h
    · replace h := h.2 c
      exact fr_isBack_J73 f h
set_option maxRecDepth 100000 in
theorem fr_lastOne_L7 {S0 : MS} {Q : Int32 → MS → Prop} : ∀ (n : Nat) {U7 : MS} {v7_1 : Int32}, frm [] [] S0 U7 → w_lastOne_L7 Q n U7 v7_1 → w_lastOne_L7 (fun r u => Q r u ∧ frm [] [] S0 u) n U7 v7_1 := by
  intro n
  induction n with
  | zero => intro U7 v7_1 f h; unfold w_lastOne_L7 at h; exact h.elim
  | succ n ih =>
    intro U7 v7_1 f h
    unfold w_lastOne_L7 at h ⊢
    refine ⟨h.1, ?_⟩
    replace h := h.2
    refine ⟨fun c => ?_, fun c => ?_⟩
    · replace h := h.1 c
      exact ⟨h, f⟩
    · replace h := h.2 c
      intro a6 ea6
      replace h := h a6 ea6
      exact ih f h
set_option maxRecDepth 100000 in
theorem fr_lastOne {S : MS} {Q : Int32 → MS → Prop} (h : w_lastOne S  Q) : w_lastOne S  (fun r u => Q r u ∧ frm [] [] S u) := by
  have f : frm [] [] S S := frm.rf
  unfold w_lastOne at h ⊢
  intro a2 ea2
  replace h := h a2 ea2
  obtain ⟨n9, h⟩ := h
  exact ⟨n9, fr_lastOne_L7 n9 f h⟩
set_option maxRecDepth 100000 in
theorem fr_leads_L12 {S0 : MS} {Q : Int32 → MS → Prop} : ∀ (n : Nat) {U12 : MS} {v12_2 : Int32}, frm [89] [139] S0 U12 → w_leads_L12 Q n U12 v12_2 → w_leads_L12 (fun r u => Q r u ∧ frm [89] [139] S0 u) n U12 v12_2 := by
  intro n
  induction n with
  | zero => intro U12 v12_2 f h; unfold w_leads_L12 at h; exact h.elim
  | succ n ih =>
    intro U12 v12_2 f h
    unfold w_leads_L12 at h ⊢
    refine ⟨h.1, ?_⟩
    replace h := h.2
    refine ⟨fun c => ?_, fun c => ?_⟩
    · replace h := h.1 c
      refine ⟨h.1, ?_⟩
      replace h := h.2
      refine ⟨fun c => ?_, fun c => ?_⟩
      · replace h := h.1 c
        exact ⟨h, f⟩
      · replace h := h.2 c
        refine ⟨h.1, ?_⟩
        replace h := h.2
        intro S10 eS10
        replace h := h S10 eS10
        replace f := f.tr (show frm [89] [139] U12 S10 by rw [eS10]; exact frm.pI (by decide))
        obtain ⟨Q9, h0, h⟩ := h
        refine ⟨_, fr_wayOf h0, ?_⟩
        · intro r12 S13 hq
          replace h := h r12 S13 hq.1
          replace f := f.tr (hq.2.mo (by decide) (by decide))
          exact ih f h
    · replace h := h.2 c
      exact ⟨h, f⟩
set_option maxRecDepth 100000 in
theorem fr_leads {S : MS} {x1 : Int32} {Q : Int32 → MS → Prop} (h : w_leads S x1 Q) : w_leads S x1 (fun r u => Q r u ∧ frm [89] [139] S u) := by
  have f : frm [89] [139] S S := frm.rf
  unfold w_leads at h ⊢
  intro S2 eS2
  replace h := h S2 eS2
  replace f := f.tr (show frm [89] [139] S S2 by rw [eS2]; exact frm.pI0 (by decide))
  obtain ⟨n9, h⟩ := h
  exact ⟨n9, fr_leads_L12 n9 f h⟩
set_option maxRecDepth 100000 in
theorem fr_setWay {S : MS} {x1 : Int32} {x2 : Int32} {x3 : Int32} {Q : MS → Prop} (h : w_setWay S x1 x2 x3 Q) : w_setWay S x1 x2 x3 (fun u => Q u ∧ frm [75, 79] [] S u) := by
  have f : frm [75, 79] [] S S := frm.rf
  unfold w_setWay at h ⊢
  refine ⟨h.1, ?_⟩
  replace h := h.2
  refine ⟨h.1, ?_⟩
  replace h := h.2
  refine ⟨fun c => ?_, fun c => ?_⟩
  · replace h := h.1 c
    refine ⟨h.1, ?_⟩
    replace h := h.2
    refine ⟨h.1, ?_⟩
    replace h := h.2
    intro S12 eS12
    replace h := h S12 eS12
    replace f := f.tr (show frm [75, 79] [] S S12 by rw [eS12]; exact frm.pI (by decide))
    exact ⟨h, f⟩
  · replace h := h.2 c
    refine ⟨h.1, ?_⟩
    replace h := h.2
    intro S14 eS14
    replace h := h S14 eS14
    replace f := f.tr (show frm [75, 79] [] S S14 by rw [eS14]; exact frm.pI (by decide))
    exact ⟨h, f⟩
set_option maxRecDepth 100000 in
theorem fr_threaded_J64 {S0 : MS} {Q : Int32 → MS → Prop} {k4 k4' : MS → Int32 → Int32 → Int32 → Prop} {U64 : MS} {v64_1 : Int32} {v64_2 : Int32} {v64_3 : Int32} (hk4 : ∀ (u : MS) (z0) (z1) (z2), frm [75, 77, 79, 89] [139] S0 u → k4 u z0 z1 z2 → k4' u z0 z1 z2) (f : frm [75, 77, 79, 89] [139] S0 U64) (h : w_threaded_J64 Q k4 U64 v64_1 v64_2 v64_3) : w_threaded_J64 (fun r u => Q r u ∧ frm [75, 77, 79, 89] [139] S0 u) k4' U64 v64_1 v64_2 v64_3 := by
  unfold w_threaded_J64 at h ⊢
  intro a13 ea13
  replace h := h a13 ea13
  exact hk4 _ _ _ _ f h
set_option maxRecDepth 100000 in
theorem fr_threaded_L4 {S0 : MS} {Q : Int32 → MS → Prop} : ∀ (n : Nat) {U4 : MS} {v4_1 : Int32} {v4_2 : Int32} {v4_3 : Int32}, frm [75, 77, 79, 89] [139] S0 U4 → w_threaded_L4 Q n U4 v4_1 v4_2 v4_3 → w_threaded_L4 (fun r u => Q r u ∧ frm [75, 77, 79, 89] [139] S0 u) n U4 v4_1 v4_2 v4_3 := by
  intro n
  induction n with
  | zero => intro U4 v4_1 v4_2 v4_3 f h; unfold w_threaded_L4 at h; exact h.elim
  | succ n ih =>
    intro U4 v4_1 v4_2 v4_3 f h
    unfold w_threaded_L4 at h ⊢
    refine ⟨h.1, ?_⟩
    replace h := h.2
    refine ⟨fun c => ?_, fun c => ?_⟩
    · replace h := h.1 c
      exact ⟨h, f⟩
    · replace h := h.2 c
      obtain ⟨Q9, h0, h⟩ := h
      refine ⟨_, fr_wayOf h0, ?_⟩
      · intro r6 S7 hq
        replace h := h r6 S7 hq.1
        replace f := f.tr (hq.2.mo (by decide) (by decide))
        obtain ⟨Q9, h0, h⟩ := h
        refine ⟨_, fr_leads h0, ?_⟩
        · intro r10 S11 hq
          replace h := h r10 S11 hq.1
          replace f := f.tr (hq.2.mo (by decide) (by decide))
          refine ⟨fun c => ?_, fun c => ?_⟩
          · replace h := h.1 c
            exact fr_threaded_J64 (fun _ _ _ _ f h => ih f h) f h
          · replace h := h.2 c
            refine ⟨fun c => ?_, fun c => ?_⟩
            · replace h := h.1 c
              exact fr_threaded_J64 (fun _ _ _ _ f h => ih f h) f h
            · replace h := h.2 c
              obtain ⟨Q9, h0, h⟩ := h
              refine ⟨_, fr_setWay h0, ?_⟩
              · intro S17 hq
                replace h := h S17 hq.1
                replace f := f.tr (hq.2.mo (by decide) (by decide))
                intro S21 eS21
                replace h := h S21 eS21
                replace f := f.tr (show frm [75, 77, 79, 89] [139] S17 S21 by rw [eS21]; exact frm.pI (by decide))
                exact fr_threaded_J64 (fun _ _ _ _ f h => ih f h) f h
set_option maxRecDepth 100000 in
theorem fr_threaded {S : MS} {x1 : Int32} {Q : Int32 → MS → Prop} (h : w_threaded S x1 Q) : w_threaded S x1 (fun r u => Q r u ∧ frm [75, 77, 79, 89] [139] S u) := by
  have f : frm [75, 77, 79, 89] [139] S S := frm.rf
  unfold w_threaded at h ⊢
  obtain ⟨n9, h⟩ := h
  exact ⟨n9, fr_threaded_L4 n9 f h⟩
set_option maxRecDepth 100000 in
theorem fr_turnedRow_J193 {S0 : MS} {Q : Int32 → MS → Prop} {U193 : MS} {v193_2 : Int32} (f : frm [78, 79, 80, 81] [] S0 U193) (h : w_turnedRow_J193 Q U193 v193_2) : w_turnedRow_J193 (fun r u => Q r u ∧ frm [78, 79, 80, 81] [] S0 u) U193 v193_2 := by
  unfold w_turnedRow_J193 at h ⊢
  refine ⟨h.1, ?_⟩
  replace h := h.2
  intro S7 eS7
  replace h := h S7 eS7
  replace f := f.tr (show frm [78, 79, 80, 81] [] U193 S7 by rw [eS7]; exact frm.pI (by decide))
  exact ⟨h, f⟩
set_option maxRecDepth 100000 in
theorem fr_turnedRow_J145 {S0 : MS} {Q : Int32 → MS → Prop} {U145 : MS} {v145_1 : Int32} {v145_2 : Int32} {v145_3 : Int32} (f : frm [78, 79, 80, 81] [] S0 U145) (h : w_turnedRow_J145 Q U145 v145_1 v145_2 v145_3) : w_turnedRow_J145 (fun r u => Q r u ∧ frm [78, 79, 80, 81] [] S0 u) U145 v145_1 v145_2 v145_3 := by
  unfold w_turnedRow_J145 at h ⊢
  refine ⟨h.1, ?_⟩
  replace h := h.2
  refine ⟨fun c => ?_, fun c => ?_⟩
  · replace h := h.1 c
    refine ⟨fun c => ?_, fun c => ?_⟩
    · replace h := h.1 c
      exact ⟨h, f⟩
    · replace h := h.2 c
      refine ⟨fun c => ?_, fun c => ?_⟩
      · replace h := h.1 c
        exact ⟨h, f⟩
      · replace h := h.2 c
        refine ⟨h.1, ?_⟩
        replace h := h.2
        refine ⟨h.1, ?_⟩
        replace h := h.2
        obtain ⟨Q9, h0, h⟩ := h
        refine ⟨_, fr_become h0, ?_⟩
        · intro S25 hq
          replace h := h S25 hq.1
          replace f := f.tr (hq.2.mo (by decide) (by decide))
          exact fr_turnedRow_J193 f h
  · replace h := h.2 c
    exact ⟨h, f⟩
set_option maxRecDepth 100000 in
theorem fr_turnedRow_J110 {S0 : MS} {Q : Int32 → MS → Prop} {U110 : MS} {v110_1 : Int32} {v110_2 : Int32} {v110_3 : Int32} (f : frm [78, 79, 80, 81] [] S0 U110) (h : w_turnedRow_J110 Q U110 v110_1 v110_2 v110_3) : w_turnedRow_J110 (fun r u => Q r u ∧ frm [78, 79, 80, 81] [] S0 u) U110 v110_1 v110_2 v110_3 := by
  unfold w_turnedRow_J110 at h ⊢
  refine ⟨h.1, ?_⟩
  replace h := h.2
  refine ⟨fun c => ?_, fun c => ?_⟩
  · replace h := h.1 c
    refine ⟨fun c => ?_, fun c => ?_⟩
    · replace h := h.1 c
      refine ⟨h.1, ?_⟩
      replace h := h.2
      obtain ⟨Q9, h0, h⟩ := h
      refine ⟨_, fr_become h0, ?_⟩
      · intro S33 hq
        replace h := h S33 hq.1
        replace f := f.tr (hq.2.mo (by decide) (by decide))
        exact fr_turnedRow_J193 f h
    · replace h := h.2 c
      exact fr_turnedRow_J145 f h
  · replace h := h.2 c
    exact fr_turnedRow_J145 f h
set_option maxRecDepth 100000 in
theorem fr_turnedRow_J75 {S0 : MS} {Q : Int32 → MS → Prop} {U75 : MS} {v75_1 : Int32} {v75_2 : Int32} {v75_3 : Int32} (f : frm [78, 79, 80, 81] [] S0 U75) (h : w_turnedRow_J75 Q U75 v75_1 v75_2 v75_3) : w_turnedRow_J75 (fun r u => Q r u ∧ frm [78, 79, 80, 81] [] S0 u) U75 v75_1 v75_2 v75_3 := by
  unfold w_turnedRow_J75 at h ⊢
  refine ⟨h.1, ?_⟩
  replace h := h.2
  refine ⟨fun c => ?_, fun c => ?_⟩
  · replace h := h.1 c
    refine ⟨fun c => ?_, fun c => ?_⟩
    · replace h := h.1 c
      refine ⟨h.1, ?_⟩
      replace h := h.2
      obtain ⟨Q9, h0, h⟩ := h
      refine ⟨_, fr_become h0, ?_⟩
      · intro S40 hq
        replace h := h S40 hq.1
        replace f := f.tr (hq.2.mo (by decide) (by decide))
        exact fr_turnedRow_J193 f h
    · replace h := h.2 c
      exact fr_turnedRow_J110 f h
  · replace h := h.2 c
    exact fr_turnedRow_J110 f h
set_option maxRecDepth 100000 in
theorem fr_turnedRow_J42 {S0 : MS} {Q : Int32 → MS → Prop} {U42 : MS} {v42_1 : Int32} {v42_2 : Int32} {v42_3 : Int32} (f : frm [78, 79, 80, 81] [] S0 U42) (h : w_turnedRow_J42 Q U42 v42_1 v42_2 v42_3) : w_turnedRow_J42 (fun r u => Q r u ∧ frm [78, 79, 80, 81] [] S0 u) U42 v42_1 v42_2 v42_3 := by
  unfold w_turnedRow_J42 at h ⊢
  refine ⟨h.1, ?_⟩
  replace h := h.2
  refine ⟨fun c => ?_, fun c => ?_⟩
  · replace h := h.1 c
    refine ⟨fun c => ?_, fun c => ?_⟩
    · replace h := h.1 c
      refine ⟨h.1, ?_⟩
      replace h := h.2
      obtain ⟨Q9, h0, h⟩ := h
      refine ⟨_, fr_become h0, ?_⟩
      · intro S49 hq
        replace h := h S49 hq.1
        replace f := f.tr (hq.2.mo (by decide) (by decide))
        exact fr_turnedRow_J193 f h
    · replace h := h.2 c
      exact fr_turnedRow_J75 f h
  · replace h := h.2 c
    exact fr_turnedRow_J75 f h
set_option maxRecDepth 100000 in
theorem fr_turnedRow {S : MS} {x1 : Int32} {x2 : Int32} {Q : Int32 → MS → Prop} (h : w_turnedRow S x1 x2 Q) : w_turnedRow S x1 x2 (fun r u => Q r u ∧ frm [78, 79, 80, 81] [] S u) := by
  have f : frm [78, 79, 80, 81] [] S S := frm.rf
  unfold w_turnedRow at h ⊢
  refine ⟨h.1, ?_⟩
  replace h := h.2
  intro a3 ea3
  replace h := h a3 ea3
  refine ⟨h.1, ?_⟩
  replace h := h.2
  refine ⟨fun c => ?_, fun c => ?_⟩
  · replace h := h.1 c
    refine ⟨fun c => ?_, fun c => ?_⟩
    · replace h := h.1 c
      refine ⟨h.1, ?_⟩
      replace h := h.2
      obtain ⟨Q9, h0, h⟩ := h
      refine ⟨_, fr_become h0, ?_⟩
      · intro S57 hq
        replace h := h S57 hq.1
        replace f := f.tr (hq.2.mo (by decide) (by decide))
        exact fr_turnedRow_J193 f h
    · replace h := h.2 c
      exact fr_turnedRow_J42 f h
  · replace h := h.2 c
    exact fr_turnedRow_J42 f h
set_option maxRecDepth 100000 in
theorem fr_apply_J365 {S0 : MS} {Q : Int32 → MS → Prop} {U365 : MS} {v365_1 : Int32} {v365_6 : Int32} (f : frm [75, 77, 78, 79, 80, 81, 89] [139] S0 U365) (h : w_apply_J365 Q U365 v365_1 v365_6) : w_apply_J365 (fun r u => Q r u ∧ frm [75, 77, 78, 79, 80, 81, 89] [139] S0 u) U365 v365_1 v365_6 := by
  unfold w_apply_J365 at h ⊢
  refine ⟨fun c => ?_, fun c => ?_⟩
  · replace h := h.1 c
    exact ⟨h, f⟩
  · replace h := h.2 c
    refine ⟨h.1, ?_⟩
    replace h := h.2
    refine ⟨h.1, ?_⟩
    replace h := h.2
    intro S16 eS16
    replace h := h S16 eS16
    replace f := f.tr (show frm [75, 77, 78, 79, 80, 81, 89] [139] U365 S16 by rw [eS16]; exact frm.pI (by decide))
    exact ⟨h, f⟩
set_option maxRecDepth 100000 in
theorem fr_apply_J128 {S0 : MS} {Q : Int32 → MS → Prop} {U128 : MS} {t128_0 : Int32} {v128_1 : Int32} {v128_2 : Int32} (f : frm [75, 77, 78, 79, 80, 81, 89] [139] S0 U128) (h : w_apply_J128 Q U128 t128_0 v128_1 v128_2) : w_apply_J128 (fun r u => Q r u ∧ frm [75, 77, 78, 79, 80, 81, 89] [139] S0 u) U128 t128_0 v128_1 v128_2 := by
  unfold w_apply_J128 at h ⊢
  refine ⟨fun c => ?_, fun c => ?_⟩
  · replace h := h.1 c
    exact fr_apply_J365 f h
  · replace h := h.2 c
    refine ⟨h.1, ?_⟩
    replace h := h.2
    intro S21 eS21
    replace h := h S21 eS21
    replace f := f.tr (show frm [75, 77, 78, 79, 80, 81, 89] [139] U128 S21 by rw [eS21]; exact frm.pI (by decide))
    exact fr_apply_J365 f h
set_option maxRecDepth 100000 in
theorem fr_apply_J127 {S0 : MS} {Q : Int32 → MS → Prop} {U127 : MS} {v127_1 : Int32} {v127_2 : Int32} (f : frm [75, 77, 78, 79, 80, 81, 89] [139] S0 U127) (h : w_apply_J127 Q U127 v127_1 v127_2) : w_apply_J127 (fun r u => Q r u ∧ frm [75, 77, 78, 79, 80, 81, 89] [139] S0 u) U127 v127_1 v127_2 := by
  unfold w_apply_J127 at h ⊢
  exact fr_apply_J128 f h
set_option maxRecDepth 100000 in
theorem fr_apply_J159 {S0 : MS} {Q : Int32 → MS → Prop} {U159 : MS} {t159_0 : Int32} {v159_1 : Int32} {v159_2 : Int32} (f : frm [75, 77, 78, 79, 80, 81, 89] [139] S0 U159) (h : w_apply_J159 Q U159 t159_0 v159_1 v159_2) : w_apply_J159 (fun r u => Q r u ∧ frm [75, 77, 78, 79, 80, 81, 89] [139] S0 u) U159 t159_0 v159_1 v159_2 := by
  unfold w_apply_J159 at h ⊢
  refine ⟨fun c => ?_, fun c => ?_⟩
  · replace h := h.1 c
    exact fr_apply_J365 f h
  · replace h := h.2 c
    refine ⟨h.1, ?_⟩
    replace h := h.2
    intro S32 eS32
    replace h := h S32 eS32
    replace f := f.tr (show frm [75, 77, 78, 79, 80, 81, 89] [139] U159 S32 by rw [eS32]; exact frm.pI (by decide))
    exact fr_apply_J365 f h
set_option maxRecDepth 100000 in
theorem fr_apply_J197 {S0 : MS} {Q : Int32 → MS → Prop} {U197 : MS} {t197_0 : Int32} {v197_1 : Int32} (f : frm [75, 77, 78, 79, 80, 81, 89] [139] S0 U197) (h : w_apply_J197 Q U197 t197_0 v197_1) : w_apply_J197 (fun r u => Q r u ∧ frm [75, 77, 78, 79, 80, 81, 89] [139] S0 u) U197 t197_0 v197_1 := by
  unfold w_apply_J197 at h ⊢
  exact fr_apply_J365 f h
set_option maxRecDepth 100000 in
theorem fr_apply_J196 {S0 : MS} {Q : Int32 → MS → Prop} {U196 : MS} {v196_1 : Int32} (f : frm [75, 77, 78, 79, 80, 81, 89] [139] S0 U196) (h : w_apply_J196 Q U196 v196_1) : w_apply_J196 (fun r u => Q r u ∧ frm [75, 77, 78, 79, 80, 81, 89] [139] S0 u) U196 v196_1 := by
  unfold w_apply_J196 at h ⊢
  exact fr_apply_J197 f h
set_option maxRecDepth 100000 in
theorem fr_apply_J222 {S0 : MS} {Q : Int32 → MS → Prop} {U222 : MS} {t222_0 : Int32} {v222_1 : Int32} (f : frm [75, 77, 78, 79, 80, 81, 89] [139] S0 U222) (h : w_apply_J222 Q U222 t222_0 v222_1) : w_apply_J222 (fun r u => Q r u ∧ frm [75, 77, 78, 79, 80, 81, 89] [139] S0 u) U222 t222_0 v222_1 := by
  unfold w_apply_J222 at h ⊢
  exact fr_apply_J365 f h
set_option maxRecDepth 100000 in
theorem fr_apply_J221 {S0 : MS} {Q : Int32 → MS → Prop} {U221 : MS} {v221_1 : Int32} (f : frm [75, 77, 78, 79, 80, 81, 89] [139] S0 U221) (h : w_apply_J221 Q U221 v221_1) : w_apply_J221 (fun r u => Q r u ∧ frm [75, 77, 78, 79, 80, 81, 89] [139] S0 u) U221 v221_1 := by
  unfold w_apply_J221 at h ⊢
  exact fr_apply_J222 f h
set_option maxRecDepth 100000 in
theorem fr_apply_J248 {S0 : MS} {Q : Int32 → MS → Prop} {U248 : MS} {t248_0 : Int32} {v248_1 : Int32} (f : frm [75, 77, 78, 79, 80, 81, 89] [139] S0 U248) (h : w_apply_J248 Q U248 t248_0 v248_1) : w_apply_J248 (fun r u => Q r u ∧ frm [75, 77, 78, 79, 80, 81, 89] [139] S0 u) U248 t248_0 v248_1 := by
  unfold w_apply_J248 at h ⊢
  exact fr_apply_J365 f h
set_option maxRecDepth 100000 in
theorem fr_apply_J247 {S0 : MS} {Q : Int32 → MS → Prop} {U247 : MS} {v247_1 : Int32} (f : frm [75, 77, 78, 79, 80, 81, 89] [139] S0 U247) (h : w_apply_J247 Q U247 v247_1) : w_apply_J247 (fun r u => Q r u ∧ frm [75, 77, 78, 79, 80, 81, 89] [139] S0 u) U247 v247_1 := by
  unfold w_apply_J247 at h ⊢
  exact fr_apply_J248 f h
set_option maxRecDepth 100000 in
theorem fr_apply_J283 {S0 : MS} {Q : Int32 → MS → Prop} {U283 : MS} {t283_0 : Int32} {v283_1 : Int32} (f : frm [75, 77, 78, 79, 80, 81, 89] [139] S0 U283) (h : w_apply_J283 Q U283 t283_0 v283_1) : w_apply_J283 (fun r u => Q r u ∧ frm [75, 77, 78, 79, 80, 81, 89] [139] S0 u) U283 t283_0 v283_1 := by
  unfold w_apply_J283 at h ⊢
  exact fr_apply_J365 f h
set_option maxRecDepth 100000 in
theorem fr_apply_J282 {S0 : MS} {Q : Int32 → MS → Prop} {U282 : MS} {v282_1 : Int32} (f : frm [75, 77, 78, 79, 80, 81, 89] [139] S0 U282) (h : w_apply_J282 Q U282 v282_1) : w_apply_J282 (fun r u => Q r u ∧ frm [75, 77, 78, 79, 80, 81, 89] [139] S0 u) U282 v282_1 := by
  unfold w_apply_J282 at h ⊢
  exact fr_apply_J283 f h
set_option maxRecDepth 100000 in
theorem fr_apply_J318 {S0 : MS} {Q : Int32 → MS → Prop} {U318 : MS} {t318_0 : Int32} {v318_1 : Int32} (f : frm [75, 77, 78, 79, 80, 81, 89] [139] S0 U318) (h : w_apply_J318 Q U318 t318_0 v318_1) : w_apply_J318 (fun r u => Q r u ∧ frm [75, 77, 78, 79, 80, 81, 89] [139] S0 u) U318 t318_0 v318_1 := by
  unfold w_apply_J318 at h ⊢
  exact fr_apply_J365 f h
set_option maxRecDepth 100000 in
theorem fr_apply_J317 {S0 : MS} {Q : Int32 → MS → Prop} {U317 : MS} {v317_1 : Int32} (f : frm [75, 77, 78, 79, 80, 81, 89] [139] S0 U317) (h : w_apply_J317 Q U317 v317_1) : w_apply_J317 (fun r u => Q r u ∧ frm [75, 77, 78, 79, 80, 81, 89] [139] S0 u) U317 v317_1 := by
  unfold w_apply_J317 at h ⊢
  exact fr_apply_J318 f h
set_option maxRecDepth 100000 in
theorem fr_apply_J353 {S0 : MS} {Q : Int32 → MS → Prop} {U353 : MS} {t353_0 : Int32} {v353_1 : Int32} (f : frm [75, 77, 78, 79, 80, 81, 89] [139] S0 U353) (h : w_apply_J353 Q U353 t353_0 v353_1) : w_apply_J353 (fun r u => Q r u ∧ frm [75, 77, 78, 79, 80, 81, 89] [139] S0 u) U353 t353_0 v353_1 := by
  unfold w_apply_J353 at h ⊢
  exact fr_apply_J365 f h
set_option maxRecDepth 100000 in
theorem fr_apply_J352 {S0 : MS} {Q : Int32 → MS → Prop} {U352 : MS} {v352_1 : Int32} (f : frm [75, 77, 78, 79, 80, 81, 89] [139] S0 U352) (h : w_apply_J352 Q U352 v352_1) : w_apply_J352 (fun r u => Q r u ∧ frm [75, 77, 78, 79, 80, 81, 89] [139] S0 u) U352 v352_1 := by
  unfold w_apply_J352 at h ⊢
  exact fr_apply_J353 f h
set_option maxRecDepth 100000 in
theorem fr_apply_J51 {S0 : MS} {Q : Int32 → MS → Prop} {U51 : MS} {t51_0 : Int32} {v51_1 : Int32} {v51_2 : Int32} {v51_3 : Int32} {v51_4 : Int32} (f : frm [75, 77, 78, 79, 80, 81, 89] [139] S0 U51) (h : w_apply_J51 Q U51 t51_0 v51_1 v51_2 v51_3 v51_4) : w_apply_J51 (fun r u => Q r u ∧ frm [75, 77, 78, 79, 80, 81, 89] [139] S0 u) U51 t51_0 v51_1 v51_2 v51_3 v51_4 := by
  unfold w_apply_J51 at h ⊢
  refine ⟨fun c => ?_, fun c => ?_⟩
  · replace h := h.1 c
    refine ⟨h.1, ?_⟩
    replace h := h.2
    refine ⟨fun c => ?_, fun c => ?_⟩
    · replace h := h.1 c
      obtain ⟨Q9, h0, h⟩ := h
      refine ⟨_, fr_wayOf h0, ?_⟩
      · intro r24 S25 hq
        replace h := h r24 S25 hq.1
        replace f := f.tr (hq.2.mo (by decide) (by decide))
        refine ⟨fun c => ?_, fun c => ?_⟩
        · replace h := h.1 c
          exact fr_apply_J128 f h
        · replace h := h.2 c
          exact fr_apply_J127 f h
    · replace h := h.2 c
      exact fr_apply_J127 f h
  · replace h := h.2 c
    refine ⟨fun c => ?_, fun c => ?_⟩
    · replace h := h.1 c
      refine ⟨h.1, ?_⟩
      replace h := h.2
      refine ⟨fun c => ?_, fun c => ?_⟩
      · replace h := h.1 c
        exact fr_apply_J159 f h
      · replace h := h.2 c
        exact fr_apply_J159 f h
    · replace h := h.2 c
      refine ⟨fun c => ?_, fun c => ?_⟩
      · replace h := h.1 c
        refine ⟨fun c => ?_, fun c => ?_⟩
        · replace h := h.1 c
          exact fr_apply_J196 f h
        · replace h := h.2 c
          obtain ⟨Q9, h0, h⟩ := h
          refine ⟨_, fr_folded h0, ?_⟩
          · intro r36 S37 hq
            replace h := h r36 S37 hq.1
            replace f := f.tr (hq.2.mo (by decide) (by decide))
            refine ⟨fun c => ?_, fun c => ?_⟩
            · replace h := h.1 c
              exact fr_apply_J196 f h
            · replace h := h.2 c
              exact fr_apply_J197 f h
      · replace h := h.2 c
        refine ⟨fun c => ?_, fun c => ?_⟩
        · replace h := h.1 c
          refine ⟨fun c => ?_, fun c => ?_⟩
          · replace h := h.1 c
            exact fr_apply_J221 f h
          · replace h := h.2 c
            obtain ⟨Q9, h0, h⟩ := h
            refine ⟨_, fr_turnedRow h0, ?_⟩
            · intro r42 S43 hq
              replace h := h r42 S43 hq.1
              replace f := f.tr (hq.2.mo (by decide) (by decide))
              refine ⟨fun c => ?_, fun c => ?_⟩
              · replace h := h.1 c
                exact fr_apply_J221 f h
              · replace h := h.2 c
                exact fr_apply_J222 f h
        · replace h := h.2 c
          refine ⟨fun c => ?_, fun c => ?_⟩
          · replace h := h.1 c
            refine ⟨fun c => ?_, fun c => ?_⟩
            · replace h := h.1 c
              exact fr_apply_J247 f h
            · replace h := h.2 c
              obtain ⟨Q9, h0, h⟩ := h
              refine ⟨_, fr_decided h0, ?_⟩
              · intro r48 S49 hq
                replace h := h r48 S49 hq.1
                replace f := f.tr (hq.2.mo (by decide) (by decide))
                refine ⟨fun c => ?_, fun c => ?_⟩
                · replace h := h.1 c
                  exact fr_apply_J247 f h
                · replace h := h.2 c
                  exact fr_apply_J248 f h
          · replace h := h.2 c
            refine ⟨fun c => ?_, fun c => ?_⟩
            · replace h := h.1 c
              refine ⟨fun c => ?_, fun c => ?_⟩
              · replace h := h.1 c
                exact fr_apply_J282 f h
              · replace h := h.2 c
                refine ⟨h.1, ?_⟩
                replace h := h.2
                refine ⟨fun c => ?_, fun c => ?_⟩
                · replace h := h.1 c
                  exact fr_apply_J282 f h
                · replace h := h.2 c
                  obtain ⟨Q9, h0, h⟩ := h
                  refine ⟨_, fr_goBoth h0, ?_⟩
                  · intro r58 S59 hq
                    replace h := h r58 S59 hq.1
                    replace f := f.tr (hq.2.mo (by decide) (by decide))
                    refine ⟨fun c => ?_, fun c => ?_⟩
                    · replace h := h.1 c
                      exact fr_apply_J282 f h
                    · replace h := h.2 c
                      exact fr_apply_J283 f h
            · replace h := h.2 c
              refine ⟨fun c => ?_, fun c => ?_⟩
              · replace h := h.1 c
                refine ⟨fun c => ?_, fun c => ?_⟩
                · replace h := h.1 c
                  exact fr_apply_J317 f h
                · replace h := h.2 c
                  refine ⟨h.1, ?_⟩
                  replace h := h.2
                  refine ⟨fun c => ?_, fun c => ?_⟩
                  · replace h := h.1 c
                    exact fr_apply_J317 f h
                  · replace h := h.2 c
                    obtain ⟨Q9, h0, h⟩ := h
                    refine ⟨_, fr_goBoth h0, ?_⟩
                    · intro r68 S69 hq
                      replace h := h r68 S69 hq.1
                      replace f := f.tr (hq.2.mo (by decide) (by decide))
                      refine ⟨fun c => ?_, fun c => ?_⟩
                      · replace h := h.1 c
                        exact fr_apply_J317 f h
                      · replace h := h.2 c
                        exact fr_apply_J318 f h
              · replace h := h.2 c
                refine ⟨fun c => ?_, fun c => ?_⟩
                · replace h := h.1 c
                  refine ⟨fun c => ?_, fun c => ?_⟩
                  · replace h := h.1 c
                    exact fr_apply_J352 f h
                  · replace h := h.2 c
                    obtain ⟨Q9, h0, h⟩ := h
                    refine ⟨_, fr_isBack h0, ?_⟩
                    · intro r74 S75 hq
                      replace h := h r74 S75 hq.1
                      replace f := f.tr (hq.2.mo (by decide) (by decide))
                      refine ⟨fun c => ?_, fun c => ?_⟩
                      · replace h := h.1 c
                        exact fr_apply_J352 f h
                      · replace h := h.2 c
                        obtain ⟨Q9, h0, h⟩ := h
                        refine ⟨_, fr_goBoth h0, ?_⟩
                        · intro r79 S80 hq
                          replace h := h r79 S80 hq.1
                          replace f := f.tr (hq.2.mo (by decide) (by decide))
                          refine ⟨fun c => ?_, fun c => ?_⟩
                          · replace h := h.1 c
                            exact fr_apply_J352 f h
                          · replace h := h.2 c
                            exact fr_apply_J353 f h
                · replace h := h.2 c
                  obtain ⟨Q9, h0, h⟩ := h
                  refine ⟨_, fr_dead h0, ?_⟩
                  · intro r84 S85 hq
                    replace h := h r84 S85 hq.1
                    replace f := f.tr (hq.2.mo (by decide) (by decide))
                    exact fr_apply_J365 f h
set_option maxRecDepth 100000 in
theorem fr_apply_J50 {S0 : MS} {Q : Int32 → MS → Prop} {U50 : MS} {v50_1 : Int32} {v50_2 : Int32} {v50_3 : Int32} {v50_4 : Int32} (f : frm [75, 77, 78, 79, 80, 81, 89] [139] S0 U50) (h : w_apply_J50 Q U50 v50_1 v50_2 v50_3 v50_4) : w_apply_J50 (fun r u => Q r u ∧ frm [75, 77, 78, 79, 80, 81, 89] [139] S0 u) U50 v50_1 v50_2 v50_3 v50_4 := by
  unfold w_apply_J50 at h ⊢
  exact fr_apply_J51 f h
set_option maxRecDepth 100000 in
theorem fr_apply {S : MS} {x1 : Int32} {x2 : Int32} {Q : Int32 → MS → Prop} (h : w_apply S x1 x2 Q) : w_apply S x1 x2 (fun r u => Q r u ∧ frm [75, 77, 78, 79, 80, 81, 89] [139] S u) := by
  have f : frm [75, 77, 78, 79, 80, 81, 89] [139] S S := frm.rf
  unfold w_apply at h ⊢
  refine ⟨fun c => ?_, fun c => ?_⟩
  · replace h := h.1 c
    obtain ⟨Q9, h0, h⟩ := h
    refine ⟨_, fr_threaded h0, ?_⟩
    · intro r92 S93 hq
      replace h := h r92 S93 hq.1
      replace f := f.tr (hq.2.mo (by decide) (by decide))
      exact ⟨h, f⟩
  · replace h := h.2 c
    obtain ⟨Q9, h0, h⟩ := h
    refine ⟨_, fr_lastOne h0, ?_⟩
    · intro r3 S4 hq
      replace h := h r3 S4 hq.1
      replace f := f.tr (hq.2.mo (by decide) (by decide))
      refine ⟨fun c => ?_, fun c => ?_⟩
      · replace h := h.1 c
        exact ⟨h, f⟩
      · replace h := h.2 c
        obtain ⟨Q9, h0, h⟩ := h
        refine ⟨_, fr_behind h0, ?_⟩
        · intro r8 S9 hq
          replace h := h r8 S9 hq.1
          replace f := f.tr (hq.2.mo (by decide) (by decide))
          refine ⟨fun c => ?_, fun c => ?_⟩
          · replace h := h.1 c
            exact fr_apply_J50 f h
          · replace h := h.2 c
            refine ⟨h.1, ?_⟩
            replace h := h.2
            refine ⟨fun c => ?_, fun c => ?_⟩
            · replace h := h.1 c
              exact fr_apply_J51 f h
            · replace h := h.2 c
              exact fr_apply_J50 f h
set_option maxRecDepth 100000 in
theorem fr_broken {S : MS} {x1 : Int32} {x2 : Int32} {Q : Nat → MS → Prop} (h : w_broken S x1 x2 Q) : w_broken S x1 x2 (fun r u => Q r u ∧ frm [] [7, 8] S u) := by
  have f : frm [] [7, 8] S S := frm.rf
  unfold w_broken at h ⊢
  intro S1 eS1
  replace h := h S1 eS1
  replace f := f.tr (show frm [] [7, 8] S S1 by rw [eS1]; exact frm.pI0 (by decide))
  intro S2 eS2
  replace h := h S2 eS2
  replace f := f.tr (show frm [] [7, 8] S1 S2 by rw [eS2]; exact frm.pI0 (by decide))
  exact ⟨h, f⟩
set_option maxRecDepth 100000 in
theorem fr_over {S : MS} {y1 : Int64} {Q : Int32 → MS → Prop} {E : MS → Prop} (h : w_over S y1 Q E) : w_over S y1 (fun r u => Q r u ∧ frm [] [7, 8, 13] S u) (fun u => E u ∧ frm [] [7, 8, 13] S u) := by
  have f : frm [] [7, 8, 13] S S := frm.rf
  unfold w_over at h ⊢
  refine ⟨fun c => ?_, fun c => ?_⟩
  · replace h := h.1 c
    intro a4 ea4
    replace h := h a4 ea4
    intro S6 eS6
    replace h := h S6 eS6
    replace f := f.tr (show frm [] [7, 8, 13] S S6 by rw [eS6]; exact frm.pI0 (by decide))
    exact ⟨h, f⟩
  · replace h := h.2 c
    obtain ⟨Q9, h0, h⟩ := h
    refine ⟨_, fr_broken h0, ?_⟩
    · intro b11 S9 hq
      replace h := h b11 S9 hq.1
      replace f := f.tr (hq.2.mo (by decide) (by decide))
      exact ⟨h, f⟩
set_option maxRecDepth 100000 in
theorem fr_attributesOf_L14 {S0 : MS} {Q : MS → Prop} {E : MS → Prop} : ∀ (n : Nat) {U14 : MS} {v14_1 : Int32} {v14_2 : Int32} {v14_3 : Int32}, frm [10, 11] [7, 8, 13, 25] S0 U14 → w_attributesOf_L14 Q E n U14 v14_1 v14_2 v14_3 → w_attributesOf_L14 (fun u => Q u ∧ frm [10, 11] [7, 8, 13, 25] S0 u) (fun u => E u ∧ frm [10, 11] [7, 8, 13, 25] S0 u) n U14 v14_1 v14_2 v14_3 := by
  intro n
  induction n with
  | zero => intro U14 v14_1 v14_2 v14_3 f h; unfold w_attributesOf_L14 at h; exact h.elim
  | succ n ih =>
    intro U14 v14_1 v14_2 v14_3 f h
    unfold w_attributesOf_L14 at h ⊢
    refine ⟨fun c => ?_, fun c => ?_⟩
    · replace h := h.1 c
      exact ⟨h, f⟩
    · replace h := h.2 c
      obtain ⟨Q9, E9, h0, h⟩ := h
      refine ⟨_, _, fr_over h0, ?_, ?_⟩
      · intro r11 S12 hq
        replace h := h.1 r11 S12 hq.1
        replace f := f.tr (hq.2.mo (by decide) (by decide))
        obtain ⟨Q9, E9, h0, h⟩ := h
        refine ⟨_, _, fr_over h0, ?_, ?_⟩
        · intro r15 S16 hq
          replace h := h.1 r15 S16 hq.1
          replace f := f.tr (hq.2.mo (by decide) (by decide))
          refine ⟨h.1, ?_⟩
          replace h := h.2
          obtain ⟨Q9, E9, h0, h⟩ := h
          refine ⟨_, _, fr_over h0, ?_, ?_⟩
          · intro r23 S24 hq
            replace h := h.1 r23 S24 hq.1
            replace f := f.tr (hq.2.mo (by decide) (by decide))
            refine ⟨h.1, ?_⟩
            replace h := h.2
            intro S27 eS27
            replace h := h S27 eS27
            replace f := f.tr (show frm [10, 11] [7, 8, 13, 25] S24 S27 by rw [eS27]; exact frm.pI (by decide))
            refine ⟨h.1, ?_⟩
            replace h := h.2
            intro S29 eS29
            replace h := h S29 eS29
            replace f := f.tr (show frm [10, 11] [7, 8, 13, 25] S27 S29 by rw [eS29]; exact frm.pI (by decide))
            intro S31 eS31
            replace h := h S31 eS31
            replace f := f.tr (show frm [10, 11] [7, 8, 13, 25] S29 S31 by rw [eS31]; exact frm.pI0 (by decide))
            intro a32 ea32
            replace h := h a32 ea32
            exact ih f h
          · intro u9 hq
            exact ⟨h.2 u9 hq.1, f.tr (hq.2.mo (by decide) (by decide))⟩
        · intro u9 hq
          exact ⟨h.2 u9 hq.1, f.tr (hq.2.mo (by decide) (by decide))⟩
      · intro u9 hq
        exact ⟨h.2 u9 hq.1, f.tr (hq.2.mo (by decide) (by decide))⟩
set_option maxRecDepth 100000 in
theorem fr_attributesOf {S : MS} {x1 : Int32} {Q : MS → Prop} {E : MS → Prop} (h : w_attributesOf S x1 Q E) : w_attributesOf S x1 (fun u => Q u ∧ frm [10, 11] [7, 8, 13, 25] S u) (fun u => E u ∧ frm [10, 11] [7, 8, 13, 25] S u) := by
  have f : frm [10, 11] [7, 8, 13, 25] S S := frm.rf
  unfold w_attributesOf at h ⊢
  obtain ⟨Q9, E9, h0, h⟩ := h
  refine ⟨_, _, fr_over h0, ?_, ?_⟩
  · intro r2 S3 hq
    replace h := h.1 r2 S3 hq.1
    replace f := f.tr (hq.2.mo (by decide) (by decide))
    refine ⟨h.1, ?_⟩
    replace h := h.2
    intro a8 ea8
    replace h := h a8 ea8
    obtain ⟨n9, h⟩ := h
    exact ⟨n9, fr_attributesOf_L14 n9 f h⟩
  · intro u9 hq
    exact ⟨h.2 u9 hq.1, f.tr (hq.2.mo (by decide) (by decide))⟩
set_option maxRecDepth 100000 in
theorem fr_narrowed_J89 {S0 : MS} {Q : Int32 → MS → Prop} {k5 k5' : MS → Int32 → Int32 → Int32 → Int32 → Prop} {U89 : MS} {t89_0 : Int32} {v89_1 : Int32} {v89_2 : Int32} {v89_4 : Int32} {v89_6 : Int32} (hk5 : ∀ (u : MS) (z0) (z1) (z2) (z3), frm [54] [] S0 u → k5 u z0 z1 z2 z3 → k5' u z0 z1 z2 z3) (f : frm [54] [] S0 U89) (h : w_narrowed_J89 Q k5 U89 t89_0 v89_1 v89_2 v89_4 v89_6) : w_narrowed_J89 (fun r u => Q r u ∧ frm [54] [] S0 u) k5' U89 t89_0 v89_1 v89_2 v89_4 v89_6 := by
  unfold w_narrowed_J89 at h ⊢
  refine ⟨h.1, ?_⟩
  replace h := h.2
  intro S17 eS17
  replace h := h S17 eS17
  replace f := f.tr (show frm [54] [] U89 S17 by rw [eS17]; exact frm.pI (by decide))
  intro a18 ea18
  replace h := h a18 ea18
  exact hk5 _ _ _ _ _ f h
set_option maxRecDepth 100000 in
theorem fr_narrowed_J84 {S0 : MS} {Q : Int32 → MS → Prop} {k5 k5' : MS → Int32 → Int32 → Int32 → Int32 → Prop} {U84 : MS} {v84_1 : Int32} {v84_2 : Int32} {v84_4 : Int32} {v84_6 : Int32} (hk5 : ∀ (u : MS) (z0) (z1) (z2) (z3), frm [54] [] S0 u → k5 u z0 z1 z2 z3 → k5' u z0 z1 z2 z3) (f : frm [54] [] S0 U84) (h : w_narrowed_J84 Q k5 U84 v84_1 v84_2 v84_4 v84_6) : w_narrowed_J84 (fun r u => Q r u ∧ frm [54] [] S0 u) k5' U84 v84_1 v84_2 v84_4 v84_6 := by
  unfold w_narrowed_J84 at h ⊢
  exact fr_narrowed_J89 hk5 f h
set_option maxRecDepth 100000 in
theorem fr_narrowed_J31 {S0 : MS} {Q : Int32 → MS → Prop} {k5 k5' : MS → Int32 → Int32 → Int32 → Int32 → Prop} {U31 : MS} {t31_0 : Int32} {v31_1 : Int32} {v31_2 : Int32} {v31_3 : Int32} {v31_4 : Int32} (hk5 : ∀ (u : MS) (z0) (z1) (z2) (z3), frm [54] [] S0 u → k5 u z0 z1 z2 z3 → k5' u z0 z1 z2 z3) (f : frm [54] [] S0 U31) (h : w_narrowed_J31 Q k5 U31 t31_0 v31_1 v31_2 v31_3 v31_4) : w_narrowed_J31 (fun r u => Q r u ∧ frm [54] [] S0 u) k5' U31 t31_0 v31_1 v31_2 v31_3 v31_4 := by
  unfold w_narrowed_J31 at h ⊢
  refine ⟨h.1, ?_⟩
  replace h := h.2
  refine ⟨h.1, ?_⟩
  replace h := h.2
  intro a13 ea13
  replace h := h a13 ea13
  refine ⟨fun c => ?_, fun c => ?_⟩
  · replace h := h.1 c
    refine ⟨h.1, ?_⟩
    replace h := h.2
    refine ⟨fun c => ?_, fun c => ?_⟩
    · replace h := h.1 c
      exact fr_narrowed_J89 hk5 f h
    · replace h := h.2 c
      exact fr_narrowed_J84 hk5 f h
  · replace h := h.2 c
    exact fr_narrowed_J84 hk5 f h
set_option maxRecDepth 100000 in
theorem fr_narrowed_L5 {S0 : MS} {Q : Int32 → MS → Prop} : ∀ (n : Nat) {U5 : MS} {v5_1 : Int32} {v5_2 : Int32} {v5_3 : Int32} {v5_4 : Int32}, frm [54] [] S0 U5 → w_narrowed_L5 Q n U5 v5_1 v5_2 v5_3 v5_4 → w_narrowed_L5 (fun r u => Q r u ∧ frm [54] [] S0 u) n U5 v5_1 v5_2 v5_3 v5_4 := by
  intro n
  induction n with
  | zero => intro U5 v5_1 v5_2 v5_3 v5_4 f h; unfold w_narrowed_L5 at h; exact h.elim
  | succ n ih =>
    intro U5 v5_1 v5_2 v5_3 v5_4 f h
    unfold w_narrowed_L5 at h ⊢
    refine ⟨fun c => ?_, fun c => ?_⟩
    · replace h := h.1 c
      exact ⟨h, f⟩
    · replace h := h.2 c
      refine ⟨fun c => ?_, fun c => ?_⟩
      · replace h := h.1 c
        exact fr_narrowed_J31 (fun _ _ _ _ _ f h => ih f h) f h
      · replace h := h.2 c
        exact fr_narrowed_J31 (fun _ _ _ _ _ f h => ih f h) f h
set_option maxRecDepth 100000 in
theorem fr_narrowed {S : MS} {x1 : Int32} {x2 : Int32} {Q : Int32 → MS → Prop} (h : w_narrowed S x1 x2 Q) : w_narrowed S x1 x2 (fun r u => Q r u ∧ frm [54] [] S u) := by
  have f : frm [54] [] S S := frm.rf
  unfold w_narrowed at h ⊢
  obtain ⟨n9, h⟩ := h
  exact ⟨n9, fr_narrowed_L5 n9 f h⟩
set_option maxRecDepth 100000 in
theorem fr_nearestOf_J61 {S0 : MS} {Q : Int32 → MS → Prop} {k7 k7' : MS → Int32 → Int32 → Int32 → Int32 → Prop} {U61 : MS} {v61_1 : Int32} {v61_2 : Int32} {v61_3 : Int32} {v61_4 : Int32} (hk7 : ∀ (u : MS) (z0) (z1) (z2) (z3), frm [] [] S0 u → k7 u z0 z1 z2 z3 → k7' u z0 z1 z2 z3) (f : frm [] [] S0 U61) (h : w_nearestOf_J61 Q k7 U61 v61_1 v61_2 v61_3 v61_4) : w_nearestOf_J61 (fun r u => Q r u ∧ frm [] [] S0 u) k7' U61 v61_1 v61_2 v61_3 v61_4 := by
  unfold w_nearestOf_J61 at h ⊢
  intro a2 ea2
  replace h := h a2 ea2
  exact hk7 _ _ _ _ _ f h
set_option maxRecDepth 100000 in
theorem fr_nearestOf_J49 {S0 : MS} {Q : Int32 → MS → Prop} {k7 k7' : MS → Int32 → Int32 → Int32 → Int32 → Prop} {U49 : MS} {v49_1 : Int32} {v49_2 : Int32} {v49_3 : Int32} {v49_4 : Int32} (hk7 : ∀ (u : MS) (z0) (z1) (z2) (z3), frm [] [] S0 u → k7 u z0 z1 z2 z3 → k7' u z0 z1 z2 z3) (f : frm [] [] S0 U49) (h : w_nearestOf_J49 Q k7 U49 v49_1 v49_2 v49_3 v49_4) : w_nearestOf_J49 (fun r u => Q r u ∧ frm [] [] S0 u) k7' U49 v49_1 v49_2 v49_3 v49_4 := by
  unfold w_nearestOf_J49 at h ⊢
  refine ⟨h.1, ?_⟩
  replace h := h.2
  intro a13 ea13
  replace h := h a13 ea13
  exact fr_nearestOf_J61 hk7 f h
set_option maxRecDepth 100000 in
theorem fr_nearestOf_L7 {S0 : MS} {Q : Int32 → MS → Prop} : ∀ (n : Nat) {U7 : MS} {v7_1 : Int32} {v7_2 : Int32} {v7_3 : Int32} {v7_4 : Int32}, frm [] [] S0 U7 → w_nearestOf_L7 Q n U7 v7_1 v7_2 v7_3 v7_4 → w_nearestOf_L7 (fun r u => Q r u ∧ frm [] [] S0 u) n U7 v7_1 v7_2 v7_3 v7_4 := by
  intro n
  induction n with
  | zero => intro U7 v7_1 v7_2 v7_3 v7_4 f h; unfold w_nearestOf_L7 at h; exact h.elim
  | succ n ih =>
    intro U7 v7_1 v7_2 v7_3 v7_4 f h
    unfold w_nearestOf_L7 at h ⊢
    refine ⟨fun c => ?_, fun c => ?_⟩
    · replace h := h.1 c
      exact ⟨h, f⟩
    · replace h := h.2 c
      refine ⟨fun c => ?_, fun c => ?_⟩
      · replace h := h.1 c
        exact fr_nearestOf_J61 (fun _ _ _ _ _ f h => ih f h) f h
      · replace h := h.2 c
        refine ⟨h.1, ?_⟩
        replace h := h.2
        refine ⟨fun c => ?_, fun c => ?_⟩
        · replace h := h.1 c
          exact fr_nearestOf_J61 (fun _ _ _ _ _ f h => ih f h) f h
        · replace h := h.2 c
          refine ⟨h.1, ?_⟩
          replace h := h.2
          refine ⟨fun c => ?_, fun c => ?_⟩
          · replace h := h.1 c
            exact fr_nearestOf_J49 (fun _ _ _ _ _ f h => ih f h) f h
          · replace h := h.2 c
            exact fr_nearestOf_J49 (fun _ _ _ _ _ f h => ih f h) f h
set_option maxRecDepth 100000 in
theorem fr_nearestOf {S : MS} {x1 : Int32} {Q : Int32 → MS → Prop} (h : w_nearestOf S x1 Q) : w_nearestOf S x1 (fun r u => Q r u ∧ frm [] [] S u) := by
  have f : frm [] [] S S := frm.rf
  unfold w_nearestOf at h ⊢
  obtain ⟨n9, h⟩ := h
  exact ⟨n9, fr_nearestOf_L7 n9 f h⟩
set_option maxRecDepth 100000 in
theorem fr_dominate_J235 {S0 : MS} {Q : MS → Prop} {k200 k200' : MS → Int32 → Prop} {U235 : MS} {t235_0 : Int32} {t235_1 : Int32} {v235_2 : Int32} (hk200 : ∀ (u : MS) (z0), frm [54, 55, 59] [] S0 u → k200 u z0 → k200' u z0) (f : frm [54, 55, 59] [] S0 U235) (h : w_dominate_J235 Q k200 U235 t235_0 t235_1 v235_2) : w_dominate_J235 (fun u => Q u ∧ frm [54, 55, 59] [] S0 u) k200' U235 t235_0 t235_1 v235_2 := by
  unfold w_dominate_J235 at h ⊢
  refine ⟨h.1, ?_⟩
  replace h := h.2
  intro S10 eS10
  replace h := h S10 eS10
  replace f := f.tr (show frm [54, 55, 59] [] U235 S10 by rw [eS10]; exact frm.pI (by decide))
  intro a11 ea11
  replace h := h a11 ea11
  exact hk200 _ _ f h
set_option maxRecDepth 100000 in
theorem fr_dominate_J234 {S0 : MS} {Q : MS → Prop} {k200 k200' : MS → Int32 → Prop} {U234 : MS} {t234_0 : Int32} {v234_2 : Int32} (hk200 : ∀ (u : MS) (z0), frm [54, 55, 59] [] S0 u → k200 u z0 → k200' u z0) (f : frm [54, 55, 59] [] S0 U234) (h : w_dominate_J234 Q k200 U234 t234_0 v234_2) : w_dominate_J234 (fun u => Q u ∧ frm [54, 55, 59] [] S0 u) k200' U234 t234_0 v234_2 := by
  unfold w_dominate_J234 at h ⊢
  exact fr_dominate_J235 hk200 f h
set_option maxRecDepth 100000 in
theorem fr_dominate_J186 {S0 : MS} {Q : MS → Prop} {k159 k159' : MS → Int32 → Int32 → Prop} {U186 : MS} {v186_2 : Int32} {v186_3 : Int32} (hk159 : ∀ (u : MS) (z0) (z1), frm [54, 55, 59] [] S0 u → k159 u z0 z1 → k159' u z0 z1) (f : frm [54, 55, 59] [] S0 U186) (h : w_dominate_J186 Q k159 U186 v186_2 v186_3) : w_dominate_J186 (fun u => Q u ∧ frm [54, 55, 59] [] S0 u) k159' U186 v186_2 v186_3 := by
  unfold w_dominate_J186 at h ⊢
  intro a25 ea25
  replace h := h a25 ea25
  exact hk159 _ _ _ f h
set_option maxRecDepth 100000 in
theorem fr_dominate_J131 {S0 : MS} {Q : MS → Prop} {k65 k65' : MS → Int32 → Int32 → Prop} {U131 : MS} {v131_1 : Int32} {v131_2 : Int32} (hk65 : ∀ (u : MS) (z0) (z1), frm [54, 55, 59] [] S0 u → k65 u z0 z1 → k65' u z0 z1) (f : frm [54, 55, 59] [] S0 U131) (h : w_dominate_J131 Q k65 U131 v131_1 v131_2) : w_dominate_J131 (fun u => Q u ∧ frm [54, 55, 59] [] S0 u) k65' U131 v131_1 v131_2 := by
  unfold w_dominate_J131 at h ⊢
  intro a38 ea38
  replace h := h a38 ea38
  exact hk65 _ _ _ f h
set_option maxRecDepth 100000 in
theorem fr_dominate_J124 {S0 : MS} {Q : MS → Prop} {k80 k80' : MS → Int32 → Int32 → Int32 → Prop} {U124 : MS} {t124_0 : Int32} {v124_2 : Int32} {v124_3 : Int32} (hk80 : ∀ (u : MS) (z0) (z1) (z2), frm [54, 55, 59] [] S0 u → k80 u z0 z1 z2 → k80' u z0 z1 z2) (f : frm [54, 55, 59] [] S0 U124) (h : w_dominate_J124 Q k80 U124 t124_0 v124_2 v124_3) : w_dominate_J124 (fun u => Q u ∧ frm [54, 55, 59] [] S0 u) k80' U124 t124_0 v124_2 v124_3 := by
  unfold w_dominate_J124 at h ⊢
  intro a50 ea50
  replace h := h a50 ea50
  exact hk80 _ _ _ _ f h
set_option maxRecDepth 100000 in
theorem fr_dominate_J119 {S0 : MS} {Q : MS → Prop} {k80 k80' : MS → Int32 → Int32 → Int32 → Prop} {U119 : MS} {v119_2 : Int32} {v119_3 : Int32} (hk80 : ∀ (u : MS) (z0) (z1) (z2), frm [54, 55, 59] [] S0 u → k80 u z0 z1 z2 → k80' u z0 z1 z2) (f : frm [54, 55, 59] [] S0 U119) (h : w_dominate_J119 Q k80 U119 v119_2 v119_3) : w_dominate_J119 (fun u => Q u ∧ frm [54, 55, 59] [] S0 u) k80' U119 v119_2 v119_3 := by
  unfold w_dominate_J119 at h ⊢
  exact fr_dominate_J124 hk80 f h
set_option maxRecDepth 100000 in
theorem fr_dominate_J48 {S0 : MS} {Q : MS → Prop} {k28 k28' : MS → Int32 → Prop} {U48 : MS} {t48_0 : Int32} {t48_1 : Int32} {v48_1 : Int32} (hk28 : ∀ (u : MS) (z0), frm [54, 55, 59] [] S0 u → k28 u z0 → k28' u z0) (f : frm [54, 55, 59] [] S0 U48) (h : w_dominate_J48 Q k28 U48 t48_0 t48_1 v48_1) : w_dominate_J48 (fun u => Q u ∧ frm [54, 55, 59] [] S0 u) k28' U48 t48_0 t48_1 v48_1 := by
  unfold w_dominate_J48 at h ⊢
  refine ⟨h.1, ?_⟩
  replace h := h.2
  intro S54 eS54
  replace h := h S54 eS54
  replace f := f.tr (show frm [54, 55, 59] [] U48 S54 by rw [eS54]; exact frm.pI (by decide))
  intro a55 ea55
  replace h := h a55 ea55
  exact hk28 _ _ f h
set_option maxRecDepth 100000 in
theorem fr_dominate_L200 {S0 : MS} {Q : MS → Prop} : ∀ (n : Nat) {U200 : MS} {v200_2 : Int32}, frm [54, 55, 59] [] S0 U200 → w_dominate_L200 Q n U200 v200_2 → w_dominate_L200 (fun u => Q u ∧ frm [54, 55, 59] [] S0 u) n U200 v200_2 := by
  intro n
  induction n with
  | zero => intro U200 v200_2 f h; unfold w_dominate_L200 at h; exact h.elim
  | succ n ih =>
    intro U200 v200_2 f h
    unfold w_dominate_L200 at h ⊢
    refine ⟨fun c => ?_, fun c => ?_⟩
    · replace h := h.1 c
      exact ⟨h, f⟩
    · replace h := h.2 c
      refine ⟨h.1, ?_⟩
      replace h := h.2
      refine ⟨fun c => ?_, fun c => ?_⟩
      · replace h := h.1 c
        exact fr_dominate_J234 (fun _ _ f h => ih f h) f h
      · replace h := h.2 c
        refine ⟨fun c => ?_, fun c => ?_⟩
        · replace h := h.1 c
          exact fr_dominate_J234 (fun _ _ f h => ih f h) f h
        · replace h := h.2 c
          obtain ⟨Q9, h0, h⟩ := h
          refine ⟨_, fr_nearestOf h0, ?_⟩
          · intro r15 S16 hq
            replace h := h r15 S16 hq.1
            replace f := f.tr (hq.2.mo (by decide) (by decide))
            exact fr_dominate_J235 (fun _ _ f h => ih f h) f h
set_option maxRecDepth 100000 in
theorem fr_dominate_L159 {S0 : MS} {Q : MS → Prop} {k142 k142' : MS → Int32 → Prop} (hk142 : ∀ (u : MS) (z0), frm [54, 55, 59] [] S0 u → k142 u z0 → k142' u z0) : ∀ (n : Nat) {U159 : MS} {v159_2 : Int32} {v159_3 : Int32}, frm [54, 55, 59] [] S0 U159 → w_dominate_L159 Q k142 n U159 v159_2 v159_3 → w_dominate_L159 (fun u => Q u ∧ frm [54, 55, 59] [] S0 u) k142' n U159 v159_2 v159_3 := by
  intro n
  induction n with
  | zero => intro U159 v159_2 v159_3 f h; unfold w_dominate_L159 at h; exact h.elim
  | succ n ih =>
    intro U159 v159_2 v159_3 f h
    unfold w_dominate_L159 at h ⊢
    refine ⟨fun c => ?_, fun c => ?_⟩
    · replace h := h.1 c
      intro a21 ea21
      replace h := h a21 ea21
      exact hk142 _ _ f h
    · replace h := h.2 c
      refine ⟨h.1, ?_⟩
      replace h := h.2
      refine ⟨fun c => ?_, fun c => ?_⟩
      · replace h := h.1 c
        exact fr_dominate_J186 (fun _ _ _ f h => ih f h) f h
      · replace h := h.2 c
        refine ⟨h.1, ?_⟩
        replace h := h.2
        refine ⟨h.1, ?_⟩
        replace h := h.2
        intro S31 eS31
        replace h := h S31 eS31
        replace f := f.tr (show frm [54, 55, 59] [] U159 S31 by rw [eS31]; exact frm.pI (by decide))
        exact fr_dominate_J186 (fun _ _ _ f h => ih f h) f h
set_option maxRecDepth 100000 in
theorem fr_dominate_L142 {S0 : MS} {Q : MS → Prop} : ∀ (n : Nat) {U142 : MS} {v142_2 : Int32}, frm [54, 55, 59] [] S0 U142 → w_dominate_L142 Q n U142 v142_2 → w_dominate_L142 (fun u => Q u ∧ frm [54, 55, 59] [] S0 u) n U142 v142_2 := by
  intro n
  induction n with
  | zero => intro U142 v142_2 f h; unfold w_dominate_L142 at h; exact h.elim
  | succ n ih =>
    intro U142 v142_2 f h
    unfold w_dominate_L142 at h ⊢
    refine ⟨fun c => ?_, fun c => ?_⟩
    · replace h := h.1 c
      obtain ⟨n9, h⟩ := h
      exact ⟨n9, fr_dominate_L200 n9 f h⟩
    · replace h := h.2 c
      refine ⟨h.1, ?_⟩
      replace h := h.2
      intro S19 eS19
      replace h := h S19 eS19
      replace f := f.tr (show frm [54, 55, 59] [] U142 S19 by rw [eS19]; exact frm.pI (by decide))
      obtain ⟨n9, h⟩ := h
      exact ⟨n9, fr_dominate_L159 (fun _ _ f h => ih f h) n9 f h⟩
set_option maxRecDepth 100000 in
theorem fr_dominate_L80 {S0 : MS} {Q : MS → Prop} {k65 k65' : MS → Int32 → Int32 → Prop} (hk65 : ∀ (u : MS) (z0) (z1), frm [54, 55, 59] [] S0 u → k65 u z0 z1 → k65' u z0 z1) : ∀ (n : Nat) {U80 : MS} {v80_1 : Int32} {v80_2 : Int32} {v80_3 : Int32}, frm [54, 55, 59] [] S0 U80 → w_dominate_L80 Q k65 n U80 v80_1 v80_2 v80_3 → w_dominate_L80 (fun u => Q u ∧ frm [54, 55, 59] [] S0 u) k65' n U80 v80_1 v80_2 v80_3 := by
  intro n
  induction n with
  | zero => intro U80 v80_1 v80_2 v80_3 f h; unfold w_dominate_L80 at h; exact h.elim
  | succ n ih =>
    intro U80 v80_1 v80_2 v80_3 f h
    unfold w_dominate_L80 at h ⊢
    refine ⟨h.1, ?_⟩
    replace h := h.2
    refine ⟨fun c => ?_, fun c => ?_⟩
    · replace h := h.1 c
      exact fr_dominate_J131 hk65 f h
    · replace h := h.2 c
      refine ⟨h.1, ?_⟩
      replace h := h.2
      refine ⟨fun c => ?_, fun c => ?_⟩
      · replace h := h.1 c
        exact fr_dominate_J131 hk65 f h
      · replace h := h.2 c
        refine ⟨h.1, ?_⟩
        replace h := h.2
        obtain ⟨Q9, h0, h⟩ := h
        refine ⟨_, fr_narrowed h0, ?_⟩
        · intro r47 S48 hq
          replace h := h r47 S48 hq.1
          replace f := f.tr (hq.2.mo (by decide) (by decide))
          refine ⟨fun c => ?_, fun c => ?_⟩
          · replace h := h.1 c
            refine ⟨fun c => ?_, fun c => ?_⟩
            · replace h := h.1 c
              exact fr_dominate_J124 (fun _ _ _ _ f h => ih f h) f h
            · replace h := h.2 c
              exact fr_dominate_J119 (fun _ _ _ _ f h => ih f h) f h
          · replace h := h.2 c
            exact fr_dominate_J119 (fun _ _ _ _ f h => ih f h) f h
set_option maxRecDepth 100000 in
theorem fr_dominate_L65 {S0 : MS} {Q : MS → Prop} {k57 k57' : MS → Int32 → Prop} (hk57 : ∀ (u : MS) (z0), frm [54, 55, 59] [] S0 u → k57 u z0 → k57' u z0) : ∀ (n : Nat) {U65 : MS} {v65_1 : Int32} {v65_2 : Int32}, frm [54, 55, 59] [] S0 U65 → w_dominate_L65 Q k57 n U65 v65_1 v65_2 → w_dominate_L65 (fun u => Q u ∧ frm [54, 55, 59] [] S0 u) k57' n U65 v65_1 v65_2 := by
  intro n
  induction n with
  | zero => intro U65 v65_1 v65_2 f h; unfold w_dominate_L65 at h; exact h.elim
  | succ n ih =>
    intro U65 v65_1 v65_2 f h
    unfold w_dominate_L65 at h ⊢
    refine ⟨fun c => ?_, fun c => ?_⟩
    · replace h := h.1 c
      exact hk57 _ _ f h
    · replace h := h.2 c
      refine ⟨h.1, ?_⟩
      replace h := h.2
      intro a35 ea35
      replace h := h a35 ea35
      obtain ⟨n9, h⟩ := h
      exact ⟨n9, fr_dominate_L80 (fun _ _ _ f h => ih f h) n9 f h⟩
set_option maxRecDepth 100000 in
theorem fr_dominate_L57 {S0 : MS} {Q : MS → Prop} : ∀ (n : Nat) {U57 : MS} {v57_1 : Int32}, frm [54, 55, 59] [] S0 U57 → w_dominate_L57 Q n U57 v57_1 → w_dominate_L57 (fun u => Q u ∧ frm [54, 55, 59] [] S0 u) n U57 v57_1 := by
  intro n
  induction n with
  | zero => intro U57 v57_1 f h; unfold w_dominate_L57 at h; exact h.elim
  | succ n ih =>
    intro U57 v57_1 f h
    unfold w_dominate_L57 at h ⊢
    refine ⟨fun c => ?_, fun c => ?_⟩
    · replace h := h.1 c
      obtain ⟨n9, h⟩ := h
      exact ⟨n9, fr_dominate_L142 n9 f h⟩
    · replace h := h.2 c
      obtain ⟨n9, h⟩ := h
      exact ⟨n9, fr_dominate_L65 (fun _ _ f h => ih f h) n9 f h⟩
set_option maxRecDepth 100000 in
theorem fr_dominate_L28 {S0 : MS} {Q : MS → Prop} : ∀ (n : Nat) {U28 : MS} {v28_1 : Int32}, frm [54, 55, 59] [] S0 U28 → w_dominate_L28 Q n U28 v28_1 → w_dominate_L28 (fun u => Q u ∧ frm [54, 55, 59] [] S0 u) n U28 v28_1 := by
  intro n
  induction n with
  | zero => intro U28 v28_1 f h; unfold w_dominate_L28 at h; exact h.elim
  | succ n ih =>
    intro U28 v28_1 f h
    unfold w_dominate_L28 at h ⊢
    refine ⟨fun c => ?_, fun c => ?_⟩
    · replace h := h.1 c
      obtain ⟨n9, h⟩ := h
      exact ⟨n9, fr_dominate_L57 n9 f h⟩
    · replace h := h.2 c
      refine ⟨fun c => ?_, fun c => ?_⟩
      · replace h := h.1 c
        exact fr_dominate_J48 (fun _ _ f h => ih f h) f h
      · replace h := h.2 c
        exact fr_dominate_J48 (fun _ _ f h => ih f h) f h
set_option maxRecDepth 100000 in
theorem fr_dominate_L2 {S0 : MS} {Q : MS → Prop} : ∀ (n : Nat) {U2 : MS} {v2_1 : Int32}, frm [54, 55, 59] [] S0 U2 → w_dominate_L2 Q n U2 v2_1 → w_dominate_L2 (fun u => Q u ∧ frm [54, 55, 59] [] S0 u) n U2 v2_1 := by
  intro n
  induction n with
  | zero => intro U2 v2_1 f h; unfold w_dominate_L2 at h; exact h.elim
  | succ n ih =>
    intro U2 v2_1 f h
    unfold w_dominate_L2 at h ⊢
    refine ⟨fun c => ?_, fun c => ?_⟩
    · replace h := h.1 c
      obtain ⟨n9, h⟩ := h
      exact ⟨n9, fr_dominate_L28 n9 f h⟩
    · replace h := h.2 c
      refine ⟨h.1, ?_⟩
      replace h := h.2
      intro S58 eS58
      replace h := h S58 eS58
      replace f := f.tr (show frm [54, 55, 59] [] U2 S58 by rw [eS58]; exact frm.pI (by decide))
      intro a59 ea59
      replace h := h a59 ea59
      exact ih f h
set_option maxRecDepth 100000 in
theorem fr_dominate {S : MS} {Q : MS → Prop} (h : w_dominate S  Q) : w_dominate S  (fun u => Q u ∧ frm [54, 55, 59] [] S u) := by
  have f : frm [54, 55, 59] [] S S := frm.rf
  unfold w_dominate at h ⊢
  obtain ⟨n9, h⟩ := h
  exact ⟨n9, fr_dominate_L2 n9 f h⟩
set_option maxRecDepth 100000 in
theorem fr_edgeInto_L7 {S0 : MS} {Q : MS → Prop} : ∀ (n : Nat) {U7 : MS} {v7_2 : Int32} {v7_3 : Int32}, frm [52] [110] S0 U7 → w_edgeInto_L7 Q n U7 v7_2 v7_3 → w_edgeInto_L7 (fun u => Q u ∧ frm [52] [110] S0 u) n U7 v7_2 v7_3 := by
  intro n
  induction n with
  | zero => intro U7 v7_2 v7_3 f h; unfold w_edgeInto_L7 at h; exact h.elim
  | succ n ih =>
    intro U7 v7_2 v7_3 f h
    unfold w_edgeInto_L7 at h ⊢
    refine ⟨fun c => ?_, fun c => ?_⟩
    · replace h := h.1 c
      refine ⟨h.1, ?_⟩
      replace h := h.2
      intro S6 eS6
      replace h := h S6 eS6
      replace f := f.tr (show frm [52] [110] U7 S6 by rw [eS6]; exact frm.pI (by decide))
      intro S8 eS8
      replace h := h S8 eS8
      replace f := f.tr (show frm [52] [110] S6 S8 by rw [eS8]; exact frm.pI0 (by decide))
      exact ⟨h, f⟩
    · replace h := h.2 c
      refine ⟨h.1, ?_⟩
      replace h := h.2
      refine ⟨fun c => ?_, fun c => ?_⟩
      · replace h := h.1 c
        exact ⟨h, f⟩
      · replace h := h.2 c
        intro a12 ea12
        replace h := h a12 ea12
        exact ih f h
set_option maxRecDepth 100000 in
theorem fr_edgeInto {S : MS} {x1 : Int32} {x2 : Int32} {Q : MS → Prop} (h : w_edgeInto S x1 x2 Q) : w_edgeInto S x1 x2 (fun u => Q u ∧ frm [52] [110] S u) := by
  have f : frm [52] [110] S S := frm.rf
  unfold w_edgeInto at h ⊢
  refine ⟨h.1, ?_⟩
  replace h := h.2
  intro a3 ea3
  replace h := h a3 ea3
  obtain ⟨n9, h⟩ := h
  exact ⟨n9, fr_edgeInto_L7 n9 f h⟩
set_option maxRecDepth 100000 in
theorem fr_edges_J133 {S0 : MS} {Q : MS → Prop} {k100 k100' : MS → Int32 → Int32 → Int32 → Prop} {U133 : MS} {v133_1 : Int32} {v133_2 : Int32} {v133_3 : Int32} (hk100 : ∀ (u : MS) (z0) (z1) (z2), frm [51, 52] [110] S0 u → k100 u z0 z1 z2 → k100' u z0 z1 z2) (f : frm [51, 52] [110] S0 U133) (h : w_edges_J133 Q k100 U133 v133_1 v133_2 v133_3) : w_edges_J133 (fun u => Q u ∧ frm [51, 52] [110] S0 u) k100' U133 v133_1 v133_2 v133_3 := by
  unfold w_edges_J133 at h ⊢
  intro a27 ea27
  replace h := h a27 ea27
  exact hk100 _ _ _ _ f h
set_option maxRecDepth 100000 in
theorem fr_edges_L100 {S0 : MS} {Q : MS → Prop} {k7 k7' : MS → Int32 → Prop} (hk7 : ∀ (u : MS) (z0), frm [51, 52] [110] S0 u → k7 u z0 → k7' u z0) : ∀ (n : Nat) {U100 : MS} {v100_1 : Int32} {v100_2 : Int32} {v100_3 : Int32}, frm [51, 52] [110] S0 U100 → w_edges_L100 Q k7 n U100 v100_1 v100_2 v100_3 → w_edges_L100 (fun u => Q u ∧ frm [51, 52] [110] S0 u) k7' n U100 v100_1 v100_2 v100_3 := by
  intro n
  induction n with
  | zero => intro U100 v100_1 v100_2 v100_3 f h; unfold w_edges_L100 at h; exact h.elim
  | succ n ih =>
    intro U100 v100_1 v100_2 v100_3 f h
    unfold w_edges_L100 at h ⊢
    refine ⟨fun c => ?_, fun c => ?_⟩
    · replace h := h.1 c
      intro a23 ea23
      replace h := h a23 ea23
      exact hk7 _ _ f h
    · replace h := h.2 c
      refine ⟨h.1, ?_⟩
      replace h := h.2
      refine ⟨fun c => ?_, fun c => ?_⟩
      · replace h := h.1 c
        exact fr_edges_J133 (fun _ _ _ _ f h => ih f h) f h
      · replace h := h.2 c
        refine ⟨h.1, ?_⟩
        replace h := h.2
        refine ⟨h.1, ?_⟩
        replace h := h.2
        obtain ⟨Q9, h0, h⟩ := h
        refine ⟨_, fr_edgeInto h0, ?_⟩
        · intro S35 hq
          replace h := h S35 hq.1
          replace f := f.tr (hq.2.mo (by decide) (by decide))
          exact fr_edges_J133 (fun _ _ _ _ f h => ih f h) f h
set_option maxRecDepth 100000 in
theorem fr_edges_L67 {S0 : MS} {Q : MS → Prop} {k7 k7' : MS → Int32 → Prop} (hk7 : ∀ (u : MS) (z0), frm [51, 52] [110] S0 u → k7 u z0 → k7' u z0) : ∀ (n : Nat) {U67 : MS} {v67_1 : Int32} {v67_2 : Int32} {v67_3 : Int32}, frm [51, 52] [110] S0 U67 → w_edges_L67 Q k7 n U67 v67_1 v67_2 v67_3 → w_edges_L67 (fun u => Q u ∧ frm [51, 52] [110] S0 u) k7' n U67 v67_1 v67_2 v67_3 := by
  intro n
  induction n with
  | zero => intro U67 v67_1 v67_2 v67_3 f h; unfold w_edges_L67 at h; exact h.elim
  | succ n ih =>
    intro U67 v67_1 v67_2 v67_3 f h
    unfold w_edges_L67 at h ⊢
    refine ⟨h.1, ?_⟩
    replace h := h.2
    refine ⟨fun c => ?_, fun c => ?_⟩
    · replace h := h.1 c
      obtain ⟨n9, h⟩ := h
      exact ⟨n9, fr_edges_L100 hk7 n9 f h⟩
    · replace h := h.2 c
      refine ⟨h.1, ?_⟩
      replace h := h.2
      refine ⟨h.1, ?_⟩
      replace h := h.2
      obtain ⟨Q9, h0, h⟩ := h
      refine ⟨_, fr_edgeInto h0, ?_⟩
      · intro S43 hq
        replace h := h S43 hq.1
        replace f := f.tr (hq.2.mo (by decide) (by decide))
        intro a45 ea45
        replace h := h a45 ea45
        exact ih f h
set_option maxRecDepth 100000 in
theorem fr_edges_J65 {S0 : MS} {Q : MS → Prop} {k7 k7' : MS → Int32 → Prop} {U65 : MS} {v65_1 : Int32} {v65_2 : Int32} (hk7 : ∀ (u : MS) (z0), frm [51, 52] [110] S0 u → k7 u z0 → k7' u z0) (f : frm [51, 52] [110] S0 U65) (h : w_edges_J65 Q k7 U65 v65_1 v65_2) : w_edges_J65 (fun u => Q u ∧ frm [51, 52] [110] S0 u) k7' U65 v65_1 v65_2 := by
  unfold w_edges_J65 at h ⊢
  obtain ⟨n9, h⟩ := h
  exact ⟨n9, fr_edges_L67 hk7 n9 f h⟩
set_option maxRecDepth 100000 in
theorem fr_edges_L7 {S0 : MS} {Q : MS → Prop} : ∀ (n : Nat) {U7 : MS} {v7_1 : Int32}, frm [51, 52] [110] S0 U7 → w_edges_L7 Q n U7 v7_1 → w_edges_L7 (fun u => Q u ∧ frm [51, 52] [110] S0 u) n U7 v7_1 := by
  intro n
  induction n with
  | zero => intro U7 v7_1 f h; unfold w_edges_L7 at h; exact h.elim
  | succ n ih =>
    intro U7 v7_1 f h
    unfold w_edges_L7 at h ⊢
    refine ⟨fun c => ?_, fun c => ?_⟩
    · replace h := h.1 c
      refine ⟨h.1, ?_⟩
      replace h := h.2
      intro S4 eS4
      replace h := h S4 eS4
      replace f := f.tr (show frm [51, 52] [110] U7 S4 by rw [eS4]; exact frm.pI (by decide))
      exact ⟨h, f⟩
    · replace h := h.2 c
      refine ⟨h.1, ?_⟩
      replace h := h.2
      intro S6 eS6
      replace h := h S6 eS6
      replace f := f.tr (show frm [51, 52] [110] U7 S6 by rw [eS6]; exact frm.pI (by decide))
      refine ⟨h.1, ?_⟩
      replace h := h.2
      intro a11 ea11
      replace h := h a11 ea11
      refine ⟨h.1, ?_⟩
      replace h := h.2
      refine ⟨h.1, ?_⟩
      replace h := h.2
      refine ⟨fun c => ?_, fun c => ?_⟩
      · replace h := h.1 c
        exact fr_edges_J65 (fun _ _ f h => ih f h) f h
      · replace h := h.2 c
        refine ⟨fun c => ?_, fun c => ?_⟩
        · replace h := h.1 c
          exact fr_edges_J65 (fun _ _ f h => ih f h) f h
        · replace h := h.2 c
          obtain ⟨Q9, h0, h⟩ := h
          refine ⟨_, fr_edgeInto h0, ?_⟩
          · intro S51 hq
            replace h := h S51 hq.1
            replace f := f.tr (hq.2.mo (by decide) (by decide))
            exact fr_edges_J65 (fun _ _ f h => ih f h) f h
set_option maxRecDepth 100000 in
theorem fr_edges {S : MS} {Q : MS → Prop} (h : w_edges S  Q) : w_edges S  (fun u => Q u ∧ frm [51, 52] [110] S u) := by
  have f : frm [51, 52] [110] S S := frm.rf
  unfold w_edges at h ⊢
  intro S1 eS1
  replace h := h S1 eS1
  replace f := f.tr (show frm [51, 52] [110] S S1 by rw [eS1]; exact frm.pI0 (by decide))
  obtain ⟨n9, h⟩ := h
  exact ⟨n9, fr_edges_L7 n9 f h⟩
set_option maxRecDepth 100000 in
theorem fr_look {S : MS} {p1 : Nat} {x2 : Int32} {Q : MS → Prop} (h : w_look S p1 x2 Q) : w_look S p1 x2 (fun u => Q u ∧ frm [] [47, 48, 49, 50, 51, 52, 53, 54] S u) := by
  have f : frm [] [47, 48, 49, 50, 51, 52, 53, 54] S S := frm.rf
  unfold w_look at h ⊢
  intro S1 eS1
  replace h := h S1 eS1
  replace f := f.tr (show frm [] [47, 48, 49, 50, 51, 52, 53, 54] S S1 by rw [eS1]; exact frm.pR0 (by decide))
  refine ⟨h.1, ?_⟩
  replace h := h.2
  intro S4 eS4
  replace h := h S4 eS4
  replace f := f.tr (show frm [] [47, 48, 49, 50, 51, 52, 53, 54] S1 S4 by rw [eS4]; exact frm.pR0 (by decide))
  refine ⟨h.1, ?_⟩
  replace h := h.2
  intro S7 eS7
  replace h := h S7 eS7
  replace f := f.tr (show frm [] [47, 48, 49, 50, 51, 52, 53, 54] S4 S7 by rw [eS7]; exact frm.pR0 (by decide))
  refine ⟨h.1, ?_⟩
  replace h := h.2
  intro S10 eS10
  replace h := h S10 eS10
  replace f := f.tr (show frm [] [47, 48, 49, 50, 51, 52, 53, 54] S7 S10 by rw [eS10]; exact frm.pR0 (by decide))
  refine ⟨h.1, ?_⟩
  replace h := h.2
  refine ⟨h.1, ?_⟩
  replace h := h.2
  intro S15 eS15
  replace h := h S15 eS15
  replace f := f.tr (show frm [] [47, 48, 49, 50, 51, 52, 53, 54] S10 S15 by rw [eS15]; exact frm.pI0 (by decide))
  refine ⟨h.1, ?_⟩
  replace h := h.2
  refine ⟨h.1, ?_⟩
  replace h := h.2
  intro S20 eS20
  replace h := h S20 eS20
  replace f := f.tr (show frm [] [47, 48, 49, 50, 51, 52, 53, 54] S15 S20 by rw [eS20]; exact frm.pI0 (by decide))
  refine ⟨h.1, ?_⟩
  replace h := h.2
  refine ⟨h.1, ?_⟩
  replace h := h.2
  intro S25 eS25
  replace h := h S25 eS25
  replace f := f.tr (show frm [] [47, 48, 49, 50, 51, 52, 53, 54] S20 S25 by rw [eS25]; exact frm.pI0 (by decide))
  refine ⟨h.1, ?_⟩
  replace h := h.2
  refine ⟨h.1, ?_⟩
  replace h := h.2
  intro S30 eS30
  replace h := h S30 eS30
  replace f := f.tr (show frm [] [47, 48, 49, 50, 51, 52, 53, 54] S25 S30 by rw [eS30]; exact frm.pI0 (by decide))
  exact ⟨h, f⟩
