def v_keptDraft (S : MS) (ro : Int32) (uo : MS) : Prop := ((∃ (S2 : MS), v_outFile S 60 (.inl S2) ∧ ((qR S2 0 75 = some (qO S2 0 75)) ∧ ((∃ (b11 : Nat) (S8 : MS), v_readFile S2 (qO S2 0 75) (qI S2 0 77) (.inl (b11, S8)) ∧ (∃ (r13 : Int32) (S14 : MS), v_kept S8 b11 r13 S14 ∧ (ro = r13 ∧ uo = S14))) ∨ (∃ u9 : MS, v_readFile S2 (qO S2 0 75) (qI S2 0 77) (.inr u9) ∧ (ro = (-3 : Int32) ∧ uo = u9))))) ∨ (∃ u9 : MS, v_outFile S 60 (.inr u9) ∧ (ro = (-3 : Int32) ∧ uo = u9)))
set_option maxRecDepth 100000 in
theorem ru_keptDraft {S : MS} {Q : Int32 → MS → Prop} (h : w_keptDraft S Q) : ∃ ro uo, v_keptDraft S ro uo ∧ Q ro uo := by
  have i0 : Unit := ()
  have K : ∀ (i : Unit) (ro : Int32) (uo : MS), v_keptDraft S ro uo → v_keptDraft S ro uo := fun _ _ _ z => z
  unfold w_keptDraft at h
  obtain ⟨Q9, E9, h0, h⟩ := h
  obtain ⟨o9, z9, g9⟩ := ru_outFile h0
  rcases o9 with S2 | u9
  · replace h := h.1 S2 g9
    replace K := fun i ro uo z => K i ro uo (Or.inl ⟨S2, z9, z⟩)
    obtain ⟨g1_, h⟩ := h
    replace K := fun i ro uo z => K i ro uo ⟨g1_, z⟩
    obtain ⟨Q9, E9, h0, h⟩ := h
    obtain ⟨o9, z9, g9⟩ := ru_readFile h0
    rcases o9 with ⟨b11, S8⟩ | u9
    · replace h := h.1 b11 S8 g9
      replace K := fun i ro uo z => K i ro uo (Or.inl ⟨b11, S8, z9, z⟩)
      obtain ⟨Q9, h0, h⟩ := h
      obtain ⟨r13, S14, z9, g9⟩ := ru_kept h0
      replace h := h r13 S14 g9
      replace K := fun i ro uo z => K i ro uo ⟨r13, S14, z9, z⟩
      exact ⟨_, _, K i0 _ _ ⟨rfl, rfl⟩, h⟩
    · replace h := h.2 u9 g9
      replace K := fun i ro uo z => K i ro uo (Or.inr ⟨u9, z9, z⟩)
      exact ⟨_, _, K i0 _ _ ⟨rfl, rfl⟩, h⟩
  · replace h := h.2 u9 g9
    replace K := fun i ro uo z => K i ro uo (Or.inr ⟨u9, z9, z⟩)
    exact ⟨_, _, K i0 _ _ ⟨rfl, rfl⟩, h⟩
set_option maxRecDepth 100000 in
theorem vw_keptDraft {S : MS} {ro : Int32} {uo : MS} (h : v_keptDraft S ro uo) : w_keptDraft S (fun r u => r = ro ∧ u = uo) := by
  unfold v_keptDraft at h
  unfold w_keptDraft
  rcases h with ⟨q9, z9, h⟩ | ⟨q9, z9, h⟩
  · refine ⟨_, _, vw_outFile z9, ?_, ?_⟩
    · intro q8 d9
      injection d9 with d9
      subst d9
      obtain ⟨g9, h⟩ := h
      refine ⟨g9, ?_⟩
      rcases h with ⟨p9, q9, z9, h⟩ | ⟨q9, z9, h⟩
      · refine ⟨_, _, vw_readFile z9, ?_, ?_⟩
        · intro p8 q8 d9
          injection d9 with d9
          injection d9 with d8 d9
          subst d8
          subst d9
          obtain ⟨p9, q9, z9, h⟩ := h
          refine ⟨_, vw_kept z9, ?_⟩
          rintro p8 q8 ⟨d8, d9⟩
          subst d8
          subst d9
          exact ⟨h.1.symm, h.2.symm⟩
        · intro q8 d9
          exact nomatch d9
      · refine ⟨_, _, vw_readFile z9, ?_, ?_⟩
        · intro p8 q8 d9
          exact nomatch d9
        · intro q8 d9
          injection d9 with d9
          subst d9
          exact ⟨h.1.symm, h.2.symm⟩
    · intro q8 d9
      exact nomatch d9
  · refine ⟨_, _, vw_outFile z9, ?_, ?_⟩
    · intro q8 d9
      exact nomatch d9
    · intro q8 d9
      injection d9 with d9
      subst d9
      exact ⟨h.1.symm, h.2.symm⟩
set_option maxRecDepth 100000 in
theorem vz_keptDraft {S : MS} {ro : Int32} {uo : MS} {Q : Int32 → MS → Prop} (h : v_keptDraft S ro uo) (w : w_keptDraft S Q) : Q ro uo := by
  unfold v_keptDraft at h
  unfold w_keptDraft at w
  obtain ⟨Q9, E9, w0, w⟩ := w
  rcases h with ⟨q9, z9, h⟩ | ⟨q9, z9, h⟩
  · replace w := w.1 q9 (vz_outFile z9 w0)
    replace h := h.2
    replace w := w.2
    obtain ⟨Q9, E9, w0, w⟩ := w
    rcases h with ⟨p9, q9, z9, h⟩ | ⟨q9, z9, h⟩
    · replace w := w.1 p9 q9 (vz_readFile z9 w0)
      obtain ⟨p9, q9, z9, h⟩ := h
      obtain ⟨Q9, w0, w⟩ := w
      replace w := w p9 q9 (vz_kept z9 w0)
      rw [h.1, h.2]
      exact w
    · replace w := w.2 q9 (vz_readFile z9 w0)
      rw [h.1, h.2]
      exact w
  · replace w := w.2 q9 (vz_outFile z9 w0)
    rw [h.1, h.2]
    exact w
def v_draftCatch (S : MS) (x1 : Int32) (uo : MS) : Prop := (((0 : Int) ≤ x1.toInt ∧ x1.toInt < 16) ∧ (∃ (r5 : Int32) (S6 : MS), v_here S (qI S 82 x1.toInt.toNat) r5 S6 ∧ (((0 : Int) ≤ r5.toInt ∧ r5.toInt < 1201) ∧ (((0 : Int) ≤ ((4 : Int32) * (qI S 0 123)).toInt ∧ ((4 : Int32) * (qI S 0 123)).toInt < 1536) ∧ (∃ S11 : MS, S11 = wI S6 76 ((((4 : Int32) * (qI S 0 123)).toInt).toNat) (qI S6 91 r5.toInt.toNat) ∧ (((0 : Int) ≤ x1.toInt ∧ x1.toInt < 16) ∧ (∃ (r17 : Int32) (S18 : MS), v_here S11 (qI S11 83 x1.toInt.toNat) r17 S18 ∧ (((0 : Int) ≤ r17.toInt ∧ r17.toInt < 1201) ∧ (((0 : Int) ≤ (((4 : Int32) * (qI S11 0 123)) + (1 : Int32)).toInt ∧ (((4 : Int32) * (qI S11 0 123)) + (1 : Int32)).toInt < 1536) ∧ (∃ S23 : MS, S23 = wI S18 76 (((((4 : Int32) * (qI S11 0 123)) + (1 : Int32)).toInt).toNat) (qI S18 91 r17.toInt.toNat) ∧ (((0 : Int) ≤ x1.toInt ∧ x1.toInt < 16) ∧ (∃ (r29 : Int32) (S30 : MS), v_here S23 (qI S23 84 x1.toInt.toNat) r29 S30 ∧ (((0 : Int) ≤ r29.toInt ∧ r29.toInt < 1201) ∧ (((0 : Int) ≤ (((4 : Int32) * (qI S23 0 123)) + (2 : Int32)).toInt ∧ (((4 : Int32) * (qI S23 0 123)) + (2 : Int32)).toInt < 1536) ∧ (∃ S35 : MS, S35 = wI S30 76 (((((4 : Int32) * (qI S23 0 123)) + (2 : Int32)).toInt).toNat) (qI S30 91 r29.toInt.toNat) ∧ (((0 : Int) ≤ x1.toInt ∧ x1.toInt < 16) ∧ (((0 : Int) ≤ (((4 : Int32) * (qI S35 0 123)) + (3 : Int32)).toInt ∧ (((4 : Int32) * (qI S35 0 123)) + (3 : Int32)).toInt < 1536) ∧ (∃ S41 : MS, S41 = wI S35 76 (((((4 : Int32) * (qI S35 0 123)) + (3 : Int32)).toInt).toNat) (qI S35 85 x1.toInt.toNat) ∧ (∃ S43 : MS, S43 = wI S41 0 123 ((qI S41 0 123) + (1 : Int32)) ∧ (uo = S43))))))))))))))))))))
set_option maxRecDepth 100000 in
theorem ru_draftCatch {S : MS} {x1 : Int32} {Q : MS → Prop} (h : w_draftCatch S x1 Q) : ∃ uo, v_draftCatch S x1 uo ∧ Q uo := by
  have i0 : Unit := ()
  have K : ∀ (i : Unit) (uo : MS), v_draftCatch S x1 uo → v_draftCatch S x1 uo := fun _ _ z => z
  unfold w_draftCatch at h
  obtain ⟨g1_, h⟩ := h
  replace K := fun i uo z => K i uo ⟨g1_, z⟩
  obtain ⟨Q9, h0, h⟩ := h
  obtain ⟨r5, S6, z9, g9⟩ := ru_here h0
  replace h := h r5 S6 g9
  replace K := fun i uo z => K i uo ⟨r5, S6, z9, z⟩
  obtain ⟨g2_, h⟩ := h
  replace K := fun i uo z => K i uo ⟨g2_, z⟩
  obtain ⟨g3_, h⟩ := h
  replace K := fun i uo z => K i uo ⟨g3_, z⟩
  obtain ⟨S11, eS11⟩ : ∃ x9 : MS, x9 = wI S6 76 ((((4 : Int32) * (qI S 0 123)).toInt).toNat) (qI S6 91 r5.toInt.toNat) := ⟨_, rfl⟩
  replace h := h S11 eS11
  replace K := fun i uo z => K i uo ⟨S11, eS11, z⟩
  obtain ⟨g4_, h⟩ := h
  replace K := fun i uo z => K i uo ⟨g4_, z⟩
  obtain ⟨Q9, h0, h⟩ := h
  obtain ⟨r17, S18, z9, g9⟩ := ru_here h0
  replace h := h r17 S18 g9
  replace K := fun i uo z => K i uo ⟨r17, S18, z9, z⟩
  obtain ⟨g5_, h⟩ := h
  replace K := fun i uo z => K i uo ⟨g5_, z⟩
  obtain ⟨g6_, h⟩ := h
  replace K := fun i uo z => K i uo ⟨g6_, z⟩
  obtain ⟨S23, eS23⟩ : ∃ x9 : MS, x9 = wI S18 76 (((((4 : Int32) * (qI S11 0 123)) + (1 : Int32)).toInt).toNat) (qI S18 91 r17.toInt.toNat) := ⟨_, rfl⟩
  replace h := h S23 eS23
  replace K := fun i uo z => K i uo ⟨S23, eS23, z⟩
  obtain ⟨g7_, h⟩ := h
  replace K := fun i uo z => K i uo ⟨g7_, z⟩
  obtain ⟨Q9, h0, h⟩ := h
  obtain ⟨r29, S30, z9, g9⟩ := ru_here h0
  replace h := h r29 S30 g9
  replace K := fun i uo z => K i uo ⟨r29, S30, z9, z⟩
  obtain ⟨g8_, h⟩ := h
  replace K := fun i uo z => K i uo ⟨g8_, z⟩
  obtain ⟨g9_, h⟩ := h
  replace K := fun i uo z => K i uo ⟨g9_, z⟩
  obtain ⟨S35, eS35⟩ : ∃ x9 : MS, x9 = wI S30 76 (((((4 : Int32) * (qI S23 0 123)) + (2 : Int32)).toInt).toNat) (qI S30 91 r29.toInt.toNat) := ⟨_, rfl⟩
  replace h := h S35 eS35
  replace K := fun i uo z => K i uo ⟨S35, eS35, z⟩
  obtain ⟨g10_, h⟩ := h
  replace K := fun i uo z => K i uo ⟨g10_, z⟩
  obtain ⟨g11_, h⟩ := h
  replace K := fun i uo z => K i uo ⟨g11_, z⟩
  obtain ⟨S41, eS41⟩ : ∃ x9 : MS, x9 = wI S35 76 (((((4 : Int32) * (qI S35 0 123)) + (3 : Int32)).toInt).toNat) (qI S35 85 x1.toInt.toNat) := ⟨_, rfl⟩
  replace h := h S41 eS41
  replace K := fun i uo z => K i uo ⟨S41, eS41, z⟩
  obtain ⟨S43, eS43⟩ : ∃ x9 : MS, x9 = wI S41 0 123 ((qI S41 0 123) + (1 : Int32)) := ⟨_, rfl⟩
  replace h := h S43 eS43
  replace K := fun i uo z => K i uo ⟨S43, eS43, z⟩
  exact ⟨_, K i0 _ rfl, h⟩
set_option maxRecDepth 100000 in
theorem vw_draftCatch {S : MS} {x1 : Int32} {uo : MS} (h : v_draftCatch S x1 uo) : w_draftCatch S x1 (fun u => u = uo) := by
  unfold v_draftCatch at h
  unfold w_draftCatch
  obtain ⟨g9, h⟩ := h
  refine ⟨g9, ?_⟩
  obtain ⟨p9, q9, z9, h⟩ := h
  refine ⟨_, vw_here z9, ?_⟩
  rintro p8 q8 ⟨d8, d9⟩
  subst d8
  subst d9
  obtain ⟨g9, h⟩ := h
  refine ⟨g9, ?_⟩
  obtain ⟨g9, h⟩ := h
  refine ⟨g9, ?_⟩
  obtain ⟨v9, e9, h⟩ := h
  intro x9 d9
  have c9 : v9 = x9 := e9.trans d9.symm
  subst c9
  obtain ⟨g9, h⟩ := h
  refine ⟨g9, ?_⟩
  obtain ⟨p9, q9, z9, h⟩ := h
  refine ⟨_, vw_here z9, ?_⟩
  rintro p8 q8 ⟨d8, d9⟩
  subst d8
  subst d9
  obtain ⟨g9, h⟩ := h
  refine ⟨g9, ?_⟩
  obtain ⟨g9, h⟩ := h
  refine ⟨g9, ?_⟩
  obtain ⟨v9, e9, h⟩ := h
  intro x9 d9
  have c9 : v9 = x9 := e9.trans d9.symm
  subst c9
  obtain ⟨g9, h⟩ := h
  refine ⟨g9, ?_⟩
  obtain ⟨p9, q9, z9, h⟩ := h
  refine ⟨_, vw_here z9, ?_⟩
  rintro p8 q8 ⟨d8, d9⟩
  subst d8
  subst d9
  obtain ⟨g9, h⟩ := h
  refine ⟨g9, ?_⟩
  obtain ⟨g9, h⟩ := h
  refine ⟨g9, ?_⟩
  obtain ⟨v9, e9, h⟩ := h
  intro x9 d9
  have c9 : v9 = x9 := e9.trans d9.symm
  subst c9
  obtain ⟨g9, h⟩ := h
  refine ⟨g9, ?_⟩
  obtain ⟨g9, h⟩ := h
  refine ⟨g9, ?_⟩
  obtain ⟨v9, e9, h⟩ := h
  intro x9 d9
  have c9 : v9 = x9 := e9.trans d9.symm
  subst c9
  obtain ⟨v9, e9, h⟩ := h
  intro x9 d9
  have c9 : v9 = x9 := e9.trans d9.symm
  subst c9
  exact h.symm
set_option maxRecDepth 100000 in
theorem vz_draftCatch {S : MS} {x1 : Int32} {uo : MS} {Q : MS → Prop} (h : v_draftCatch S x1 uo) (w : w_draftCatch S x1 Q) : Q uo := by
  unfold v_draftCatch at h
  unfold w_draftCatch at w
  replace h := h.2
  replace w := w.2
  obtain ⟨p9, q9, z9, h⟩ := h
  obtain ⟨Q9, w0, w⟩ := w
  replace w := w p9 q9 (vz_here z9 w0)
  replace h := h.2
  replace w := w.2
  replace h := h.2
  replace w := w.2
  obtain ⟨v9, e9, h⟩ := h
  replace w := w v9 e9
  replace h := h.2
  replace w := w.2
  obtain ⟨p9, q9, z9, h⟩ := h
  obtain ⟨Q9, w0, w⟩ := w
  replace w := w p9 q9 (vz_here z9 w0)
  replace h := h.2
  replace w := w.2
  replace h := h.2
  replace w := w.2
  obtain ⟨v9, e9, h⟩ := h
  replace w := w v9 e9
  replace h := h.2
  replace w := w.2
  obtain ⟨p9, q9, z9, h⟩ := h
  obtain ⟨Q9, w0, w⟩ := w
  replace w := w p9 q9 (vz_here z9 w0)
  replace h := h.2
  replace w := w.2
  replace h := h.2
  replace w := w.2
  obtain ⟨v9, e9, h⟩ := h
  replace w := w v9 e9
  replace h := h.2
  replace w := w.2
  replace h := h.2
  replace w := w.2
  obtain ⟨v9, e9, h⟩ := h
  replace w := w v9 e9
  obtain ⟨v9, e9, h⟩ := h
  replace w := w v9 e9
  rw [h]
  exact w
def v_draftRow (S : MS) (x1 : Int32) (x2 : Int32) (x3 : Int32) (uo : MS) : Prop := (((0 : Int) ≤ ((3 : Int32) * (qI S 0 122)).toInt ∧ ((3 : Int32) * (qI S 0 122)).toInt < 87000) ∧ (∃ S3 : MS, S3 = wI S 74 ((((3 : Int32) * (qI S 0 122)).toInt).toNat) x1 ∧ (((0 : Int) ≤ (((3 : Int32) * (qI S3 0 122)) + (1 : Int32)).toInt ∧ (((3 : Int32) * (qI S3 0 122)) + (1 : Int32)).toInt < 87000) ∧ (∃ S7 : MS, S7 = wI S3 74 (((((3 : Int32) * (qI S3 0 122)) + (1 : Int32)).toInt).toNat) x2 ∧ (((0 : Int) ≤ (((3 : Int32) * (qI S7 0 122)) + (2 : Int32)).toInt ∧ (((3 : Int32) * (qI S7 0 122)) + (2 : Int32)).toInt < 87000) ∧ (∃ S11 : MS, S11 = wI S7 74 (((((3 : Int32) * (qI S7 0 122)) + (2 : Int32)).toInt).toNat) x3 ∧ (∃ S13 : MS, S13 = wI S11 0 122 ((qI S11 0 122) + (1 : Int32)) ∧ (uo = S13))))))))
set_option maxRecDepth 100000 in
theorem ru_draftRow {S : MS} {x1 : Int32} {x2 : Int32} {x3 : Int32} {Q : MS → Prop} (h : w_draftRow S x1 x2 x3 Q) : ∃ uo, v_draftRow S x1 x2 x3 uo ∧ Q uo := by
  have i0 : Unit := ()
  have K : ∀ (i : Unit) (uo : MS), v_draftRow S x1 x2 x3 uo → v_draftRow S x1 x2 x3 uo := fun _ _ z => z
  unfold w_draftRow at h
  obtain ⟨g1_, h⟩ := h
  replace K := fun i uo z => K i uo ⟨g1_, z⟩
  obtain ⟨S3, eS3⟩ : ∃ x9 : MS, x9 = wI S 74 ((((3 : Int32) * (qI S 0 122)).toInt).toNat) x1 := ⟨_, rfl⟩
  replace h := h S3 eS3
  replace K := fun i uo z => K i uo ⟨S3, eS3, z⟩
  obtain ⟨g2_, h⟩ := h
  replace K := fun i uo z => K i uo ⟨g2_, z⟩
  obtain ⟨S7, eS7⟩ : ∃ x9 : MS, x9 = wI S3 74 (((((3 : Int32) * (qI S3 0 122)) + (1 : Int32)).toInt).toNat) x2 := ⟨_, rfl⟩
  replace h := h S7 eS7
  replace K := fun i uo z => K i uo ⟨S7, eS7, z⟩
  obtain ⟨g3_, h⟩ := h
  replace K := fun i uo z => K i uo ⟨g3_, z⟩
  obtain ⟨S11, eS11⟩ : ∃ x9 : MS, x9 = wI S7 74 (((((3 : Int32) * (qI S7 0 122)) + (2 : Int32)).toInt).toNat) x3 := ⟨_, rfl⟩
  replace h := h S11 eS11
  replace K := fun i uo z => K i uo ⟨S11, eS11, z⟩
  obtain ⟨S13, eS13⟩ : ∃ x9 : MS, x9 = wI S11 0 122 ((qI S11 0 122) + (1 : Int32)) := ⟨_, rfl⟩
  replace h := h S13 eS13
  replace K := fun i uo z => K i uo ⟨S13, eS13, z⟩
  exact ⟨_, K i0 _ rfl, h⟩
set_option maxRecDepth 100000 in
theorem vw_draftRow {S : MS} {x1 : Int32} {x2 : Int32} {x3 : Int32} {uo : MS} (h : v_draftRow S x1 x2 x3 uo) : w_draftRow S x1 x2 x3 (fun u => u = uo) := by
  unfold v_draftRow at h
  unfold w_draftRow
  obtain ⟨g9, h⟩ := h
  refine ⟨g9, ?_⟩
  obtain ⟨v9, e9, h⟩ := h
  intro x9 d9
  have c9 : v9 = x9 := e9.trans d9.symm
  subst c9
  obtain ⟨g9, h⟩ := h
  refine ⟨g9, ?_⟩
  obtain ⟨v9, e9, h⟩ := h
  intro x9 d9
  have c9 : v9 = x9 := e9.trans d9.symm
  subst c9
  obtain ⟨g9, h⟩ := h
  refine ⟨g9, ?_⟩
  obtain ⟨v9, e9, h⟩ := h
  intro x9 d9
  have c9 : v9 = x9 := e9.trans d9.symm
  subst c9
  obtain ⟨v9, e9, h⟩ := h
  intro x9 d9
  have c9 : v9 = x9 := e9.trans d9.symm
  subst c9
  exact h.symm
set_option maxRecDepth 100000 in
theorem vz_draftRow {S : MS} {x1 : Int32} {x2 : Int32} {x3 : Int32} {uo : MS} {Q : MS → Prop} (h : v_draftRow S x1 x2 x3 uo) (w : w_draftRow S x1 x2 x3 Q) : Q uo := by
  unfold v_draftRow at h
  unfold w_draftRow at w
  replace h := h.2
  replace w := w.2
  obtain ⟨v9, e9, h⟩ := h
  replace w := w v9 e9
  replace h := h.2
  replace w := w.2
  obtain ⟨v9, e9, h⟩ := h
  replace w := w v9 e9
  replace h := h.2
  replace w := w.2
  obtain ⟨v9, e9, h⟩ := h
  replace w := w v9 e9
  obtain ⟨v9, e9, h⟩ := h
  replace w := w v9 e9
  rw [h]
  exact w
def v_putMethod_J285 (uo : MS) (k260 : MS → Int32 → Int32 → Prop) (U285 : MS) (v285_1 : Int32) (v285_5 : Int32) : Prop := (∃ a32 : Int32, a32 = (v285_5 + Int32.ofInt 1) ∧ (k260 U285 v285_1 a32))
def v_putMethod_J238 (uo : MS) (k206 : MS → Int32 → Int32 → Prop) (U238 : MS) (v238_1 : Int32) (v238_5 : Int32) : Prop := (∃ a39 : Int32, a39 = (v238_5 + Int32.ofInt 1) ∧ (k206 U238 v238_1 a39))
def v_putMethod_J167 (uo : MS) (k21 : MS → Int32 → Int32 → Int32 → Int32 → Int32 → Prop) (U167 : MS) (v167_1 : Int32) (v167_2 : Int32) (v167_3 : Int32) (v167_4 : Int32) (v167_5 : Int32) : Prop := (∃ a51 : Int32, a51 = (v167_5 + Int32.ofInt 1) ∧ (k21 U167 v167_1 v167_2 v167_3 v167_4 a51))
def v_putMethod_J131 (uo : MS) (k21 : MS → Int32 → Int32 → Int32 → Int32 → Int32 → Prop) (U131 : MS) (v131_1 : Int32) (v131_2 : Int32) (v131_3 : Int32) (v131_4 : Int32) (v131_5 : Int32) : Prop := (((0 : Int) ≤ v131_5.toInt ∧ v131_5.toInt < 1200) ∧ (∃ S54 : MS, S54 = wI U131 92 v131_5.toInt.toNat (qI U131 0 122) ∧ (((0 : Int) ≤ v131_5.toInt ∧ v131_5.toInt < 1200) ∧ (((0 : Int) ≤ v131_5.toInt ∧ v131_5.toInt < 1200) ∧ (((0 : Int) ≤ v131_5.toInt ∧ v131_5.toInt < 1200) ∧ (∃ (S62 : MS), v_draftRow S54 (qI S54 78 v131_5.toInt.toNat) (qI S54 79 v131_5.toInt.toNat) (qI S54 80 v131_5.toInt.toNat) S62 ∧ (v_putMethod_J167 uo k21 S62 v131_1 v131_2 v131_3 v131_4 v131_5)))))))
def v_putMethod_L260 (uo : MS) : Nat → MS → Int32 → Int32 → Prop
  | 0, _, _, _ => False
  | n260 + 1, U260, v260_1, v260_5 => (((qI U260 0 135).toInt ≤ v260_5.toInt ∧ ((qR U260 60 17 = some (qO U260 60 17)) ∧ ((qR U260 60 16 = some (qO U260 60 16)) ∧ (((0 : Int) ≤ v260_1.toInt ∧ v260_1.toInt < (qN U260 (qO U260 60 16) : Int)) ∧ (((0 : Int) ≤ v260_1.toInt ∧ v260_1.toInt < (qN U260 (qO U260 60 17) : Int)) ∧ (∃ S29 : MS, S29 = wI U260 (qO U260 60 17) v260_1.toInt.toNat ((qI U260 0 123) - (qI U260 (qO U260 60 16) v260_1.toInt.toNat)) ∧ (uo = S29))))))) ∨ (¬ (qI U260 0 135).toInt ≤ v260_5.toInt ∧ (((0 : Int) ≤ v260_5.toInt ∧ v260_5.toInt < 16) ∧ (((qI U260 86 v260_5.toInt.toNat).toInt = 0 ∧ (∃ (S35 : MS), v_draftCatch U260 v260_5 S35 ∧ (v_putMethod_J285 uo (v_putMethod_L260 uo n260) S35 v260_1 v260_5))) ∨ (¬ (qI U260 86 v260_5.toInt.toNat).toInt = 0 ∧ (v_putMethod_J285 uo (v_putMethod_L260 uo n260) U260 v260_1 v260_5))))))
def v_putMethod_L206 (uo : MS) : Nat → MS → Int32 → Int32 → Prop
  | 0, _, _, _ => False
  | n206 + 1, U206, v206_1, v206_5 => (((qI U206 0 129).toInt ≤ v206_5.toInt ∧ ((qR U206 60 16 = some (qO U206 60 16)) ∧ (((0 : Int) ≤ v206_1.toInt ∧ v206_1.toInt < (qN U206 (qO U206 60 16) : Int)) ∧ (∃ S19 : MS, S19 = wI U206 (qO U206 60 16) v206_1.toInt.toNat (qI U206 0 123) ∧ (∃ n, v_putMethod_L260 uo n S19 v206_1 0))))) ∨ (¬ (qI U206 0 129).toInt ≤ v206_5.toInt ∧ (((0 : Int) ≤ v206_5.toInt ∧ v206_5.toInt < 1200) ∧ (((qI U206 81 v206_5.toInt.toNat).toInt = 0 ∧ (((0 : Int) ≤ v206_5.toInt ∧ v206_5.toInt < 1200) ∧ (∃ (S44 : MS), v_aimRow U206 v206_5 (qI U206 92 v206_5.toInt.toNat) S44 ∧ (v_putMethod_J238 uo (v_putMethod_L206 uo n206) S44 v206_1 v206_5)))) ∨ (¬ (qI U206 81 v206_5.toInt.toNat).toInt = 0 ∧ (v_putMethod_J238 uo (v_putMethod_L206 uo n206) U206 v206_1 v206_5))))))
def v_putMethod_L21 (uo : MS) : Nat → MS → Int32 → Int32 → Int32 → Int32 → Int32 → Prop
  | 0, _, _, _, _, _, _ => False
  | n21 + 1, U21, v21_1, v21_2, v21_3, v21_4, v21_5 => (((qI U21 0 129).toInt ≤ v21_5.toInt ∧ (((0 : Int) ≤ (qI U21 0 129).toInt ∧ (qI U21 0 129).toInt < 1201) ∧ (∃ S9 : MS, S9 = wI U21 91 (((qI U21 0 129).toInt).toNat) ((qI U21 0 122) - v21_3) ∧ ((qR S9 60 15 = some (qO S9 60 15)) ∧ (((0 : Int) ≤ v21_1.toInt ∧ v21_1.toInt < (qN S9 (qO S9 60 15) : Int)) ∧ (∃ S14 : MS, S14 = wI S9 (qO S9 60 15) v21_1.toInt.toNat ((qI S9 0 122) - v21_3) ∧ (∃ n, v_putMethod_L206 uo n S14 v21_1 0))))))) ∨ (¬ (qI U21 0 129).toInt ≤ v21_5.toInt ∧ (((0 : Int) ≤ v21_5.toInt ∧ v21_5.toInt < 1201) ∧ (∃ S48 : MS, S48 = wI U21 91 v21_5.toInt.toNat ((qI U21 0 122) - v21_3) ∧ (((0 : Int) ≤ v21_5.toInt ∧ v21_5.toInt < 1200) ∧ (((qI S48 81 v21_5.toInt.toNat).toInt = 0 ∧ ((v21_2.toInt < 0 ∧ (v_putMethod_J131 uo (v_putMethod_L21 uo n21) S48 v21_1 v21_2 v21_3 v21_4 v21_5)) ∨ (¬ v21_2.toInt < 0 ∧ (((0 : Int) ≤ v21_5.toInt ∧ v21_5.toInt < 1201) ∧ (((0 : Int) ≤ (qI S48 50 v21_5.toInt.toNat).toInt ∧ (qI S48 50 v21_5.toInt.toNat).toInt < 1201) ∧ (((qI S48 49 (((qI S48 50 v21_5.toInt.toNat).toInt).toNat)).toInt = v21_5.toInt ∧ (((0 : Int) ≤ v21_5.toInt ∧ v21_5.toInt < 1201) ∧ (((0 : Int) ≤ (qI S48 50 v21_5.toInt.toNat).toInt ∧ (qI S48 50 v21_5.toInt.toNat).toInt < 1200) ∧ (((qI S48 53 (((qI S48 50 v21_5.toInt.toNat).toInt).toNat)).toInt = 0 ∧ (v_putMethod_J131 uo (v_putMethod_L21 uo n21) S48 v21_1 v21_2 v21_3 v21_4 v21_5)) ∨ (¬ (qI S48 53 (((qI S48 50 v21_5.toInt.toNat).toInt).toNat)).toInt = 0 ∧ (∃ (S76 : MS), v_draftRow S48 (178 : Int32) v21_4 (0 : Int32) S76 ∧ (∃ (S79 : MS), v_draftRow S76 (20 : Int32) (0 : Int32) (1 : Int32) S79 ∧ (∃ (S82 : MS), v_draftRow S79 (97 : Int32) (0 : Int32) (0 : Int32) S82 ∧ (∃ (S85 : MS), v_draftRow S82 (179 : Int32) v21_4 (0 : Int32) S85 ∧ (∃ a87 : Int32, a87 = (v21_4 + Int32.ofInt 1) ∧ (v_putMethod_J131 uo (v_putMethod_L21 uo n21) S85 v21_1 v21_2 v21_3 a87 v21_5))))))))))) ∨ (¬ (qI S48 49 (((qI S48 50 v21_5.toInt.toNat).toInt).toNat)).toInt = v21_5.toInt ∧ (v_putMethod_J131 uo (v_putMethod_L21 uo n21) S48 v21_1 v21_2 v21_3 v21_4 v21_5)))))))) ∨ (¬ (qI S48 81 v21_5.toInt.toNat).toInt = 0 ∧ (v_putMethod_J167 uo (v_putMethod_L21 uo n21) S48 v21_1 v21_2 v21_3 v21_4 v21_5))))))))
def v_putMethod (S : MS) (x1 : Int32) (x2 : Int32) (uo : MS) : Prop := (∃ a1 : Int32, a1 = (qI S 0 122) ∧ ((qR S 60 14 = some (qO S 60 14)) ∧ (((0 : Int) ≤ x1.toInt ∧ x1.toInt < (qN S (qO S 60 14) : Int)) ∧ (∃ S5 : MS, S5 = wI S (qO S 60 14) x1.toInt.toNat a1 ∧ (∃ n, v_putMethod_L21 uo n S5 x1 x2 a1 x2 0)))))
set_option maxRecDepth 100000 in
theorem ru_putMethod_J285 {ι : Type} {P : MS → Prop} {Q : MS → Prop} {k260 : MS → Int32 → Int32 → Prop} {k260v : ι → MS → MS → Int32 → Int32 → Prop} {U285 : MS} {v285_1 : Int32} {v285_5 : Int32} (i0 : ι) (hk260 : ∀ (u : MS) (z0 : Int32) (z1 : Int32), k260 u z0 z1 → (∀ (i : ι) (uo : MS), k260v i uo u z0 z1 → P uo) → ∃ uo, P uo ∧ Q uo) (K : ∀ (i : ι) (uo : MS), v_putMethod_J285 uo (k260v i uo) U285 v285_1 v285_5 → P uo) (h : w_putMethod_J285 Q k260 U285 v285_1 v285_5) : ∃ uo, P uo ∧ Q uo := by
  unfold w_putMethod_J285 at h
  obtain ⟨a32, ea32⟩ : ∃ x9 : Int32, x9 = (v285_5 + Int32.ofInt 1) := ⟨_, rfl⟩
  replace h := h a32 ea32
  replace K := fun i uo z => K i uo ⟨a32, ea32, z⟩
  exact hk260 _ _ _ h K
set_option maxRecDepth 100000 in
theorem ru_putMethod_J238 {ι : Type} {P : MS → Prop} {Q : MS → Prop} {k206 : MS → Int32 → Int32 → Prop} {k206v : ι → MS → MS → Int32 → Int32 → Prop} {U238 : MS} {v238_1 : Int32} {v238_5 : Int32} (i0 : ι) (hk206 : ∀ (u : MS) (z0 : Int32) (z1 : Int32), k206 u z0 z1 → (∀ (i : ι) (uo : MS), k206v i uo u z0 z1 → P uo) → ∃ uo, P uo ∧ Q uo) (K : ∀ (i : ι) (uo : MS), v_putMethod_J238 uo (k206v i uo) U238 v238_1 v238_5 → P uo) (h : w_putMethod_J238 Q k206 U238 v238_1 v238_5) : ∃ uo, P uo ∧ Q uo := by
  unfold w_putMethod_J238 at h
  obtain ⟨a39, ea39⟩ : ∃ x9 : Int32, x9 = (v238_5 + Int32.ofInt 1) := ⟨_, rfl⟩
  replace h := h a39 ea39
  replace K := fun i uo z => K i uo ⟨a39, ea39, z⟩
  exact hk206 _ _ _ h K
set_option maxRecDepth 100000 in
theorem ru_putMethod_J167 {ι : Type} {P : MS → Prop} {Q : MS → Prop} {k21 : MS → Int32 → Int32 → Int32 → Int32 → Int32 → Prop} {k21v : ι → MS → MS → Int32 → Int32 → Int32 → Int32 → Int32 → Prop} {U167 : MS} {v167_1 : Int32} {v167_2 : Int32} {v167_3 : Int32} {v167_4 : Int32} {v167_5 : Int32} (i0 : ι) (hk21 : ∀ (u : MS) (z0 : Int32) (z1 : Int32) (z2 : Int32) (z3 : Int32) (z4 : Int32), k21 u z0 z1 z2 z3 z4 → (∀ (i : ι) (uo : MS), k21v i uo u z0 z1 z2 z3 z4 → P uo) → ∃ uo, P uo ∧ Q uo) (K : ∀ (i : ι) (uo : MS), v_putMethod_J167 uo (k21v i uo) U167 v167_1 v167_2 v167_3 v167_4 v167_5 → P uo) (h : w_putMethod_J167 Q k21 U167 v167_1 v167_2 v167_3 v167_4 v167_5) : ∃ uo, P uo ∧ Q uo := by
  unfold w_putMethod_J167 at h
  obtain ⟨a51, ea51⟩ : ∃ x9 : Int32, x9 = (v167_5 + Int32.ofInt 1) := ⟨_, rfl⟩
  replace h := h a51 ea51
  replace K := fun i uo z => K i uo ⟨a51, ea51, z⟩
  exact hk21 _ _ _ _ _ _ h K
set_option maxRecDepth 100000 in
theorem ru_putMethod_J131 {ι : Type} {P : MS → Prop} {Q : MS → Prop} {k21 : MS → Int32 → Int32 → Int32 → Int32 → Int32 → Prop} {k21v : ι → MS → MS → Int32 → Int32 → Int32 → Int32 → Int32 → Prop} {U131 : MS} {v131_1 : Int32} {v131_2 : Int32} {v131_3 : Int32} {v131_4 : Int32} {v131_5 : Int32} (i0 : ι) (hk21 : ∀ (u : MS) (z0 : Int32) (z1 : Int32) (z2 : Int32) (z3 : Int32) (z4 : Int32), k21 u z0 z1 z2 z3 z4 → (∀ (i : ι) (uo : MS), k21v i uo u z0 z1 z2 z3 z4 → P uo) → ∃ uo, P uo ∧ Q uo) (K : ∀ (i : ι) (uo : MS), v_putMethod_J131 uo (k21v i uo) U131 v131_1 v131_2 v131_3 v131_4 v131_5 → P uo) (h : w_putMethod_J131 Q k21 U131 v131_1 v131_2 v131_3 v131_4 v131_5) : ∃ uo, P uo ∧ Q uo := by
  unfold w_putMethod_J131 at h
  obtain ⟨g1_, h⟩ := h
  replace K := fun i uo z => K i uo ⟨g1_, z⟩
  obtain ⟨S54, eS54⟩ : ∃ x9 : MS, x9 = wI U131 92 v131_5.toInt.toNat (qI U131 0 122) := ⟨_, rfl⟩
  replace h := h S54 eS54
  replace K := fun i uo z => K i uo ⟨S54, eS54, z⟩
  obtain ⟨g2_, h⟩ := h
  replace K := fun i uo z => K i uo ⟨g2_, z⟩
  obtain ⟨g3_, h⟩ := h
  replace K := fun i uo z => K i uo ⟨g3_, z⟩
  obtain ⟨g4_, h⟩ := h
  replace K := fun i uo z => K i uo ⟨g4_, z⟩
  obtain ⟨Q9, h0, h⟩ := h
  obtain ⟨S62, z9, g9⟩ := ru_draftRow h0
  replace h := h S62 g9
  replace K := fun i uo z => K i uo ⟨S62, z9, z⟩
  exact ru_putMethod_J167 i0 hk21 K h
set_option maxRecDepth 100000 in
theorem ru_putMethod_L260 {ι : Type} {P : MS → Prop} {Q : MS → Prop} : ∀ (n : Nat) {U260 : MS} {v260_1 : Int32} {v260_5 : Int32} (i0 : ι), (∀ (i : ι) (uo : MS), (∃ n8, v_putMethod_L260 uo n8 U260 v260_1 v260_5) → P uo) → w_putMethod_L260 Q n U260 v260_1 v260_5 → ∃ uo, P uo ∧ Q uo := by
  intro n
  induction n with
  | zero => intro U260 v260_1 v260_5 i0 K h; unfold w_putMethod_L260 at h; exact h.elim
  | succ n ih =>
    intro U260 v260_1 v260_5 i0 K h
    unfold w_putMethod_L260 at h
    replace K := fun (i : ι × Nat) uo (z : v_putMethod_L260 uo (i.2 + 1) U260 v260_1 v260_5) => K i.1 uo ⟨i.2 + 1, z⟩
    have i00 := i0
    replace i0 : ι × Nat := (i0, 0)
    by_cases c : (qI U260 0 135).toInt ≤ v260_5.toInt
    · replace h := h.1 c
      replace K := fun i uo z => K i uo (Or.inl ⟨c, z⟩)
      obtain ⟨g5_, h⟩ := h
      replace K := fun i uo z => K i uo ⟨g5_, z⟩
      obtain ⟨g6_, h⟩ := h
      replace K := fun i uo z => K i uo ⟨g6_, z⟩
      obtain ⟨g7_, h⟩ := h
      replace K := fun i uo z => K i uo ⟨g7_, z⟩
      obtain ⟨g8_, h⟩ := h
      replace K := fun i uo z => K i uo ⟨g8_, z⟩
      obtain ⟨S29, eS29⟩ : ∃ x9 : MS, x9 = wI U260 (qO U260 60 17) v260_1.toInt.toNat ((qI U260 0 123) - (qI U260 (qO U260 60 16) v260_1.toInt.toNat)) := ⟨_, rfl⟩
      replace h := h S29 eS29
      replace K := fun i uo z => K i uo ⟨S29, eS29, z⟩
      exact ⟨_, K i0 _ rfl, h⟩
    · replace h := h.2 c
      replace K := fun i uo z => K i uo (Or.inr ⟨c, z⟩)
      obtain ⟨g9_, h⟩ := h
      replace K := fun i uo z => K i uo ⟨g9_, z⟩
      by_cases c : (qI U260 86 v260_5.toInt.toNat).toInt = 0
      · replace h := h.1 c
        replace K := fun i uo z => K i uo (Or.inl ⟨c, z⟩)
        obtain ⟨Q9, h0, h⟩ := h
        obtain ⟨S35, z9, g9⟩ := ru_draftCatch h0
        replace h := h S35 g9
        replace K := fun i uo z => K i uo ⟨S35, z9, z⟩
        exact ru_putMethod_J285 i0 (fun _ _ _ h K => ih i00 (fun i uo ⟨n8, z⟩ => K (i, n8) uo z) h) K h
      · replace h := h.2 c
        replace K := fun i uo z => K i uo (Or.inr ⟨c, z⟩)
        exact ru_putMethod_J285 i0 (fun _ _ _ h K => ih i00 (fun i uo ⟨n8, z⟩ => K (i, n8) uo z) h) K h
set_option maxRecDepth 100000 in
theorem ru_putMethod_L206 {ι : Type} {P : MS → Prop} {Q : MS → Prop} : ∀ (n : Nat) {U206 : MS} {v206_1 : Int32} {v206_5 : Int32} (i0 : ι), (∀ (i : ι) (uo : MS), (∃ n8, v_putMethod_L206 uo n8 U206 v206_1 v206_5) → P uo) → w_putMethod_L206 Q n U206 v206_1 v206_5 → ∃ uo, P uo ∧ Q uo := by
  intro n
  induction n with
  | zero => intro U206 v206_1 v206_5 i0 K h; unfold w_putMethod_L206 at h; exact h.elim
  | succ n ih =>
    intro U206 v206_1 v206_5 i0 K h
    unfold w_putMethod_L206 at h
    replace K := fun (i : ι × Nat) uo (z : v_putMethod_L206 uo (i.2 + 1) U206 v206_1 v206_5) => K i.1 uo ⟨i.2 + 1, z⟩
    have i00 := i0
    replace i0 : ι × Nat := (i0, 0)
    by_cases c : (qI U206 0 129).toInt ≤ v206_5.toInt
    · replace h := h.1 c
      replace K := fun i uo z => K i uo (Or.inl ⟨c, z⟩)
      obtain ⟨g10_, h⟩ := h
      replace K := fun i uo z => K i uo ⟨g10_, z⟩
      obtain ⟨g11_, h⟩ := h
      replace K := fun i uo z => K i uo ⟨g11_, z⟩
      obtain ⟨S19, eS19⟩ : ∃ x9 : MS, x9 = wI U206 (qO U206 60 16) v206_1.toInt.toNat (qI U206 0 123) := ⟨_, rfl⟩
      replace h := h S19 eS19
      replace K := fun i uo z => K i uo ⟨S19, eS19, z⟩
      obtain ⟨n9, h⟩ := h
      exact ru_putMethod_L260 n9 i0 K h
    · replace h := h.2 c
      replace K := fun i uo z => K i uo (Or.inr ⟨c, z⟩)
      obtain ⟨g12_, h⟩ := h
      replace K := fun i uo z => K i uo ⟨g12_, z⟩
      by_cases c : (qI U206 81 v206_5.toInt.toNat).toInt = 0
      · replace h := h.1 c
        replace K := fun i uo z => K i uo (Or.inl ⟨c, z⟩)
        obtain ⟨g13_, h⟩ := h
        replace K := fun i uo z => K i uo ⟨g13_, z⟩
        obtain ⟨Q9, h0, h⟩ := h
        obtain ⟨S44, z9, g9⟩ := ru_aimRow h0
        replace h := h S44 g9
        replace K := fun i uo z => K i uo ⟨S44, z9, z⟩
        exact ru_putMethod_J238 i0 (fun _ _ _ h K => ih i00 (fun i uo ⟨n8, z⟩ => K (i, n8) uo z) h) K h
      · replace h := h.2 c
        replace K := fun i uo z => K i uo (Or.inr ⟨c, z⟩)
        exact ru_putMethod_J238 i0 (fun _ _ _ h K => ih i00 (fun i uo ⟨n8, z⟩ => K (i, n8) uo z) h) K h
set_option maxRecDepth 100000 in
theorem ru_putMethod_L21 {ι : Type} {P : MS → Prop} {Q : MS → Prop} : ∀ (n : Nat) {U21 : MS} {v21_1 : Int32} {v21_2 : Int32} {v21_3 : Int32} {v21_4 : Int32} {v21_5 : Int32} (i0 : ι), (∀ (i : ι) (uo : MS), (∃ n8, v_putMethod_L21 uo n8 U21 v21_1 v21_2 v21_3 v21_4 v21_5) → P uo) → w_putMethod_L21 Q n U21 v21_1 v21_2 v21_3 v21_4 v21_5 → ∃ uo, P uo ∧ Q uo := by
  intro n
  induction n with
  | zero => intro U21 v21_1 v21_2 v21_3 v21_4 v21_5 i0 K h; unfold w_putMethod_L21 at h; exact h.elim
  | succ n ih =>
    intro U21 v21_1 v21_2 v21_3 v21_4 v21_5 i0 K h
    unfold w_putMethod_L21 at h
    replace K := fun (i : ι × Nat) uo (z : v_putMethod_L21 uo (i.2 + 1) U21 v21_1 v21_2 v21_3 v21_4 v21_5) => K i.1 uo ⟨i.2 + 1, z⟩
    have i00 := i0
    replace i0 : ι × Nat := (i0, 0)
    by_cases c : (qI U21 0 129).toInt ≤ v21_5.toInt
    · replace h := h.1 c
      replace K := fun i uo z => K i uo (Or.inl ⟨c, z⟩)
      obtain ⟨g14_, h⟩ := h
      replace K := fun i uo z => K i uo ⟨g14_, z⟩
      obtain ⟨S9, eS9⟩ : ∃ x9 : MS, x9 = wI U21 91 (((qI U21 0 129).toInt).toNat) ((qI U21 0 122) - v21_3) := ⟨_, rfl⟩
      replace h := h S9 eS9
      replace K := fun i uo z => K i uo ⟨S9, eS9, z⟩
      obtain ⟨g15_, h⟩ := h
      replace K := fun i uo z => K i uo ⟨g15_, z⟩
      obtain ⟨g16_, h⟩ := h
      replace K := fun i uo z => K i uo ⟨g16_, z⟩
      obtain ⟨S14, eS14⟩ : ∃ x9 : MS, x9 = wI S9 (qO S9 60 15) v21_1.toInt.toNat ((qI S9 0 122) - v21_3) := ⟨_, rfl⟩
      replace h := h S14 eS14
      replace K := fun i uo z => K i uo ⟨S14, eS14, z⟩
      obtain ⟨n9, h⟩ := h
      exact ru_putMethod_L206 n9 i0 K h
    · replace h := h.2 c
      replace K := fun i uo z => K i uo (Or.inr ⟨c, z⟩)
      obtain ⟨g17_, h⟩ := h
      replace K := fun i uo z => K i uo ⟨g17_, z⟩
      obtain ⟨S48, eS48⟩ : ∃ x9 : MS, x9 = wI U21 91 v21_5.toInt.toNat ((qI U21 0 122) - v21_3) := ⟨_, rfl⟩
      replace h := h S48 eS48
      replace K := fun i uo z => K i uo ⟨S48, eS48, z⟩
      obtain ⟨g18_, h⟩ := h
      replace K := fun i uo z => K i uo ⟨g18_, z⟩
      by_cases c : (qI S48 81 v21_5.toInt.toNat).toInt = 0
      · replace h := h.1 c
        replace K := fun i uo z => K i uo (Or.inl ⟨c, z⟩)
        by_cases c : v21_2.toInt < 0
        · replace h := h.1 c
          replace K := fun i uo z => K i uo (Or.inl ⟨c, z⟩)
          exact ru_putMethod_J131 i0 (fun _ _ _ _ _ _ h K => ih i00 (fun i uo ⟨n8, z⟩ => K (i, n8) uo z) h) K h
        · replace h := h.2 c
          replace K := fun i uo z => K i uo (Or.inr ⟨c, z⟩)
          obtain ⟨g19_, h⟩ := h
          replace K := fun i uo z => K i uo ⟨g19_, z⟩
          obtain ⟨g20_, h⟩ := h
          replace K := fun i uo z => K i uo ⟨g20_, z⟩
          by_cases c : (qI S48 49 (((qI S48 50 v21_5.toInt.toNat).toInt).toNat)).toInt = v21_5.toInt
          · replace h := h.1 c
            replace K := fun i uo z => K i uo (Or.inl ⟨c, z⟩)
            obtain ⟨g21_, h⟩ := h
            replace K := fun i uo z => K i uo ⟨g21_, z⟩
            obtain ⟨g22_, h⟩ := h
            replace K := fun i uo z => K i uo ⟨g22_, z⟩
            by_cases c : (qI S48 53 (((qI S48 50 v21_5.toInt.toNat).toInt).toNat)).toInt = 0
            · replace h := h.1 c
              replace K := fun i uo z => K i uo (Or.inl ⟨c, z⟩)
              exact ru_putMethod_J131 i0 (fun _ _ _ _ _ _ h K => ih i00 (fun i uo ⟨n8, z⟩ => K (i, n8) uo z) h) K h
            · replace h := h.2 c
              replace K := fun i uo z => K i uo (Or.inr ⟨c, z⟩)
              obtain ⟨Q9, h0, h⟩ := h
              obtain ⟨S76, z9, g9⟩ := ru_draftRow h0
              replace h := h S76 g9
              replace K := fun i uo z => K i uo ⟨S76, z9, z⟩
              obtain ⟨Q9, h0, h⟩ := h
              obtain ⟨S79, z9, g9⟩ := ru_draftRow h0
              replace h := h S79 g9
              replace K := fun i uo z => K i uo ⟨S79, z9, z⟩
              obtain ⟨Q9, h0, h⟩ := h
              obtain ⟨S82, z9, g9⟩ := ru_draftRow h0
              replace h := h S82 g9
              replace K := fun i uo z => K i uo ⟨S82, z9, z⟩
              obtain ⟨Q9, h0, h⟩ := h
              obtain ⟨S85, z9, g9⟩ := ru_draftRow h0
              replace h := h S85 g9
              replace K := fun i uo z => K i uo ⟨S85, z9, z⟩
              obtain ⟨a87, ea87⟩ : ∃ x9 : Int32, x9 = (v21_4 + Int32.ofInt 1) := ⟨_, rfl⟩
              replace h := h a87 ea87
              replace K := fun i uo z => K i uo ⟨a87, ea87, z⟩
              exact ru_putMethod_J131 i0 (fun _ _ _ _ _ _ h K => ih i00 (fun i uo ⟨n8, z⟩ => K (i, n8) uo z) h) K h
          · replace h := h.2 c
            replace K := fun i uo z => K i uo (Or.inr ⟨c, z⟩)
            exact ru_putMethod_J131 i0 (fun _ _ _ _ _ _ h K => ih i00 (fun i uo ⟨n8, z⟩ => K (i, n8) uo z) h) K h
      · replace h := h.2 c
        replace K := fun i uo z => K i uo (Or.inr ⟨c, z⟩)
        exact ru_putMethod_J167 i0 (fun _ _ _ _ _ _ h K => ih i00 (fun i uo ⟨n8, z⟩ => K (i, n8) uo z) h) K h
set_option maxRecDepth 100000 in
theorem ru_putMethod {S : MS} {x1 : Int32} {x2 : Int32} {Q : MS → Prop} (h : w_putMethod S x1 x2 Q) : ∃ uo, v_putMethod S x1 x2 uo ∧ Q uo := by
  have i0 : Unit := ()
  have K : ∀ (i : Unit) (uo : MS), v_putMethod S x1 x2 uo → v_putMethod S x1 x2 uo := fun _ _ z => z
  unfold w_putMethod at h
  obtain ⟨a1, ea1⟩ : ∃ x9 : Int32, x9 = (qI S 0 122) := ⟨_, rfl⟩
  replace h := h a1 ea1
  replace K := fun i uo z => K i uo ⟨a1, ea1, z⟩
  obtain ⟨g23_, h⟩ := h
  replace K := fun i uo z => K i uo ⟨g23_, z⟩
  obtain ⟨g24_, h⟩ := h
  replace K := fun i uo z => K i uo ⟨g24_, z⟩
  obtain ⟨S5, eS5⟩ : ∃ x9 : MS, x9 = wI S (qO S 60 14) x1.toInt.toNat a1 := ⟨_, rfl⟩
  replace h := h S5 eS5
  replace K := fun i uo z => K i uo ⟨S5, eS5, z⟩
  obtain ⟨n9, h⟩ := h
  exact ru_putMethod_L21 n9 i0 K h
set_option maxRecDepth 100000 in
theorem vw_putMethod_J285 {uo : MS} {k260 k260v : MS → Int32 → Int32 → Prop} {U285 : MS} {v285_1 : Int32} {v285_5 : Int32} (hk260 : ∀ (u : MS) (z0 : Int32) (z1 : Int32), k260v u z0 z1 → k260 u z0 z1) (h : v_putMethod_J285 uo k260v U285 v285_1 v285_5) : w_putMethod_J285 (fun u => u = uo) k260 U285 v285_1 v285_5 := by
  unfold v_putMethod_J285 at h
  unfold w_putMethod_J285
  obtain ⟨v9, e9, h⟩ := h
  intro x9 d9
  have c9 : v9 = x9 := e9.trans d9.symm
  subst c9
  exact hk260 _ _ _ h
set_option maxRecDepth 100000 in
theorem vz_putMethod_J285 {uo : MS} {Q : MS → Prop} {k260 k260v : MS → Int32 → Int32 → Prop} {U285 : MS} {v285_1 : Int32} {v285_5 : Int32} (hk260 : ∀ (u : MS) (z0 : Int32) (z1 : Int32), k260v u z0 z1 → k260 u z0 z1 → Q uo) (h : v_putMethod_J285 uo k260v U285 v285_1 v285_5) (w : w_putMethod_J285 Q k260 U285 v285_1 v285_5) : Q uo := by
  unfold v_putMethod_J285 at h
  unfold w_putMethod_J285 at w
  obtain ⟨v9, e9, h⟩ := h
  replace w := w v9 e9
  exact hk260 _ _ _ h w
set_option maxRecDepth 100000 in
theorem vw_putMethod_J238 {uo : MS} {k206 k206v : MS → Int32 → Int32 → Prop} {U238 : MS} {v238_1 : Int32} {v238_5 : Int32} (hk206 : ∀ (u : MS) (z0 : Int32) (z1 : Int32), k206v u z0 z1 → k206 u z0 z1) (h : v_putMethod_J238 uo k206v U238 v238_1 v238_5) : w_putMethod_J238 (fun u => u = uo) k206 U238 v238_1 v238_5 := by
  unfold v_putMethod_J238 at h
  unfold w_putMethod_J238
  obtain ⟨v9, e9, h⟩ := h
  intro x9 d9
  have c9 : v9 = x9 := e9.trans d9.symm
  subst c9
  exact hk206 _ _ _ h
set_option maxRecDepth 100000 in
theorem vz_putMethod_J238 {uo : MS} {Q : MS → Prop} {k206 k206v : MS → Int32 → Int32 → Prop} {U238 : MS} {v238_1 : Int32} {v238_5 : Int32} (hk206 : ∀ (u : MS) (z0 : Int32) (z1 : Int32), k206v u z0 z1 → k206 u z0 z1 → Q uo) (h : v_putMethod_J238 uo k206v U238 v238_1 v238_5) (w : w_putMethod_J238 Q k206 U238 v238_1 v238_5) : Q uo := by
  unfold v_putMethod_J238 at h
  unfold w_putMethod_J238 at w
  obtain ⟨v9, e9, h⟩ := h
  replace w := w v9 e9
  exact hk206 _ _ _ h w
set_option maxRecDepth 100000 in
theorem vw_putMethod_J167 {uo : MS} {k21 k21v : MS → Int32 → Int32 → Int32 → Int32 → Int32 → Prop} {U167 : MS} {v167_1 : Int32} {v167_2 : Int32} {v167_3 : Int32} {v167_4 : Int32} {v167_5 : Int32} (hk21 : ∀ (u : MS) (z0 : Int32) (z1 : Int32) (z2 : Int32) (z3 : Int32) (z4 : Int32), k21v u z0 z1 z2 z3 z4 → k21 u z0 z1 z2 z3 z4) (h : v_putMethod_J167 uo k21v U167 v167_1 v167_2 v167_3 v167_4 v167_5) : w_putMethod_J167 (fun u => u = uo) k21 U167 v167_1 v167_2 v167_3 v167_4 v167_5 := by
  unfold v_putMethod_J167 at h
  unfold w_putMethod_J167
  obtain ⟨v9, e9, h⟩ := h
  intro x9 d9
  have c9 : v9 = x9 := e9.trans d9.symm
  subst c9
  exact hk21 _ _ _ _ _ _ h
set_option maxRecDepth 100000 in
theorem vz_putMethod_J167 {uo : MS} {Q : MS → Prop} {k21 k21v : MS → Int32 → Int32 → Int32 → Int32 → Int32 → Prop} {U167 : MS} {v167_1 : Int32} {v167_2 : Int32} {v167_3 : Int32} {v167_4 : Int32} {v167_5 : Int32} (hk21 : ∀ (u : MS) (z0 : Int32) (z1 : Int32) (z2 : Int32) (z3 : Int32) (z4 : Int32), k21v u z0 z1 z2 z3 z4 → k21 u z0 z1 z2 z3 z4 → Q uo) (h : v_putMethod_J167 uo k21v U167 v167_1 v167_2 v167_3 v167_4 v167_5) (w : w_putMethod_J167 Q k21 U167 v167_1 v167_2 v167_3 v167_4 v167_5) : Q uo := by
  unfold v_putMethod_J167 at h
  unfold w_putMethod_J167 at w
  obtain ⟨v9, e9, h⟩ := h
  replace w := w v9 e9
  exact hk21 _ _ _ _ _ _ h w
set_option maxRecDepth 100000 in
theorem vw_putMethod_J131 {uo : MS} {k21 k21v : MS → Int32 → Int32 → Int32 → Int32 → Int32 → Prop} {U131 : MS} {v131_1 : Int32} {v131_2 : Int32} {v131_3 : Int32} {v131_4 : Int32} {v131_5 : Int32} (hk21 : ∀ (u : MS) (z0 : Int32) (z1 : Int32) (z2 : Int32) (z3 : Int32) (z4 : Int32), k21v u z0 z1 z2 z3 z4 → k21 u z0 z1 z2 z3 z4) (h : v_putMethod_J131 uo k21v U131 v131_1 v131_2 v131_3 v131_4 v131_5) : w_putMethod_J131 (fun u => u = uo) k21 U131 v131_1 v131_2 v131_3 v131_4 v131_5 := by
  unfold v_putMethod_J131 at h
  unfold w_putMethod_J131
  obtain ⟨g9, h⟩ := h
  refine ⟨g9, ?_⟩
  obtain ⟨v9, e9, h⟩ := h
  intro x9 d9
  have c9 : v9 = x9 := e9.trans d9.symm
  subst c9
  obtain ⟨g9, h⟩ := h
  refine ⟨g9, ?_⟩
  obtain ⟨g9, h⟩ := h
  refine ⟨g9, ?_⟩
  obtain ⟨g9, h⟩ := h
  refine ⟨g9, ?_⟩
  obtain ⟨q9, z9, h⟩ := h
  refine ⟨_, vw_draftRow z9, ?_⟩
  intro q8 d9
  subst d9
  exact vw_putMethod_J167 hk21 h
set_option maxRecDepth 100000 in
theorem vz_putMethod_J131 {uo : MS} {Q : MS → Prop} {k21 k21v : MS → Int32 → Int32 → Int32 → Int32 → Int32 → Prop} {U131 : MS} {v131_1 : Int32} {v131_2 : Int32} {v131_3 : Int32} {v131_4 : Int32} {v131_5 : Int32} (hk21 : ∀ (u : MS) (z0 : Int32) (z1 : Int32) (z2 : Int32) (z3 : Int32) (z4 : Int32), k21v u z0 z1 z2 z3 z4 → k21 u z0 z1 z2 z3 z4 → Q uo) (h : v_putMethod_J131 uo k21v U131 v131_1 v131_2 v131_3 v131_4 v131_5) (w : w_putMethod_J131 Q k21 U131 v131_1 v131_2 v131_3 v131_4 v131_5) : Q uo := by
  unfold v_putMethod_J131 at h
  unfold w_putMethod_J131 at w
  replace h := h.2
  replace w := w.2
  obtain ⟨v9, e9, h⟩ := h
  replace w := w v9 e9
  replace h := h.2
  replace w := w.2
  replace h := h.2
  replace w := w.2
  replace h := h.2
  replace w := w.2
  obtain ⟨q9, z9, h⟩ := h
  obtain ⟨Q9, w0, w⟩ := w
  replace w := w q9 (vz_draftRow z9 w0)
  exact vz_putMethod_J167 hk21 h w
set_option maxRecDepth 100000 in
theorem vw_putMethod_L260 {uo : MS} : ∀ (n : Nat) {U260 : MS} {v260_1 : Int32} {v260_5 : Int32}, v_putMethod_L260 uo n U260 v260_1 v260_5 → w_putMethod_L260 (fun u => u = uo) n U260 v260_1 v260_5 := by
  intro n
  induction n with
  | zero => intro U260 v260_1 v260_5 h; unfold v_putMethod_L260 at h; exact h.elim
  | succ n ih =>
    intro U260 v260_1 v260_5 h
    unfold v_putMethod_L260 at h
    unfold w_putMethod_L260
    rcases h with ⟨c, h⟩ | ⟨c, h⟩
    · refine ⟨fun _ => ?_, fun c2 => absurd c c2⟩
      obtain ⟨g9, h⟩ := h
      refine ⟨g9, ?_⟩
      obtain ⟨g9, h⟩ := h
      refine ⟨g9, ?_⟩
      obtain ⟨g9, h⟩ := h
      refine ⟨g9, ?_⟩
      obtain ⟨g9, h⟩ := h
      refine ⟨g9, ?_⟩
      obtain ⟨v9, e9, h⟩ := h
      intro x9 d9
      have c9 : v9 = x9 := e9.trans d9.symm
      subst c9
      exact h.symm
    · refine ⟨fun c2 => absurd c2 c, fun _ => ?_⟩
      obtain ⟨g9, h⟩ := h
      refine ⟨g9, ?_⟩
      rcases h with ⟨c, h⟩ | ⟨c, h⟩
      · refine ⟨fun _ => ?_, fun c2 => absurd c c2⟩
        obtain ⟨q9, z9, h⟩ := h
        refine ⟨_, vw_draftCatch z9, ?_⟩
        intro q8 d9
        subst d9
        exact vw_putMethod_J285 (fun _ _ _ h => ih h) h
      · refine ⟨fun c2 => absurd c2 c, fun _ => ?_⟩
        exact vw_putMethod_J285 (fun _ _ _ h => ih h) h
set_option maxRecDepth 100000 in
theorem vz_putMethod_L260 {uo : MS} {Q : MS → Prop} : ∀ (n m : Nat) {U260 : MS} {v260_1 : Int32} {v260_5 : Int32}, v_putMethod_L260 uo n U260 v260_1 v260_5 → w_putMethod_L260 Q m U260 v260_1 v260_5 → Q uo := by
  intro n
  induction n with
  | zero => intro m U260 v260_1 v260_5 h; unfold v_putMethod_L260 at h; exact h.elim
  | succ n ih =>
    intro m U260 v260_1 v260_5 h w
    cases m with
    | zero => unfold w_putMethod_L260 at w; exact w.elim
    | succ m =>
      unfold v_putMethod_L260 at h
      unfold w_putMethod_L260 at w
      rcases h with ⟨c, h⟩ | ⟨c, h⟩
      · replace w := w.1 c
        replace h := h.2
        replace w := w.2
        replace h := h.2
        replace w := w.2
        replace h := h.2
        replace w := w.2
        replace h := h.2
        replace w := w.2
        obtain ⟨v9, e9, h⟩ := h
        replace w := w v9 e9
        rw [h]
        exact w
      · replace w := w.2 c
        replace h := h.2
        replace w := w.2
        rcases h with ⟨c, h⟩ | ⟨c, h⟩
        · replace w := w.1 c
          obtain ⟨q9, z9, h⟩ := h
          obtain ⟨Q9, w0, w⟩ := w
          replace w := w q9 (vz_draftCatch z9 w0)
          exact vz_putMethod_J285 (fun _ _ _ h w => ih m h w) h w
        · replace w := w.2 c
          exact vz_putMethod_J285 (fun _ _ _ h w => ih m h w) h w
set_option maxRecDepth 100000 in
theorem vw_putMethod_L206 {uo : MS} : ∀ (n : Nat) {U206 : MS} {v206_1 : Int32} {v206_5 : Int32}, v_putMethod_L206 uo n U206 v206_1 v206_5 → w_putMethod_L206 (fun u => u = uo) n U206 v206_1 v206_5 := by
  intro n
  induction n with
  | zero => intro U206 v206_1 v206_5 h; unfold v_putMethod_L206 at h; exact h.elim
  | succ n ih =>
    intro U206 v206_1 v206_5 h
    unfold v_putMethod_L206 at h
    unfold w_putMethod_L206
    rcases h with ⟨c, h⟩ | ⟨c, h⟩
    · refine ⟨fun _ => ?_, fun c2 => absurd c c2⟩
      obtain ⟨g9, h⟩ := h
      refine ⟨g9, ?_⟩
      obtain ⟨g9, h⟩ := h
      refine ⟨g9, ?_⟩
      obtain ⟨v9, e9, h⟩ := h
      intro x9 d9
      have c9 : v9 = x9 := e9.trans d9.symm
      subst c9
      obtain ⟨n9, h⟩ := h
      exact ⟨n9, vw_putMethod_L260 n9 h⟩
    · refine ⟨fun c2 => absurd c2 c, fun _ => ?_⟩
      obtain ⟨g9, h⟩ := h
      refine ⟨g9, ?_⟩
      rcases h with ⟨c, h⟩ | ⟨c, h⟩
      · refine ⟨fun _ => ?_, fun c2 => absurd c c2⟩
        obtain ⟨g9, h⟩ := h
        refine ⟨g9, ?_⟩
        obtain ⟨q9, z9, h⟩ := h
        refine ⟨_, vw_aimRow z9, ?_⟩
        intro q8 d9
        subst d9
        exact vw_putMethod_J238 (fun _ _ _ h => ih h) h
      · refine ⟨fun c2 => absurd c2 c, fun _ => ?_⟩
        exact vw_putMethod_J238 (fun _ _ _ h => ih h) h
set_option maxRecDepth 100000 in
theorem vz_putMethod_L206 {uo : MS} {Q : MS → Prop} : ∀ (n m : Nat) {U206 : MS} {v206_1 : Int32} {v206_5 : Int32}, v_putMethod_L206 uo n U206 v206_1 v206_5 → w_putMethod_L206 Q m U206 v206_1 v206_5 → Q uo := by
  intro n
  induction n with
  | zero => intro m U206 v206_1 v206_5 h; unfold v_putMethod_L206 at h; exact h.elim
  | succ n ih =>
    intro m U206 v206_1 v206_5 h w
    cases m with
    | zero => unfold w_putMethod_L206 at w; exact w.elim
    | succ m =>
      unfold v_putMethod_L206 at h
      unfold w_putMethod_L206 at w
      rcases h with ⟨c, h⟩ | ⟨c, h⟩
      · replace w := w.1 c
        replace h := h.2
        replace w := w.2
        replace h := h.2
        replace w := w.2
        obtain ⟨v9, e9, h⟩ := h
        replace w := w v9 e9
        obtain ⟨n9, h⟩ := h
        obtain ⟨n8, w⟩ := w
        exact vz_putMethod_L260 n9 n8 h w
      · replace w := w.2 c
        replace h := h.2
        replace w := w.2
        rcases h with ⟨c, h⟩ | ⟨c, h⟩
        · replace w := w.1 c
          replace h := h.2
          replace w := w.2
          obtain ⟨q9, z9, h⟩ := h
          obtain ⟨Q9, w0, w⟩ := w
          replace w := w q9 (vz_aimRow z9 w0)
          exact vz_putMethod_J238 (fun _ _ _ h w => ih m h w) h w
        · replace w := w.2 c
          exact vz_putMethod_J238 (fun _ _ _ h w => ih m h w) h w
set_option maxRecDepth 100000 in
theorem vw_putMethod_L21 {uo : MS} : ∀ (n : Nat) {U21 : MS} {v21_1 : Int32} {v21_2 : Int32} {v21_3 : Int32} {v21_4 : Int32} {v21_5 : Int32}, v_putMethod_L21 uo n U21 v21_1 v21_2 v21_3 v21_4 v21_5 → w_putMethod_L21 (fun u => u = uo) n U21 v21_1 v21_2 v21_3 v21_4 v21_5 := by
  intro n
  induction n with
  | zero => intro U21 v21_1 v21_2 v21_3 v21_4 v21_5 h; unfold v_putMethod_L21 at h; exact h.elim
  | succ n ih =>
    intro U21 v21_1 v21_2 v21_3 v21_4 v21_5 h
    unfold v_putMethod_L21 at h
    unfold w_putMethod_L21
    rcases h with ⟨c, h⟩ | ⟨c, h⟩
    · refine ⟨fun _ => ?_, fun c2 => absurd c c2⟩
      obtain ⟨g9, h⟩ := h
      refine ⟨g9, ?_⟩
      obtain ⟨v9, e9, h⟩ := h
      intro x9 d9
      have c9 : v9 = x9 := e9.trans d9.symm
      subst c9
      obtain ⟨g9, h⟩ := h
      refine ⟨g9, ?_⟩
      obtain ⟨g9, h⟩ := h
      refine ⟨g9, ?_⟩
      obtain ⟨v9, e9, h⟩ := h
      intro x9 d9
      have c9 : v9 = x9 := e9.trans d9.symm
      subst c9
      obtain ⟨n9, h⟩ := h
      exact ⟨n9, vw_putMethod_L206 n9 h⟩
    · refine ⟨fun c2 => absurd c2 c, fun _ => ?_⟩
      obtain ⟨g9, h⟩ := h
      refine ⟨g9, ?_⟩
      obtain ⟨v9, e9, h⟩ := h
      intro x9 d9
      have c9 : v9 = x9 := e9.trans d9.symm
      subst c9
      obtain ⟨g9, h⟩ := h
      refine ⟨g9, ?_⟩
      rcases h with ⟨c, h⟩ | ⟨c, h⟩
      · refine ⟨fun _ => ?_, fun c2 => absurd c c2⟩
        rcases h with ⟨c, h⟩ | ⟨c, h⟩
        · refine ⟨fun _ => ?_, fun c2 => absurd c c2⟩
          exact vw_putMethod_J131 (fun _ _ _ _ _ _ h => ih h) h
        · refine ⟨fun c2 => absurd c2 c, fun _ => ?_⟩
          obtain ⟨g9, h⟩ := h
          refine ⟨g9, ?_⟩
          obtain ⟨g9, h⟩ := h
          refine ⟨g9, ?_⟩
          rcases h with ⟨c, h⟩ | ⟨c, h⟩
          · refine ⟨fun _ => ?_, fun c2 => absurd c c2⟩
            obtain ⟨g9, h⟩ := h
            refine ⟨g9, ?_⟩
            obtain ⟨g9, h⟩ := h
            refine ⟨g9, ?_⟩
            rcases h with ⟨c, h⟩ | ⟨c, h⟩
            · refine ⟨fun _ => ?_, fun c2 => absurd c c2⟩
              exact vw_putMethod_J131 (fun _ _ _ _ _ _ h => ih h) h
            · refine ⟨fun c2 => absurd c2 c, fun _ => ?_⟩
              obtain ⟨q9, z9, h⟩ := h
              refine ⟨_, vw_draftRow z9, ?_⟩
              intro q8 d9
              subst d9
              obtain ⟨q9, z9, h⟩ := h
              refine ⟨_, vw_draftRow z9, ?_⟩
              intro q8 d9
              subst d9
              obtain ⟨q9, z9, h⟩ := h
              refine ⟨_, vw_draftRow z9, ?_⟩
              intro q8 d9
              subst d9
              obtain ⟨q9, z9, h⟩ := h
              refine ⟨_, vw_draftRow z9, ?_⟩
              intro q8 d9
              subst d9
              obtain ⟨v9, e9, h⟩ := h
              intro x9 d9
              have c9 : v9 = x9 := e9.trans d9.symm
              subst c9
              exact vw_putMethod_J131 (fun _ _ _ _ _ _ h => ih h) h
          · refine ⟨fun c2 => absurd c2 c, fun _ => ?_⟩
            exact vw_putMethod_J131 (fun _ _ _ _ _ _ h => ih h) h
      · refine ⟨fun c2 => absurd c2 c, fun _ => ?_⟩
        exact vw_putMethod_J167 (fun _ _ _ _ _ _ h => ih h) h
set_option maxRecDepth 100000 in
theorem vz_putMethod_L21 {uo : MS} {Q : MS → Prop} : ∀ (n m : Nat) {U21 : MS} {v21_1 : Int32} {v21_2 : Int32} {v21_3 : Int32} {v21_4 : Int32} {v21_5 : Int32}, v_putMethod_L21 uo n U21 v21_1 v21_2 v21_3 v21_4 v21_5 → w_putMethod_L21 Q m U21 v21_1 v21_2 v21_3 v21_4 v21_5 → Q uo := by
  intro n
  induction n with
  | zero => intro m U21 v21_1 v21_2 v21_3 v21_4 v21_5 h; unfold v_putMethod_L21 at h; exact h.elim
  | succ n ih =>
    intro m U21 v21_1 v21_2 v21_3 v21_4 v21_5 h w
    cases m with
    | zero => unfold w_putMethod_L21 at w; exact w.elim
    | succ m =>
      unfold v_putMethod_L21 at h
      unfold w_putMethod_L21 at w
      rcases h with ⟨c, h⟩ | ⟨c, h⟩
      · replace w := w.1 c
        replace h := h.2
        replace w := w.2
        obtain ⟨v9, e9, h⟩ := h
        replace w := w v9 e9
        replace h := h.2
        replace w := w.2
        replace h := h.2
        replace w := w.2
        obtain ⟨v9, e9, h⟩ := h
        replace w := w v9 e9
        obtain ⟨n9, h⟩ := h
        obtain ⟨n8, w⟩ := w
        exact vz_putMethod_L206 n9 n8 h w
      · replace w := w.2 c
        replace h := h.2
        replace w := w.2
        obtain ⟨v9, e9, h⟩ := h
        replace w := w v9 e9
        replace h := h.2
        replace w := w.2
        rcases h with ⟨c, h⟩ | ⟨c, h⟩
        · replace w := w.1 c
          rcases h with ⟨c, h⟩ | ⟨c, h⟩
          · replace w := w.1 c
            exact vz_putMethod_J131 (fun _ _ _ _ _ _ h w => ih m h w) h w
          · replace w := w.2 c
            replace h := h.2
            replace w := w.2
            replace h := h.2
            replace w := w.2
            rcases h with ⟨c, h⟩ | ⟨c, h⟩
            · replace w := w.1 c
              replace h := h.2
              replace w := w.2
              replace h := h.2
              replace w := w.2
              rcases h with ⟨c, h⟩ | ⟨c, h⟩
              · replace w := w.1 c
                exact vz_putMethod_J131 (fun _ _ _ _ _ _ h w => ih m h w) h w
              · replace w := w.2 c
                obtain ⟨q9, z9, h⟩ := h
                obtain ⟨Q9, w0, w⟩ := w
                replace w := w q9 (vz_draftRow z9 w0)
                obtain ⟨q9, z9, h⟩ := h
                obtain ⟨Q9, w0, w⟩ := w
                replace w := w q9 (vz_draftRow z9 w0)
                obtain ⟨q9, z9, h⟩ := h
                obtain ⟨Q9, w0, w⟩ := w
                replace w := w q9 (vz_draftRow z9 w0)
                obtain ⟨q9, z9, h⟩ := h
                obtain ⟨Q9, w0, w⟩ := w
                replace w := w q9 (vz_draftRow z9 w0)
                obtain ⟨v9, e9, h⟩ := h
                replace w := w v9 e9
                exact vz_putMethod_J131 (fun _ _ _ _ _ _ h w => ih m h w) h w
            · replace w := w.2 c
              exact vz_putMethod_J131 (fun _ _ _ _ _ _ h w => ih m h w) h w
        · replace w := w.2 c
          exact vz_putMethod_J167 (fun _ _ _ _ _ _ h w => ih m h w) h w
set_option maxRecDepth 100000 in
theorem vw_putMethod {S : MS} {x1 : Int32} {x2 : Int32} {uo : MS} (h : v_putMethod S x1 x2 uo) : w_putMethod S x1 x2 (fun u => u = uo) := by
  unfold v_putMethod at h
  unfold w_putMethod
  obtain ⟨v9, e9, h⟩ := h
  intro x9 d9
  have c9 : v9 = x9 := e9.trans d9.symm
  subst c9
  obtain ⟨g9, h⟩ := h
  refine ⟨g9, ?_⟩
  obtain ⟨g9, h⟩ := h
  refine ⟨g9, ?_⟩
  obtain ⟨v9, e9, h⟩ := h
  intro x9 d9
  have c9 : v9 = x9 := e9.trans d9.symm
  subst c9
  obtain ⟨n9, h⟩ := h
  exact ⟨n9, vw_putMethod_L21 n9 h⟩
set_option maxRecDepth 100000 in
theorem vz_putMethod {S : MS} {x1 : Int32} {x2 : Int32} {uo : MS} {Q : MS → Prop} (h : v_putMethod S x1 x2 uo) (w : w_putMethod S x1 x2 Q) : Q uo := by
  unfold v_putMethod at h
  unfold w_putMethod at w
  obtain ⟨v9, e9, h⟩ := h
  replace w := w v9 e9
  replace h := h.2
  replace w := w.2
  replace h := h.2
  replace w := w.2
  obtain ⟨v9, e9, h⟩ := h
  replace w := w v9 e9
  obtain ⟨n9, h⟩ := h
  obtain ⟨n8, w⟩ := w
  exact vz_putMethod_L21 n9 n8 h w
def v_reachedBlocks_J24 (ro : Int32) (uo : MS) (k4 : MS → Int32 → Int32 → Prop) (U24 : MS) (v24_1 : Int32) (v24_2 : Int32) : Prop := (∃ a4 : Int32, a4 = (v24_2 + Int32.ofInt 1) ∧ (k4 U24 v24_1 a4))
def v_reachedBlocks_L4 (ro : Int32) (uo : MS) : Nat → MS → Int32 → Int32 → Prop
  | 0, _, _, _ => False
  | n4 + 1, U4, v4_1, v4_2 => (((qI U4 0 105).toInt ≤ v4_2.toInt ∧ (ro = v4_1 ∧ uo = U4)) ∨ (¬ (qI U4 0 105).toInt ≤ v4_2.toInt ∧ (((0 : Int) ≤ v4_2.toInt ∧ v4_2.toInt < 1200) ∧ (((qI U4 53 v4_2.toInt.toNat).toInt = 0 ∧ (v_reachedBlocks_J24 ro uo (v_reachedBlocks_L4 ro uo n4) U4 v4_1 v4_2)) ∨ (¬ (qI U4 53 v4_2.toInt.toNat).toInt = 0 ∧ (∃ a6 : Int32, a6 = (v4_1 + Int32.ofInt 1) ∧ (v_reachedBlocks_J24 ro uo (v_reachedBlocks_L4 ro uo n4) U4 a6 v4_2)))))))
def v_reachedBlocks (S : MS) (ro : Int32) (uo : MS) : Prop := (∃ n, v_reachedBlocks_L4 ro uo n S 0 0)
set_option maxRecDepth 100000 in
theorem ru_reachedBlocks_J24 {ι : Type} {P : Int32 → MS → Prop} {Q : Int32 → MS → Prop} {k4 : MS → Int32 → Int32 → Prop} {k4v : ι → Int32 → MS → MS → Int32 → Int32 → Prop} {U24 : MS} {v24_1 : Int32} {v24_2 : Int32} (i0 : ι) (hk4 : ∀ (u : MS) (z0 : Int32) (z1 : Int32), k4 u z0 z1 → (∀ (i : ι) (ro : Int32) (uo : MS), k4v i ro uo u z0 z1 → P ro uo) → ∃ ro uo, P ro uo ∧ Q ro uo) (K : ∀ (i : ι) (ro : Int32) (uo : MS), v_reachedBlocks_J24 ro uo (k4v i ro uo) U24 v24_1 v24_2 → P ro uo) (h : w_reachedBlocks_J24 Q k4 U24 v24_1 v24_2) : ∃ ro uo, P ro uo ∧ Q ro uo := by
  unfold w_reachedBlocks_J24 at h
  obtain ⟨a4, ea4⟩ : ∃ x9 : Int32, x9 = (v24_2 + Int32.ofInt 1) := ⟨_, rfl⟩
  replace h := h a4 ea4
  replace K := fun i ro uo z => K i ro uo ⟨a4, ea4, z⟩
  exact hk4 _ _ _ h K
set_option maxRecDepth 100000 in
theorem ru_reachedBlocks_L4 {ι : Type} {P : Int32 → MS → Prop} {Q : Int32 → MS → Prop} : ∀ (n : Nat) {U4 : MS} {v4_1 : Int32} {v4_2 : Int32} (i0 : ι), (∀ (i : ι) (ro : Int32) (uo : MS), (∃ n8, v_reachedBlocks_L4 ro uo n8 U4 v4_1 v4_2) → P ro uo) → w_reachedBlocks_L4 Q n U4 v4_1 v4_2 → ∃ ro uo, P ro uo ∧ Q ro uo := by
  intro n
  induction n with
  | zero => intro U4 v4_1 v4_2 i0 K h; unfold w_reachedBlocks_L4 at h; exact h.elim
  | succ n ih =>
    intro U4 v4_1 v4_2 i0 K h
    unfold w_reachedBlocks_L4 at h
    replace K := fun (i : ι × Nat) ro uo (z : v_reachedBlocks_L4 ro uo (i.2 + 1) U4 v4_1 v4_2) => K i.1 ro uo ⟨i.2 + 1, z⟩
    have i00 := i0
    replace i0 : ι × Nat := (i0, 0)
    by_cases c : (qI U4 0 105).toInt ≤ v4_2.toInt
    · replace h := h.1 c
      replace K := fun i ro uo z => K i ro uo (Or.inl ⟨c, z⟩)
      exact ⟨_, _, K i0 _ _ ⟨rfl, rfl⟩, h⟩
    · replace h := h.2 c
      replace K := fun i ro uo z => K i ro uo (Or.inr ⟨c, z⟩)
      obtain ⟨g1_, h⟩ := h
      replace K := fun i ro uo z => K i ro uo ⟨g1_, z⟩
      by_cases c : (qI U4 53 v4_2.toInt.toNat).toInt = 0
      · replace h := h.1 c
        replace K := fun i ro uo z => K i ro uo (Or.inl ⟨c, z⟩)
        exact ru_reachedBlocks_J24 i0 (fun _ _ _ h K => ih i00 (fun i ro uo ⟨n8, z⟩ => K (i, n8) ro uo z) h) K h
      · replace h := h.2 c
        replace K := fun i ro uo z => K i ro uo (Or.inr ⟨c, z⟩)
        obtain ⟨a6, ea6⟩ : ∃ x9 : Int32, x9 = (v4_1 + Int32.ofInt 1) := ⟨_, rfl⟩
        replace h := h a6 ea6
        replace K := fun i ro uo z => K i ro uo ⟨a6, ea6, z⟩
        exact ru_reachedBlocks_J24 i0 (fun _ _ _ h K => ih i00 (fun i ro uo ⟨n8, z⟩ => K (i, n8) ro uo z) h) K h
set_option maxRecDepth 100000 in
theorem ru_reachedBlocks {S : MS} {Q : Int32 → MS → Prop} (h : w_reachedBlocks S Q) : ∃ ro uo, v_reachedBlocks S ro uo ∧ Q ro uo := by
  have i0 : Unit := ()
  have K : ∀ (i : Unit) (ro : Int32) (uo : MS), v_reachedBlocks S ro uo → v_reachedBlocks S ro uo := fun _ _ _ z => z
  unfold w_reachedBlocks at h
  obtain ⟨n9, h⟩ := h
  exact ru_reachedBlocks_L4 n9 i0 K h
set_option maxRecDepth 100000 in
theorem vw_reachedBlocks_J24 {ro : Int32} {uo : MS} {k4 k4v : MS → Int32 → Int32 → Prop} {U24 : MS} {v24_1 : Int32} {v24_2 : Int32} (hk4 : ∀ (u : MS) (z0 : Int32) (z1 : Int32), k4v u z0 z1 → k4 u z0 z1) (h : v_reachedBlocks_J24 ro uo k4v U24 v24_1 v24_2) : w_reachedBlocks_J24 (fun r u => r = ro ∧ u = uo) k4 U24 v24_1 v24_2 := by
  unfold v_reachedBlocks_J24 at h
  unfold w_reachedBlocks_J24
  obtain ⟨v9, e9, h⟩ := h
  intro x9 d9
  have c9 : v9 = x9 := e9.trans d9.symm
  subst c9
  exact hk4 _ _ _ h
set_option maxRecDepth 100000 in
theorem vz_reachedBlocks_J24 {ro : Int32} {uo : MS} {Q : Int32 → MS → Prop} {k4 k4v : MS → Int32 → Int32 → Prop} {U24 : MS} {v24_1 : Int32} {v24_2 : Int32} (hk4 : ∀ (u : MS) (z0 : Int32) (z1 : Int32), k4v u z0 z1 → k4 u z0 z1 → Q ro uo) (h : v_reachedBlocks_J24 ro uo k4v U24 v24_1 v24_2) (w : w_reachedBlocks_J24 Q k4 U24 v24_1 v24_2) : Q ro uo := by
  unfold v_reachedBlocks_J24 at h
  unfold w_reachedBlocks_J24 at w
  obtain ⟨v9, e9, h⟩ := h
  replace w := w v9 e9
  exact hk4 _ _ _ h w
set_option maxRecDepth 100000 in
theorem vw_reachedBlocks_L4 {ro : Int32} {uo : MS} : ∀ (n : Nat) {U4 : MS} {v4_1 : Int32} {v4_2 : Int32}, v_reachedBlocks_L4 ro uo n U4 v4_1 v4_2 → w_reachedBlocks_L4 (fun r u => r = ro ∧ u = uo) n U4 v4_1 v4_2 := by
  intro n
  induction n with
  | zero => intro U4 v4_1 v4_2 h; unfold v_reachedBlocks_L4 at h; exact h.elim
  | succ n ih =>
    intro U4 v4_1 v4_2 h
    unfold v_reachedBlocks_L4 at h
    unfold w_reachedBlocks_L4
    rcases h with ⟨c, h⟩ | ⟨c, h⟩
    · refine ⟨fun _ => ?_, fun c2 => absurd c c2⟩
      exact ⟨h.1.symm, h.2.symm⟩
    · refine ⟨fun c2 => absurd c2 c, fun _ => ?_⟩
      obtain ⟨g9, h⟩ := h
      refine ⟨g9, ?_⟩
      rcases h with ⟨c, h⟩ | ⟨c, h⟩
      · refine ⟨fun _ => ?_, fun c2 => absurd c c2⟩
        exact vw_reachedBlocks_J24 (fun _ _ _ h => ih h) h
      · refine ⟨fun c2 => absurd c2 c, fun _ => ?_⟩
        obtain ⟨v9, e9, h⟩ := h
        intro x9 d9
        have c9 : v9 = x9 := e9.trans d9.symm
        subst c9
        exact vw_reachedBlocks_J24 (fun _ _ _ h => ih h) h
set_option maxRecDepth 100000 in
theorem vz_reachedBlocks_L4 {ro : Int32} {uo : MS} {Q : Int32 → MS → Prop} : ∀ (n m : Nat) {U4 : MS} {v4_1 : Int32} {v4_2 : Int32}, v_reachedBlocks_L4 ro uo n U4 v4_1 v4_2 → w_reachedBlocks_L4 Q m U4 v4_1 v4_2 → Q ro uo := by
  intro n
  induction n with
  | zero => intro m U4 v4_1 v4_2 h; unfold v_reachedBlocks_L4 at h; exact h.elim
  | succ n ih =>
    intro m U4 v4_1 v4_2 h w
    cases m with
    | zero => unfold w_reachedBlocks_L4 at w; exact w.elim
    | succ m =>
      unfold v_reachedBlocks_L4 at h
      unfold w_reachedBlocks_L4 at w
      rcases h with ⟨c, h⟩ | ⟨c, h⟩
      · replace w := w.1 c
        rw [h.1, h.2]
        exact w
      · replace w := w.2 c
        replace h := h.2
        replace w := w.2
        rcases h with ⟨c, h⟩ | ⟨c, h⟩
        · replace w := w.1 c
          exact vz_reachedBlocks_J24 (fun _ _ _ h w => ih m h w) h w
        · replace w := w.2 c
          obtain ⟨v9, e9, h⟩ := h
          replace w := w v9 e9
          exact vz_reachedBlocks_J24 (fun _ _ _ h w => ih m h w) h w
set_option maxRecDepth 100000 in
theorem vw_reachedBlocks {S : MS} {ro : Int32} {uo : MS} (h : v_reachedBlocks S ro uo) : w_reachedBlocks S (fun r u => r = ro ∧ u = uo) := by
  unfold v_reachedBlocks at h
  unfold w_reachedBlocks
  obtain ⟨n9, h⟩ := h
  exact ⟨n9, vw_reachedBlocks_L4 n9 h⟩
set_option maxRecDepth 100000 in
theorem vz_reachedBlocks {S : MS} {ro : Int32} {uo : MS} {Q : Int32 → MS → Prop} (h : v_reachedBlocks S ro uo) (w : w_reachedBlocks S Q) : Q ro uo := by
  unfold v_reachedBlocks at h
  unfold w_reachedBlocks at w
  obtain ⟨n9, h⟩ := h
  obtain ⟨n8, w⟩ := w
  exact vz_reachedBlocks_L4 n9 n8 h w
def v_takeMethod_L80 (uo : MS) : Nat → MS → Int32 → Prop
  | 0, _, _ => False
  | n80 + 1, U80, v80_3 => (((qI U80 0 135).toInt ≤ v80_3.toInt ∧ (uo = U80)) ∨ (¬ (qI U80 0 135).toInt ≤ v80_3.toInt ∧ (d_catchWord U80 v80_3 (0 : Int32) ∧ (((0 : Int) ≤ v80_3.toInt ∧ v80_3.toInt < 16) ∧ (∃ S12 : MS, S12 = wI U80 82 v80_3.toInt.toNat (f_catchWord U80 v80_3 (0 : Int32)) ∧ (d_catchWord S12 v80_3 (1 : Int32) ∧ (((0 : Int) ≤ v80_3.toInt ∧ v80_3.toInt < 16) ∧ (∃ S17 : MS, S17 = wI S12 83 v80_3.toInt.toNat (f_catchWord S12 v80_3 (1 : Int32)) ∧ (d_catchWord S17 v80_3 (2 : Int32) ∧ (((0 : Int) ≤ v80_3.toInt ∧ v80_3.toInt < 16) ∧ (∃ S22 : MS, S22 = wI S17 84 v80_3.toInt.toNat (f_catchWord S17 v80_3 (2 : Int32)) ∧ (d_catchWord S22 v80_3 (3 : Int32) ∧ (((0 : Int) ≤ v80_3.toInt ∧ v80_3.toInt < 16) ∧ (∃ S27 : MS, S27 = wI S22 85 v80_3.toInt.toNat (f_catchWord S22 v80_3 (3 : Int32)) ∧ (((0 : Int) ≤ v80_3.toInt ∧ v80_3.toInt < 16) ∧ (∃ S29 : MS, S29 = wI S27 86 v80_3.toInt.toNat (vp_nar .boolean (0 : Int32)) ∧ (∃ a30 : Int32, a30 = (v80_3 + Int32.ofInt 1) ∧ ((v_takeMethod_L80 uo n80) S29 a30))))))))))))))))))
def v_takeMethod_L16 (uo : MS) : Nat → MS → Int32 → Prop
  | 0, _, _ => False
  | n16 + 1, U16, v16_3 => (((qI U16 0 129).toInt ≤ v16_3.toInt ∧ (∃ S6 : MS, S6 = wI U16 0 135 (qI U16 0 54) ∧ (∃ n, v_takeMethod_L80 uo n S6 0))) ∨ (¬ (qI U16 0 129).toInt ≤ v16_3.toInt ∧ (d_op U16 v16_3 ∧ (((0 : Int) ≤ v16_3.toInt ∧ v16_3.toInt < 1200) ∧ (∃ S35 : MS, S35 = wI U16 78 v16_3.toInt.toNat (f_op U16 v16_3) ∧ (d_first S35 v16_3 ∧ (((0 : Int) ≤ v16_3.toInt ∧ v16_3.toInt < 1200) ∧ (∃ S40 : MS, S40 = wI S35 79 v16_3.toInt.toNat (f_first S35 v16_3) ∧ (d_second S40 v16_3 ∧ (((0 : Int) ≤ v16_3.toInt ∧ v16_3.toInt < 1200) ∧ (∃ S45 : MS, S45 = wI S40 80 v16_3.toInt.toNat (f_second S40 v16_3) ∧ (((0 : Int) ≤ v16_3.toInt ∧ v16_3.toInt < 1200) ∧ (∃ S47 : MS, S47 = wI S45 81 v16_3.toInt.toNat (vp_nar .boolean (0 : Int32)) ∧ (∃ a48 : Int32, a48 = (v16_3 + Int32.ofInt 1) ∧ ((v_takeMethod_L16 uo n16) S47 a48)))))))))))))))
def v_takeMethod (S : MS) (p1 : Nat) (x2 : Int32) (uo : MS) : Prop := (∃ (S2 : MS), v_look S p1 x2 S2 ∧ (∃ S4 : MS, S4 = wI S2 0 129 (qI S2 0 52) ∧ (∃ n, v_takeMethod_L16 uo n S4 0)))
set_option maxRecDepth 100000 in
theorem ru_takeMethod_L80 {ι : Type} {P : MS → Prop} {Q : MS → Prop} : ∀ (n : Nat) {U80 : MS} {v80_3 : Int32} (i0 : ι), (∀ (i : ι) (uo : MS), (∃ n8, v_takeMethod_L80 uo n8 U80 v80_3) → P uo) → w_takeMethod_L80 Q n U80 v80_3 → ∃ uo, P uo ∧ Q uo := by
  intro n
  induction n with
  | zero => intro U80 v80_3 i0 K h; unfold w_takeMethod_L80 at h; exact h.elim
  | succ n ih =>
    intro U80 v80_3 i0 K h
    unfold w_takeMethod_L80 at h
    replace K := fun (i : ι × Nat) uo (z : v_takeMethod_L80 uo (i.2 + 1) U80 v80_3) => K i.1 uo ⟨i.2 + 1, z⟩
    have i00 := i0
    replace i0 : ι × Nat := (i0, 0)
    by_cases c : (qI U80 0 135).toInt ≤ v80_3.toInt
    · replace h := h.1 c
      replace K := fun i uo z => K i uo (Or.inl ⟨c, z⟩)
      exact ⟨_, K i0 _ rfl, h⟩
    · replace h := h.2 c
      replace K := fun i uo z => K i uo (Or.inr ⟨c, z⟩)
      obtain ⟨g1_, h⟩ := h
      replace K := fun i uo z => K i uo ⟨g1_, z⟩
      obtain ⟨g2_, h⟩ := h
      replace K := fun i uo z => K i uo ⟨g2_, z⟩
      obtain ⟨S12, eS12⟩ : ∃ x9 : MS, x9 = wI U80 82 v80_3.toInt.toNat (f_catchWord U80 v80_3 (0 : Int32)) := ⟨_, rfl⟩
      replace h := h S12 eS12
      replace K := fun i uo z => K i uo ⟨S12, eS12, z⟩
      obtain ⟨g3_, h⟩ := h
      replace K := fun i uo z => K i uo ⟨g3_, z⟩
      obtain ⟨g4_, h⟩ := h
      replace K := fun i uo z => K i uo ⟨g4_, z⟩
      obtain ⟨S17, eS17⟩ : ∃ x9 : MS, x9 = wI S12 83 v80_3.toInt.toNat (f_catchWord S12 v80_3 (1 : Int32)) := ⟨_, rfl⟩
      replace h := h S17 eS17
      replace K := fun i uo z => K i uo ⟨S17, eS17, z⟩
      obtain ⟨g5_, h⟩ := h
      replace K := fun i uo z => K i uo ⟨g5_, z⟩
      obtain ⟨g6_, h⟩ := h
      replace K := fun i uo z => K i uo ⟨g6_, z⟩
      obtain ⟨S22, eS22⟩ : ∃ x9 : MS, x9 = wI S17 84 v80_3.toInt.toNat (f_catchWord S17 v80_3 (2 : Int32)) := ⟨_, rfl⟩
      replace h := h S22 eS22
      replace K := fun i uo z => K i uo ⟨S22, eS22, z⟩
      obtain ⟨g7_, h⟩ := h
      replace K := fun i uo z => K i uo ⟨g7_, z⟩
      obtain ⟨g8_, h⟩ := h
      replace K := fun i uo z => K i uo ⟨g8_, z⟩
      obtain ⟨S27, eS27⟩ : ∃ x9 : MS, x9 = wI S22 85 v80_3.toInt.toNat (f_catchWord S22 v80_3 (3 : Int32)) := ⟨_, rfl⟩
      replace h := h S27 eS27
      replace K := fun i uo z => K i uo ⟨S27, eS27, z⟩
      obtain ⟨g9_, h⟩ := h
      replace K := fun i uo z => K i uo ⟨g9_, z⟩
      obtain ⟨S29, eS29⟩ : ∃ x9 : MS, x9 = wI S27 86 v80_3.toInt.toNat (vp_nar .boolean (0 : Int32)) := ⟨_, rfl⟩
      replace h := h S29 eS29
      replace K := fun i uo z => K i uo ⟨S29, eS29, z⟩
      obtain ⟨a30, ea30⟩ : ∃ x9 : Int32, x9 = (v80_3 + Int32.ofInt 1) := ⟨_, rfl⟩
      replace h := h a30 ea30
      replace K := fun i uo z => K i uo ⟨a30, ea30, z⟩
      exact ih i00 (fun i uo ⟨n8, z⟩ => K (i, n8) uo z) h
set_option maxRecDepth 100000 in
theorem ru_takeMethod_L16 {ι : Type} {P : MS → Prop} {Q : MS → Prop} : ∀ (n : Nat) {U16 : MS} {v16_3 : Int32} (i0 : ι), (∀ (i : ι) (uo : MS), (∃ n8, v_takeMethod_L16 uo n8 U16 v16_3) → P uo) → w_takeMethod_L16 Q n U16 v16_3 → ∃ uo, P uo ∧ Q uo := by
  intro n
  induction n with
  | zero => intro U16 v16_3 i0 K h; unfold w_takeMethod_L16 at h; exact h.elim
  | succ n ih =>
    intro U16 v16_3 i0 K h
    unfold w_takeMethod_L16 at h
    replace K := fun (i : ι × Nat) uo (z : v_takeMethod_L16 uo (i.2 + 1) U16 v16_3) => K i.1 uo ⟨i.2 + 1, z⟩
    have i00 := i0
    replace i0 : ι × Nat := (i0, 0)
    by_cases c : (qI U16 0 129).toInt ≤ v16_3.toInt
    · replace h := h.1 c
      replace K := fun i uo z => K i uo (Or.inl ⟨c, z⟩)
      obtain ⟨S6, eS6⟩ : ∃ x9 : MS, x9 = wI U16 0 135 (qI U16 0 54) := ⟨_, rfl⟩
      replace h := h S6 eS6
      replace K := fun i uo z => K i uo ⟨S6, eS6, z⟩
      obtain ⟨n9, h⟩ := h
      exact ru_takeMethod_L80 n9 i0 K h
    · replace h := h.2 c
      replace K := fun i uo z => K i uo (Or.inr ⟨c, z⟩)
      obtain ⟨g10_, h⟩ := h
      replace K := fun i uo z => K i uo ⟨g10_, z⟩
      obtain ⟨g11_, h⟩ := h
      replace K := fun i uo z => K i uo ⟨g11_, z⟩
      obtain ⟨S35, eS35⟩ : ∃ x9 : MS, x9 = wI U16 78 v16_3.toInt.toNat (f_op U16 v16_3) := ⟨_, rfl⟩
      replace h := h S35 eS35
      replace K := fun i uo z => K i uo ⟨S35, eS35, z⟩
      obtain ⟨g12_, h⟩ := h
      replace K := fun i uo z => K i uo ⟨g12_, z⟩
      obtain ⟨g13_, h⟩ := h
      replace K := fun i uo z => K i uo ⟨g13_, z⟩
      obtain ⟨S40, eS40⟩ : ∃ x9 : MS, x9 = wI S35 79 v16_3.toInt.toNat (f_first S35 v16_3) := ⟨_, rfl⟩
      replace h := h S40 eS40
      replace K := fun i uo z => K i uo ⟨S40, eS40, z⟩
      obtain ⟨g14_, h⟩ := h
      replace K := fun i uo z => K i uo ⟨g14_, z⟩
      obtain ⟨g15_, h⟩ := h
      replace K := fun i uo z => K i uo ⟨g15_, z⟩
      obtain ⟨S45, eS45⟩ : ∃ x9 : MS, x9 = wI S40 80 v16_3.toInt.toNat (f_second S40 v16_3) := ⟨_, rfl⟩
      replace h := h S45 eS45
      replace K := fun i uo z => K i uo ⟨S45, eS45, z⟩
      obtain ⟨g16_, h⟩ := h
      replace K := fun i uo z => K i uo ⟨g16_, z⟩
      obtain ⟨S47, eS47⟩ : ∃ x9 : MS, x9 = wI S45 81 v16_3.toInt.toNat (vp_nar .boolean (0 : Int32)) := ⟨_, rfl⟩
      replace h := h S47 eS47
      replace K := fun i uo z => K i uo ⟨S47, eS47, z⟩
      obtain ⟨a48, ea48⟩ : ∃ x9 : Int32, x9 = (v16_3 + Int32.ofInt 1) := ⟨_, rfl⟩
      replace h := h a48 ea48
      replace K := fun i uo z => K i uo ⟨a48, ea48, z⟩
      exact ih i00 (fun i uo ⟨n8, z⟩ => K (i, n8) uo z) h
set_option maxRecDepth 100000 in
theorem ru_takeMethod {S : MS} {p1 : Nat} {x2 : Int32} {Q : MS → Prop} (h : w_takeMethod S p1 x2 Q) : ∃ uo, v_takeMethod S p1 x2 uo ∧ Q uo := by
  have i0 : Unit := ()
  have K : ∀ (i : Unit) (uo : MS), v_takeMethod S p1 x2 uo → v_takeMethod S p1 x2 uo := fun _ _ z => z
  unfold w_takeMethod at h
  obtain ⟨Q9, h0, h⟩ := h
  obtain ⟨S2, z9, g9⟩ := ru_look h0
  replace h := h S2 g9
  replace K := fun i uo z => K i uo ⟨S2, z9, z⟩
  obtain ⟨S4, eS4⟩ : ∃ x9 : MS, x9 = wI S2 0 129 (qI S2 0 52) := ⟨_, rfl⟩
  replace h := h S4 eS4
  replace K := fun i uo z => K i uo ⟨S4, eS4, z⟩
  obtain ⟨n9, h⟩ := h
  exact ru_takeMethod_L16 n9 i0 K h
set_option maxRecDepth 100000 in
theorem vw_takeMethod_L80 {uo : MS} : ∀ (n : Nat) {U80 : MS} {v80_3 : Int32}, v_takeMethod_L80 uo n U80 v80_3 → w_takeMethod_L80 (fun u => u = uo) n U80 v80_3 := by
  intro n
  induction n with
  | zero => intro U80 v80_3 h; unfold v_takeMethod_L80 at h; exact h.elim
  | succ n ih =>
    intro U80 v80_3 h
    unfold v_takeMethod_L80 at h
    unfold w_takeMethod_L80
    rcases h with ⟨c, h⟩ | ⟨c, h⟩
    · refine ⟨fun _ => ?_, fun c2 => absurd c c2⟩
      exact h.symm
    · refine ⟨fun c2 => absurd c2 c, fun _ => ?_⟩
      obtain ⟨g9, h⟩ := h
      refine ⟨g9, ?_⟩
      obtain ⟨g9, h⟩ := h
      refine ⟨g9, ?_⟩
      obtain ⟨v9, e9, h⟩ := h
      intro x9 d9
      have c9 : v9 = x9 := e9.trans d9.symm
      subst c9
      obtain ⟨g9, h⟩ := h
      refine ⟨g9, ?_⟩
      obtain ⟨g9, h⟩ := h
      refine ⟨g9, ?_⟩
      obtain ⟨v9, e9, h⟩ := h
      intro x9 d9
      have c9 : v9 = x9 := e9.trans d9.symm
      subst c9
      obtain ⟨g9, h⟩ := h
      refine ⟨g9, ?_⟩
      obtain ⟨g9, h⟩ := h
      refine ⟨g9, ?_⟩
      obtain ⟨v9, e9, h⟩ := h
      intro x9 d9
      have c9 : v9 = x9 := e9.trans d9.symm
      subst c9
      obtain ⟨g9, h⟩ := h
      refine ⟨g9, ?_⟩
      obtain ⟨g9, h⟩ := h
      refine ⟨g9, ?_⟩
      obtain ⟨v9, e9, h⟩ := h
      intro x9 d9
      have c9 : v9 = x9 := e9.trans d9.symm
      subst c9
      obtain ⟨g9, h⟩ := h
      refine ⟨g9, ?_⟩
      obtain ⟨v9, e9, h⟩ := h
      intro x9 d9
      have c9 : v9 = x9 := e9.trans d9.symm
      subst c9
      obtain ⟨v9, e9, h⟩ := h
      intro x9 d9
      have c9 : v9 = x9 := e9.trans d9.symm
      subst c9
      exact ih h
set_option maxRecDepth 100000 in
theorem vz_takeMethod_L80 {uo : MS} {Q : MS → Prop} : ∀ (n m : Nat) {U80 : MS} {v80_3 : Int32}, v_takeMethod_L80 uo n U80 v80_3 → w_takeMethod_L80 Q m U80 v80_3 → Q uo := by
  intro n
  induction n with
  | zero => intro m U80 v80_3 h; unfold v_takeMethod_L80 at h; exact h.elim
  | succ n ih =>
    intro m U80 v80_3 h w
    cases m with
    | zero => unfold w_takeMethod_L80 at w; exact w.elim
    | succ m =>
      unfold v_takeMethod_L80 at h
      unfold w_takeMethod_L80 at w
      rcases h with ⟨c, h⟩ | ⟨c, h⟩
      · replace w := w.1 c
        rw [h]
        exact w
      · replace w := w.2 c
        replace h := h.2
        replace w := w.2
        replace h := h.2
        replace w := w.2
        obtain ⟨v9, e9, h⟩ := h
        replace w := w v9 e9
        replace h := h.2
        replace w := w.2
        replace h := h.2
        replace w := w.2
        obtain ⟨v9, e9, h⟩ := h
        replace w := w v9 e9
        replace h := h.2
        replace w := w.2
        replace h := h.2
        replace w := w.2
        obtain ⟨v9, e9, h⟩ := h
        replace w := w v9 e9
        replace h := h.2
        replace w := w.2
        replace h := h.2
        replace w := w.2
        obtain ⟨v9, e9, h⟩ := h
        replace w := w v9 e9
        replace h := h.2
        replace w := w.2
        obtain ⟨v9, e9, h⟩ := h
        replace w := w v9 e9
        obtain ⟨v9, e9, h⟩ := h
        replace w := w v9 e9
        exact ih m h w
set_option maxRecDepth 100000 in
theorem vw_takeMethod_L16 {uo : MS} : ∀ (n : Nat) {U16 : MS} {v16_3 : Int32}, v_takeMethod_L16 uo n U16 v16_3 → w_takeMethod_L16 (fun u => u = uo) n U16 v16_3 := by
  intro n
  induction n with
  | zero => intro U16 v16_3 h; unfold v_takeMethod_L16 at h; exact h.elim
  | succ n ih =>
    intro U16 v16_3 h
    unfold v_takeMethod_L16 at h
    unfold w_takeMethod_L16
    rcases h with ⟨c, h⟩ | ⟨c, h⟩
    · refine ⟨fun _ => ?_, fun c2 => absurd c c2⟩
      obtain ⟨v9, e9, h⟩ := h
      intro x9 d9
      have c9 : v9 = x9 := e9.trans d9.symm
      subst c9
      obtain ⟨n9, h⟩ := h
      exact ⟨n9, vw_takeMethod_L80 n9 h⟩
    · refine ⟨fun c2 => absurd c2 c, fun _ => ?_⟩
      obtain ⟨g9, h⟩ := h
      refine ⟨g9, ?_⟩
      obtain ⟨g9, h⟩ := h
      refine ⟨g9, ?_⟩
      obtain ⟨v9, e9, h⟩ := h
      intro x9 d9
      have c9 : v9 = x9 := e9.trans d9.symm
      subst c9
      obtain ⟨g9, h⟩ := h
      refine ⟨g9, ?_⟩
      obtain ⟨g9, h⟩ := h
      refine ⟨g9, ?_⟩
      obtain ⟨v9, e9, h⟩ := h
      intro x9 d9
      have c9 : v9 = x9 := e9.trans d9.symm
      subst c9
      obtain ⟨g9, h⟩ := h
      refine ⟨g9, ?_⟩
      obtain ⟨g9, h⟩ := h
      refine ⟨g9, ?_⟩
      obtain ⟨v9, e9, h⟩ := h
      intro x9 d9
      have c9 : v9 = x9 := e9.trans d9.symm
      subst c9
      obtain ⟨g9, h⟩ := h
      refine ⟨g9, ?_⟩
      obtain ⟨v9, e9, h⟩ := h
      intro x9 d9
      have c9 : v9 = x9 := e9.trans d9.symm
      subst c9
      obtain ⟨v9, e9, h⟩ := h
      intro x9 d9
      have c9 : v9 = x9 := e9.trans d9.symm
      subst c9
      exact ih h
set_option maxRecDepth 100000 in
theorem vz_takeMethod_L16 {uo : MS} {Q : MS → Prop} : ∀ (n m : Nat) {U16 : MS} {v16_3 : Int32}, v_takeMethod_L16 uo n U16 v16_3 → w_takeMethod_L16 Q m U16 v16_3 → Q uo := by
  intro n
  induction n with
  | zero => intro m U16 v16_3 h; unfold v_takeMethod_L16 at h; exact h.elim
  | succ n ih =>
    intro m U16 v16_3 h w
    cases m with
    | zero => unfold w_takeMethod_L16 at w; exact w.elim
    | succ m =>
      unfold v_takeMethod_L16 at h
      unfold w_takeMethod_L16 at w
      rcases h with ⟨c, h⟩ | ⟨c, h⟩
      · replace w := w.1 c
        obtain ⟨v9, e9, h⟩ := h
        replace w := w v9 e9
        obtain ⟨n9, h⟩ := h
        obtain ⟨n8, w⟩ := w
        exact vz_takeMethod_L80 n9 n8 h w
      · replace w := w.2 c
        replace h := h.2
        replace w := w.2
        replace h := h.2
        replace w := w.2
        obtain ⟨v9, e9, h⟩ := h
        replace w := w v9 e9
        replace h := h.2
        replace w := w.2
        replace h := h.2
        replace w := w.2
        obtain ⟨v9, e9, h⟩ := h
        replace w := w v9 e9
        replace h := h.2
        replace w := w.2
        replace h := h.2
        replace w := w.2
        obtain ⟨v9, e9, h⟩ := h
        replace w := w v9 e9
        replace h := h.2
        replace w := w.2
        obtain ⟨v9, e9, h⟩ := h
        replace w := w v9 e9
        obtain ⟨v9, e9, h⟩ := h
        replace w := w v9 e9
        exact ih m h w
set_option maxRecDepth 100000 in
theorem vw_takeMethod {S : MS} {p1 : Nat} {x2 : Int32} {uo : MS} (h : v_takeMethod S p1 x2 uo) : w_takeMethod S p1 x2 (fun u => u = uo) := by
  unfold v_takeMethod at h
  unfold w_takeMethod
  obtain ⟨q9, z9, h⟩ := h
  refine ⟨_, vw_look z9, ?_⟩
  intro q8 d9
  subst d9
  obtain ⟨v9, e9, h⟩ := h
  intro x9 d9
  have c9 : v9 = x9 := e9.trans d9.symm
  subst c9
  obtain ⟨n9, h⟩ := h
  exact ⟨n9, vw_takeMethod_L16 n9 h⟩
set_option maxRecDepth 100000 in
theorem vz_takeMethod {S : MS} {p1 : Nat} {x2 : Int32} {uo : MS} {Q : MS → Prop} (h : v_takeMethod S p1 x2 uo) (w : w_takeMethod S p1 x2 Q) : Q uo := by
  unfold v_takeMethod at h
  unfold w_takeMethod at w
  obtain ⟨q9, z9, h⟩ := h
  obtain ⟨Q9, w0, w⟩ := w
  replace w := w q9 (vz_look z9 w0)
  obtain ⟨v9, e9, h⟩ := h
  replace w := w v9 e9
  obtain ⟨n9, h⟩ := h
  obtain ⟨n8, w⟩ := w
  exact vz_takeMethod_L16 n9 n8 h w
def v_count_L196 (ro : Int32) (uo : MS) : Nat → MS → Int32 → Nat → Int32 → Int32 → Prop
  | 0, _, _, _, _, _ => False
  | n196 + 1, U196, v196_1, v196_2, v196_4, v196_5 => (((qI U196 v196_2 4).toInt ≤ v196_5.toInt ∧ (∃ (r25 : Int32) (S26 : MS), v_keptDraft U196 r25 S26 ∧ (ro = r25 ∧ uo = S26))) ∨ (¬ (qI U196 v196_2 4).toInt ≤ v196_5.toInt ∧ (∃ (S30 : MS), v_graph U196 v196_1 v196_5 S30 ∧ (∃ (S33 : MS), v_takeMethod S30 v196_2 v196_5 S33 ∧ (∃ (S36 : MS), v_putMethod S33 v196_5 v196_4 S36 ∧ (∃ (r39 : Int32) (S40 : MS), v_reachedBlocks S36 r39 S40 ∧ (∃ a43 : Int32, a43 = (v196_4 + r39) ∧ (∃ a44 : Int32, a44 = (v196_5 + Int32.ofInt 1) ∧ ((v_count_L196 ro uo n196) S40 v196_1 v196_2 a43 a44)))))))))
def v_count_L105 (ro : Int32) (uo : MS) : Nat → MS → Int32 → Nat → Int32 → Int32 → Prop
  | 0, _, _, _, _, _ => False
  | n105 + 1, U105, v105_1, v105_2, v105_3, v105_4 => ((v105_3.toInt ≤ v105_4.toInt ∧ (∃ S21 : MS, S21 = wI U105 60 3 v105_3 ∧ (∃ a22 : Int32, a22 = (qI S21 v105_2 3) ∧ (∃ n, v_count_L196 ro uo n S21 v105_1 v105_2 a22 0)))) ∨ (¬ v105_3.toInt ≤ v105_4.toInt ∧ ((qR U105 60 5 = some (qO U105 60 5)) ∧ ((qn U105 + 1 ≤ KC ∧ qu U105 + 4 ≤ KS) ∧ (∃ S50 : MS, S50 = wN U105 13 0 4 ∧ (∃ (S53 : MS), v_J4_init_da8c8 S50 (qn U105) S53 ∧ (∃ (b62 : Nat) (S59 : MS), v_J4_append_15ec4 S53 (qn U105) 10000036 b62 S59 ∧ (∃ (b69 : Nat) (S66 : MS), v_J4_append_bf812 S59 b62 (v105_4 - (qI S59 v105_2 3)) b69 S66 ∧ (∃ (b75 : Nat) (S72 : MS), v_J4_toString_0e30d S66 b69 b75 S72 ∧ (((0 : Int) ≤ v105_4.toInt ∧ v105_4.toInt < (qN S72 (qO U105 60 5) : Int)) ∧ (∃ S77 : MS, S77 = wR S72 (qO U105 60 5) v105_4.toInt.toNat (some b75) ∧ ((qR S77 60 6 = some (qO S77 60 6)) ∧ (((0 : Int) ≤ v105_4.toInt ∧ v105_4.toInt < (qN S77 (qO S77 60 6) : Int)) ∧ (∃ S82 : MS, S82 = wR S77 (qO S77 60 6) v105_4.toInt.toNat (some 10000022) ∧ ((qR S82 60 7 = some (qO S82 60 7)) ∧ (((0 : Int) ≤ v105_4.toInt ∧ v105_4.toInt < (qN S82 (qO S82 60 7) : Int)) ∧ (∃ S87 : MS, S87 = wR S82 (qO S82 60 7) v105_4.toInt.toNat (some 10000022) ∧ (∃ a88 : Int32, a88 = (v105_4 + Int32.ofInt 1) ∧ ((v_count_L105 ro uo n105) S87 v105_1 v105_2 v105_3 a88)))))))))))))))))))
def v_count_L56 (ro : Int32) (uo : MS) : Nat → MS → Int32 → Nat → Int32 → Int32 → Prop
  | 0, _, _, _, _, _ => False
  | n56 + 1, U56, v56_1, v56_2, v56_3, v56_4 => (((qI U56 v56_2 4).toInt ≤ v56_4.toInt ∧ ((v56_3.toInt ≤ 24 ∧ (∃ (S17 : MS), v_copyHead U56 v56_2 S17 ∧ (∃ a19 : Int32, a19 = (qI S17 v56_2 3) ∧ (∃ n, v_count_L105 ro uo n S17 v56_1 v56_2 v56_3 a19)))) ∨ (¬ v56_3.toInt ≤ 24 ∧ (ro = (-3 : Int32) ∧ uo = U56)))) ∨ (¬ (qI U56 v56_2 4).toInt ≤ v56_4.toInt ∧ (∃ (S90 : MS), v_graph U56 v56_1 v56_4 S90 ∧ (∃ (r93 : Int32) (S94 : MS), v_reachedBlocks S90 r93 S94 ∧ (∃ a97 : Int32, a97 = (v56_3 + r93) ∧ (∃ a98 : Int32, a98 = (v56_4 + Int32.ofInt 1) ∧ ((v_count_L56 ro uo n56) S94 v56_1 v56_2 a97 a98)))))))
def v_count (S : MS) (x1 : Int32) (ro : Int32) (uo : MS) : Prop := (∃ (r2 : Int32) (S3 : MS), v_isRight S x1 r2 S3 ∧ ((r2.toInt = 0 ∧ (ro = (-1 : Int32) ∧ uo = S3)) ∨ (¬ r2.toInt = 0 ∧ (((qI S3 0 1).toInt = 12 ∧ (ro = (-2 : Int32) ∧ uo = S3)) ∨ (¬ (qI S3 0 1).toInt = 12 ∧ (((qI S3 0 2).toInt = 16 ∧ (ro = (-2 : Int32) ∧ uo = S3)) ∨ (¬ (qI S3 0 2).toInt = 16 ∧ (∃ S9 : MS, S9 = wI S3 0 2 ((qI S3 0 2) + (1 : Int32)) ∧ (((0 : Int) ≤ x1.toInt ∧ x1.toInt < 12) ∧ ((qR S9 1 x1.toInt.toNat = some (qO S9 1 x1.toInt.toNat)) ∧ (∃ a13 : Int32, a13 = (qI S9 (qO S9 1 x1.toInt.toNat) 3) ∧ (∃ n, v_count_L56 ro uo n S9 x1 (qO S9 1 x1.toInt.toNat) a13 0))))))))))))
set_option maxRecDepth 100000 in
theorem ru_count_L196 {ι : Type} {P : Int32 → MS → Prop} {Q : Int32 → MS → Prop} : ∀ (n : Nat) {U196 : MS} {v196_1 : Int32} {v196_2 : Nat} {v196_4 : Int32} {v196_5 : Int32} (i0 : ι), (∀ (i : ι) (ro : Int32) (uo : MS), (∃ n8, v_count_L196 ro uo n8 U196 v196_1 v196_2 v196_4 v196_5) → P ro uo) → w_count_L196 Q n U196 v196_1 v196_2 v196_4 v196_5 → ∃ ro uo, P ro uo ∧ Q ro uo := by
  intro n
  induction n with
  | zero => intro U196 v196_1 v196_2 v196_4 v196_5 i0 K h; unfold w_count_L196 at h; exact h.elim
  | succ n ih =>
    intro U196 v196_1 v196_2 v196_4 v196_5 i0 K h
    unfold w_count_L196 at h
    replace K := fun (i : ι × Nat) ro uo (z : v_count_L196 ro uo (i.2 + 1) U196 v196_1 v196_2 v196_4 v196_5) => K i.1 ro uo ⟨i.2 + 1, z⟩
    have i00 := i0
    replace i0 : ι × Nat := (i0, 0)
    by_cases c : (qI U196 v196_2 4).toInt ≤ v196_5.toInt
    · replace h := h.1 c
      replace K := fun i ro uo z => K i ro uo (Or.inl ⟨c, z⟩)
      obtain ⟨Q9, h0, h⟩ := h
      obtain ⟨r25, S26, z9, g9⟩ := ru_keptDraft h0
      replace h := h r25 S26 g9
      replace K := fun i ro uo z => K i ro uo ⟨r25, S26, z9, z⟩
      exact ⟨_, _, K i0 _ _ ⟨rfl, rfl⟩, h⟩
    · replace h := h.2 c
      replace K := fun i ro uo z => K i ro uo (Or.inr ⟨c, z⟩)
      obtain ⟨Q9, h0, h⟩ := h
      obtain ⟨S30, z9, g9⟩ := ru_graph h0
      replace h := h S30 g9
      replace K := fun i ro uo z => K i ro uo ⟨S30, z9, z⟩
      obtain ⟨Q9, h0, h⟩ := h
      obtain ⟨S33, z9, g9⟩ := ru_takeMethod h0
      replace h := h S33 g9
      replace K := fun i ro uo z => K i ro uo ⟨S33, z9, z⟩
      obtain ⟨Q9, h0, h⟩ := h
      obtain ⟨S36, z9, g9⟩ := ru_putMethod h0
      replace h := h S36 g9
      replace K := fun i ro uo z => K i ro uo ⟨S36, z9, z⟩
      obtain ⟨Q9, h0, h⟩ := h
      obtain ⟨r39, S40, z9, g9⟩ := ru_reachedBlocks h0
      replace h := h r39 S40 g9
      replace K := fun i ro uo z => K i ro uo ⟨r39, S40, z9, z⟩
      obtain ⟨a43, ea43⟩ : ∃ x9 : Int32, x9 = (v196_4 + r39) := ⟨_, rfl⟩
      replace h := h a43 ea43
      replace K := fun i ro uo z => K i ro uo ⟨a43, ea43, z⟩
      obtain ⟨a44, ea44⟩ : ∃ x9 : Int32, x9 = (v196_5 + Int32.ofInt 1) := ⟨_, rfl⟩
      replace h := h a44 ea44
      replace K := fun i ro uo z => K i ro uo ⟨a44, ea44, z⟩
      exact ih i00 (fun i ro uo ⟨n8, z⟩ => K (i, n8) ro uo z) h
set_option maxRecDepth 100000 in
theorem ru_count_L105 {ι : Type} {P : Int32 → MS → Prop} {Q : Int32 → MS → Prop} : ∀ (n : Nat) {U105 : MS} {v105_1 : Int32} {v105_2 : Nat} {v105_3 : Int32} {v105_4 : Int32} (i0 : ι), (∀ (i : ι) (ro : Int32) (uo : MS), (∃ n8, v_count_L105 ro uo n8 U105 v105_1 v105_2 v105_3 v105_4) → P ro uo) → w_count_L105 Q n U105 v105_1 v105_2 v105_3 v105_4 → ∃ ro uo, P ro uo ∧ Q ro uo := by
  intro n
  induction n with
  | zero => intro U105 v105_1 v105_2 v105_3 v105_4 i0 K h; unfold w_count_L105 at h; exact h.elim
  | succ n ih =>
    intro U105 v105_1 v105_2 v105_3 v105_4 i0 K h
    unfold w_count_L105 at h
    replace K := fun (i : ι × Nat) ro uo (z : v_count_L105 ro uo (i.2 + 1) U105 v105_1 v105_2 v105_3 v105_4) => K i.1 ro uo ⟨i.2 + 1, z⟩
    have i00 := i0
    replace i0 : ι × Nat := (i0, 0)
    by_cases c : v105_3.toInt ≤ v105_4.toInt
    · replace h := h.1 c
      replace K := fun i ro uo z => K i ro uo (Or.inl ⟨c, z⟩)
      obtain ⟨S21, eS21⟩ : ∃ x9 : MS, x9 = wI U105 60 3 v105_3 := ⟨_, rfl⟩
      replace h := h S21 eS21
      replace K := fun i ro uo z => K i ro uo ⟨S21, eS21, z⟩
      obtain ⟨a22, ea22⟩ : ∃ x9 : Int32, x9 = (qI S21 v105_2 3) := ⟨_, rfl⟩
      replace h := h a22 ea22
      replace K := fun i ro uo z => K i ro uo ⟨a22, ea22, z⟩
      obtain ⟨n9, h⟩ := h
      exact ru_count_L196 n9 i0 K h
    · replace h := h.2 c
      replace K := fun i ro uo z => K i ro uo (Or.inr ⟨c, z⟩)
      obtain ⟨g1_, h⟩ := h
      replace K := fun i ro uo z => K i ro uo ⟨g1_, z⟩
      obtain ⟨g2_, h⟩ := h
      replace K := fun i ro uo z => K i ro uo ⟨g2_, z⟩
      obtain ⟨S50, eS50⟩ : ∃ x9 : MS, x9 = wN U105 13 0 4 := ⟨_, rfl⟩
      replace h := h S50 eS50
      replace K := fun i ro uo z => K i ro uo ⟨S50, eS50, z⟩
      obtain ⟨Q9, h0, h⟩ := h
      obtain ⟨S53, z9, g9⟩ := ru_J4_init_da8c8 h0
      replace h := h S53 g9
      replace K := fun i ro uo z => K i ro uo ⟨S53, z9, z⟩
      obtain ⟨Q9, h0, h⟩ := h
      obtain ⟨b62, S59, z9, g9⟩ := ru_J4_append_15ec4 h0
      replace h := h b62 S59 g9
      replace K := fun i ro uo z => K i ro uo ⟨b62, S59, z9, z⟩
      obtain ⟨Q9, h0, h⟩ := h
      obtain ⟨b69, S66, z9, g9⟩ := ru_J4_append_bf812 h0
      replace h := h b69 S66 g9
      replace K := fun i ro uo z => K i ro uo ⟨b69, S66, z9, z⟩
      obtain ⟨Q9, h0, h⟩ := h
      obtain ⟨b75, S72, z9, g9⟩ := ru_J4_toString_0e30d h0
      replace h := h b75 S72 g9
      replace K := fun i ro uo z => K i ro uo ⟨b75, S72, z9, z⟩
      obtain ⟨g3_, h⟩ := h
      replace K := fun i ro uo z => K i ro uo ⟨g3_, z⟩
      obtain ⟨S77, eS77⟩ : ∃ x9 : MS, x9 = wR S72 (qO U105 60 5) v105_4.toInt.toNat (some b75) := ⟨_, rfl⟩
      replace h := h S77 eS77
      replace K := fun i ro uo z => K i ro uo ⟨S77, eS77, z⟩
      obtain ⟨g4_, h⟩ := h
      replace K := fun i ro uo z => K i ro uo ⟨g4_, z⟩
      obtain ⟨g5_, h⟩ := h
      replace K := fun i ro uo z => K i ro uo ⟨g5_, z⟩
      obtain ⟨S82, eS82⟩ : ∃ x9 : MS, x9 = wR S77 (qO S77 60 6) v105_4.toInt.toNat (some 10000022) := ⟨_, rfl⟩
      replace h := h S82 eS82
      replace K := fun i ro uo z => K i ro uo ⟨S82, eS82, z⟩
      obtain ⟨g6_, h⟩ := h
      replace K := fun i ro uo z => K i ro uo ⟨g6_, z⟩
      obtain ⟨g7_, h⟩ := h
      replace K := fun i ro uo z => K i ro uo ⟨g7_, z⟩
      obtain ⟨S87, eS87⟩ : ∃ x9 : MS, x9 = wR S82 (qO S82 60 7) v105_4.toInt.toNat (some 10000022) := ⟨_, rfl⟩
      replace h := h S87 eS87
      replace K := fun i ro uo z => K i ro uo ⟨S87, eS87, z⟩
      obtain ⟨a88, ea88⟩ : ∃ x9 : Int32, x9 = (v105_4 + Int32.ofInt 1) := ⟨_, rfl⟩
      replace h := h a88 ea88
      replace K := fun i ro uo z => K i ro uo ⟨a88, ea88, z⟩
      exact ih i00 (fun i ro uo ⟨n8, z⟩ => K (i, n8) ro uo z) h
set_option maxRecDepth 100000 in
theorem ru_count_L56 {ι : Type} {P : Int32 → MS → Prop} {Q : Int32 → MS → Prop} : ∀ (n : Nat) {U56 : MS} {v56_1 : Int32} {v56_2 : Nat} {v56_3 : Int32} {v56_4 : Int32} (i0 : ι), (∀ (i : ι) (ro : Int32) (uo : MS), (∃ n8, v_count_L56 ro uo n8 U56 v56_1 v56_2 v56_3 v56_4) → P ro uo) → w_count_L56 Q n U56 v56_1 v56_2 v56_3 v56_4 → ∃ ro uo, P ro uo ∧ Q ro uo := by
  intro n
  induction n with
  | zero => intro U56 v56_1 v56_2 v56_3 v56_4 i0 K h; unfold w_count_L56 at h; exact h.elim
  | succ n ih =>
    intro U56 v56_1 v56_2 v56_3 v56_4 i0 K h
    unfold w_count_L56 at h
    replace K := fun (i : ι × Nat) ro uo (z : v_count_L56 ro uo (i.2 + 1) U56 v56_1 v56_2 v56_3 v56_4) => K i.1 ro uo ⟨i.2 + 1, z⟩
    have i00 := i0
    replace i0 : ι × Nat := (i0, 0)
    by_cases c : (qI U56 v56_2 4).toInt ≤ v56_4.toInt
    · replace h := h.1 c
      replace K := fun i ro uo z => K i ro uo (Or.inl ⟨c, z⟩)
      by_cases c : v56_3.toInt ≤ 24
      · replace h := h.1 c
        replace K := fun i ro uo z => K i ro uo (Or.inl ⟨c, z⟩)
        obtain ⟨Q9, h0, h⟩ := h
        obtain ⟨S17, z9, g9⟩ := ru_copyHead h0
        replace h := h S17 g9
        replace K := fun i ro uo z => K i ro uo ⟨S17, z9, z⟩
        obtain ⟨a19, ea19⟩ : ∃ x9 : Int32, x9 = (qI S17 v56_2 3) := ⟨_, rfl⟩
        replace h := h a19 ea19
        replace K := fun i ro uo z => K i ro uo ⟨a19, ea19, z⟩
        obtain ⟨n9, h⟩ := h
        exact ru_count_L105 n9 i0 K h
      · replace h := h.2 c
        replace K := fun i ro uo z => K i ro uo (Or.inr ⟨c, z⟩)
        exact ⟨_, _, K i0 _ _ ⟨rfl, rfl⟩, h⟩
    · replace h := h.2 c
      replace K := fun i ro uo z => K i ro uo (Or.inr ⟨c, z⟩)
      obtain ⟨Q9, h0, h⟩ := h
      obtain ⟨S90, z9, g9⟩ := ru_graph h0
      replace h := h S90 g9
      replace K := fun i ro uo z => K i ro uo ⟨S90, z9, z⟩
      obtain ⟨Q9, h0, h⟩ := h
      obtain ⟨r93, S94, z9, g9⟩ := ru_reachedBlocks h0
      replace h := h r93 S94 g9
      replace K := fun i ro uo z => K i ro uo ⟨r93, S94, z9, z⟩
      obtain ⟨a97, ea97⟩ : ∃ x9 : Int32, x9 = (v56_3 + r93) := ⟨_, rfl⟩
      replace h := h a97 ea97
      replace K := fun i ro uo z => K i ro uo ⟨a97, ea97, z⟩
      obtain ⟨a98, ea98⟩ : ∃ x9 : Int32, x9 = (v56_4 + Int32.ofInt 1) := ⟨_, rfl⟩
      replace h := h a98 ea98
      replace K := fun i ro uo z => K i ro uo ⟨a98, ea98, z⟩
      exact ih i00 (fun i ro uo ⟨n8, z⟩ => K (i, n8) ro uo z) h
set_option maxRecDepth 100000 in
theorem ru_count {S : MS} {x1 : Int32} {Q : Int32 → MS → Prop} (h : w_count S x1 Q) : ∃ ro uo, v_count S x1 ro uo ∧ Q ro uo := by
  have i0 : Unit := ()
  have K : ∀ (i : Unit) (ro : Int32) (uo : MS), v_count S x1 ro uo → v_count S x1 ro uo := fun _ _ _ z => z
  unfold w_count at h
  obtain ⟨Q9, h0, h⟩ := h
  obtain ⟨r2, S3, z9, g9⟩ := ru_isRight h0
  replace h := h r2 S3 g9
  replace K := fun i ro uo z => K i ro uo ⟨r2, S3, z9, z⟩
  by_cases c : r2.toInt = 0
  · replace h := h.1 c
    replace K := fun i ro uo z => K i ro uo (Or.inl ⟨c, z⟩)
    exact ⟨_, _, K i0 _ _ ⟨rfl, rfl⟩, h⟩
  · replace h := h.2 c
    replace K := fun i ro uo z => K i ro uo (Or.inr ⟨c, z⟩)
    by_cases c : (qI S3 0 1).toInt = 12
    · replace h := h.1 c
      replace K := fun i ro uo z => K i ro uo (Or.inl ⟨c, z⟩)
      exact ⟨_, _, K i0 _ _ ⟨rfl, rfl⟩, h⟩
    · replace h := h.2 c
      replace K := fun i ro uo z => K i ro uo (Or.inr ⟨c, z⟩)
      by_cases c : (qI S3 0 2).toInt = 16
      · replace h := h.1 c
        replace K := fun i ro uo z => K i ro uo (Or.inl ⟨c, z⟩)
        exact ⟨_, _, K i0 _ _ ⟨rfl, rfl⟩, h⟩
      · replace h := h.2 c
        replace K := fun i ro uo z => K i ro uo (Or.inr ⟨c, z⟩)
        obtain ⟨S9, eS9⟩ : ∃ x9 : MS, x9 = wI S3 0 2 ((qI S3 0 2) + (1 : Int32)) := ⟨_, rfl⟩
        replace h := h S9 eS9
        replace K := fun i ro uo z => K i ro uo ⟨S9, eS9, z⟩
        obtain ⟨g8_, h⟩ := h
        replace K := fun i ro uo z => K i ro uo ⟨g8_, z⟩
        obtain ⟨g9_, h⟩ := h
        replace K := fun i ro uo z => K i ro uo ⟨g9_, z⟩
        obtain ⟨a13, ea13⟩ : ∃ x9 : Int32, x9 = (qI S9 (qO S9 1 x1.toInt.toNat) 3) := ⟨_, rfl⟩
        replace h := h a13 ea13
        replace K := fun i ro uo z => K i ro uo ⟨a13, ea13, z⟩
        obtain ⟨n9, h⟩ := h
        exact ru_count_L56 n9 i0 K h
set_option maxRecDepth 100000 in
theorem vw_count_L196 {ro : Int32} {uo : MS} : ∀ (n : Nat) {U196 : MS} {v196_1 : Int32} {v196_2 : Nat} {v196_4 : Int32} {v196_5 : Int32}, v_count_L196 ro uo n U196 v196_1 v196_2 v196_4 v196_5 → w_count_L196 (fun r u => r = ro ∧ u = uo) n U196 v196_1 v196_2 v196_4 v196_5 := by
  intro n
  induction n with
  | zero => intro U196 v196_1 v196_2 v196_4 v196_5 h; unfold v_count_L196 at h; exact h.elim
  | succ n ih =>
    intro U196 v196_1 v196_2 v196_4 v196_5 h
    unfold v_count_L196 at h
    unfold w_count_L196
    rcases h with ⟨c, h⟩ | ⟨c, h⟩
    · refine ⟨fun _ => ?_, fun c2 => absurd c c2⟩
      obtain ⟨p9, q9, z9, h⟩ := h
      refine ⟨_, vw_keptDraft z9, ?_⟩
      rintro p8 q8 ⟨d8, d9⟩
      subst d8
      subst d9
      exact ⟨h.1.symm, h.2.symm⟩
    · refine ⟨fun c2 => absurd c2 c, fun _ => ?_⟩
      obtain ⟨q9, z9, h⟩ := h
      refine ⟨_, vw_graph z9, ?_⟩
      intro q8 d9
      subst d9
      obtain ⟨q9, z9, h⟩ := h
      refine ⟨_, vw_takeMethod z9, ?_⟩
      intro q8 d9
      subst d9
      obtain ⟨q9, z9, h⟩ := h
      refine ⟨_, vw_putMethod z9, ?_⟩
      intro q8 d9
      subst d9
      obtain ⟨p9, q9, z9, h⟩ := h
      refine ⟨_, vw_reachedBlocks z9, ?_⟩
      rintro p8 q8 ⟨d8, d9⟩
      subst d8
      subst d9
      obtain ⟨v9, e9, h⟩ := h
      intro x9 d9
      have c9 : v9 = x9 := e9.trans d9.symm
      subst c9
      obtain ⟨v9, e9, h⟩ := h
      intro x9 d9
      have c9 : v9 = x9 := e9.trans d9.symm
      subst c9
      exact ih h
set_option maxRecDepth 100000 in
theorem vz_count_L196 {ro : Int32} {uo : MS} {Q : Int32 → MS → Prop} : ∀ (n m : Nat) {U196 : MS} {v196_1 : Int32} {v196_2 : Nat} {v196_4 : Int32} {v196_5 : Int32}, v_count_L196 ro uo n U196 v196_1 v196_2 v196_4 v196_5 → w_count_L196 Q m U196 v196_1 v196_2 v196_4 v196_5 → Q ro uo := by
  intro n
  induction n with
  | zero => intro m U196 v196_1 v196_2 v196_4 v196_5 h; unfold v_count_L196 at h; exact h.elim
  | succ n ih =>
    intro m U196 v196_1 v196_2 v196_4 v196_5 h w
    cases m with
    | zero => unfold w_count_L196 at w; exact w.elim
    | succ m =>
      unfold v_count_L196 at h
      unfold w_count_L196 at w
      rcases h with ⟨c, h⟩ | ⟨c, h⟩
      · replace w := w.1 c
        obtain ⟨p9, q9, z9, h⟩ := h
        obtain ⟨Q9, w0, w⟩ := w
        replace w := w p9 q9 (vz_keptDraft z9 w0)
        rw [h.1, h.2]
        exact w
      · replace w := w.2 c
        obtain ⟨q9, z9, h⟩ := h
        obtain ⟨Q9, w0, w⟩ := w
        replace w := w q9 (vz_graph z9 w0)
        obtain ⟨q9, z9, h⟩ := h
        obtain ⟨Q9, w0, w⟩ := w
        replace w := w q9 (vz_takeMethod z9 w0)
        obtain ⟨q9, z9, h⟩ := h
        obtain ⟨Q9, w0, w⟩ := w
        replace w := w q9 (vz_putMethod z9 w0)
        obtain ⟨p9, q9, z9, h⟩ := h
        obtain ⟨Q9, w0, w⟩ := w
        replace w := w p9 q9 (vz_reachedBlocks z9 w0)
        obtain ⟨v9, e9, h⟩ := h
        replace w := w v9 e9
        obtain ⟨v9, e9, h⟩ := h
        replace w := w v9 e9
        exact ih m h w
set_option maxRecDepth 100000 in
theorem vw_count_L105 {ro : Int32} {uo : MS} : ∀ (n : Nat) {U105 : MS} {v105_1 : Int32} {v105_2 : Nat} {v105_3 : Int32} {v105_4 : Int32}, v_count_L105 ro uo n U105 v105_1 v105_2 v105_3 v105_4 → w_count_L105 (fun r u => r = ro ∧ u = uo) n U105 v105_1 v105_2 v105_3 v105_4 := by
  intro n
  induction n with
  | zero => intro U105 v105_1 v105_2 v105_3 v105_4 h; unfold v_count_L105 at h; exact h.elim
  | succ n ih =>
    intro U105 v105_1 v105_2 v105_3 v105_4 h
    unfold v_count_L105 at h
    unfold w_count_L105
    rcases h with ⟨c, h⟩ | ⟨c, h⟩
    · refine ⟨fun _ => ?_, fun c2 => absurd c c2⟩
      obtain ⟨v9, e9, h⟩ := h
      intro x9 d9
      have c9 : v9 = x9 := e9.trans d9.symm
      subst c9
      obtain ⟨v9, e9, h⟩ := h
      intro x9 d9
      have c9 : v9 = x9 := e9.trans d9.symm
      subst c9
      obtain ⟨n9, h⟩ := h
      exact ⟨n9, vw_count_L196 n9 h⟩
    · refine ⟨fun c2 => absurd c2 c, fun _ => ?_⟩
      obtain ⟨g9, h⟩ := h
      refine ⟨g9, ?_⟩
      obtain ⟨g9, h⟩ := h
      refine ⟨g9, ?_⟩
      obtain ⟨v9, e9, h⟩ := h
      intro x9 d9
      have c9 : v9 = x9 := e9.trans d9.symm
      subst c9
      obtain ⟨q9, z9, h⟩ := h
      refine ⟨_, vw_J4_init_da8c8 z9, ?_⟩
      intro q8 d9
      subst d9
      obtain ⟨p9, q9, z9, h⟩ := h
      refine ⟨_, vw_J4_append_15ec4 z9, ?_⟩
      rintro p8 q8 ⟨d8, d9⟩
      subst d8
      subst d9
      obtain ⟨p9, q9, z9, h⟩ := h
      refine ⟨_, vw_J4_append_bf812 z9, ?_⟩
      rintro p8 q8 ⟨d8, d9⟩
      subst d8
      subst d9
      obtain ⟨p9, q9, z9, h⟩ := h
      refine ⟨_, vw_J4_toString_0e30d z9, ?_⟩
      rintro p8 q8 ⟨d8, d9⟩
      subst d8
      subst d9
      obtain ⟨g9, h⟩ := h
      refine ⟨g9, ?_⟩
      obtain ⟨v9, e9, h⟩ := h
      intro x9 d9
      have c9 : v9 = x9 := e9.trans d9.symm
      subst c9
      obtain ⟨g9, h⟩ := h
      refine ⟨g9, ?_⟩
      obtain ⟨g9, h⟩ := h
      refine ⟨g9, ?_⟩
      obtain ⟨v9, e9, h⟩ := h
      intro x9 d9
      have c9 : v9 = x9 := e9.trans d9.symm
      subst c9
      obtain ⟨g9, h⟩ := h
      refine ⟨g9, ?_⟩
      obtain ⟨g9, h⟩ := h
      refine ⟨g9, ?_⟩
      obtain ⟨v9, e9, h⟩ := h
      intro x9 d9
      have c9 : v9 = x9 := e9.trans d9.symm
      subst c9
      obtain ⟨v9, e9, h⟩ := h
      intro x9 d9
      have c9 : v9 = x9 := e9.trans d9.symm
      subst c9
      exact ih h
set_option maxRecDepth 100000 in
theorem vz_count_L105 {ro : Int32} {uo : MS} {Q : Int32 → MS → Prop} : ∀ (n m : Nat) {U105 : MS} {v105_1 : Int32} {v105_2 : Nat} {v105_3 : Int32} {v105_4 : Int32}, v_count_L105 ro uo n U105 v105_1 v105_2 v105_3 v105_4 → w_count_L105 Q m U105 v105_1 v105_2 v105_3 v105_4 → Q ro uo := by
  intro n
  induction n with
  | zero => intro m U105 v105_1 v105_2 v105_3 v105_4 h; unfold v_count_L105 at h; exact h.elim
  | succ n ih =>
    intro m U105 v105_1 v105_2 v105_3 v105_4 h w
    cases m with
    | zero => unfold w_count_L105 at w; exact w.elim
    | succ m =>
      unfold v_count_L105 at h
      unfold w_count_L105 at w
      rcases h with ⟨c, h⟩ | ⟨c, h⟩
      · replace w := w.1 c
        obtain ⟨v9, e9, h⟩ := h
        replace w := w v9 e9
        obtain ⟨v9, e9, h⟩ := h
        replace w := w v9 e9
        obtain ⟨n9, h⟩ := h
        obtain ⟨n8, w⟩ := w
        exact vz_count_L196 n9 n8 h w
      · replace w := w.2 c
        replace h := h.2
        replace w := w.2
        replace h := h.2
        replace w := w.2
        obtain ⟨v9, e9, h⟩ := h
        replace w := w v9 e9
        obtain ⟨q9, z9, h⟩ := h
        obtain ⟨Q9, w0, w⟩ := w
        replace w := w q9 (vz_J4_init_da8c8 z9 w0)
        obtain ⟨p9, q9, z9, h⟩ := h
        obtain ⟨Q9, w0, w⟩ := w
        replace w := w p9 q9 (vz_J4_append_15ec4 z9 w0)
        obtain ⟨p9, q9, z9, h⟩ := h
        obtain ⟨Q9, w0, w⟩ := w
        replace w := w p9 q9 (vz_J4_append_bf812 z9 w0)
        obtain ⟨p9, q9, z9, h⟩ := h
        obtain ⟨Q9, w0, w⟩ := w
        replace w := w p9 q9 (vz_J4_toString_0e30d z9 w0)
        replace h := h.2
        replace w := w.2
        obtain ⟨v9, e9, h⟩ := h
        replace w := w v9 e9
        replace h := h.2
        replace w := w.2
        replace h := h.2
        replace w := w.2
        obtain ⟨v9, e9, h⟩ := h
        replace w := w v9 e9
        replace h := h.2
        replace w := w.2
        replace h := h.2
        replace w := w.2
        obtain ⟨v9, e9, h⟩ := h
        replace w := w v9 e9
        obtain ⟨v9, e9, h⟩ := h
        replace w := w v9 e9
        exact ih m h w
set_option maxRecDepth 100000 in
theorem vw_count_L56 {ro : Int32} {uo : MS} : ∀ (n : Nat) {U56 : MS} {v56_1 : Int32} {v56_2 : Nat} {v56_3 : Int32} {v56_4 : Int32}, v_count_L56 ro uo n U56 v56_1 v56_2 v56_3 v56_4 → w_count_L56 (fun r u => r = ro ∧ u = uo) n U56 v56_1 v56_2 v56_3 v56_4 := by
  intro n
  induction n with
  | zero => intro U56 v56_1 v56_2 v56_3 v56_4 h; unfold v_count_L56 at h; exact h.elim
  | succ n ih =>
    intro U56 v56_1 v56_2 v56_3 v56_4 h
    unfold v_count_L56 at h
    unfold w_count_L56
    rcases h with ⟨c, h⟩ | ⟨c, h⟩
    · refine ⟨fun _ => ?_, fun c2 => absurd c c2⟩
      rcases h with ⟨c, h⟩ | ⟨c, h⟩
      · refine ⟨fun _ => ?_, fun c2 => absurd c c2⟩
        obtain ⟨q9, z9, h⟩ := h
        refine ⟨_, vw_copyHead z9, ?_⟩
        intro q8 d9
        subst d9
        obtain ⟨v9, e9, h⟩ := h
        intro x9 d9
        have c9 : v9 = x9 := e9.trans d9.symm
        subst c9
        obtain ⟨n9, h⟩ := h
        exact ⟨n9, vw_count_L105 n9 h⟩
      · refine ⟨fun c2 => absurd c2 c, fun _ => ?_⟩
        exact ⟨h.1.symm, h.2.symm⟩
    · refine ⟨fun c2 => absurd c2 c, fun _ => ?_⟩
      obtain ⟨q9, z9, h⟩ := h
      refine ⟨_, vw_graph z9, ?_⟩
      intro q8 d9
      subst d9
      obtain ⟨p9, q9, z9, h⟩ := h
      refine ⟨_, vw_reachedBlocks z9, ?_⟩
      rintro p8 q8 ⟨d8, d9⟩
      subst d8
      subst d9
      obtain ⟨v9, e9, h⟩ := h
      intro x9 d9
      have c9 : v9 = x9 := e9.trans d9.symm
      subst c9
      obtain ⟨v9, e9, h⟩ := h
      intro x9 d9
      have c9 : v9 = x9 := e9.trans d9.symm
      subst c9
      exact ih h
set_option maxRecDepth 100000 in
theorem vz_count_L56 {ro : Int32} {uo : MS} {Q : Int32 → MS → Prop} : ∀ (n m : Nat) {U56 : MS} {v56_1 : Int32} {v56_2 : Nat} {v56_3 : Int32} {v56_4 : Int32}, v_count_L56 ro uo n U56 v56_1 v56_2 v56_3 v56_4 → w_count_L56 Q m U56 v56_1 v56_2 v56_3 v56_4 → Q ro uo := by
  intro n
  induction n with
  | zero => intro m U56 v56_1 v56_2 v56_3 v56_4 h; unfold v_count_L56 at h; exact h.elim
  | succ n ih =>
    intro m U56 v56_1 v56_2 v56_3 v56_4 h w
    cases m with
    | zero => unfold w_count_L56 at w; exact w.elim
    | succ m =>
      unfold v_count_L56 at h
      unfold w_count_L56 at w
      rcases h with ⟨c, h⟩ | ⟨c, h⟩
      · replace w := w.1 c
        rcases h with ⟨c, h⟩ | ⟨c, h⟩
        · replace w := w.1 c
          obtain ⟨q9, z9, h⟩ := h
          obtain ⟨Q9, w0, w⟩ := w
          replace w := w q9 (vz_copyHead z9 w0)
          obtain ⟨v9, e9, h⟩ := h
          replace w := w v9 e9
          obtain ⟨n9, h⟩ := h
          obtain ⟨n8, w⟩ := w
          exact vz_count_L105 n9 n8 h w
        · replace w := w.2 c
          rw [h.1, h.2]
          exact w
      · replace w := w.2 c
        obtain ⟨q9, z9, h⟩ := h
        obtain ⟨Q9, w0, w⟩ := w
        replace w := w q9 (vz_graph z9 w0)
        obtain ⟨p9, q9, z9, h⟩ := h
        obtain ⟨Q9, w0, w⟩ := w
        replace w := w p9 q9 (vz_reachedBlocks z9 w0)
        obtain ⟨v9, e9, h⟩ := h
        replace w := w v9 e9
        obtain ⟨v9, e9, h⟩ := h
        replace w := w v9 e9
        exact ih m h w
set_option maxRecDepth 100000 in
theorem vw_count {S : MS} {x1 : Int32} {ro : Int32} {uo : MS} (h : v_count S x1 ro uo) : w_count S x1 (fun r u => r = ro ∧ u = uo) := by
  unfold v_count at h
  unfold w_count
  obtain ⟨p9, q9, z9, h⟩ := h
  refine ⟨_, vw_isRight z9, ?_⟩
  rintro p8 q8 ⟨d8, d9⟩
  subst d8
  subst d9
  rcases h with ⟨c, h⟩ | ⟨c, h⟩
  · refine ⟨fun _ => ?_, fun c2 => absurd c c2⟩
    exact ⟨h.1.symm, h.2.symm⟩
  · refine ⟨fun c2 => absurd c2 c, fun _ => ?_⟩
    rcases h with ⟨c, h⟩ | ⟨c, h⟩
    · refine ⟨fun _ => ?_, fun c2 => absurd c c2⟩
      exact ⟨h.1.symm, h.2.symm⟩
    · refine ⟨fun c2 => absurd c2 c, fun _ => ?_⟩
      rcases h with ⟨c, h⟩ | ⟨c, h⟩
      · refine ⟨fun _ => ?_, fun c2 => absurd c c2⟩
        exact ⟨h.1.symm, h.2.symm⟩
      · refine ⟨fun c2 => absurd c2 c, fun _ => ?_⟩
        obtain ⟨v9, e9, h⟩ := h
        intro x9 d9
        have c9 : v9 = x9 := e9.trans d9.symm
        subst c9
        obtain ⟨g9, h⟩ := h
        refine ⟨g9, ?_⟩
        obtain ⟨g9, h⟩ := h
        refine ⟨g9, ?_⟩
        obtain ⟨v9, e9, h⟩ := h
        intro x9 d9
        have c9 : v9 = x9 := e9.trans d9.symm
        subst c9
        obtain ⟨n9, h⟩ := h
        exact ⟨n9, vw_count_L56 n9 h⟩
set_option maxRecDepth 100000 in
theorem vz_count {S : MS} {x1 : Int32} {ro : Int32} {uo : MS} {Q : Int32 → MS → Prop} (h : v_count S x1 ro uo) (w : w_count S x1 Q) : Q ro uo := by
  unfold v_count at h
  unfold w_count at w
  obtain ⟨p9, q9, z9, h⟩ := h
  obtain ⟨Q9, w0, w⟩ := w
  replace w := w p9 q9 (vz_isRight z9 w0)
  rcases h with ⟨c, h⟩ | ⟨c, h⟩
  · replace w := w.1 c
    rw [h.1, h.2]
    exact w
  · replace w := w.2 c
    rcases h with ⟨c, h⟩ | ⟨c, h⟩
    · replace w := w.1 c
      rw [h.1, h.2]
      exact w
    · replace w := w.2 c
      rcases h with ⟨c, h⟩ | ⟨c, h⟩
      · replace w := w.1 c
        rw [h.1, h.2]
        exact w
      · replace w := w.2 c
        obtain ⟨v9, e9, h⟩ := h
        replace w := w v9 e9
        replace h := h.2
        replace w := w.2
        replace h := h.2
        replace w := w.2
        obtain ⟨v9, e9, h⟩ := h
        replace w := w v9 e9
        obtain ⟨n9, h⟩ := h
        obtain ⟨n8, w⟩ := w
        exact vz_count_L56 n9 n8 h w
def v_edge_L39 (ro : Int32) (uo : MS) : Nat → MS → Int32 → Int32 → Int32 → Prop
  | 0, _, _, _, _ => False
  | n39 + 1, U39, v39_3, v39_4, v39_5 => (((0 : Int) ≤ (v39_3 + (1 : Int32)).toInt ∧ (v39_3 + (1 : Int32)).toInt < 1202) ∧ (((qI U39 51 (((v39_3 + (1 : Int32)).toInt).toNat)).toInt ≤ v39_5.toInt ∧ (ro = (0 : Int32) ∧ uo = U39)) ∨ (¬ (qI U39 51 (((v39_3 + (1 : Int32)).toInt).toNat)).toInt ≤ v39_5.toInt ∧ (((0 : Int) ≤ v39_5.toInt ∧ v39_5.toInt < 24000) ∧ (((qI U39 52 v39_5.toInt.toNat).toInt = v39_4.toInt ∧ (ro = (1 : Int32) ∧ uo = U39)) ∨ (¬ (qI U39 52 v39_5.toInt.toNat).toInt = v39_4.toInt ∧ (∃ a21 : Int32, a21 = (v39_5 + Int32.ofInt 1) ∧ ((v_edge_L39 ro uo n39) U39 v39_3 v39_4 a21))))))))
def v_edge (S : MS) (x1 : Int32) (x2 : Int32) (x3 : Int32) (x4 : Int32) (ro : Int32) (uo : MS) : Prop := (∃ (r2 : Int32) (S3 : MS), v_isMethod S x1 x2 r2 S3 ∧ ((r2.toInt = 0 ∧ (ro = (0 : Int32) ∧ uo = S3)) ∨ (¬ r2.toInt = 0 ∧ (∃ (S7 : MS), v_graph S3 x1 x2 S7 ∧ ((x3.toInt < 0 ∧ (ro = (0 : Int32) ∧ uo = S7)) ∨ (¬ x3.toInt < 0 ∧ ((x3.toInt < (qI S7 0 105).toInt ∧ (((0 : Int) ≤ x3.toInt ∧ x3.toInt < 1202) ∧ (∃ a13 : Int32, a13 = (qI S7 51 x3.toInt.toNat) ∧ (∃ n, v_edge_L39 ro uo n S7 x3 x4 a13)))) ∨ (¬ x3.toInt < (qI S7 0 105).toInt ∧ (ro = (0 : Int32) ∧ uo = S7)))))))))
set_option maxRecDepth 100000 in
theorem ru_edge_L39 {ι : Type} {P : Int32 → MS → Prop} {Q : Int32 → MS → Prop} : ∀ (n : Nat) {U39 : MS} {v39_3 : Int32} {v39_4 : Int32} {v39_5 : Int32} (i0 : ι), (∀ (i : ι) (ro : Int32) (uo : MS), (∃ n8, v_edge_L39 ro uo n8 U39 v39_3 v39_4 v39_5) → P ro uo) → w_edge_L39 Q n U39 v39_3 v39_4 v39_5 → ∃ ro uo, P ro uo ∧ Q ro uo := by
  intro n
  induction n with
  | zero => intro U39 v39_3 v39_4 v39_5 i0 K h; unfold w_edge_L39 at h; exact h.elim
  | succ n ih =>
    intro U39 v39_3 v39_4 v39_5 i0 K h
    unfold w_edge_L39 at h
    replace K := fun (i : ι × Nat) ro uo (z : v_edge_L39 ro uo (i.2 + 1) U39 v39_3 v39_4 v39_5) => K i.1 ro uo ⟨i.2 + 1, z⟩
    have i00 := i0
    replace i0 : ι × Nat := (i0, 0)
    obtain ⟨g1_, h⟩ := h
    replace K := fun i ro uo z => K i ro uo ⟨g1_, z⟩
    by_cases c : (qI U39 51 (((v39_3 + (1 : Int32)).toInt).toNat)).toInt ≤ v39_5.toInt
    · replace h := h.1 c
      replace K := fun i ro uo z => K i ro uo (Or.inl ⟨c, z⟩)
      exact ⟨_, _, K i0 _ _ ⟨rfl, rfl⟩, h⟩
    · replace h := h.2 c
      replace K := fun i ro uo z => K i ro uo (Or.inr ⟨c, z⟩)
      obtain ⟨g2_, h⟩ := h
      replace K := fun i ro uo z => K i ro uo ⟨g2_, z⟩
      by_cases c : (qI U39 52 v39_5.toInt.toNat).toInt = v39_4.toInt
      · replace h := h.1 c
        replace K := fun i ro uo z => K i ro uo (Or.inl ⟨c, z⟩)
        exact ⟨_, _, K i0 _ _ ⟨rfl, rfl⟩, h⟩
      · replace h := h.2 c
        replace K := fun i ro uo z => K i ro uo (Or.inr ⟨c, z⟩)
        obtain ⟨a21, ea21⟩ : ∃ x9 : Int32, x9 = (v39_5 + Int32.ofInt 1) := ⟨_, rfl⟩
        replace h := h a21 ea21
        replace K := fun i ro uo z => K i ro uo ⟨a21, ea21, z⟩
        exact ih i00 (fun i ro uo ⟨n8, z⟩ => K (i, n8) ro uo z) h
set_option maxRecDepth 100000 in
theorem ru_edge {S : MS} {x1 : Int32} {x2 : Int32} {x3 : Int32} {x4 : Int32} {Q : Int32 → MS → Prop} (h : w_edge S x1 x2 x3 x4 Q) : ∃ ro uo, v_edge S x1 x2 x3 x4 ro uo ∧ Q ro uo := by
  have i0 : Unit := ()
  have K : ∀ (i : Unit) (ro : Int32) (uo : MS), v_edge S x1 x2 x3 x4 ro uo → v_edge S x1 x2 x3 x4 ro uo := fun _ _ _ z => z
  unfold w_edge at h
  obtain ⟨Q9, h0, h⟩ := h
  obtain ⟨r2, S3, z9, g9⟩ := ru_isMethod h0
  replace h := h r2 S3 g9
  replace K := fun i ro uo z => K i ro uo ⟨r2, S3, z9, z⟩
  by_cases c : r2.toInt = 0
  · replace h := h.1 c
    replace K := fun i ro uo z => K i ro uo (Or.inl ⟨c, z⟩)
    exact ⟨_, _, K i0 _ _ ⟨rfl, rfl⟩, h⟩
  · replace h := h.2 c
    replace K := fun i ro uo z => K i ro uo (Or.inr ⟨c, z⟩)
    obtain ⟨Q9, h0, h⟩ := h
    obtain ⟨S7, z9, g9⟩ := ru_graph h0
    replace h := h S7 g9
    replace K := fun i ro uo z => K i ro uo ⟨S7, z9, z⟩
    by_cases c : x3.toInt < 0
    · replace h := h.1 c
      replace K := fun i ro uo z => K i ro uo (Or.inl ⟨c, z⟩)
      exact ⟨_, _, K i0 _ _ ⟨rfl, rfl⟩, h⟩
    · replace h := h.2 c
      replace K := fun i ro uo z => K i ro uo (Or.inr ⟨c, z⟩)
      by_cases c : x3.toInt < (qI S7 0 105).toInt
      · replace h := h.1 c
        replace K := fun i ro uo z => K i ro uo (Or.inl ⟨c, z⟩)
        obtain ⟨g3_, h⟩ := h
        replace K := fun i ro uo z => K i ro uo ⟨g3_, z⟩
        obtain ⟨a13, ea13⟩ : ∃ x9 : Int32, x9 = (qI S7 51 x3.toInt.toNat) := ⟨_, rfl⟩
        replace h := h a13 ea13
        replace K := fun i ro uo z => K i ro uo ⟨a13, ea13, z⟩
        obtain ⟨n9, h⟩ := h
        exact ru_edge_L39 n9 i0 K h
      · replace h := h.2 c
        replace K := fun i ro uo z => K i ro uo (Or.inr ⟨c, z⟩)
        exact ⟨_, _, K i0 _ _ ⟨rfl, rfl⟩, h⟩
set_option maxRecDepth 100000 in
theorem vw_edge_L39 {ro : Int32} {uo : MS} : ∀ (n : Nat) {U39 : MS} {v39_3 : Int32} {v39_4 : Int32} {v39_5 : Int32}, v_edge_L39 ro uo n U39 v39_3 v39_4 v39_5 → w_edge_L39 (fun r u => r = ro ∧ u = uo) n U39 v39_3 v39_4 v39_5 := by
  intro n
  induction n with
  | zero => intro U39 v39_3 v39_4 v39_5 h; unfold v_edge_L39 at h; exact h.elim
  | succ n ih =>
    intro U39 v39_3 v39_4 v39_5 h
    unfold v_edge_L39 at h
    unfold w_edge_L39
    obtain ⟨g9, h⟩ := h
    refine ⟨g9, ?_⟩
    rcases h with ⟨c, h⟩ | ⟨c, h⟩
    · refine ⟨fun _ => ?_, fun c2 => absurd c c2⟩
      exact ⟨h.1.symm, h.2.symm⟩
    · refine ⟨fun c2 => absurd c2 c, fun _ => ?_⟩
      obtain ⟨g9, h⟩ := h
      refine ⟨g9, ?_⟩
      rcases h with ⟨c, h⟩ | ⟨c, h⟩
      · refine ⟨fun _ => ?_, fun c2 => absurd c c2⟩
        exact ⟨h.1.symm, h.2.symm⟩
      · refine ⟨fun c2 => absurd c2 c, fun _ => ?_⟩
        obtain ⟨v9, e9, h⟩ := h
        intro x9 d9
        have c9 : v9 = x9 := e9.trans d9.symm
        subst c9
        exact ih h
set_option maxRecDepth 100000 in
theorem vz_edge_L39 {ro : Int32} {uo : MS} {Q : Int32 → MS → Prop} : ∀ (n m : Nat) {U39 : MS} {v39_3 : Int32} {v39_4 : Int32} {v39_5 : Int32}, v_edge_L39 ro uo n U39 v39_3 v39_4 v39_5 → w_edge_L39 Q m U39 v39_3 v39_4 v39_5 → Q ro uo := by
  intro n
  induction n with
  | zero => intro m U39 v39_3 v39_4 v39_5 h; unfold v_edge_L39 at h; exact h.elim
  | succ n ih =>
    intro m U39 v39_3 v39_4 v39_5 h w
    cases m with
    | zero => unfold w_edge_L39 at w; exact w.elim
    | succ m =>
      unfold v_edge_L39 at h
      unfold w_edge_L39 at w
      replace h := h.2
      replace w := w.2
      rcases h with ⟨c, h⟩ | ⟨c, h⟩
      · replace w := w.1 c
        rw [h.1, h.2]
        exact w
      · replace w := w.2 c
        replace h := h.2
        replace w := w.2
        rcases h with ⟨c, h⟩ | ⟨c, h⟩
        · replace w := w.1 c
          rw [h.1, h.2]
          exact w
        · replace w := w.2 c
          obtain ⟨v9, e9, h⟩ := h
          replace w := w v9 e9
          exact ih m h w
set_option maxRecDepth 100000 in
theorem vw_edge {S : MS} {x1 : Int32} {x2 : Int32} {x3 : Int32} {x4 : Int32} {ro : Int32} {uo : MS} (h : v_edge S x1 x2 x3 x4 ro uo) : w_edge S x1 x2 x3 x4 (fun r u => r = ro ∧ u = uo) := by
  unfold v_edge at h
  unfold w_edge
  obtain ⟨p9, q9, z9, h⟩ := h
  refine ⟨_, vw_isMethod z9, ?_⟩
  rintro p8 q8 ⟨d8, d9⟩
  subst d8
  subst d9
  rcases h with ⟨c, h⟩ | ⟨c, h⟩
  · refine ⟨fun _ => ?_, fun c2 => absurd c c2⟩
    exact ⟨h.1.symm, h.2.symm⟩
  · refine ⟨fun c2 => absurd c2 c, fun _ => ?_⟩
    obtain ⟨q9, z9, h⟩ := h
    refine ⟨_, vw_graph z9, ?_⟩
    intro q8 d9
    subst d9
    rcases h with ⟨c, h⟩ | ⟨c, h⟩
    · refine ⟨fun _ => ?_, fun c2 => absurd c c2⟩
      exact ⟨h.1.symm, h.2.symm⟩
    · refine ⟨fun c2 => absurd c2 c, fun _ => ?_⟩
      rcases h with ⟨c, h⟩ | ⟨c, h⟩
      · refine ⟨fun _ => ?_, fun c2 => absurd c c2⟩
        obtain ⟨g9, h⟩ := h
        refine ⟨g9, ?_⟩
        obtain ⟨v9, e9, h⟩ := h
        intro x9 d9
        have c9 : v9 = x9 := e9.trans d9.symm
        subst c9
        obtain ⟨n9, h⟩ := h
        exact ⟨n9, vw_edge_L39 n9 h⟩
      · refine ⟨fun c2 => absurd c2 c, fun _ => ?_⟩
        exact ⟨h.1.symm, h.2.symm⟩
set_option maxRecDepth 100000 in
theorem vz_edge {S : MS} {x1 : Int32} {x2 : Int32} {x3 : Int32} {x4 : Int32} {ro : Int32} {uo : MS} {Q : Int32 → MS → Prop} (h : v_edge S x1 x2 x3 x4 ro uo) (w : w_edge S x1 x2 x3 x4 Q) : Q ro uo := by
  unfold v_edge at h
  unfold w_edge at w
  obtain ⟨p9, q9, z9, h⟩ := h
  obtain ⟨Q9, w0, w⟩ := w
  replace w := w p9 q9 (vz_isMethod z9 w0)
  rcases h with ⟨c, h⟩ | ⟨c, h⟩
  · replace w := w.1 c
    rw [h.1, h.2]
    exact w
  · replace w := w.2 c
    obtain ⟨q9, z9, h⟩ := h
    obtain ⟨Q9, w0, w⟩ := w
    replace w := w q9 (vz_graph z9 w0)
    rcases h with ⟨c, h⟩ | ⟨c, h⟩
    · replace w := w.1 c
      rw [h.1, h.2]
      exact w
    · replace w := w.2 c
      rcases h with ⟨c, h⟩ | ⟨c, h⟩
      · replace w := w.1 c
        replace h := h.2
        replace w := w.2
        obtain ⟨v9, e9, h⟩ := h
        replace w := w v9 e9
        obtain ⟨n9, h⟩ := h
        obtain ⟨n8, w⟩ := w
        exact vz_edge_L39 n9 n8 h w
      · replace w := w.2 c
        rw [h.1, h.2]
        exact w
def v_end (S : MS) (x1 : Int32) (ro : Int32) (uo : MS) : Prop := ((x1.toInt < 0 ∧ (ro = (0 : Int32) ∧ uo = S)) ∨ (¬ x1.toInt < 0 ∧ ((x1.toInt ≤ (qI S 0 4).toInt ∧ (∃ S3 : MS, S3 = wI S 0 4 x1 ∧ (ro = (1 : Int32) ∧ uo = S3))) ∨ (¬ x1.toInt ≤ (qI S 0 4).toInt ∧ (ro = (0 : Int32) ∧ uo = S)))))
set_option maxRecDepth 100000 in
theorem ru_end {S : MS} {x1 : Int32} {Q : Int32 → MS → Prop} (h : w_end S x1 Q) : ∃ ro uo, v_end S x1 ro uo ∧ Q ro uo := by
  have i0 : Unit := ()
  have K : ∀ (i : Unit) (ro : Int32) (uo : MS), v_end S x1 ro uo → v_end S x1 ro uo := fun _ _ _ z => z
  unfold w_end at h
  by_cases c : x1.toInt < 0
  · replace h := h.1 c
    replace K := fun i ro uo z => K i ro uo (Or.inl ⟨c, z⟩)
    exact ⟨_, _, K i0 _ _ ⟨rfl, rfl⟩, h⟩
  · replace h := h.2 c
    replace K := fun i ro uo z => K i ro uo (Or.inr ⟨c, z⟩)
    by_cases c : x1.toInt ≤ (qI S 0 4).toInt
    · replace h := h.1 c
      replace K := fun i ro uo z => K i ro uo (Or.inl ⟨c, z⟩)
      obtain ⟨S3, eS3⟩ : ∃ x9 : MS, x9 = wI S 0 4 x1 := ⟨_, rfl⟩
      replace h := h S3 eS3
      replace K := fun i ro uo z => K i ro uo ⟨S3, eS3, z⟩
      exact ⟨_, _, K i0 _ _ ⟨rfl, rfl⟩, h⟩
    · replace h := h.2 c
      replace K := fun i ro uo z => K i ro uo (Or.inr ⟨c, z⟩)
      exact ⟨_, _, K i0 _ _ ⟨rfl, rfl⟩, h⟩
set_option maxRecDepth 100000 in
theorem vw_end {S : MS} {x1 : Int32} {ro : Int32} {uo : MS} (h : v_end S x1 ro uo) : w_end S x1 (fun r u => r = ro ∧ u = uo) := by
  unfold v_end at h
  unfold w_end
  rcases h with ⟨c, h⟩ | ⟨c, h⟩
  · refine ⟨fun _ => ?_, fun c2 => absurd c c2⟩
    exact ⟨h.1.symm, h.2.symm⟩
  · refine ⟨fun c2 => absurd c2 c, fun _ => ?_⟩
    rcases h with ⟨c, h⟩ | ⟨c, h⟩
    · refine ⟨fun _ => ?_, fun c2 => absurd c c2⟩
      obtain ⟨v9, e9, h⟩ := h
      intro x9 d9
      have c9 : v9 = x9 := e9.trans d9.symm
      subst c9
      exact ⟨h.1.symm, h.2.symm⟩
    · refine ⟨fun c2 => absurd c2 c, fun _ => ?_⟩
      exact ⟨h.1.symm, h.2.symm⟩
set_option maxRecDepth 100000 in
theorem vz_end {S : MS} {x1 : Int32} {ro : Int32} {uo : MS} {Q : Int32 → MS → Prop} (h : v_end S x1 ro uo) (w : w_end S x1 Q) : Q ro uo := by
  unfold v_end at h
  unfold w_end at w
  rcases h with ⟨c, h⟩ | ⟨c, h⟩
  · replace w := w.1 c
    rw [h.1, h.2]
    exact w
  · replace w := w.2 c
    rcases h with ⟨c, h⟩ | ⟨c, h⟩
    · replace w := w.1 c
      obtain ⟨v9, e9, h⟩ := h
      replace w := w v9 e9
      rw [h.1, h.2]
      exact w
    · replace w := w.2 c
      rw [h.1, h.2]
      exact w
def v_word_L2 (uo : MS) : Nat → MS → Int32 → Int32 → Prop
  | 0, _, _, _ => False
  | n2 + 1, U2, v2_1, v2_2 => ((4 ≤ v2_2.toInt ∧ (uo = U2)) ∨ (¬ 4 ≤ v2_2.toInt ∧ (((0 : Int) ≤ (qI U2 0 4).toInt ∧ (qI U2 0 4).toInt < 16000) ∧ (∃ S6 : MS, S6 = wI U2 2 (((qI U2 0 4).toInt).toNat) (vp_nar .byte ((v2_1 >>> (((24 : Int32) - ((8 : Int32) * v2_2)) &&& 31)).toInt8.toInt32)) ∧ (∃ S8 : MS, S8 = wI S6 0 4 ((qI S6 0 4) + (1 : Int32)) ∧ (∃ a9 : Int32, a9 = (v2_2 + Int32.ofInt 1) ∧ ((v_word_L2 uo n2) S8 v2_1 a9)))))))
def v_word (S : MS) (x1 : Int32) (uo : MS) : Prop := (∃ n, v_word_L2 uo n S x1 0)
set_option maxRecDepth 100000 in
theorem ru_word_L2 {ι : Type} {P : MS → Prop} {Q : MS → Prop} : ∀ (n : Nat) {U2 : MS} {v2_1 : Int32} {v2_2 : Int32} (i0 : ι), (∀ (i : ι) (uo : MS), (∃ n8, v_word_L2 uo n8 U2 v2_1 v2_2) → P uo) → w_word_L2 Q n U2 v2_1 v2_2 → ∃ uo, P uo ∧ Q uo := by
  intro n
  induction n with
  | zero => intro U2 v2_1 v2_2 i0 K h; unfold w_word_L2 at h; exact h.elim
  | succ n ih =>
    intro U2 v2_1 v2_2 i0 K h
    unfold w_word_L2 at h
    replace K := fun (i : ι × Nat) uo (z : v_word_L2 uo (i.2 + 1) U2 v2_1 v2_2) => K i.1 uo ⟨i.2 + 1, z⟩
    have i00 := i0
    replace i0 : ι × Nat := (i0, 0)
    by_cases c : 4 ≤ v2_2.toInt
    · replace h := h.1 c
      replace K := fun i uo z => K i uo (Or.inl ⟨c, z⟩)
      exact ⟨_, K i0 _ rfl, h⟩
    · replace h := h.2 c
      replace K := fun i uo z => K i uo (Or.inr ⟨c, z⟩)
      obtain ⟨g1_, h⟩ := h
      replace K := fun i uo z => K i uo ⟨g1_, z⟩
      obtain ⟨S6, eS6⟩ : ∃ x9 : MS, x9 = wI U2 2 (((qI U2 0 4).toInt).toNat) (vp_nar .byte ((v2_1 >>> (((24 : Int32) - ((8 : Int32) * v2_2)) &&& 31)).toInt8.toInt32)) := ⟨_, rfl⟩
      replace h := h S6 eS6
      replace K := fun i uo z => K i uo ⟨S6, eS6, z⟩
      obtain ⟨S8, eS8⟩ : ∃ x9 : MS, x9 = wI S6 0 4 ((qI S6 0 4) + (1 : Int32)) := ⟨_, rfl⟩
      replace h := h S8 eS8
      replace K := fun i uo z => K i uo ⟨S8, eS8, z⟩
      obtain ⟨a9, ea9⟩ : ∃ x9 : Int32, x9 = (v2_2 + Int32.ofInt 1) := ⟨_, rfl⟩
      replace h := h a9 ea9
      replace K := fun i uo z => K i uo ⟨a9, ea9, z⟩
      exact ih i00 (fun i uo ⟨n8, z⟩ => K (i, n8) uo z) h
set_option maxRecDepth 100000 in
theorem ru_word {S : MS} {x1 : Int32} {Q : MS → Prop} (h : w_word S x1 Q) : ∃ uo, v_word S x1 uo ∧ Q uo := by
  have i0 : Unit := ()
  have K : ∀ (i : Unit) (uo : MS), v_word S x1 uo → v_word S x1 uo := fun _ _ z => z
  unfold w_word at h
  obtain ⟨n9, h⟩ := h
  exact ru_word_L2 n9 i0 K h
set_option maxRecDepth 100000 in
theorem vw_word_L2 {uo : MS} : ∀ (n : Nat) {U2 : MS} {v2_1 : Int32} {v2_2 : Int32}, v_word_L2 uo n U2 v2_1 v2_2 → w_word_L2 (fun u => u = uo) n U2 v2_1 v2_2 := by
  intro n
  induction n with
  | zero => intro U2 v2_1 v2_2 h; unfold v_word_L2 at h; exact h.elim
  | succ n ih =>
    intro U2 v2_1 v2_2 h
    unfold v_word_L2 at h
    unfold w_word_L2
    rcases h with ⟨c, h⟩ | ⟨c, h⟩
    · refine ⟨fun _ => ?_, fun c2 => absurd c c2⟩
      exact h.symm
    · refine ⟨fun c2 => absurd c2 c, fun _ => ?_⟩
      obtain ⟨g9, h⟩ := h
      refine ⟨g9, ?_⟩
      obtain ⟨v9, e9, h⟩ := h
      intro x9 d9
      have c9 : v9 = x9 := e9.trans d9.symm
      subst c9
      obtain ⟨v9, e9, h⟩ := h
      intro x9 d9
      have c9 : v9 = x9 := e9.trans d9.symm
      subst c9
      obtain ⟨v9, e9, h⟩ := h
      intro x9 d9
      have c9 : v9 = x9 := e9.trans d9.symm
      subst c9
      exact ih h
set_option maxRecDepth 100000 in
theorem vz_word_L2 {uo : MS} {Q : MS → Prop} : ∀ (n m : Nat) {U2 : MS} {v2_1 : Int32} {v2_2 : Int32}, v_word_L2 uo n U2 v2_1 v2_2 → w_word_L2 Q m U2 v2_1 v2_2 → Q uo := by
  intro n
  induction n with
  | zero => intro m U2 v2_1 v2_2 h; unfold v_word_L2 at h; exact h.elim
  | succ n ih =>
    intro m U2 v2_1 v2_2 h w
    cases m with
    | zero => unfold w_word_L2 at w; exact w.elim
    | succ m =>
      unfold v_word_L2 at h
      unfold w_word_L2 at w
      rcases h with ⟨c, h⟩ | ⟨c, h⟩
      · replace w := w.1 c
        rw [h]
        exact w
      · replace w := w.2 c
        replace h := h.2
        replace w := w.2
        obtain ⟨v9, e9, h⟩ := h
        replace w := w v9 e9
        obtain ⟨v9, e9, h⟩ := h
        replace w := w v9 e9
        obtain ⟨v9, e9, h⟩ := h
        replace w := w v9 e9
        exact ih m h w
set_option maxRecDepth 100000 in
theorem vw_word {S : MS} {x1 : Int32} {uo : MS} (h : v_word S x1 uo) : w_word S x1 (fun u => u = uo) := by
  unfold v_word at h
  unfold w_word
  obtain ⟨n9, h⟩ := h
  exact ⟨n9, vw_word_L2 n9 h⟩
set_option maxRecDepth 100000 in
theorem vz_word {S : MS} {x1 : Int32} {uo : MS} {Q : MS → Prop} (h : v_word S x1 uo) (w : w_word S x1 Q) : Q uo := by
  unfold v_word at h
  unfold w_word at w
  obtain ⟨n9, h⟩ := h
  obtain ⟨n8, w⟩ := w
  exact vz_word_L2 n9 n8 h w
def v_feed (S : MS) (x1 : Int32) (x2 : Int32) (x3 : Int32) (x4 : Int32) (x5 : Int32) (ro : Int32) (uo : MS) : Prop := ((16000 < ((qI S 0 4) + (20 : Int32)).toInt ∧ (ro = (-1 : Int32) ∧ uo = S)) ∨ (¬ 16000 < ((qI S 0 4) + (20 : Int32)).toInt ∧ ((((qI S 0 5) + (20 : Int32)).toInt ≤ 65536 ∧ (∃ (S6 : MS), v_word S x1 S6 ∧ (∃ (S9 : MS), v_word S6 x2 S9 ∧ (∃ (S12 : MS), v_word S9 x3 S12 ∧ (∃ (S15 : MS), v_word S12 x4 S15 ∧ (∃ (S18 : MS), v_word S15 x5 S18 ∧ (∃ S21 : MS, S21 = wI S18 0 5 ((qI S18 0 5) + (20 : Int32)) ∧ (ro = (qI S21 0 4) ∧ uo = S21)))))))) ∨ (¬ ((qI S 0 5) + (20 : Int32)).toInt ≤ 65536 ∧ (ro = (-1 : Int32) ∧ uo = S)))))
set_option maxRecDepth 100000 in
theorem ru_feed {S : MS} {x1 : Int32} {x2 : Int32} {x3 : Int32} {x4 : Int32} {x5 : Int32} {Q : Int32 → MS → Prop} (h : w_feed S x1 x2 x3 x4 x5 Q) : ∃ ro uo, v_feed S x1 x2 x3 x4 x5 ro uo ∧ Q ro uo := by
  have i0 : Unit := ()
  have K : ∀ (i : Unit) (ro : Int32) (uo : MS), v_feed S x1 x2 x3 x4 x5 ro uo → v_feed S x1 x2 x3 x4 x5 ro uo := fun _ _ _ z => z
  unfold w_feed at h
  by_cases c : 16000 < ((qI S 0 4) + (20 : Int32)).toInt
  · replace h := h.1 c
    replace K := fun i ro uo z => K i ro uo (Or.inl ⟨c, z⟩)
    exact ⟨_, _, K i0 _ _ ⟨rfl, rfl⟩, h⟩
  · replace h := h.2 c
    replace K := fun i ro uo z => K i ro uo (Or.inr ⟨c, z⟩)
    by_cases c : ((qI S 0 5) + (20 : Int32)).toInt ≤ 65536
    · replace h := h.1 c
      replace K := fun i ro uo z => K i ro uo (Or.inl ⟨c, z⟩)
      obtain ⟨Q9, h0, h⟩ := h
      obtain ⟨S6, z9, g9⟩ := ru_word h0
      replace h := h S6 g9
      replace K := fun i ro uo z => K i ro uo ⟨S6, z9, z⟩
      obtain ⟨Q9, h0, h⟩ := h
      obtain ⟨S9, z9, g9⟩ := ru_word h0
      replace h := h S9 g9
      replace K := fun i ro uo z => K i ro uo ⟨S9, z9, z⟩
      obtain ⟨Q9, h0, h⟩ := h
      obtain ⟨S12, z9, g9⟩ := ru_word h0
      replace h := h S12 g9
      replace K := fun i ro uo z => K i ro uo ⟨S12, z9, z⟩
      obtain ⟨Q9, h0, h⟩ := h
      obtain ⟨S15, z9, g9⟩ := ru_word h0
      replace h := h S15 g9
      replace K := fun i ro uo z => K i ro uo ⟨S15, z9, z⟩
      obtain ⟨Q9, h0, h⟩ := h
      obtain ⟨S18, z9, g9⟩ := ru_word h0
      replace h := h S18 g9
      replace K := fun i ro uo z => K i ro uo ⟨S18, z9, z⟩
      obtain ⟨S21, eS21⟩ : ∃ x9 : MS, x9 = wI S18 0 5 ((qI S18 0 5) + (20 : Int32)) := ⟨_, rfl⟩
      replace h := h S21 eS21
      replace K := fun i ro uo z => K i ro uo ⟨S21, eS21, z⟩
      exact ⟨_, _, K i0 _ _ ⟨rfl, rfl⟩, h⟩
    · replace h := h.2 c
      replace K := fun i ro uo z => K i ro uo (Or.inr ⟨c, z⟩)
      exact ⟨_, _, K i0 _ _ ⟨rfl, rfl⟩, h⟩
set_option maxRecDepth 100000 in
theorem vw_feed {S : MS} {x1 : Int32} {x2 : Int32} {x3 : Int32} {x4 : Int32} {x5 : Int32} {ro : Int32} {uo : MS} (h : v_feed S x1 x2 x3 x4 x5 ro uo) : w_feed S x1 x2 x3 x4 x5 (fun r u => r = ro ∧ u = uo) := by
  unfold v_feed at h
  unfold w_feed
  rcases h with ⟨c, h⟩ | ⟨c, h⟩
  · refine ⟨fun _ => ?_, fun c2 => absurd c c2⟩
    exact ⟨h.1.symm, h.2.symm⟩
  · refine ⟨fun c2 => absurd c2 c, fun _ => ?_⟩
    rcases h with ⟨c, h⟩ | ⟨c, h⟩
    · refine ⟨fun _ => ?_, fun c2 => absurd c c2⟩
      obtain ⟨q9, z9, h⟩ := h
      refine ⟨_, vw_word z9, ?_⟩
      intro q8 d9
      subst d9
      obtain ⟨q9, z9, h⟩ := h
      refine ⟨_, vw_word z9, ?_⟩
      intro q8 d9
      subst d9
      obtain ⟨q9, z9, h⟩ := h
      refine ⟨_, vw_word z9, ?_⟩
      intro q8 d9
      subst d9
      obtain ⟨q9, z9, h⟩ := h
      refine ⟨_, vw_word z9, ?_⟩
      intro q8 d9
      subst d9
      obtain ⟨q9, z9, h⟩ := h
      refine ⟨_, vw_word z9, ?_⟩
      intro q8 d9
      subst d9
      obtain ⟨v9, e9, h⟩ := h
      intro x9 d9
      have c9 : v9 = x9 := e9.trans d9.symm
      subst c9
      exact ⟨h.1.symm, h.2.symm⟩
    · refine ⟨fun c2 => absurd c2 c, fun _ => ?_⟩
      exact ⟨h.1.symm, h.2.symm⟩
set_option maxRecDepth 100000 in
theorem vz_feed {S : MS} {x1 : Int32} {x2 : Int32} {x3 : Int32} {x4 : Int32} {x5 : Int32} {ro : Int32} {uo : MS} {Q : Int32 → MS → Prop} (h : v_feed S x1 x2 x3 x4 x5 ro uo) (w : w_feed S x1 x2 x3 x4 x5 Q) : Q ro uo := by
  unfold v_feed at h
  unfold w_feed at w
  rcases h with ⟨c, h⟩ | ⟨c, h⟩
  · replace w := w.1 c
    rw [h.1, h.2]
    exact w
  · replace w := w.2 c
    rcases h with ⟨c, h⟩ | ⟨c, h⟩
    · replace w := w.1 c
      obtain ⟨q9, z9, h⟩ := h
      obtain ⟨Q9, w0, w⟩ := w
      replace w := w q9 (vz_word z9 w0)
      obtain ⟨q9, z9, h⟩ := h
      obtain ⟨Q9, w0, w⟩ := w
      replace w := w q9 (vz_word z9 w0)
      obtain ⟨q9, z9, h⟩ := h
      obtain ⟨Q9, w0, w⟩ := w
      replace w := w q9 (vz_word z9 w0)
      obtain ⟨q9, z9, h⟩ := h
      obtain ⟨Q9, w0, w⟩ := w
      replace w := w q9 (vz_word z9 w0)
      obtain ⟨q9, z9, h⟩ := h
      obtain ⟨Q9, w0, w⟩ := w
      replace w := w q9 (vz_word z9 w0)
      obtain ⟨v9, e9, h⟩ := h
      replace w := w v9 e9
      rw [h.1, h.2]
      exact w
    · replace w := w.2 c
      rw [h.1, h.2]
      exact w
def v_file (S : MS) (ro : Int32) (uo : MS) : Prop := (((qI S 0 1).toInt = 12 ∧ (ro = (-2 : Int32) ∧ uo = S)) ∨ (¬ (qI S 0 1).toInt = 12 ∧ (∃ a2 : Int32, a2 = (qI S 0 4) ∧ (∃ S3 : MS, S3 = wI S 0 4 0 ∧ (∃ S4 : MS, S4 = wI S3 0 9 0 ∧ (∃ S5 : MS, S5 = wI S4 0 10 (-1) ∧ ((∃ (b13 : Nat) (S8 : MS), v_readFile S5 2 a2 (.inl (b13, S8)) ∧ (∃ (r15 : Int32) (S16 : MS), v_kept S8 b13 r15 S16 ∧ (ro = r15 ∧ uo = S16))) ∨ (∃ u9 : MS, v_readFile S5 2 a2 (.inr u9) ∧ (∃ S9 : MS, S9 = wI u9 0 9 (qI u9 0 7) ∧ (∃ S10 : MS, S10 = wI S9 0 10 (qI S9 0 8) ∧ (ro = (-1 : Int32) ∧ uo = S10)))))))))))
set_option maxRecDepth 100000 in
theorem ru_file {S : MS} {Q : Int32 → MS → Prop} (h : w_file S Q) : ∃ ro uo, v_file S ro uo ∧ Q ro uo := by
  have i0 : Unit := ()
  have K : ∀ (i : Unit) (ro : Int32) (uo : MS), v_file S ro uo → v_file S ro uo := fun _ _ _ z => z
  unfold w_file at h
  by_cases c : (qI S 0 1).toInt = 12
  · replace h := h.1 c
    replace K := fun i ro uo z => K i ro uo (Or.inl ⟨c, z⟩)
    exact ⟨_, _, K i0 _ _ ⟨rfl, rfl⟩, h⟩
  · replace h := h.2 c
    replace K := fun i ro uo z => K i ro uo (Or.inr ⟨c, z⟩)
    obtain ⟨a2, ea2⟩ : ∃ x9 : Int32, x9 = (qI S 0 4) := ⟨_, rfl⟩
    replace h := h a2 ea2
    replace K := fun i ro uo z => K i ro uo ⟨a2, ea2, z⟩
    obtain ⟨S3, eS3⟩ : ∃ x9 : MS, x9 = wI S 0 4 0 := ⟨_, rfl⟩
    replace h := h S3 eS3
    replace K := fun i ro uo z => K i ro uo ⟨S3, eS3, z⟩
    obtain ⟨S4, eS4⟩ : ∃ x9 : MS, x9 = wI S3 0 9 0 := ⟨_, rfl⟩
    replace h := h S4 eS4
    replace K := fun i ro uo z => K i ro uo ⟨S4, eS4, z⟩
    obtain ⟨S5, eS5⟩ : ∃ x9 : MS, x9 = wI S4 0 10 (-1) := ⟨_, rfl⟩
    replace h := h S5 eS5
    replace K := fun i ro uo z => K i ro uo ⟨S5, eS5, z⟩
    obtain ⟨Q9, E9, h0, h⟩ := h
    obtain ⟨o9, z9, g9⟩ := ru_readFile h0
    rcases o9 with ⟨b13, S8⟩ | u9
    · replace h := h.1 b13 S8 g9
      replace K := fun i ro uo z => K i ro uo (Or.inl ⟨b13, S8, z9, z⟩)
      obtain ⟨Q9, h0, h⟩ := h
      obtain ⟨r15, S16, z9, g9⟩ := ru_kept h0
      replace h := h r15 S16 g9
      replace K := fun i ro uo z => K i ro uo ⟨r15, S16, z9, z⟩
      exact ⟨_, _, K i0 _ _ ⟨rfl, rfl⟩, h⟩
    · replace h := h.2 u9 g9
      replace K := fun i ro uo z => K i ro uo (Or.inr ⟨u9, z9, z⟩)
      obtain ⟨S9, eS9⟩ : ∃ x9 : MS, x9 = wI u9 0 9 (qI u9 0 7) := ⟨_, rfl⟩
      replace h := h S9 eS9
      replace K := fun i ro uo z => K i ro uo ⟨S9, eS9, z⟩
      obtain ⟨S10, eS10⟩ : ∃ x9 : MS, x9 = wI S9 0 10 (qI S9 0 8) := ⟨_, rfl⟩
      replace h := h S10 eS10
      replace K := fun i ro uo z => K i ro uo ⟨S10, eS10, z⟩
      exact ⟨_, _, K i0 _ _ ⟨rfl, rfl⟩, h⟩
set_option maxRecDepth 100000 in
theorem vw_file {S : MS} {ro : Int32} {uo : MS} (h : v_file S ro uo) : w_file S (fun r u => r = ro ∧ u = uo) := by
  unfold v_file at h
  unfold w_file
  rcases h with ⟨c, h⟩ | ⟨c, h⟩
  · refine ⟨fun _ => ?_, fun c2 => absurd c c2⟩
    exact ⟨h.1.symm, h.2.symm⟩
  · refine ⟨fun c2 => absurd c2 c, fun _ => ?_⟩
    obtain ⟨v9, e9, h⟩ := h
    intro x9 d9
    have c9 : v9 = x9 := e9.trans d9.symm
    subst c9
    obtain ⟨v9, e9, h⟩ := h
    intro x9 d9
    have c9 : v9 = x9 := e9.trans d9.symm
    subst c9
    obtain ⟨v9, e9, h⟩ := h
    intro x9 d9
    have c9 : v9 = x9 := e9.trans d9.symm
    subst c9
    obtain ⟨v9, e9, h⟩ := h
    intro x9 d9
    have c9 : v9 = x9 := e9.trans d9.symm
    subst c9
    rcases h with ⟨p9, q9, z9, h⟩ | ⟨q9, z9, h⟩
    · refine ⟨_, _, vw_readFile z9, ?_, ?_⟩
      · intro p8 q8 d9
        injection d9 with d9
        injection d9 with d8 d9
        subst d8
        subst d9
        obtain ⟨p9, q9, z9, h⟩ := h
        refine ⟨_, vw_kept z9, ?_⟩
        rintro p8 q8 ⟨d8, d9⟩
        subst d8
        subst d9
        exact ⟨h.1.symm, h.2.symm⟩
      · intro q8 d9
        exact nomatch d9
    · refine ⟨_, _, vw_readFile z9, ?_, ?_⟩
      · intro p8 q8 d9
        exact nomatch d9
      · intro q8 d9
        injection d9 with d9
        subst d9
        obtain ⟨v9, e9, h⟩ := h
        intro x9 d9
        have c9 : v9 = x9 := e9.trans d9.symm
        subst c9
        obtain ⟨v9, e9, h⟩ := h
        intro x9 d9
        have c9 : v9 = x9 := e9.trans d9.symm
        subst c9
        exact ⟨h.1.symm, h.2.symm⟩
set_option maxRecDepth 100000 in
theorem vz_file {S : MS} {ro : Int32} {uo : MS} {Q : Int32 → MS → Prop} (h : v_file S ro uo) (w : w_file S Q) : Q ro uo := by
  unfold v_file at h
  unfold w_file at w
  rcases h with ⟨c, h⟩ | ⟨c, h⟩
  · replace w := w.1 c
    rw [h.1, h.2]
    exact w
  · replace w := w.2 c
    obtain ⟨v9, e9, h⟩ := h
    replace w := w v9 e9
    obtain ⟨v9, e9, h⟩ := h
    replace w := w v9 e9
    obtain ⟨v9, e9, h⟩ := h
    replace w := w v9 e9
    obtain ⟨v9, e9, h⟩ := h
    replace w := w v9 e9
    obtain ⟨Q9, E9, w0, w⟩ := w
    rcases h with ⟨p9, q9, z9, h⟩ | ⟨q9, z9, h⟩
    · replace w := w.1 p9 q9 (vz_readFile z9 w0)
      obtain ⟨p9, q9, z9, h⟩ := h
      obtain ⟨Q9, w0, w⟩ := w
      replace w := w p9 q9 (vz_kept z9 w0)
      rw [h.1, h.2]
      exact w
    · replace w := w.2 q9 (vz_readFile z9 w0)
      obtain ⟨v9, e9, h⟩ := h
      replace w := w v9 e9
      obtain ⟨v9, e9, h⟩ := h
      replace w := w v9 e9
      rw [h.1, h.2]
      exact w
def v_liveAt_J117 (ro : Int32) (uo : MS) (k82 : MS → Int32 → Int32 → Int32 → Prop) (U117 : MS) (v117_1 : Int32) (v117_2 : Int32) (v117_3 : Int32) : Prop := (∃ a19 : Int32, a19 = (v117_3 + Int32.ofInt 1) ∧ (k82 U117 v117_1 v117_2 a19))
def v_liveAt_L82 (ro : Int32) (uo : MS) : Nat → MS → Int32 → Int32 → Int32 → Prop
  | 0, _, _, _, _ => False
  | n82 + 1, U82, v82_1, v82_2, v82_3 => (((qI U82 0 135).toInt ≤ v82_3.toInt ∧ (ro = v82_2 ∧ uo = U82)) ∨ (¬ (qI U82 0 135).toInt ≤ v82_3.toInt ∧ (d_isIn U82 v82_1 v82_3 ∧ (((f_isIn U82 v82_1 v82_3).toInt = 0 ∧ (v_liveAt_J117 ro uo (v_liveAt_L82 ro uo n82) U82 v82_1 v82_2 v82_3)) ∨ (¬ (f_isIn U82 v82_1 v82_3).toInt = 0 ∧ (((0 : Int) ≤ v82_3.toInt ∧ v82_3.toInt < 16) ∧ (∃ (r24 : Int32) (S25 : MS), v_here U82 (qI U82 84 v82_3.toInt.toNat) r24 S25 ∧ (((0 : Int) ≤ r24.toInt ∧ r24.toInt < 1200) ∧ (∃ a30 : Int32, a30 = (v82_2 ||| (qI S25 90 r24.toInt.toNat)) ∧ (v_liveAt_J117 ro uo (v_liveAt_L82 ro uo n82) S25 v82_1 a30 v82_3))))))))))
def v_liveAt_J80 (ro : Int32) (uo : MS) (U80 : MS) (v80_1 : Int32) (v80_2 : Int32) : Prop := (∃ n, v_liveAt_L82 ro uo n U80 v80_1 v80_2 0)
def v_liveAt_J62 (ro : Int32) (uo : MS) (U62 : MS) (v62_1 : Int32) (v62_2 : Int32) : Prop := (((0 : Int) ≤ v62_1.toInt ∧ v62_1.toInt < 1200) ∧ (((0 : Int) ≤ v62_1.toInt ∧ v62_1.toInt < 1200) ∧ (d_bitsOf U62 (qI U62 78 v62_1.toInt.toNat) (qI U62 79 v62_1.toInt.toNat) ∧ (∃ a39 : Int32, a39 = (v62_2 ||| (f_bitsOf U62 (qI U62 78 v62_1.toInt.toNat) (qI U62 79 v62_1.toInt.toNat))) ∧ (v_liveAt_J80 ro uo U62 v62_1 a39)))))
def v_liveAt_J38 (ro : Int32) (uo : MS) (U38 : MS) (v38_1 : Int32) (v38_2 : Int32) : Prop := (((0 : Int) ≤ v38_1.toInt ∧ v38_1.toInt < 1200) ∧ (d_isLoad U38 (qI U38 78 v38_1.toInt.toNat) ∧ (((f_isLoad U38 (qI U38 78 v38_1.toInt.toNat)).toInt = 0 ∧ (((0 : Int) ≤ v38_1.toInt ∧ v38_1.toInt < 1200) ∧ (((qI U38 78 v38_1.toInt.toNat).toInt = 132 ∧ (v_liveAt_J62 ro uo U38 v38_1 v38_2)) ∨ (¬ (qI U38 78 v38_1.toInt.toNat).toInt = 132 ∧ (v_liveAt_J80 ro uo U38 v38_1 v38_2))))) ∨ (¬ (f_isLoad U38 (qI U38 78 v38_1.toInt.toNat)).toInt = 0 ∧ (v_liveAt_J62 ro uo U38 v38_1 v38_2)))))
def v_liveAt (S : MS) (x1 : Int32) (ro : Int32) (uo : MS) : Prop := (∃ (r2 : Int32) (S3 : MS), v_liveBehind S x1 r2 S3 ∧ (((0 : Int) ≤ x1.toInt ∧ x1.toInt < 1200) ∧ (d_isStore S3 (qI S3 78 x1.toInt.toNat) ∧ (((f_isStore S3 (qI S3 78 x1.toInt.toNat)).toInt = 0 ∧ (v_liveAt_J38 ro uo S3 x1 r2)) ∨ (¬ (f_isStore S3 (qI S3 78 x1.toInt.toNat)).toInt = 0 ∧ (((0 : Int) ≤ x1.toInt ∧ x1.toInt < 1200) ∧ (((0 : Int) ≤ x1.toInt ∧ x1.toInt < 1200) ∧ (d_bitsOf S3 (qI S3 78 x1.toInt.toNat) (qI S3 79 x1.toInt.toNat) ∧ (∃ a54 : Int32, a54 = (r2 &&& ((f_bitsOf S3 (qI S3 78 x1.toInt.toNat) (qI S3 79 x1.toInt.toNat)) ^^^ (-1 : Int32))) ∧ (v_liveAt_J38 ro uo S3 x1 a54))))))))))
set_option maxRecDepth 100000 in
theorem ru_liveAt_J117 {ι : Type} {P : Int32 → MS → Prop} {Q : Int32 → MS → Prop} {k82 : MS → Int32 → Int32 → Int32 → Prop} {k82v : ι → Int32 → MS → MS → Int32 → Int32 → Int32 → Prop} {U117 : MS} {v117_1 : Int32} {v117_2 : Int32} {v117_3 : Int32} (i0 : ι) (hk82 : ∀ (u : MS) (z0 : Int32) (z1 : Int32) (z2 : Int32), k82 u z0 z1 z2 → (∀ (i : ι) (ro : Int32) (uo : MS), k82v i ro uo u z0 z1 z2 → P ro uo) → ∃ ro uo, P ro uo ∧ Q ro uo) (K : ∀ (i : ι) (ro : Int32) (uo : MS), v_liveAt_J117 ro uo (k82v i ro uo) U117 v117_1 v117_2 v117_3 → P ro uo) (h : w_liveAt_J117 Q k82 U117 v117_1 v117_2 v117_3) : ∃ ro uo, P ro uo ∧ Q ro uo := by
  unfold w_liveAt_J117 at h
  obtain ⟨a19, ea19⟩ : ∃ x9 : Int32, x9 = (v117_3 + Int32.ofInt 1) := ⟨_, rfl⟩
  replace h := h a19 ea19
  replace K := fun i ro uo z => K i ro uo ⟨a19, ea19, z⟩
  exact hk82 _ _ _ _ h K
set_option maxRecDepth 100000 in
theorem ru_liveAt_L82 {ι : Type} {P : Int32 → MS → Prop} {Q : Int32 → MS → Prop} : ∀ (n : Nat) {U82 : MS} {v82_1 : Int32} {v82_2 : Int32} {v82_3 : Int32} (i0 : ι), (∀ (i : ι) (ro : Int32) (uo : MS), (∃ n8, v_liveAt_L82 ro uo n8 U82 v82_1 v82_2 v82_3) → P ro uo) → w_liveAt_L82 Q n U82 v82_1 v82_2 v82_3 → ∃ ro uo, P ro uo ∧ Q ro uo := by
  intro n
  induction n with
  | zero => intro U82 v82_1 v82_2 v82_3 i0 K h; unfold w_liveAt_L82 at h; exact h.elim
  | succ n ih =>
    intro U82 v82_1 v82_2 v82_3 i0 K h
    unfold w_liveAt_L82 at h
    replace K := fun (i : ι × Nat) ro uo (z : v_liveAt_L82 ro uo (i.2 + 1) U82 v82_1 v82_2 v82_3) => K i.1 ro uo ⟨i.2 + 1, z⟩
    have i00 := i0
    replace i0 : ι × Nat := (i0, 0)
    by_cases c : (qI U82 0 135).toInt ≤ v82_3.toInt
    · replace h := h.1 c
      replace K := fun i ro uo z => K i ro uo (Or.inl ⟨c, z⟩)
      exact ⟨_, _, K i0 _ _ ⟨rfl, rfl⟩, h⟩
    · replace h := h.2 c
      replace K := fun i ro uo z => K i ro uo (Or.inr ⟨c, z⟩)
      obtain ⟨g1_, h⟩ := h
      replace K := fun i ro uo z => K i ro uo ⟨g1_, z⟩
      by_cases c : (f_isIn U82 v82_1 v82_3).toInt = 0
      · replace h := h.1 c
        replace K := fun i ro uo z => K i ro uo (Or.inl ⟨c, z⟩)
        exact ru_liveAt_J117 i0 (fun _ _ _ _ h K => ih i00 (fun i ro uo ⟨n8, z⟩ => K (i, n8) ro uo z) h) K h
      · replace h := h.2 c
        replace K := fun i ro uo z => K i ro uo (Or.inr ⟨c, z⟩)
        obtain ⟨g2_, h⟩ := h
        replace K := fun i ro uo z => K i ro uo ⟨g2_, z⟩
        obtain ⟨Q9, h0, h⟩ := h
        obtain ⟨r24, S25, z9, g9⟩ := ru_here h0
        replace h := h r24 S25 g9
        replace K := fun i ro uo z => K i ro uo ⟨r24, S25, z9, z⟩
        obtain ⟨g3_, h⟩ := h
        replace K := fun i ro uo z => K i ro uo ⟨g3_, z⟩
        obtain ⟨a30, ea30⟩ : ∃ x9 : Int32, x9 = (v82_2 ||| (qI S25 90 r24.toInt.toNat)) := ⟨_, rfl⟩
        replace h := h a30 ea30
        replace K := fun i ro uo z => K i ro uo ⟨a30, ea30, z⟩
        exact ru_liveAt_J117 i0 (fun _ _ _ _ h K => ih i00 (fun i ro uo ⟨n8, z⟩ => K (i, n8) ro uo z) h) K h
set_option maxRecDepth 100000 in
theorem ru_liveAt_J80 {ι : Type} {P : Int32 → MS → Prop} {Q : Int32 → MS → Prop} {U80 : MS} {v80_1 : Int32} {v80_2 : Int32} (i0 : ι) (K : ∀ (i : ι) (ro : Int32) (uo : MS), v_liveAt_J80 ro uo U80 v80_1 v80_2 → P ro uo) (h : w_liveAt_J80 Q U80 v80_1 v80_2) : ∃ ro uo, P ro uo ∧ Q ro uo := by
  unfold w_liveAt_J80 at h
  obtain ⟨n9, h⟩ := h
  exact ru_liveAt_L82 n9 i0 K h
set_option maxRecDepth 100000 in
theorem ru_liveAt_J62 {ι : Type} {P : Int32 → MS → Prop} {Q : Int32 → MS → Prop} {U62 : MS} {v62_1 : Int32} {v62_2 : Int32} (i0 : ι) (K : ∀ (i : ι) (ro : Int32) (uo : MS), v_liveAt_J62 ro uo U62 v62_1 v62_2 → P ro uo) (h : w_liveAt_J62 Q U62 v62_1 v62_2) : ∃ ro uo, P ro uo ∧ Q ro uo := by
  unfold w_liveAt_J62 at h
  obtain ⟨g4_, h⟩ := h
  replace K := fun i ro uo z => K i ro uo ⟨g4_, z⟩
  obtain ⟨g5_, h⟩ := h
  replace K := fun i ro uo z => K i ro uo ⟨g5_, z⟩
  obtain ⟨g6_, h⟩ := h
  replace K := fun i ro uo z => K i ro uo ⟨g6_, z⟩
  obtain ⟨a39, ea39⟩ : ∃ x9 : Int32, x9 = (v62_2 ||| (f_bitsOf U62 (qI U62 78 v62_1.toInt.toNat) (qI U62 79 v62_1.toInt.toNat))) := ⟨_, rfl⟩
  replace h := h a39 ea39
  replace K := fun i ro uo z => K i ro uo ⟨a39, ea39, z⟩
  exact ru_liveAt_J80 i0 K h
set_option maxRecDepth 100000 in
theorem ru_liveAt_J38 {ι : Type} {P : Int32 → MS → Prop} {Q : Int32 → MS → Prop} {U38 : MS} {v38_1 : Int32} {v38_2 : Int32} (i0 : ι) (K : ∀ (i : ι) (ro : Int32) (uo : MS), v_liveAt_J38 ro uo U38 v38_1 v38_2 → P ro uo) (h : w_liveAt_J38 Q U38 v38_1 v38_2) : ∃ ro uo, P ro uo ∧ Q ro uo := by
  unfold w_liveAt_J38 at h
  obtain ⟨g7_, h⟩ := h
  replace K := fun i ro uo z => K i ro uo ⟨g7_, z⟩
  obtain ⟨g8_, h⟩ := h
  replace K := fun i ro uo z => K i ro uo ⟨g8_, z⟩
  by_cases c : (f_isLoad U38 (qI U38 78 v38_1.toInt.toNat)).toInt = 0
  · replace h := h.1 c
    replace K := fun i ro uo z => K i ro uo (Or.inl ⟨c, z⟩)
    obtain ⟨g9_, h⟩ := h
    replace K := fun i ro uo z => K i ro uo ⟨g9_, z⟩
    by_cases c : (qI U38 78 v38_1.toInt.toNat).toInt = 132
    · replace h := h.1 c
      replace K := fun i ro uo z => K i ro uo (Or.inl ⟨c, z⟩)
      exact ru_liveAt_J62 i0 K h
    · replace h := h.2 c
      replace K := fun i ro uo z => K i ro uo (Or.inr ⟨c, z⟩)
      exact ru_liveAt_J80 i0 K h
  · replace h := h.2 c
    replace K := fun i ro uo z => K i ro uo (Or.inr ⟨c, z⟩)
    exact ru_liveAt_J62 i0 K h
set_option maxRecDepth 100000 in
theorem ru_liveAt {S : MS} {x1 : Int32} {Q : Int32 → MS → Prop} (h : w_liveAt S x1 Q) : ∃ ro uo, v_liveAt S x1 ro uo ∧ Q ro uo := by
  have i0 : Unit := ()
  have K : ∀ (i : Unit) (ro : Int32) (uo : MS), v_liveAt S x1 ro uo → v_liveAt S x1 ro uo := fun _ _ _ z => z
  unfold w_liveAt at h
  obtain ⟨Q9, h0, h⟩ := h
  obtain ⟨r2, S3, z9, g9⟩ := ru_liveBehind h0
  replace h := h r2 S3 g9
  replace K := fun i ro uo z => K i ro uo ⟨r2, S3, z9, z⟩
  obtain ⟨g10_, h⟩ := h
  replace K := fun i ro uo z => K i ro uo ⟨g10_, z⟩
  obtain ⟨g11_, h⟩ := h
  replace K := fun i ro uo z => K i ro uo ⟨g11_, z⟩
  by_cases c : (f_isStore S3 (qI S3 78 x1.toInt.toNat)).toInt = 0
  · replace h := h.1 c
    replace K := fun i ro uo z => K i ro uo (Or.inl ⟨c, z⟩)
    exact ru_liveAt_J38 i0 K h
  · replace h := h.2 c
    replace K := fun i ro uo z => K i ro uo (Or.inr ⟨c, z⟩)
    obtain ⟨g12_, h⟩ := h
    replace K := fun i ro uo z => K i ro uo ⟨g12_, z⟩
    obtain ⟨g13_, h⟩ := h
    replace K := fun i ro uo z => K i ro uo ⟨g13_, z⟩
    obtain ⟨g14_, h⟩ := h
    replace K := fun i ro uo z => K i ro uo ⟨g14_, z⟩
    obtain ⟨a54, ea54⟩ : ∃ x9 : Int32, x9 = (r2 &&& ((f_bitsOf S3 (qI S3 78 x1.toInt.toNat) (qI S3 79 x1.toInt.toNat)) ^^^ (-1 : Int32))) := ⟨_, rfl⟩
    replace h := h a54 ea54
    replace K := fun i ro uo z => K i ro uo ⟨a54, ea54, z⟩
    exact ru_liveAt_J38 i0 K h
set_option maxRecDepth 100000 in
theorem vw_liveAt_J117 {ro : Int32} {uo : MS} {k82 k82v : MS → Int32 → Int32 → Int32 → Prop} {U117 : MS} {v117_1 : Int32} {v117_2 : Int32} {v117_3 : Int32} (hk82 : ∀ (u : MS) (z0 : Int32) (z1 : Int32) (z2 : Int32), k82v u z0 z1 z2 → k82 u z0 z1 z2) (h : v_liveAt_J117 ro uo k82v U117 v117_1 v117_2 v117_3) : w_liveAt_J117 (fun r u => r = ro ∧ u = uo) k82 U117 v117_1 v117_2 v117_3 := by
  unfold v_liveAt_J117 at h
  unfold w_liveAt_J117
  obtain ⟨v9, e9, h⟩ := h
  intro x9 d9
  have c9 : v9 = x9 := e9.trans d9.symm
  subst c9
  exact hk82 _ _ _ _ h
set_option maxRecDepth 100000 in
theorem vz_liveAt_J117 {ro : Int32} {uo : MS} {Q : Int32 → MS → Prop} {k82 k82v : MS → Int32 → Int32 → Int32 → Prop} {U117 : MS} {v117_1 : Int32} {v117_2 : Int32} {v117_3 : Int32} (hk82 : ∀ (u : MS) (z0 : Int32) (z1 : Int32) (z2 : Int32), k82v u z0 z1 z2 → k82 u z0 z1 z2 → Q ro uo) (h : v_liveAt_J117 ro uo k82v U117 v117_1 v117_2 v117_3) (w : w_liveAt_J117 Q k82 U117 v117_1 v117_2 v117_3) : Q ro uo := by
  unfold v_liveAt_J117 at h
  unfold w_liveAt_J117 at w
  obtain ⟨v9, e9, h⟩ := h
  replace w := w v9 e9
  exact hk82 _ _ _ _ h w
set_option maxRecDepth 100000 in
theorem vw_liveAt_L82 {ro : Int32} {uo : MS} : ∀ (n : Nat) {U82 : MS} {v82_1 : Int32} {v82_2 : Int32} {v82_3 : Int32}, v_liveAt_L82 ro uo n U82 v82_1 v82_2 v82_3 → w_liveAt_L82 (fun r u => r = ro ∧ u = uo) n U82 v82_1 v82_2 v82_3 := by
  intro n
  induction n with
  | zero => intro U82 v82_1 v82_2 v82_3 h; unfold v_liveAt_L82 at h; exact h.elim
  | succ n ih =>
    intro U82 v82_1 v82_2 v82_3 h
    unfold v_liveAt_L82 at h
    unfold w_liveAt_L82
    rcases h with ⟨c, h⟩ | ⟨c, h⟩
    · refine ⟨fun _ => ?_, fun c2 => absurd c c2⟩
      exact ⟨h.1.symm, h.2.symm⟩
    · refine ⟨fun c2 => absurd c2 c, fun _ => ?_⟩
      obtain ⟨g9, h⟩ := h
      refine ⟨g9, ?_⟩
      rcases h with ⟨c, h⟩ | ⟨c, h⟩
      · refine ⟨fun _ => ?_, fun c2 => absurd c c2⟩
        exact vw_liveAt_J117 (fun _ _ _ _ h => ih h) h
      · refine ⟨fun c2 => absurd c2 c, fun _ => ?_⟩
        obtain ⟨g9, h⟩ := h
        refine ⟨g9, ?_⟩
        obtain ⟨p9, q9, z9, h⟩ := h
        refine ⟨_, vw_here z9, ?_⟩
        rintro p8 q8 ⟨d8, d9⟩
        subst d8
        subst d9
        obtain ⟨g9, h⟩ := h
        refine ⟨g9, ?_⟩
        obtain ⟨v9, e9, h⟩ := h
        intro x9 d9
        have c9 : v9 = x9 := e9.trans d9.symm
        subst c9
        exact vw_liveAt_J117 (fun _ _ _ _ h => ih h) h
set_option maxRecDepth 100000 in
theorem vz_liveAt_L82 {ro : Int32} {uo : MS} {Q : Int32 → MS → Prop} : ∀ (n m : Nat) {U82 : MS} {v82_1 : Int32} {v82_2 : Int32} {v82_3 : Int32}, v_liveAt_L82 ro uo n U82 v82_1 v82_2 v82_3 → w_liveAt_L82 Q m U82 v82_1 v82_2 v82_3 → Q ro uo := by
  intro n
  induction n with
  | zero => intro m U82 v82_1 v82_2 v82_3 h; unfold v_liveAt_L82 at h; exact h.elim
  | succ n ih =>
    intro m U82 v82_1 v82_2 v82_3 h w
    cases m with
    | zero => unfold w_liveAt_L82 at w; exact w.elim
    | succ m =>
      unfold v_liveAt_L82 at h
      unfold w_liveAt_L82 at w
      rcases h with ⟨c, h⟩ | ⟨c, h⟩
      · replace w := w.1 c
        rw [h.1, h.2]
        exact w
      · replace w := w.2 c
        replace h := h.2
        replace w := w.2
        rcases h with ⟨c, h⟩ | ⟨c, h⟩
        · replace w := w.1 c
          exact vz_liveAt_J117 (fun _ _ _ _ h w => ih m h w) h w
        · replace w := w.2 c
          replace h := h.2
          replace w := w.2
          obtain ⟨p9, q9, z9, h⟩ := h
          obtain ⟨Q9, w0, w⟩ := w
          replace w := w p9 q9 (vz_here z9 w0)
          replace h := h.2
          replace w := w.2
          obtain ⟨v9, e9, h⟩ := h
          replace w := w v9 e9
          exact vz_liveAt_J117 (fun _ _ _ _ h w => ih m h w) h w
set_option maxRecDepth 100000 in
theorem vw_liveAt_J80 {ro : Int32} {uo : MS} {U80 : MS} {v80_1 : Int32} {v80_2 : Int32} (h : v_liveAt_J80 ro uo U80 v80_1 v80_2) : w_liveAt_J80 (fun r u => r = ro ∧ u = uo) U80 v80_1 v80_2 := by
  unfold v_liveAt_J80 at h
  unfold w_liveAt_J80
  obtain ⟨n9, h⟩ := h
  exact ⟨n9, vw_liveAt_L82 n9 h⟩
set_option maxRecDepth 100000 in
theorem vz_liveAt_J80 {ro : Int32} {uo : MS} {Q : Int32 → MS → Prop} {U80 : MS} {v80_1 : Int32} {v80_2 : Int32} (h : v_liveAt_J80 ro uo U80 v80_1 v80_2) (w : w_liveAt_J80 Q U80 v80_1 v80_2) : Q ro uo := by
  unfold v_liveAt_J80 at h
  unfold w_liveAt_J80 at w
  obtain ⟨n9, h⟩ := h
  obtain ⟨n8, w⟩ := w
  exact vz_liveAt_L82 n9 n8 h w
set_option maxRecDepth 100000 in
theorem vw_liveAt_J62 {ro : Int32} {uo : MS} {U62 : MS} {v62_1 : Int32} {v62_2 : Int32} (h : v_liveAt_J62 ro uo U62 v62_1 v62_2) : w_liveAt_J62 (fun r u => r = ro ∧ u = uo) U62 v62_1 v62_2 := by
  unfold v_liveAt_J62 at h
  unfold w_liveAt_J62
  obtain ⟨g9, h⟩ := h
  refine ⟨g9, ?_⟩
  obtain ⟨g9, h⟩ := h
  refine ⟨g9, ?_⟩
  obtain ⟨g9, h⟩ := h
  refine ⟨g9, ?_⟩
  obtain ⟨v9, e9, h⟩ := h
  intro x9 d9
  have c9 : v9 = x9 := e9.trans d9.symm
  subst c9
  exact vw_liveAt_J80 h
set_option maxRecDepth 100000 in
theorem vz_liveAt_J62 {ro : Int32} {uo : MS} {Q : Int32 → MS → Prop} {U62 : MS} {v62_1 : Int32} {v62_2 : Int32} (h : v_liveAt_J62 ro uo U62 v62_1 v62_2) (w : w_liveAt_J62 Q U62 v62_1 v62_2) : Q ro uo := by
  unfold v_liveAt_J62 at h
  unfold w_liveAt_J62 at w
  replace h := h.2
  replace w := w.2
  replace h := h.2
  replace w := w.2
  replace h := h.2
  replace w := w.2
  obtain ⟨v9, e9, h⟩ := h
  replace w := w v9 e9
  exact vz_liveAt_J80 h w
set_option maxRecDepth 100000 in
theorem vw_liveAt_J38 {ro : Int32} {uo : MS} {U38 : MS} {v38_1 : Int32} {v38_2 : Int32} (h : v_liveAt_J38 ro uo U38 v38_1 v38_2) : w_liveAt_J38 (fun r u => r = ro ∧ u = uo) U38 v38_1 v38_2 := by
  unfold v_liveAt_J38 at h
  unfold w_liveAt_J38
  obtain ⟨g9, h⟩ := h
  refine ⟨g9, ?_⟩
  obtain ⟨g9, h⟩ := h
  refine ⟨g9, ?_⟩
  rcases h with ⟨c, h⟩ | ⟨c, h⟩
  · refine ⟨fun _ => ?_, fun c2 => absurd c c2⟩
    obtain ⟨g9, h⟩ := h
    refine ⟨g9, ?_⟩
    rcases h with ⟨c, h⟩ | ⟨c, h⟩
    · refine ⟨fun _ => ?_, fun c2 => absurd c c2⟩
      exact vw_liveAt_J62 h
    · refine ⟨fun c2 => absurd c2 c, fun _ => ?_⟩
      exact vw_liveAt_J80 h
  · refine ⟨fun c2 => absurd c2 c, fun _ => ?_⟩
    exact vw_liveAt_J62 h
set_option maxRecDepth 100000 in
theorem vz_liveAt_J38 {ro : Int32} {uo : MS} {Q : Int32 → MS → Prop} {U38 : MS} {v38_1 : Int32} {v38_2 : Int32} (h : v_liveAt_J38 ro uo U38 v38_1 v38_2) (w : w_liveAt_J38 Q U38 v38_1 v38_2) : Q ro uo := by
  unfold v_liveAt_J38 at h
  unfold w_liveAt_J38 at w
  replace h := h.2
  replace w := w.2
  replace h := h.2
  replace w := w.2
  rcases h with ⟨c, h⟩ | ⟨c, h⟩
  · replace w := w.1 c
    replace h := h.2
    replace w := w.2
    rcases h with ⟨c, h⟩ | ⟨c, h⟩
    · replace w := w.1 c
      exact vz_liveAt_J62 h w
    · replace w := w.2 c
      exact vz_liveAt_J80 h w
  · replace w := w.2 c
    exact vz_liveAt_J62 h w
set_option maxRecDepth 100000 in
theorem vw_liveAt {S : MS} {x1 : Int32} {ro : Int32} {uo : MS} (h : v_liveAt S x1 ro uo) : w_liveAt S x1 (fun r u => r = ro ∧ u = uo) := by
  unfold v_liveAt at h
  unfold w_liveAt
  obtain ⟨p9, q9, z9, h⟩ := h
  refine ⟨_, vw_liveBehind z9, ?_⟩
  rintro p8 q8 ⟨d8, d9⟩
  subst d8
  subst d9
  obtain ⟨g9, h⟩ := h
  refine ⟨g9, ?_⟩
  obtain ⟨g9, h⟩ := h
  refine ⟨g9, ?_⟩
  rcases h with ⟨c, h⟩ | ⟨c, h⟩
  · refine ⟨fun _ => ?_, fun c2 => absurd c c2⟩
    exact vw_liveAt_J38 h
  · refine ⟨fun c2 => absurd c2 c, fun _ => ?_⟩
    obtain ⟨g9, h⟩ := h
    refine ⟨g9, ?_⟩
    obtain ⟨g9, h⟩ := h
    refine ⟨g9, ?_⟩
    obtain ⟨g9, h⟩ := h
    refine ⟨g9, ?_⟩
    obtain ⟨v9, e9, h⟩ := h
    intro x9 d9
    have c9 : v9 = x9 := e9.trans d9.symm
    subst c9
    exact vw_liveAt_J38 h
set_option maxRecDepth 100000 in
theorem vz_liveAt {S : MS} {x1 : Int32} {ro : Int32} {uo : MS} {Q : Int32 → MS → Prop} (h : v_liveAt S x1 ro uo) (w : w_liveAt S x1 Q) : Q ro uo := by
  unfold v_liveAt at h
  unfold w_liveAt at w
  obtain ⟨p9, q9, z9, h⟩ := h
  obtain ⟨Q9, w0, w⟩ := w
  replace w := w p9 q9 (vz_liveBehind z9 w0)
  replace h := h.2
  replace w := w.2
  replace h := h.2
  replace w := w.2
  rcases h with ⟨c, h⟩ | ⟨c, h⟩
  · replace w := w.1 c
    exact vz_liveAt_J38 h w
  · replace w := w.2 c
    replace h := h.2
    replace w := w.2
    replace h := h.2
    replace w := w.2
    replace h := h.2
    replace w := w.2
    obtain ⟨v9, e9, h⟩ := h
    replace w := w v9 e9
    exact vz_liveAt_J38 h w
def v_findLive_J87 (uo : MS) (k38 : MS → Int32 → Int32 → Prop) (U87 : MS) (v87_1 : Int32) (v87_2 : Int32) : Prop := (∃ a8 : Int32, a8 = (v87_2 + Int32.ofInt (-1)) ∧ (k38 U87 v87_1 a8))
def v_findLive_J79 (uo : MS) (k38 : MS → Int32 → Int32 → Prop) (U79 : MS) (t79_0 : Int32) (v79_2 : Int32) (v79_3 : Int32) : Prop := (((0 : Int) ≤ v79_2.toInt ∧ v79_2.toInt < 1200) ∧ (∃ S15 : MS, S15 = wI U79 90 v79_2.toInt.toNat v79_3 ∧ (v_findLive_J87 uo k38 S15 t79_0 v79_2)))
def v_findLive_J74 (uo : MS) (k38 : MS → Int32 → Int32 → Prop) (U74 : MS) (v74_2 : Int32) (v74_3 : Int32) : Prop := (v_findLive_J79 uo k38 U74 1 v74_2 v74_3)
def v_findLive_L38 (uo : MS) (k25 : MS → Int32 → Prop) : Nat → MS → Int32 → Int32 → Prop
  | 0, _, _, _ => False
  | n38 + 1, U38, v38_1, v38_2 => ((v38_2.toInt < 0 ∧ (k25 U38 v38_1)) ∨ (¬ v38_2.toInt < 0 ∧ (((0 : Int) ≤ v38_2.toInt ∧ v38_2.toInt < 1200) ∧ (((qI U38 81 v38_2.toInt.toNat).toInt = 0 ∧ (∃ (r11 : Int32) (S12 : MS), v_liveAt U38 v38_2 r11 S12 ∧ ((v38_1.toInt = 0 ∧ (((0 : Int) ≤ v38_2.toInt ∧ v38_2.toInt < 1200) ∧ ((r11.toInt = (qI S12 90 v38_2.toInt.toNat).toInt ∧ (v_findLive_J79 uo (v_findLive_L38 uo k25 n38) S12 0 v38_2 r11)) ∨ (¬ r11.toInt = (qI S12 90 v38_2.toInt.toNat).toInt ∧ (v_findLive_J74 uo (v_findLive_L38 uo k25 n38) S12 v38_2 r11))))) ∨ (¬ v38_1.toInt = 0 ∧ (v_findLive_J74 uo (v_findLive_L38 uo k25 n38) S12 v38_2 r11))))) ∨ (¬ (qI U38 81 v38_2.toInt.toNat).toInt = 0 ∧ (v_findLive_J87 uo (v_findLive_L38 uo k25 n38) U38 v38_1 v38_2))))))
def v_findLive_L25 (uo : MS) : Nat → MS → Int32 → Prop
  | 0, _, _ => False
  | n25 + 1, U25, v25_1 => ((v25_1.toInt = 0 ∧ (uo = U25)) ∨ (¬ v25_1.toInt = 0 ∧ (∃ a4 : Int32, a4 = ((qI U25 0 129) - (1 : Int32)) ∧ (∃ n, v_findLive_L38 uo (v_findLive_L25 uo n25) n U25 0 a4))))
def v_findLive_L2 (uo : MS) : Nat → MS → Int32 → Prop
  | 0, _, _ => False
  | n2 + 1, U2, v2_1 => (((qI U2 0 129).toInt ≤ v2_1.toInt ∧ (∃ n, v_findLive_L25 uo n U2 1)) ∨ (¬ (qI U2 0 129).toInt ≤ v2_1.toInt ∧ (((0 : Int) ≤ v2_1.toInt ∧ v2_1.toInt < 1200) ∧ (∃ S21 : MS, S21 = wI U2 90 v2_1.toInt.toNat (0 : Int32) ∧ (∃ a22 : Int32, a22 = (v2_1 + Int32.ofInt 1) ∧ ((v_findLive_L2 uo n2) S21 a22))))))
def v_findLive (S : MS) (uo : MS) : Prop := (∃ n, v_findLive_L2 uo n S 0)
set_option maxRecDepth 100000 in
theorem ru_findLive_J87 {ι : Type} {P : MS → Prop} {Q : MS → Prop} {k38 : MS → Int32 → Int32 → Prop} {k38v : ι → MS → MS → Int32 → Int32 → Prop} {U87 : MS} {v87_1 : Int32} {v87_2 : Int32} (i0 : ι) (hk38 : ∀ (u : MS) (z0 : Int32) (z1 : Int32), k38 u z0 z1 → (∀ (i : ι) (uo : MS), k38v i uo u z0 z1 → P uo) → ∃ uo, P uo ∧ Q uo) (K : ∀ (i : ι) (uo : MS), v_findLive_J87 uo (k38v i uo) U87 v87_1 v87_2 → P uo) (h : w_findLive_J87 Q k38 U87 v87_1 v87_2) : ∃ uo, P uo ∧ Q uo := by
  unfold w_findLive_J87 at h
  obtain ⟨a8, ea8⟩ : ∃ x9 : Int32, x9 = (v87_2 + Int32.ofInt (-1)) := ⟨_, rfl⟩
  replace h := h a8 ea8
  replace K := fun i uo z => K i uo ⟨a8, ea8, z⟩
  exact hk38 _ _ _ h K
set_option maxRecDepth 100000 in
theorem ru_findLive_J79 {ι : Type} {P : MS → Prop} {Q : MS → Prop} {k38 : MS → Int32 → Int32 → Prop} {k38v : ι → MS → MS → Int32 → Int32 → Prop} {U79 : MS} {t79_0 : Int32} {v79_2 : Int32} {v79_3 : Int32} (i0 : ι) (hk38 : ∀ (u : MS) (z0 : Int32) (z1 : Int32), k38 u z0 z1 → (∀ (i : ι) (uo : MS), k38v i uo u z0 z1 → P uo) → ∃ uo, P uo ∧ Q uo) (K : ∀ (i : ι) (uo : MS), v_findLive_J79 uo (k38v i uo) U79 t79_0 v79_2 v79_3 → P uo) (h : w_findLive_J79 Q k38 U79 t79_0 v79_2 v79_3) : ∃ uo, P uo ∧ Q uo := by
  unfold w_findLive_J79 at h
  obtain ⟨g1_, h⟩ := h
  replace K := fun i uo z => K i uo ⟨g1_, z⟩
  obtain ⟨S15, eS15⟩ : ∃ x9 : MS, x9 = wI U79 90 v79_2.toInt.toNat v79_3 := ⟨_, rfl⟩
  replace h := h S15 eS15
  replace K := fun i uo z => K i uo ⟨S15, eS15, z⟩
  exact ru_findLive_J87 i0 hk38 K h
set_option maxRecDepth 100000 in
theorem ru_findLive_J74 {ι : Type} {P : MS → Prop} {Q : MS → Prop} {k38 : MS → Int32 → Int32 → Prop} {k38v : ι → MS → MS → Int32 → Int32 → Prop} {U74 : MS} {v74_2 : Int32} {v74_3 : Int32} (i0 : ι) (hk38 : ∀ (u : MS) (z0 : Int32) (z1 : Int32), k38 u z0 z1 → (∀ (i : ι) (uo : MS), k38v i uo u z0 z1 → P uo) → ∃ uo, P uo ∧ Q uo) (K : ∀ (i : ι) (uo : MS), v_findLive_J74 uo (k38v i uo) U74 v74_2 v74_3 → P uo) (h : w_findLive_J74 Q k38 U74 v74_2 v74_3) : ∃ uo, P uo ∧ Q uo := by
  unfold w_findLive_J74 at h
  exact ru_findLive_J79 i0 hk38 K h
set_option maxRecDepth 100000 in
theorem ru_findLive_L38 {ι : Type} {P : MS → Prop} {Q : MS → Prop} {k25 : MS → Int32 → Prop} {k25v : ι → MS → MS → Int32 → Prop} : ∀ (n : Nat) {U38 : MS} {v38_1 : Int32} {v38_2 : Int32} (i0 : ι) (hk25 : ∀ (u : MS) (z0 : Int32), k25 u z0 → (∀ (i : ι) (uo : MS), k25v i uo u z0 → P uo) → ∃ uo, P uo ∧ Q uo), (∀ (i : ι) (uo : MS), (∃ n8, v_findLive_L38 uo (k25v i uo) n8 U38 v38_1 v38_2) → P uo) → w_findLive_L38 Q k25 n U38 v38_1 v38_2 → ∃ uo, P uo ∧ Q uo := by
  intro n
  induction n with
  | zero => intro U38 v38_1 v38_2 i0 hk25 K h; unfold w_findLive_L38 at h; exact h.elim
  | succ n ih =>
    intro U38 v38_1 v38_2 i0 hk25 K h
    unfold w_findLive_L38 at h
    replace K := fun (i : ι × Nat) uo (z : v_findLive_L38 uo (k25v i.1 uo) (i.2 + 1) U38 v38_1 v38_2) => K i.1 uo ⟨i.2 + 1, z⟩
    have i00 := i0
    replace i0 : ι × Nat := (i0, 0)
    by_cases c : v38_2.toInt < 0
    · replace h := h.1 c
      replace K := fun i uo z => K i uo (Or.inl ⟨c, z⟩)
      exact hk25 _ _ h (fun i uo z => K (i, 0) uo z)
    · replace h := h.2 c
      replace K := fun i uo z => K i uo (Or.inr ⟨c, z⟩)
      obtain ⟨g2_, h⟩ := h
      replace K := fun i uo z => K i uo ⟨g2_, z⟩
      by_cases c : (qI U38 81 v38_2.toInt.toNat).toInt = 0
      · replace h := h.1 c
        replace K := fun i uo z => K i uo (Or.inl ⟨c, z⟩)
        obtain ⟨Q9, h0, h⟩ := h
        obtain ⟨r11, S12, z9, g9⟩ := ru_liveAt h0
        replace h := h r11 S12 g9
        replace K := fun i uo z => K i uo ⟨r11, S12, z9, z⟩
        by_cases c : v38_1.toInt = 0
        · replace h := h.1 c
          replace K := fun i uo z => K i uo (Or.inl ⟨c, z⟩)
          obtain ⟨g3_, h⟩ := h
          replace K := fun i uo z => K i uo ⟨g3_, z⟩
          by_cases c : r11.toInt = (qI S12 90 v38_2.toInt.toNat).toInt
          · replace h := h.1 c
            replace K := fun i uo z => K i uo (Or.inl ⟨c, z⟩)
            exact ru_findLive_J79 i0 (fun _ _ _ h K => ih i00 hk25 (fun i uo ⟨n8, z⟩ => K (i, n8) uo z) h) K h
          · replace h := h.2 c
            replace K := fun i uo z => K i uo (Or.inr ⟨c, z⟩)
            exact ru_findLive_J74 i0 (fun _ _ _ h K => ih i00 hk25 (fun i uo ⟨n8, z⟩ => K (i, n8) uo z) h) K h
        · replace h := h.2 c
          replace K := fun i uo z => K i uo (Or.inr ⟨c, z⟩)
          exact ru_findLive_J74 i0 (fun _ _ _ h K => ih i00 hk25 (fun i uo ⟨n8, z⟩ => K (i, n8) uo z) h) K h
      · replace h := h.2 c
        replace K := fun i uo z => K i uo (Or.inr ⟨c, z⟩)
        exact ru_findLive_J87 i0 (fun _ _ _ h K => ih i00 hk25 (fun i uo ⟨n8, z⟩ => K (i, n8) uo z) h) K h
set_option maxRecDepth 100000 in
theorem ru_findLive_L25 {ι : Type} {P : MS → Prop} {Q : MS → Prop} : ∀ (n : Nat) {U25 : MS} {v25_1 : Int32} (i0 : ι), (∀ (i : ι) (uo : MS), (∃ n8, v_findLive_L25 uo n8 U25 v25_1) → P uo) → w_findLive_L25 Q n U25 v25_1 → ∃ uo, P uo ∧ Q uo := by
  intro n
  induction n with
  | zero => intro U25 v25_1 i0 K h; unfold w_findLive_L25 at h; exact h.elim
  | succ n ih =>
    intro U25 v25_1 i0 K h
    unfold w_findLive_L25 at h
    replace K := fun (i : ι × Nat) uo (z : v_findLive_L25 uo (i.2 + 1) U25 v25_1) => K i.1 uo ⟨i.2 + 1, z⟩
    have i00 := i0
    replace i0 : ι × Nat := (i0, 0)
    by_cases c : v25_1.toInt = 0
    · replace h := h.1 c
      replace K := fun i uo z => K i uo (Or.inl ⟨c, z⟩)
      exact ⟨_, K i0 _ rfl, h⟩
    · replace h := h.2 c
      replace K := fun i uo z => K i uo (Or.inr ⟨c, z⟩)
      obtain ⟨a4, ea4⟩ : ∃ x9 : Int32, x9 = ((qI U25 0 129) - (1 : Int32)) := ⟨_, rfl⟩
      replace h := h a4 ea4
      replace K := fun i uo z => K i uo ⟨a4, ea4, z⟩
      obtain ⟨n9, h⟩ := h
      exact ru_findLive_L38 n9 i0 (fun _ _ h K => ih i00 (fun i uo ⟨n8, z⟩ => K (i, n8) uo z) h) K h
set_option maxRecDepth 100000 in
theorem ru_findLive_L2 {ι : Type} {P : MS → Prop} {Q : MS → Prop} : ∀ (n : Nat) {U2 : MS} {v2_1 : Int32} (i0 : ι), (∀ (i : ι) (uo : MS), (∃ n8, v_findLive_L2 uo n8 U2 v2_1) → P uo) → w_findLive_L2 Q n U2 v2_1 → ∃ uo, P uo ∧ Q uo := by
  intro n
  induction n with
  | zero => intro U2 v2_1 i0 K h; unfold w_findLive_L2 at h; exact h.elim
  | succ n ih =>
    intro U2 v2_1 i0 K h
    unfold w_findLive_L2 at h
    replace K := fun (i : ι × Nat) uo (z : v_findLive_L2 uo (i.2 + 1) U2 v2_1) => K i.1 uo ⟨i.2 + 1, z⟩
    have i00 := i0
    replace i0 : ι × Nat := (i0, 0)
    by_cases c : (qI U2 0 129).toInt ≤ v2_1.toInt
    · replace h := h.1 c
      replace K := fun i uo z => K i uo (Or.inl ⟨c, z⟩)
      obtain ⟨n9, h⟩ := h
      exact ru_findLive_L25 n9 i0 K h
    · replace h := h.2 c
      replace K := fun i uo z => K i uo (Or.inr ⟨c, z⟩)
      obtain ⟨g4_, h⟩ := h
      replace K := fun i uo z => K i uo ⟨g4_, z⟩
      obtain ⟨S21, eS21⟩ : ∃ x9 : MS, x9 = wI U2 90 v2_1.toInt.toNat (0 : Int32) := ⟨_, rfl⟩
      replace h := h S21 eS21
      replace K := fun i uo z => K i uo ⟨S21, eS21, z⟩
      obtain ⟨a22, ea22⟩ : ∃ x9 : Int32, x9 = (v2_1 + Int32.ofInt 1) := ⟨_, rfl⟩
      replace h := h a22 ea22
      replace K := fun i uo z => K i uo ⟨a22, ea22, z⟩
      exact ih i00 (fun i uo ⟨n8, z⟩ => K (i, n8) uo z) h
set_option maxRecDepth 100000 in
theorem ru_findLive {S : MS} {Q : MS → Prop} (h : w_findLive S Q) : ∃ uo, v_findLive S uo ∧ Q uo := by
  have i0 : Unit := ()
  have K : ∀ (i : Unit) (uo : MS), v_findLive S uo → v_findLive S uo := fun _ _ z => z
  unfold w_findLive at h
  obtain ⟨n9, h⟩ := h
  exact ru_findLive_L2 n9 i0 K h
set_option maxRecDepth 100000 in
theorem vw_findLive_J87 {uo : MS} {k38 k38v : MS → Int32 → Int32 → Prop} {U87 : MS} {v87_1 : Int32} {v87_2 : Int32} (hk38 : ∀ (u : MS) (z0 : Int32) (z1 : Int32), k38v u z0 z1 → k38 u z0 z1) (h : v_findLive_J87 uo k38v U87 v87_1 v87_2) : w_findLive_J87 (fun u => u = uo) k38 U87 v87_1 v87_2 := by
  unfold v_findLive_J87 at h
  unfold w_findLive_J87
  obtain ⟨v9, e9, h⟩ := h
  intro x9 d9
  have c9 : v9 = x9 := e9.trans d9.symm
  subst c9
  exact hk38 _ _ _ h
set_option maxRecDepth 100000 in
theorem vz_findLive_J87 {uo : MS} {Q : MS → Prop} {k38 k38v : MS → Int32 → Int32 → Prop} {U87 : MS} {v87_1 : Int32} {v87_2 : Int32} (hk38 : ∀ (u : MS) (z0 : Int32) (z1 : Int32), k38v u z0 z1 → k38 u z0 z1 → Q uo) (h : v_findLive_J87 uo k38v U87 v87_1 v87_2) (w : w_findLive_J87 Q k38 U87 v87_1 v87_2) : Q uo := by
  unfold v_findLive_J87 at h
  unfold w_findLive_J87 at w
  obtain ⟨v9, e9, h⟩ := h
  replace w := w v9 e9
  exact hk38 _ _ _ h w
set_option maxRecDepth 100000 in
theorem vw_findLive_J79 {uo : MS} {k38 k38v : MS → Int32 → Int32 → Prop} {U79 : MS} {t79_0 : Int32} {v79_2 : Int32} {v79_3 : Int32} (hk38 : ∀ (u : MS) (z0 : Int32) (z1 : Int32), k38v u z0 z1 → k38 u z0 z1) (h : v_findLive_J79 uo k38v U79 t79_0 v79_2 v79_3) : w_findLive_J79 (fun u => u = uo) k38 U79 t79_0 v79_2 v79_3 := by
  unfold v_findLive_J79 at h
  unfold w_findLive_J79
  obtain ⟨g9, h⟩ := h
  refine ⟨g9, ?_⟩
  obtain ⟨v9, e9, h⟩ := h
  intro x9 d9
  have c9 : v9 = x9 := e9.trans d9.symm
  subst c9
  exact vw_findLive_J87 hk38 h
set_option maxRecDepth 100000 in
theorem vz_findLive_J79 {uo : MS} {Q : MS → Prop} {k38 k38v : MS → Int32 → Int32 → Prop} {U79 : MS} {t79_0 : Int32} {v79_2 : Int32} {v79_3 : Int32} (hk38 : ∀ (u : MS) (z0 : Int32) (z1 : Int32), k38v u z0 z1 → k38 u z0 z1 → Q uo) (h : v_findLive_J79 uo k38v U79 t79_0 v79_2 v79_3) (w : w_findLive_J79 Q k38 U79 t79_0 v79_2 v79_3) : Q uo := by
  unfold v_findLive_J79 at h
  unfold w_findLive_J79 at w
  replace h := h.2
  replace w := w.2
  obtain ⟨v9, e9, h⟩ := h
  replace w := w v9 e9
  exact vz_findLive_J87 hk38 h w
set_option maxRecDepth 100000 in
theorem vw_findLive_J74 {uo : MS} {k38 k38v : MS → Int32 → Int32 → Prop} {U74 : MS} {v74_2 : Int32} {v74_3 : Int32} (hk38 : ∀ (u : MS) (z0 : Int32) (z1 : Int32), k38v u z0 z1 → k38 u z0 z1) (h : v_findLive_J74 uo k38v U74 v74_2 v74_3) : w_findLive_J74 (fun u => u = uo) k38 U74 v74_2 v74_3 := by
  unfold v_findLive_J74 at h
  unfold w_findLive_J74
  exact vw_findLive_J79 hk38 h
set_option maxRecDepth 100000 in
theorem vz_findLive_J74 {uo : MS} {Q : MS → Prop} {k38 k38v : MS → Int32 → Int32 → Prop} {U74 : MS} {v74_2 : Int32} {v74_3 : Int32} (hk38 : ∀ (u : MS) (z0 : Int32) (z1 : Int32), k38v u z0 z1 → k38 u z0 z1 → Q uo) (h : v_findLive_J74 uo k38v U74 v74_2 v74_3) (w : w_findLive_J74 Q k38 U74 v74_2 v74_3) : Q uo := by
  unfold v_findLive_J74 at h
  unfold w_findLive_J74 at w
  exact vz_findLive_J79 hk38 h w
set_option maxRecDepth 100000 in
theorem vw_findLive_L38 {uo : MS} {k25 k25v : MS → Int32 → Prop} : ∀ (n : Nat) {U38 : MS} {v38_1 : Int32} {v38_2 : Int32} (hk25 : ∀ (u : MS) (z0 : Int32), k25v u z0 → k25 u z0), v_findLive_L38 uo k25v n U38 v38_1 v38_2 → w_findLive_L38 (fun u => u = uo) k25 n U38 v38_1 v38_2 := by
  intro n
  induction n with
  | zero => intro U38 v38_1 v38_2 hk25 h; unfold v_findLive_L38 at h; exact h.elim
  | succ n ih =>
    intro U38 v38_1 v38_2 hk25 h
    unfold v_findLive_L38 at h
    unfold w_findLive_L38
    rcases h with ⟨c, h⟩ | ⟨c, h⟩
    · refine ⟨fun _ => ?_, fun c2 => absurd c c2⟩
      exact hk25 _ _ h
    · refine ⟨fun c2 => absurd c2 c, fun _ => ?_⟩
      obtain ⟨g9, h⟩ := h
      refine ⟨g9, ?_⟩
      rcases h with ⟨c, h⟩ | ⟨c, h⟩
      · refine ⟨fun _ => ?_, fun c2 => absurd c c2⟩
        obtain ⟨p9, q9, z9, h⟩ := h
        refine ⟨_, vw_liveAt z9, ?_⟩
        rintro p8 q8 ⟨d8, d9⟩
        subst d8
        subst d9
        rcases h with ⟨c, h⟩ | ⟨c, h⟩
        · refine ⟨fun _ => ?_, fun c2 => absurd c c2⟩
          obtain ⟨g9, h⟩ := h
          refine ⟨g9, ?_⟩
          rcases h with ⟨c, h⟩ | ⟨c, h⟩
          · refine ⟨fun _ => ?_, fun c2 => absurd c c2⟩
            exact vw_findLive_J79 (fun _ _ _ h => ih hk25 h) h
          · refine ⟨fun c2 => absurd c2 c, fun _ => ?_⟩
            exact vw_findLive_J74 (fun _ _ _ h => ih hk25 h) h
        · refine ⟨fun c2 => absurd c2 c, fun _ => ?_⟩
          exact vw_findLive_J74 (fun _ _ _ h => ih hk25 h) h
      · refine ⟨fun c2 => absurd c2 c, fun _ => ?_⟩
        exact vw_findLive_J87 (fun _ _ _ h => ih hk25 h) h
set_option maxRecDepth 100000 in
theorem vz_findLive_L38 {uo : MS} {Q : MS → Prop} {k25 k25v : MS → Int32 → Prop} : ∀ (n m : Nat) {U38 : MS} {v38_1 : Int32} {v38_2 : Int32} (hk25 : ∀ (u : MS) (z0 : Int32), k25v u z0 → k25 u z0 → Q uo), v_findLive_L38 uo k25v n U38 v38_1 v38_2 → w_findLive_L38 Q k25 m U38 v38_1 v38_2 → Q uo := by
  intro n
  induction n with
  | zero => intro m U38 v38_1 v38_2 hk25 h; unfold v_findLive_L38 at h; exact h.elim
  | succ n ih =>
    intro m U38 v38_1 v38_2 hk25 h w
    cases m with
    | zero => unfold w_findLive_L38 at w; exact w.elim
    | succ m =>
      unfold v_findLive_L38 at h
      unfold w_findLive_L38 at w
      rcases h with ⟨c, h⟩ | ⟨c, h⟩
      · replace w := w.1 c
        exact hk25 _ _ h w
      · replace w := w.2 c
        replace h := h.2
        replace w := w.2
        rcases h with ⟨c, h⟩ | ⟨c, h⟩
        · replace w := w.1 c
          obtain ⟨p9, q9, z9, h⟩ := h
          obtain ⟨Q9, w0, w⟩ := w
          replace w := w p9 q9 (vz_liveAt z9 w0)
          rcases h with ⟨c, h⟩ | ⟨c, h⟩
          · replace w := w.1 c
            replace h := h.2
            replace w := w.2
            rcases h with ⟨c, h⟩ | ⟨c, h⟩
            · replace w := w.1 c
              exact vz_findLive_J79 (fun _ _ _ h w => ih m hk25 h w) h w
            · replace w := w.2 c
              exact vz_findLive_J74 (fun _ _ _ h w => ih m hk25 h w) h w
          · replace w := w.2 c
            exact vz_findLive_J74 (fun _ _ _ h w => ih m hk25 h w) h w
        · replace w := w.2 c
          exact vz_findLive_J87 (fun _ _ _ h w => ih m hk25 h w) h w
set_option maxRecDepth 100000 in
theorem vw_findLive_L25 {uo : MS} : ∀ (n : Nat) {U25 : MS} {v25_1 : Int32}, v_findLive_L25 uo n U25 v25_1 → w_findLive_L25 (fun u => u = uo) n U25 v25_1 := by
  intro n
  induction n with
  | zero => intro U25 v25_1 h; unfold v_findLive_L25 at h; exact h.elim
  | succ n ih =>
    intro U25 v25_1 h
    unfold v_findLive_L25 at h
    unfold w_findLive_L25
    rcases h with ⟨c, h⟩ | ⟨c, h⟩
    · refine ⟨fun _ => ?_, fun c2 => absurd c c2⟩
      exact h.symm
    · refine ⟨fun c2 => absurd c2 c, fun _ => ?_⟩
      obtain ⟨v9, e9, h⟩ := h
      intro x9 d9
      have c9 : v9 = x9 := e9.trans d9.symm
      subst c9
      obtain ⟨n9, h⟩ := h
      exact ⟨n9, vw_findLive_L38 n9 (fun _ _ h => ih h) h⟩
set_option maxRecDepth 100000 in
theorem vz_findLive_L25 {uo : MS} {Q : MS → Prop} : ∀ (n m : Nat) {U25 : MS} {v25_1 : Int32}, v_findLive_L25 uo n U25 v25_1 → w_findLive_L25 Q m U25 v25_1 → Q uo := by
  intro n
  induction n with
  | zero => intro m U25 v25_1 h; unfold v_findLive_L25 at h; exact h.elim
  | succ n ih =>
    intro m U25 v25_1 h w
    cases m with
    | zero => unfold w_findLive_L25 at w; exact w.elim
    | succ m =>
      unfold v_findLive_L25 at h
      unfold w_findLive_L25 at w
      rcases h with ⟨c, h⟩ | ⟨c, h⟩
      · replace w := w.1 c
        rw [h]
        exact w
      · replace w := w.2 c
        obtain ⟨v9, e9, h⟩ := h
        replace w := w v9 e9
        obtain ⟨n9, h⟩ := h
        obtain ⟨n8, w⟩ := w
        exact vz_findLive_L38 n9 n8 (fun _ _ h w => ih m h w) h w
set_option maxRecDepth 100000 in
theorem vw_findLive_L2 {uo : MS} : ∀ (n : Nat) {U2 : MS} {v2_1 : Int32}, v_findLive_L2 uo n U2 v2_1 → w_findLive_L2 (fun u => u = uo) n U2 v2_1 := by
  intro n
  induction n with
  | zero => intro U2 v2_1 h; unfold v_findLive_L2 at h; exact h.elim
  | succ n ih =>
    intro U2 v2_1 h
    unfold v_findLive_L2 at h
    unfold w_findLive_L2
    rcases h with ⟨c, h⟩ | ⟨c, h⟩
    · refine ⟨fun _ => ?_, fun c2 => absurd c c2⟩
      obtain ⟨n9, h⟩ := h
      exact ⟨n9, vw_findLive_L25 n9 h⟩
    · refine ⟨fun c2 => absurd c2 c, fun _ => ?_⟩
      obtain ⟨g9, h⟩ := h
      refine ⟨g9, ?_⟩
      obtain ⟨v9, e9, h⟩ := h
      intro x9 d9
      have c9 : v9 = x9 := e9.trans d9.symm
      subst c9
      obtain ⟨v9, e9, h⟩ := h
      intro x9 d9
      have c9 : v9 = x9 := e9.trans d9.symm
      subst c9
      exact ih h
set_option maxRecDepth 100000 in
theorem vz_findLive_L2 {uo : MS} {Q : MS → Prop} : ∀ (n m : Nat) {U2 : MS} {v2_1 : Int32}, v_findLive_L2 uo n U2 v2_1 → w_findLive_L2 Q m U2 v2_1 → Q uo := by
  intro n
  induction n with
  | zero => intro m U2 v2_1 h; unfold v_findLive_L2 at h; exact h.elim
  | succ n ih =>
    intro m U2 v2_1 h w
    cases m with
    | zero => unfold w_findLive_L2 at w; exact w.elim
    | succ m =>
      unfold v_findLive_L2 at h
      unfold w_findLive_L2 at w
      rcases h with ⟨c, h⟩ | ⟨c, h⟩
      · replace w := w.1 c
        obtain ⟨n9, h⟩ := h
        obtain ⟨n8, w⟩ := w
        exact vz_findLive_L25 n9 n8 h w
      · replace w := w.2 c
        replace h := h.2
        replace w := w.2
        obtain ⟨v9, e9, h⟩ := h
        replace w := w v9 e9
        obtain ⟨v9, e9, h⟩ := h
        replace w := w v9 e9
        exact ih m h w
set_option maxRecDepth 100000 in
theorem vw_findLive {S : MS} {uo : MS} (h : v_findLive S uo) : w_findLive S (fun u => u = uo) := by
  unfold v_findLive at h
  unfold w_findLive
  obtain ⟨n9, h⟩ := h
  exact ⟨n9, vw_findLive_L2 n9 h⟩
set_option maxRecDepth 100000 in
theorem vz_findLive {S : MS} {uo : MS} {Q : MS → Prop} (h : v_findLive S uo) (w : w_findLive S Q) : Q uo := by
  unfold v_findLive at h
  unfold w_findLive at w
  obtain ⟨n9, h⟩ := h
  obtain ⟨n8, w⟩ := w
  exact vz_findLive_L2 n9 n8 h w
