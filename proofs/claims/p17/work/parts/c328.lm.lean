/-! headHolds: what it finds -/
theorem sp_breaks {S : MS} {x1 x2 : Int32} (hw : wfC S) : wX7_breaks S x1 x2 (fun r _ => r = 0) := by
  unfold wX7_breaks
  intros
  repeat' first | rfl | (refine ⟨?_, ?_⟩) | intro _
theorem sp_catchesHold {S : MS} {x1 x2 : Int32} (hw : wfC S) (h9 : 0 ≤ (qI S 9 1).toInt) : wX2_catchesHold S x1 x2 (fun r _ => r = 0 ∨ (fX7_u2 S x1).toInt ≤ 16) := by
  have k9 : qT S 9 = 46 := (hw.2.1 _ finC_2).2.1
  by_cases c : (fX7_u2 S x1).toInt ≤ 16
  · have e : (fun (r : Int32) (_ : MS) => r = 0 ∨ (fX7_u2 S x1).toInt ≤ 16) = (fun _ _ => True) := by
      funext r u
      exact eq_true (Or.inr c)
    rw [e]
    exact sfX2_catchesHold hw h9 k9
  · unfold wX2_catchesHold
    refine ⟨fun _ => ⟨dd_X7_u2 h9, ?_⟩, fun _ => ⟨_, sp_breaks hw, fun _ _ q _ _ => Or.inl q⟩⟩
    rintro a rfl
    exact ⟨fun d => absurd d c, fun _ => ⟨_, sp_breaks hw, fun _ _ q _ _ => Or.inl q⟩⟩
theorem u4_32 {S : MS} {x : Int32} : (fX7_u4 S x).toInt32 = fX7_s4 S x := by
  unfold fX7_u4
  rw [Int64.toInt32_and, Int32.toInt32_toInt64]
  exact Int32.and_neg_one
def HdO (S : MS) (x1 : Int32) : Prop := (fX7_u2 S x1).toInt ≤ 24 ∧ (fX7_u2 S (x1 + (2 : Int32))).toInt ≤ 24 ∧ ¬ (lg_cmp (fX7_u4 S (x1 + (4 : Int32))) 1).toInt < 0 ∧ (lg_cmp (fX7_u4 S (x1 + (4 : Int32))) (1200 : Int64)).toInt ≤ 0 ∧ (fX7_u2 S ((x1 + (8 : Int32)) + fX7_s4 S (x1 + (4 : Int32)))).toInt ≤ 16
theorem sp_headHolds {S : MS} {x1 x2 x3 : Int32} (hw : wfC S) (h9 : 0 ≤ (qI S 9 1).toInt) : wX2_headHolds S x1 x2 x3 (fun r _ => r = 0 ∨ HdO S x1) := by
  have B : ∀ {a b : Int32}, ∃ Q1, wX7_breaks S a b Q1 ∧ ∀ (r : Int32) (u : MS), Q1 r u → wfC u → shy S u → (r = 0 ∨ HdO S x1) := ⟨_, sp_breaks hw, fun _ _ q _ _ => Or.inl q⟩
  unfold wX2_headHolds
  refine ⟨fun _ => ⟨dd_X7_u2 h9, fun c1 => ⟨fun _ => ⟨dd_X7_u2 h9, fun _ => ?_, fun c2 => ⟨dd_X7_u2 h9, fun _ => ⟨fun _ => ⟨dd_X7_u4 h9, ?_⟩, fun _ => B⟩, fun _ => ?_⟩⟩, fun _ => B⟩, fun _ => B⟩, fun _ => B⟩
  · unfold w_X2_headHolds_J89
    exact fun _ => B
  · rintro a rfl
    refine ⟨fun _ => ?_, fun c3 => ⟨fun c4 => ⟨_, sp_catchesHold hw h9, ?_⟩, fun _ => ?_⟩⟩
    · unfold w_X2_headHolds_J149
      exact fun _ => B
    · rintro r u q _ _
      rw [u4_32] at q
      exact q.imp id (fun q => ⟨c1, by omega, c3, c4, q⟩)
    · unfold w_X2_headHolds_J149
      exact fun _ => B
  · unfold w_X2_headHolds_J89
    exact fun _ => B
