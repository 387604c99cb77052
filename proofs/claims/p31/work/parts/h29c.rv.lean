def v_X5_push__J9 (uo : MS) (U9 : MS) (v9_1 : Int32) : Prop := (wfC U9 ∧ ((v9_1.toInt = 2 ∧ (∃ (S3 : MS), vX5_push U9 0 S3 ∧ wfC S3 ∧ shy U9 S3 ∧ (uo = S3))) ∨ (¬ v9_1.toInt = 2 ∧ (uo = U9))))
def vX5_push_ (S : MS) (x1 : Int32) (y2 : Int64) (uo : MS) : Prop := ((x1.toInt = 0 ∧ (v_X5_push__J9 uo S x1)) ∨ (¬ x1.toInt = 0 ∧ (∃ (S7 : MS), vX5_push S y2 S7 ∧ wfC S7 ∧ shy S S7 ∧ (v_X5_push__J9 uo S7 x1))))
set_option maxRecDepth 100000 in
theorem ru_X5_push__J9 {ι : Type} {P Q : MS → Prop} {U9 : MS} {v9_1 : Int32} (i0 : ι) (K : ∀ (i : ι) (uo : MS), v_X5_push__J9 uo U9 v9_1 → P uo) (h : w_X5_push__J9 Q U9 v9_1) : w_X5_push__J9 (fun u => Q u ∧ P u) U9 v9_1 := by
  unfold w_X5_push__J9 at h ⊢
  intro y1_
  replace h := h y1_
  replace K := fun i uo z => K i uo ⟨y1_, z⟩
  refine ⟨fun c => ?_, fun c => ?_⟩
  · replace h := h.1 c
    replace K := fun i uo z => K i uo (Or.inl ⟨c, z⟩)
    obtain ⟨Q9, h0, h⟩ := h
    refine ⟨_, ruX5_push h0, ?_⟩
    intro S3 q2_ y3_ y4_
    replace h := h S3 q2_.1 y3_ y4_
    replace K := fun i uo z => K i uo ⟨S3, q2_.2, y3_, y4_, z⟩
    exact ⟨h, K i0 _ rfl⟩
  · replace h := h.2 c
    replace K := fun i uo z => K i uo (Or.inr ⟨c, z⟩)
    exact ⟨h, K i0 _ rfl⟩
set_option maxRecDepth 100000 in
theorem ruX5_push_ {S : MS} {x1 : Int32} {y2 : Int64} {Q : MS → Prop} (h : wX5_push_ S x1 y2 Q) : wX5_push_ S x1 y2 (fun u => Q u ∧ vX5_push_ S x1 y2 u) := by
  have i0 : Unit := ()
  have K : ∀ (i : Unit) (uo : MS), vX5_push_ S x1 y2 uo → vX5_push_ S x1 y2 uo := fun _ _ z => z
  unfold wX5_push_ at h ⊢
  refine ⟨fun c => ?_, fun c => ?_⟩
  · replace h := h.1 c
    replace K := fun i uo z => K i uo (Or.inl ⟨c, z⟩)
    exact ru_X5_push__J9 i0 K h
  · replace h := h.2 c
    replace K := fun i uo z => K i uo (Or.inr ⟨c, z⟩)
    obtain ⟨Q9, h0, h⟩ := h
    refine ⟨_, ruX5_push h0, ?_⟩
    intro S7 q5_ y6_ y7_
    replace h := h S7 q5_.1 y6_ y7_
    replace K := fun i uo z => K i uo ⟨S7, q5_.2, y6_, y7_, z⟩
    exact ru_X5_push__J9 i0 K h
set_option maxRecDepth 100000 in
theorem vw_X5_push__J9 {uo : MS} {U9 : MS} {v9_1 : Int32} (h : v_X5_push__J9 uo U9 v9_1) : w_X5_push__J9 (fun u => u = uo) U9 v9_1 := by
  unfold v_X5_push__J9 at h
  unfold w_X5_push__J9
  intro _
  replace h := h.2
  rcases h with ⟨c, h⟩ | ⟨c, h⟩
  · refine ⟨fun _ => ?_, fun c2 => absurd c c2⟩
    obtain ⟨q9, z9, h⟩ := h
    refine ⟨_, vwX5_push z9, ?_⟩
    intro q8 d9 _ _
    subst d9
    replace h := h.2.2
    exact h.symm
  · refine ⟨fun c2 => absurd c2 c, fun _ => ?_⟩
    exact h.symm
set_option maxRecDepth 100000 in
theorem vp_X5_push__J9 {uo : MS} {P : MS → Prop} {U9 : MS} {v9_1 : Int32} (h : v_X5_push__J9 uo U9 v9_1) (w : w_X5_push__J9 P U9 v9_1) : P uo := by
  unfold v_X5_push__J9 at h
  unfold w_X5_push__J9 at w
  obtain ⟨y1_, h⟩ := h
  replace w := w y1_
  rcases h with ⟨c, h⟩ | ⟨c, h⟩
  · replace w := w.1 c
    obtain ⟨q9, z9, y2_, y3_, h⟩ := h
    obtain ⟨Q9, w0, w⟩ := w
    replace w := w q9 (vpX5_push z9 w0) y2_ y3_
    rw [h]
    exact w
  · replace w := w.2 c
    rw [h]
    exact w
set_option maxRecDepth 100000 in
theorem vwX5_push_ {S : MS} {x1 : Int32} {y2 : Int64} {uo : MS} (h : vX5_push_ S x1 y2 uo) : wX5_push_ S x1 y2 (fun u => u = uo) := by
  unfold vX5_push_ at h
  unfold wX5_push_
  rcases h with ⟨c, h⟩ | ⟨c, h⟩
  · refine ⟨fun _ => ?_, fun c2 => absurd c c2⟩
    exact vw_X5_push__J9 h
  · refine ⟨fun c2 => absurd c2 c, fun _ => ?_⟩
    obtain ⟨q9, z9, h⟩ := h
    refine ⟨_, vwX5_push z9, ?_⟩
    intro q8 d9 _ _
    subst d9
    replace h := h.2.2
    exact vw_X5_push__J9 h
set_option maxRecDepth 100000 in
theorem vpX5_push_ {S : MS} {x1 : Int32} {y2 : Int64} {uo : MS} {P : MS → Prop} (h : vX5_push_ S x1 y2 uo) (w : wX5_push_ S x1 y2 P) : P uo := by
  unfold vX5_push_ at h
  unfold wX5_push_ at w
  rcases h with ⟨c, h⟩ | ⟨c, h⟩
  · replace w := w.1 c
    exact vp_X5_push__J9 h w
  · replace w := w.2 c
    obtain ⟨q9, z9, y4_, y5_, h⟩ := h
    obtain ⟨Q9, w0, w⟩ := w
    replace w := w q9 (vpX5_push z9 w0) y4_ y5_
    exact vp_X5_push__J9 h w
def v_X5_pop__J10 (ro : Int64) (uo : MS) (U10 : MS) (v10_1 : Int32) : Prop := (wfC U10 ∧ ((v10_1.toInt = 0 ∧ (ro = 0 ∧ uo = U10)) ∨ (¬ v10_1.toInt = 0 ∧ (∃ (r3 : Int64) (S4 : MS), vX5_pop U10 r3 S4 ∧ wfC S4 ∧ shy U10 S4 ∧ (ro = r3 ∧ uo = S4)))))
def vX5_pop_ (S : MS) (x1 : Int32) (ro : Int64) (uo : MS) : Prop := ((x1.toInt = 2 ∧ (∃ (r8 : Int64) (S9 : MS), vX5_pop S r8 S9 ∧ wfC S9 ∧ shy S S9 ∧ (v_X5_pop__J10 ro uo S9 x1))) ∨ (¬ x1.toInt = 2 ∧ (v_X5_pop__J10 ro uo S x1)))
set_option maxRecDepth 100000 in
theorem ru_X5_pop__J10 {ι : Type} {P Q : Int64 → MS → Prop} {U10 : MS} {v10_1 : Int32} (i0 : ι) (K : ∀ (i : ι) (ro : Int64) (uo : MS), v_X5_pop__J10 ro uo U10 v10_1 → P ro uo) (h : w_X5_pop__J10 Q U10 v10_1) : w_X5_pop__J10 (fun r u => Q r u ∧ P r u) U10 v10_1 := by
  unfold w_X5_pop__J10 at h ⊢
  intro y1_
  replace h := h y1_
  replace K := fun i ro uo z => K i ro uo ⟨y1_, z⟩
  refine ⟨fun c => ?_, fun c => ?_⟩
  · replace h := h.1 c
    replace K := fun i ro uo z => K i ro uo (Or.inl ⟨c, z⟩)
    exact ⟨h, K i0 _ _ ⟨rfl, rfl⟩⟩
  · replace h := h.2 c
    replace K := fun i ro uo z => K i ro uo (Or.inr ⟨c, z⟩)
    obtain ⟨Q9, h0, h⟩ := h
    refine ⟨_, ruX5_pop h0, ?_⟩
    intro r3 S4 q2_ y3_ y4_
    replace h := h r3 S4 q2_.1 y3_ y4_
    replace K := fun i ro uo z => K i ro uo ⟨r3, S4, q2_.2, y3_, y4_, z⟩
    exact ⟨h, K i0 _ _ ⟨rfl, rfl⟩⟩
set_option maxRecDepth 100000 in
theorem ruX5_pop_ {S : MS} {x1 : Int32} {Q : Int64 → MS → Prop} (h : wX5_pop_ S x1 Q) : wX5_pop_ S x1 (fun r u => Q r u ∧ vX5_pop_ S x1 r u) := by
  have i0 : Unit := ()
  have K : ∀ (i : Unit) (ro : Int64) (uo : MS), vX5_pop_ S x1 ro uo → vX5_pop_ S x1 ro uo := fun _ _ _ z => z
  unfold wX5_pop_ at h ⊢
  refine ⟨fun c => ?_, fun c => ?_⟩
  · replace h := h.1 c
    replace K := fun i ro uo z => K i ro uo (Or.inl ⟨c, z⟩)
    obtain ⟨Q9, h0, h⟩ := h
    refine ⟨_, ruX5_pop h0, ?_⟩
    intro r8 S9 q5_ y6_ y7_
    replace h := h r8 S9 q5_.1 y6_ y7_
    replace K := fun i ro uo z => K i ro uo ⟨r8, S9, q5_.2, y6_, y7_, z⟩
    exact ru_X5_pop__J10 i0 K h
  · replace h := h.2 c
    replace K := fun i ro uo z => K i ro uo (Or.inr ⟨c, z⟩)
    exact ru_X5_pop__J10 i0 K h
set_option maxRecDepth 100000 in
theorem vw_X5_pop__J10 {ro : Int64} {uo : MS} {U10 : MS} {v10_1 : Int32} (h : v_X5_pop__J10 ro uo U10 v10_1) : w_X5_pop__J10 (fun r u => r = ro ∧ u = uo) U10 v10_1 := by
  unfold v_X5_pop__J10 at h
  unfold w_X5_pop__J10
  intro _
  replace h := h.2
  rcases h with ⟨c, h⟩ | ⟨c, h⟩
  · refine ⟨fun _ => ?_, fun c2 => absurd c c2⟩
    exact ⟨h.1.symm, h.2.symm⟩
  · refine ⟨fun c2 => absurd c2 c, fun _ => ?_⟩
    obtain ⟨p9, q9, z9, h⟩ := h
    refine ⟨_, vwX5_pop z9, ?_⟩
    rintro p8 q8 ⟨d8, d9⟩ _ _
    subst d8
    subst d9
    replace h := h.2.2
    exact ⟨h.1.symm, h.2.symm⟩
set_option maxRecDepth 100000 in
theorem vp_X5_pop__J10 {ro : Int64} {uo : MS} {P : Int64 → MS → Prop} {U10 : MS} {v10_1 : Int32} (h : v_X5_pop__J10 ro uo U10 v10_1) (w : w_X5_pop__J10 P U10 v10_1) : P ro uo := by
  unfold v_X5_pop__J10 at h
  unfold w_X5_pop__J10 at w
  obtain ⟨y1_, h⟩ := h
  replace w := w y1_
  rcases h with ⟨c, h⟩ | ⟨c, h⟩
  · replace w := w.1 c
    rw [h.1, h.2]
    exact w
  · replace w := w.2 c
    obtain ⟨p9, q9, z9, y2_, y3_, h⟩ := h
    obtain ⟨Q9, w0, w⟩ := w
    replace w := w p9 q9 (vpX5_pop z9 w0) y2_ y3_
    rw [h.1, h.2]
    exact w
set_option maxRecDepth 100000 in
theorem vwX5_pop_ {S : MS} {x1 : Int32} {ro : Int64} {uo : MS} (h : vX5_pop_ S x1 ro uo) : wX5_pop_ S x1 (fun r u => r = ro ∧ u = uo) := by
  unfold vX5_pop_ at h
  unfold wX5_pop_
  rcases h with ⟨c, h⟩ | ⟨c, h⟩
  · refine ⟨fun _ => ?_, fun c2 => absurd c c2⟩
    obtain ⟨p9, q9, z9, h⟩ := h
    refine ⟨_, vwX5_pop z9, ?_⟩
    rintro p8 q8 ⟨d8, d9⟩ _ _
    subst d8
    subst d9
    replace h := h.2.2
    exact vw_X5_pop__J10 h
  · refine ⟨fun c2 => absurd c2 c, fun _ => ?_⟩
    exact vw_X5_pop__J10 h
set_option maxRecDepth 100000 in
theorem vpX5_pop_ {S : MS} {x1 : Int32} {ro : Int64} {uo : MS} {P : Int64 → MS → Prop} (h : vX5_pop_ S x1 ro uo) (w : wX5_pop_ S x1 P) : P ro uo := by
  unfold vX5_pop_ at h
  unfold wX5_pop_ at w
  rcases h with ⟨c, h⟩ | ⟨c, h⟩
  · replace w := w.1 c
    obtain ⟨p9, q9, z9, y4_, y5_, h⟩ := h
    obtain ⟨Q9, w0, w⟩ := w
    replace w := w p9 q9 (vpX5_pop z9 w0) y4_ y5_
    exact vp_X5_pop__J10 h w
  · replace w := w.2 c
    exact vp_X5_pop__J10 h w
def v_X5_shuffle_J25 (uo : MS) (U25 : MS) (t25_0 : Int64) (v25_1 : Int32) (v25_2 : Int64) : Prop := (wfC U25 ∧ ((v25_1.toInt = 89 ∧ (∃ (S6 : MS), vX5_push U25 v25_2 S6 ∧ wfC S6 ∧ shy U25 S6 ∧ (∃ (S9 : MS), vX5_push S6 v25_2 S9 ∧ wfC S9 ∧ shy S6 S9 ∧ (uo = S9)))) ∨ (¬ v25_1.toInt = 89 ∧ ((v25_1.toInt = 90 ∧ (∃ (S12 : MS), vX5_push U25 v25_2 S12 ∧ wfC S12 ∧ shy U25 S12 ∧ (∃ (S15 : MS), vX5_push S12 t25_0 S15 ∧ wfC S15 ∧ shy S12 S15 ∧ (∃ (S18 : MS), vX5_push S15 v25_2 S18 ∧ wfC S18 ∧ shy S15 S18 ∧ (uo = S18))))) ∨ (¬ v25_1.toInt = 90 ∧ ((v25_1.toInt = 91 ∧ (uo = U25)) ∨ (¬ v25_1.toInt = 91 ∧ ((v25_1.toInt = 92 ∧ (∃ (S21 : MS), vX5_push U25 t25_0 S21 ∧ wfC S21 ∧ shy U25 S21 ∧ (∃ (S24 : MS), vX5_push S21 v25_2 S24 ∧ wfC S24 ∧ shy S21 S24 ∧ (∃ (S27 : MS), vX5_push S24 t25_0 S27 ∧ wfC S27 ∧ shy S24 S27 ∧ (∃ (S30 : MS), vX5_push S27 v25_2 S30 ∧ wfC S30 ∧ shy S27 S30 ∧ (uo = S30)))))) ∨ (¬ v25_1.toInt = 92 ∧ ((v25_1.toInt = 93 ∧ (uo = U25)) ∨ (¬ v25_1.toInt = 93 ∧ ((v25_1.toInt = 94 ∧ (uo = U25)) ∨ (¬ v25_1.toInt = 94 ∧ ((v25_1.toInt = 95 ∧ (∃ (S33 : MS), vX5_push U25 v25_2 S33 ∧ wfC S33 ∧ shy U25 S33 ∧ (∃ (S36 : MS), vX5_push S33 t25_0 S36 ∧ wfC S36 ∧ shy S33 S36 ∧ (uo = S36)))) ∨ (¬ v25_1.toInt = 95 ∧ (uo = U25))))))))))))))))
def v_X5_shuffle_J17 (uo : MS) (U17 : MS) (v17_1 : Int32) (v17_2 : Int64) : Prop := (wfC U17 ∧ (v_X5_shuffle_J25 uo U17 0 v17_1 v17_2))
def vX5_shuffle (S : MS) (x1 : Int32) (uo : MS) : Prop := (∃ (r2 : Int64) (S3 : MS), vX5_pop S r2 S3 ∧ wfC S3 ∧ shy S S3 ∧ ((x1.toInt = 87 ∧ (v_X5_shuffle_J17 uo S3 x1 r2)) ∨ (¬ x1.toInt = 87 ∧ ((x1.toInt = 89 ∧ (v_X5_shuffle_J17 uo S3 x1 r2)) ∨ (¬ x1.toInt = 89 ∧ (∃ (r41 : Int64) (S42 : MS), vX5_pop S3 r41 S42 ∧ wfC S42 ∧ shy S3 S42 ∧ (v_X5_shuffle_J25 uo S42 r41 x1 r2)))))))
set_option maxRecDepth 100000 in
theorem ru_X5_shuffle_J25 {ι : Type} {P Q : MS → Prop} {U25 : MS} {t25_0 : Int64} {v25_1 : Int32} {v25_2 : Int64} (i0 : ι) (K : ∀ (i : ι) (uo : MS), v_X5_shuffle_J25 uo U25 t25_0 v25_1 v25_2 → P uo) (h : w_X5_shuffle_J25 Q U25 t25_0 v25_1 v25_2) : w_X5_shuffle_J25 (fun u => Q u ∧ P u) U25 t25_0 v25_1 v25_2 := by
  unfold w_X5_shuffle_J25 at h ⊢
  intro y1_
  replace h := h y1_
  replace K := fun i uo z => K i uo ⟨y1_, z⟩
  refine ⟨fun c => ?_, fun c => ?_⟩
  · replace h := h.1 c
    replace K := fun i uo z => K i uo (Or.inl ⟨c, z⟩)
    obtain ⟨Q9, h0, h⟩ := h
    refine ⟨_, ruX5_push h0, ?_⟩
    intro S6 q2_ y3_ y4_
    replace h := h S6 q2_.1 y3_ y4_
    replace K := fun i uo z => K i uo ⟨S6, q2_.2, y3_, y4_, z⟩
    obtain ⟨Q9, h0, h⟩ := h
    refine ⟨_, ruX5_push h0, ?_⟩
    intro S9 q5_ y6_ y7_
    replace h := h S9 q5_.1 y6_ y7_
    replace K := fun i uo z => K i uo ⟨S9, q5_.2, y6_, y7_, z⟩
    exact ⟨h, K i0 _ rfl⟩
  · replace h := h.2 c
    replace K := fun i uo z => K i uo (Or.inr ⟨c, z⟩)
    refine ⟨fun c => ?_, fun c => ?_⟩
    · replace h := h.1 c
      replace K := fun i uo z => K i uo (Or.inl ⟨c, z⟩)
      obtain ⟨Q9, h0, h⟩ := h
      refine ⟨_, ruX5_push h0, ?_⟩
      intro S12 q8_ y9_ y10_
      replace h := h S12 q8_.1 y9_ y10_
      replace K := fun i uo z => K i uo ⟨S12, q8_.2, y9_, y10_, z⟩
      obtain ⟨Q9, h0, h⟩ := h
      refine ⟨_, ruX5_push h0, ?_⟩
      intro S15 q11_ y12_ y13_
      replace h := h S15 q11_.1 y12_ y13_
      replace K := fun i uo z => K i uo ⟨S15, q11_.2, y12_, y13_, z⟩
      obtain ⟨Q9, h0, h⟩ := h
      refine ⟨_, ruX5_push h0, ?_⟩
      intro S18 q14_ y15_ y16_
      replace h := h S18 q14_.1 y15_ y16_
      replace K := fun i uo z => K i uo ⟨S18, q14_.2, y15_, y16_, z⟩
      exact ⟨h, K i0 _ rfl⟩
    · replace h := h.2 c
      replace K := fun i uo z => K i uo (Or.inr ⟨c, z⟩)
      refine ⟨fun c => ?_, fun c => ?_⟩
      · replace h := h.1 c
        replace K := fun i uo z => K i uo (Or.inl ⟨c, z⟩)
        exact ⟨h, K i0 _ rfl⟩
      · replace h := h.2 c
        replace K := fun i uo z => K i uo (Or.inr ⟨c, z⟩)
        refine ⟨fun c => ?_, fun c => ?_⟩
        · replace h := h.1 c
          replace K := fun i uo z => K i uo (Or.inl ⟨c, z⟩)
          obtain ⟨Q9, h0, h⟩ := h
          refine ⟨_, ruX5_push h0, ?_⟩
          intro S21 q17_ y18_ y19_
          replace h := h S21 q17_.1 y18_ y19_
          replace K := fun i uo z => K i uo ⟨S21, q17_.2, y18_, y19_, z⟩
          obtain ⟨Q9, h0, h⟩ := h
          refine ⟨_, ruX5_push h0, ?_⟩
          intro S24 q20_ y21_ y22_
          replace h := h S24 q20_.1 y21_ y22_
          replace K := fun i uo z => K i uo ⟨S24, q20_.2, y21_, y22_, z⟩
          obtain ⟨Q9, h0, h⟩ := h
          refine ⟨_, ruX5_push h0, ?_⟩
          intro S27 q23_ y24_ y25_
          replace h := h S27 q23_.1 y24_ y25_
          replace K := fun i uo z => K i uo ⟨S27, q23_.2, y24_, y25_, z⟩
          obtain ⟨Q9, h0, h⟩ := h
          refine ⟨_, ruX5_push h0, ?_⟩
          intro S30 q26_ y27_ y28_
          replace h := h S30 q26_.1 y27_ y28_
          replace K := fun i uo z => K i uo ⟨S30, q26_.2, y27_, y28_, z⟩
          exact ⟨h, K i0 _ rfl⟩
        · replace h := h.2 c
          replace K := fun i uo z => K i uo (Or.inr ⟨c, z⟩)
          refine ⟨fun c => ?_, fun c => ?_⟩
          · replace h := h.1 c
            replace K := fun i uo z => K i uo (Or.inl ⟨c, z⟩)
            exact ⟨h, K i0 _ rfl⟩
          · replace h := h.2 c
            replace K := fun i uo z => K i uo (Or.inr ⟨c, z⟩)
            refine ⟨fun c => ?_, fun c => ?_⟩
            · replace h := h.1 c
              replace K := fun i uo z => K i uo (Or.inl ⟨c, z⟩)
              exact ⟨h, K i0 _ rfl⟩
            · replace h := h.2 c
              replace K := fun i uo z => K i uo (Or.inr ⟨c, z⟩)
              refine ⟨fun c => ?_, fun c => ?_⟩
              · replace h := h.1 c
                replace K := fun i uo z => K i uo (Or.inl ⟨c, z⟩)
                obtain ⟨Q9, h0, h⟩ := h
                refine ⟨_, ruX5_push h0, ?_⟩
                intro S33 q29_ y30_ y31_
                replace h := h S33 q29_.1 y30_ y31_
                replace K := fun i uo z => K i uo ⟨S33, q29_.2, y30_, y31_, z⟩
                obtain ⟨Q9, h0, h⟩ := h
                refine ⟨_, ruX5_push h0, ?_⟩
                intro S36 q32_ y33_ y34_
                replace h := h S36 q32_.1 y33_ y34_
                replace K := fun i uo z => K i uo ⟨S36, q32_.2, y33_, y34_, z⟩
                exact ⟨h, K i0 _ rfl⟩
              · replace h := h.2 c
                replace K := fun i uo z => K i uo (Or.inr ⟨c, z⟩)
                exact ⟨h, K i0 _ rfl⟩
set_option maxRecDepth 100000 in
theorem ru_X5_shuffle_J17 {ι : Type} {P Q : MS → Prop} {U17 : MS} {v17_1 : Int32} {v17_2 : Int64} (i0 : ι) (K : ∀ (i : ι) (uo : MS), v_X5_shuffle_J17 uo U17 v17_1 v17_2 → P uo) (h : w_X5_shuffle_J17 Q U17 v17_1 v17_2) : w_X5_shuffle_J17 (fun u => Q u ∧ P u) U17 v17_1 v17_2 := by
  unfold w_X5_shuffle_J17 at h ⊢
  intro y35_
  replace h := h y35_
  replace K := fun i uo z => K i uo ⟨y35_, z⟩
  exact ru_X5_shuffle_J25 i0 K h
set_option maxRecDepth 100000 in
theorem ruX5_shuffle {S : MS} {x1 : Int32} {Q : MS → Prop} (h : wX5_shuffle S x1 Q) : wX5_shuffle S x1 (fun u => Q u ∧ vX5_shuffle S x1 u) := by
  have i0 : Unit := ()
  have K : ∀ (i : Unit) (uo : MS), vX5_shuffle S x1 uo → vX5_shuffle S x1 uo := fun _ _ z => z
  unfold wX5_shuffle at h ⊢
  obtain ⟨Q9, h0, h⟩ := h
  refine ⟨_, ruX5_pop h0, ?_⟩
  intro r2 S3 q36_ y37_ y38_
  replace h := h r2 S3 q36_.1 y37_ y38_
  replace K := fun i uo z => K i uo ⟨r2, S3, q36_.2, y37_, y38_, z⟩
  refine ⟨fun c => ?_, fun c => ?_⟩
  · replace h := h.1 c
    replace K := fun i uo z => K i uo (Or.inl ⟨c, z⟩)
    exact ru_X5_shuffle_J17 i0 K h
  · replace h := h.2 c
    replace K := fun i uo z => K i uo (Or.inr ⟨c, z⟩)
    refine ⟨fun c => ?_, fun c => ?_⟩
    · replace h := h.1 c
      replace K := fun i uo z => K i uo (Or.inl ⟨c, z⟩)
      exact ru_X5_shuffle_J17 i0 K h
    · replace h := h.2 c
      replace K := fun i uo z => K i uo (Or.inr ⟨c, z⟩)
      obtain ⟨Q9, h0, h⟩ := h
      refine ⟨_, ruX5_pop h0, ?_⟩
      intro r41 S42 q39_ y40_ y41_
      replace h := h r41 S42 q39_.1 y40_ y41_
      replace K := fun i uo z => K i uo ⟨r41, S42, q39_.2, y40_, y41_, z⟩
      exact ru_X5_shuffle_J25 i0 K h
set_option maxRecDepth 100000 in
theorem vw_X5_shuffle_J25 {uo : MS} {U25 : MS} {t25_0 : Int64} {v25_1 : Int32} {v25_2 : Int64} (h : v_X5_shuffle_J25 uo U25 t25_0 v25_1 v25_2) : w_X5_shuffle_J25 (fun u => u = uo) U25 t25_0 v25_1 v25_2 := by
  unfold v_X5_shuffle_J25 at h
  unfold w_X5_shuffle_J25
  intro _
  replace h := h.2
  rcases h with ⟨c, h⟩ | ⟨c, h⟩
  · refine ⟨fun _ => ?_, fun c2 => absurd c c2⟩
    obtain ⟨q9, z9, h⟩ := h
    refine ⟨_, vwX5_push z9, ?_⟩
    intro q8 d9 _ _
    subst d9
    replace h := h.2.2
    obtain ⟨q9, z9, h⟩ := h
    refine ⟨_, vwX5_push z9, ?_⟩
    intro q8 d9 _ _
    subst d9
    replace h := h.2.2
    exact h.symm
  · refine ⟨fun c2 => absurd c2 c, fun _ => ?_⟩
    rcases h with ⟨c, h⟩ | ⟨c, h⟩
    · refine ⟨fun _ => ?_, fun c2 => absurd c c2⟩
      obtain ⟨q9, z9, h⟩ := h
      refine ⟨_, vwX5_push z9, ?_⟩
      intro q8 d9 _ _
      subst d9
      replace h := h.2.2
      obtain ⟨q9, z9, h⟩ := h
      refine ⟨_, vwX5_push z9, ?_⟩
      intro q8 d9 _ _
      subst d9
      replace h := h.2.2
      obtain ⟨q9, z9, h⟩ := h
      refine ⟨_, vwX5_push z9, ?_⟩
      intro q8 d9 _ _
      subst d9
      replace h := h.2.2
      exact h.symm
    · refine ⟨fun c2 => absurd c2 c, fun _ => ?_⟩
      rcases h with ⟨c, h⟩ | ⟨c, h⟩
      · refine ⟨fun _ => ?_, fun c2 => absurd c c2⟩
        exact h.symm
      · refine ⟨fun c2 => absurd c2 c, fun _ => ?_⟩
        rcases h with ⟨c, h⟩ | ⟨c, h⟩
        · refine ⟨fun _ => ?_, fun c2 => absurd c c2⟩
          obtain ⟨q9, z9, h⟩ := h
          refine ⟨_, vwX5_push z9, ?_⟩
          intro q8 d9 _ _
          subst d9
          replace h := h.2.2
          obtain ⟨q9, z9, h⟩ := h
          refine ⟨_, vwX5_push z9, ?_⟩
          intro q8 d9 _ _
          subst d9
          replace h := h.2.2
          obtain ⟨q9, z9, h⟩ := h
          refine ⟨_, vwX5_push z9, ?_⟩
          intro q8 d9 _ _
          subst d9
          replace h := h.2.2
          obtain ⟨q9, z9, h⟩ := h
          refine ⟨_, vwX5_push z9, ?_⟩
          intro q8 d9 _ _
          subst d9
          replace h := h.2.2
          exact h.symm
        · refine ⟨fun c2 => absurd c2 c, fun _ => ?_⟩
          rcases h with ⟨c, h⟩ | ⟨c, h⟩
          · refine ⟨fun _ => ?_, fun c2 => absurd c c2⟩
            exact h.symm
          · refine ⟨fun c2 => absurd c2 c, fun _ => ?_⟩
            rcases h with ⟨c, h⟩ | ⟨c, h⟩
            · refine ⟨fun _ => ?_, fun c2 => absurd c c2⟩
              exact h.symm
            · refine ⟨fun c2 => absurd c2 c, fun _ => ?_⟩
              rcases h with ⟨c, h⟩ | ⟨c, h⟩
              · refine ⟨fun _ => ?_, fun c2 => absurd c c2⟩
                obtain ⟨q9, z9, h⟩ := h
                refine ⟨_, vwX5_push z9, ?_⟩
                intro q8 d9 _ _
                subst d9
                replace h := h.2.2
                obtain ⟨q9, z9, h⟩ := h
                refine ⟨_, vwX5_push z9, ?_⟩
                intro q8 d9 _ _
                subst d9
                replace h := h.2.2
                exact h.symm
              · refine ⟨fun c2 => absurd c2 c, fun _ => ?_⟩
                exact h.symm
set_option maxRecDepth 100000 in
theorem vp_X5_shuffle_J25 {uo : MS} {P : MS → Prop} {U25 : MS} {t25_0 : Int64} {v25_1 : Int32} {v25_2 : Int64} (h : v_X5_shuffle_J25 uo U25 t25_0 v25_1 v25_2) (w : w_X5_shuffle_J25 P U25 t25_0 v25_1 v25_2) : P uo := by
  unfold v_X5_shuffle_J25 at h
  unfold w_X5_shuffle_J25 at w
  obtain ⟨y1_, h⟩ := h
  replace w := w y1_
  rcases h with ⟨c, h⟩ | ⟨c, h⟩
  · replace w := w.1 c
    obtain ⟨q9, z9, y2_, y3_, h⟩ := h
    obtain ⟨Q9, w0, w⟩ := w
    replace w := w q9 (vpX5_push z9 w0) y2_ y3_
    obtain ⟨q9, z9, y4_, y5_, h⟩ := h
    obtain ⟨Q9, w0, w⟩ := w
    replace w := w q9 (vpX5_push z9 w0) y4_ y5_
    rw [h]
    exact w
  · replace w := w.2 c
    rcases h with ⟨c, h⟩ | ⟨c, h⟩
    · replace w := w.1 c
      obtain ⟨q9, z9, y6_, y7_, h⟩ := h
      obtain ⟨Q9, w0, w⟩ := w
      replace w := w q9 (vpX5_push z9 w0) y6_ y7_
      obtain ⟨q9, z9, y8_, y9_, h⟩ := h
      obtain ⟨Q9, w0, w⟩ := w
      replace w := w q9 (vpX5_push z9 w0) y8_ y9_
      obtain ⟨q9, z9, y10_, y11_, h⟩ := h
      obtain ⟨Q9, w0, w⟩ := w
      replace w := w q9 (vpX5_push z9 w0) y10_ y11_
      rw [h]
      exact w
    · replace w := w.2 c
      rcases h with ⟨c, h⟩ | ⟨c, h⟩
      · replace w := w.1 c
        rw [h]
        exact w
      · replace w := w.2 c
        rcases h with ⟨c, h⟩ | ⟨c, h⟩
        · replace w := w.1 c
          obtain ⟨q9, z9, y12_, y13_, h⟩ := h
          obtain ⟨Q9, w0, w⟩ := w
          replace w := w q9 (vpX5_push z9 w0) y12_ y13_
          obtain ⟨q9, z9, y14_, y15_, h⟩ := h
          obtain ⟨Q9, w0, w⟩ := w
          replace w := w q9 (vpX5_push z9 w0) y14_ y15_
          obtain ⟨q9, z9, y16_, y17_, h⟩ := h
          obtain ⟨Q9, w0, w⟩ := w
          replace w := w q9 (vpX5_push z9 w0) y16_ y17_
          obtain ⟨q9, z9, y18_, y19_, h⟩ := h
          obtain ⟨Q9, w0, w⟩ := w
          replace w := w q9 (vpX5_push z9 w0) y18_ y19_
          rw [h]
          exact w
        · replace w := w.2 c
          rcases h with ⟨c, h⟩ | ⟨c, h⟩
          · replace w := w.1 c
            rw [h]
            exact w
          · replace w := w.2 c
            rcases h with ⟨c, h⟩ | ⟨c, h⟩
            · replace w := w.1 c
              rw [h]
              exact w
            · replace w := w.2 c
              rcases h with ⟨c, h⟩ | ⟨c, h⟩
              · replace w := w.1 c
                obtain ⟨q9, z9, y20_, y21_, h⟩ := h
                obtain ⟨Q9, w0, w⟩ := w
                replace w := w q9 (vpX5_push z9 w0) y20_ y21_
                obtain ⟨q9, z9, y22_, y23_, h⟩ := h
                obtain ⟨Q9, w0, w⟩ := w
                replace w := w q9 (vpX5_push z9 w0) y22_ y23_
                rw [h]
                exact w
              · replace w := w.2 c
                rw [h]
                exact w
set_option maxRecDepth 100000 in
theorem vw_X5_shuffle_J17 {uo : MS} {U17 : MS} {v17_1 : Int32} {v17_2 : Int64} (h : v_X5_shuffle_J17 uo U17 v17_1 v17_2) : w_X5_shuffle_J17 (fun u => u = uo) U17 v17_1 v17_2 := by
  unfold v_X5_shuffle_J17 at h
  unfold w_X5_shuffle_J17
  intro _
  replace h := h.2
  exact vw_X5_shuffle_J25 h
set_option maxRecDepth 100000 in
theorem vp_X5_shuffle_J17 {uo : MS} {P : MS → Prop} {U17 : MS} {v17_1 : Int32} {v17_2 : Int64} (h : v_X5_shuffle_J17 uo U17 v17_1 v17_2) (w : w_X5_shuffle_J17 P U17 v17_1 v17_2) : P uo := by
  unfold v_X5_shuffle_J17 at h
  unfold w_X5_shuffle_J17 at w
  obtain ⟨y24_, h⟩ := h
  replace w := w y24_
  exact vp_X5_shuffle_J25 h w
set_option maxRecDepth 100000 in
theorem vwX5_shuffle {S : MS} {x1 : Int32} {uo : MS} (h : vX5_shuffle S x1 uo) : wX5_shuffle S x1 (fun u => u = uo) := by
  unfold vX5_shuffle at h
  unfold wX5_shuffle
  obtain ⟨p9, q9, z9, h⟩ := h
  refine ⟨_, vwX5_pop z9, ?_⟩
  rintro p8 q8 ⟨d8, d9⟩ _ _
  subst d8
  subst d9
  replace h := h.2.2
  rcases h with ⟨c, h⟩ | ⟨c, h⟩
  · refine ⟨fun _ => ?_, fun c2 => absurd c c2⟩
    exact vw_X5_shuffle_J17 h
  · refine ⟨fun c2 => absurd c2 c, fun _ => ?_⟩
    rcases h with ⟨c, h⟩ | ⟨c, h⟩
    · refine ⟨fun _ => ?_, fun c2 => absurd c c2⟩
      exact vw_X5_shuffle_J17 h
    · refine ⟨fun c2 => absurd c2 c, fun _ => ?_⟩
      obtain ⟨p9, q9, z9, h⟩ := h
      refine ⟨_, vwX5_pop z9, ?_⟩
      rintro p8 q8 ⟨d8, d9⟩ _ _
      subst d8
      subst d9
      replace h := h.2.2
      exact vw_X5_shuffle_J25 h
set_option maxRecDepth 100000 in
theorem vpX5_shuffle {S : MS} {x1 : Int32} {uo : MS} {P : MS → Prop} (h : vX5_shuffle S x1 uo) (w : wX5_shuffle S x1 P) : P uo := by
  unfold vX5_shuffle at h
  unfold wX5_shuffle at w
  obtain ⟨p9, q9, z9, y25_, y26_, h⟩ := h
  obtain ⟨Q9, w0, w⟩ := w
  replace w := w p9 q9 (vpX5_pop z9 w0) y25_ y26_
  rcases h with ⟨c, h⟩ | ⟨c, h⟩
  · replace w := w.1 c
    exact vp_X5_shuffle_J17 h w
  · replace w := w.2 c
    rcases h with ⟨c, h⟩ | ⟨c, h⟩
    · replace w := w.1 c
      exact vp_X5_shuffle_J17 h w
    · replace w := w.2 c
      obtain ⟨p9, q9, z9, y27_, y28_, h⟩ := h
      obtain ⟨Q9, w0, w⟩ := w
      replace w := w p9 q9 (vpX5_pop z9 w0) y27_ y28_
      exact vp_X5_shuffle_J25 h w
def v_X5_setField_J10 (uo : MS) (U10 : MS) : Prop := (wfC U10 ∧ (∃ S2 : MS, S2 = wI U10 44 19 ((qI U10 44 19) + (1 : Int32)) ∧ qT U10 44 = 45 ∧ wfC S2 ∧ (uo = S2)))
def vX5_setField (S : MS) (x1 : Int32) (y2 : Int64) (uo : MS) : Prop := ((x1.toInt < 0 ∧ (v_X5_setField_J10 uo S)) ∨ (¬ x1.toInt < 0 ∧ ((x1.toInt < 24 ∧ (((0 : Int) ≤ x1.toInt ∧ x1.toInt < 24) ∧ (∃ S6 : MS, S6 = wJ S 45 x1.toInt.toNat y2 ∧ qT S 45 = 402 ∧ wfC S6 ∧ (uo = S6)))) ∨ (¬ x1.toInt < 24 ∧ (v_X5_setField_J10 uo S)))))
set_option maxRecDepth 100000 in
theorem ru_X5_setField_J10 {ι : Type} {P Q : MS → Prop} {U10 : MS} (i0 : ι) (K : ∀ (i : ι) (uo : MS), v_X5_setField_J10 uo U10 → P uo) (h : w_X5_setField_J10 Q U10) : w_X5_setField_J10 (fun u => Q u ∧ P u) U10 := by
  unfold w_X5_setField_J10 at h ⊢
  intro y1_
  replace h := h y1_
  replace K := fun i uo z => K i uo ⟨y1_, z⟩
  intro S2 eS2 y2_ y3_
  replace h := h S2 eS2 y2_ y3_
  replace K := fun i uo z => K i uo ⟨S2, eS2, y2_, y3_, z⟩
  exact ⟨h, K i0 _ rfl⟩
set_option maxRecDepth 100000 in
theorem ruX5_setField {S : MS} {x1 : Int32} {y2 : Int64} {Q : MS → Prop} (h : wX5_setField S x1 y2 Q) : wX5_setField S x1 y2 (fun u => Q u ∧ vX5_setField S x1 y2 u) := by
  have i0 : Unit := ()
  have K : ∀ (i : Unit) (uo : MS), vX5_setField S x1 y2 uo → vX5_setField S x1 y2 uo := fun _ _ z => z
  unfold wX5_setField at h ⊢
  refine ⟨fun c => ?_, fun c => ?_⟩
  · replace h := h.1 c
    replace K := fun i uo z => K i uo (Or.inl ⟨c, z⟩)
    exact ru_X5_setField_J10 i0 K h
  · replace h := h.2 c
    replace K := fun i uo z => K i uo (Or.inr ⟨c, z⟩)
    refine ⟨fun c => ?_, fun c => ?_⟩
    · replace h := h.1 c
      replace K := fun i uo z => K i uo (Or.inl ⟨c, z⟩)
      obtain ⟨g4_, h⟩ := h
      refine ⟨g4_, ?_⟩
      replace K := fun i uo z => K i uo ⟨g4_, z⟩
      intro S6 eS6 y5_ y6_
      replace h := h S6 eS6 y5_ y6_
      replace K := fun i uo z => K i uo ⟨S6, eS6, y5_, y6_, z⟩
      exact ⟨h, K i0 _ rfl⟩
    · replace h := h.2 c
      replace K := fun i uo z => K i uo (Or.inr ⟨c, z⟩)
      exact ru_X5_setField_J10 i0 K h
set_option maxRecDepth 100000 in
theorem vw_X5_setField_J10 {uo : MS} {U10 : MS} (h : v_X5_setField_J10 uo U10) : w_X5_setField_J10 (fun u => u = uo) U10 := by
  unfold v_X5_setField_J10 at h
  unfold w_X5_setField_J10
  intro _
  replace h := h.2
  obtain ⟨v9, e9, h⟩ := h
  intro x9 d9 _ _
  have c9 : v9 = x9 := e9.trans d9.symm
  subst c9
  replace h := h.2.2
  exact h.symm
set_option maxRecDepth 100000 in
theorem vp_X5_setField_J10 {uo : MS} {P : MS → Prop} {U10 : MS} (h : v_X5_setField_J10 uo U10) (w : w_X5_setField_J10 P U10) : P uo := by
  unfold v_X5_setField_J10 at h
  unfold w_X5_setField_J10 at w
  obtain ⟨y1_, h⟩ := h
  replace w := w y1_
  obtain ⟨v9, e9, y2_, y3_, h⟩ := h
  replace w := w v9 e9 y2_ y3_
  rw [h]
  exact w
set_option maxRecDepth 100000 in
theorem vwX5_setField {S : MS} {x1 : Int32} {y2 : Int64} {uo : MS} (h : vX5_setField S x1 y2 uo) : wX5_setField S x1 y2 (fun u => u = uo) := by
  unfold vX5_setField at h
  unfold wX5_setField
  rcases h with ⟨c, h⟩ | ⟨c, h⟩
  · refine ⟨fun _ => ?_, fun c2 => absurd c c2⟩
    exact vw_X5_setField_J10 h
  · refine ⟨fun c2 => absurd c2 c, fun _ => ?_⟩
    rcases h with ⟨c, h⟩ | ⟨c, h⟩
    · refine ⟨fun _ => ?_, fun c2 => absurd c c2⟩
      obtain ⟨g9, h⟩ := h
      refine ⟨g9, ?_⟩
      obtain ⟨v9, e9, h⟩ := h
      intro x9 d9 _ _
      have c9 : v9 = x9 := e9.trans d9.symm
      subst c9
      replace h := h.2.2
      exact h.symm
    · refine ⟨fun c2 => absurd c2 c, fun _ => ?_⟩
      exact vw_X5_setField_J10 h
set_option maxRecDepth 100000 in
theorem vpX5_setField {S : MS} {x1 : Int32} {y2 : Int64} {uo : MS} {P : MS → Prop} (h : vX5_setField S x1 y2 uo) (w : wX5_setField S x1 y2 P) : P uo := by
  unfold vX5_setField at h
  unfold wX5_setField at w
  rcases h with ⟨c, h⟩ | ⟨c, h⟩
  · replace w := w.1 c
    exact vp_X5_setField_J10 h w
  · replace w := w.2 c
    rcases h with ⟨c, h⟩ | ⟨c, h⟩
    · replace w := w.1 c
      replace h := h.2
      replace w := w.2
      obtain ⟨v9, e9, y4_, y5_, h⟩ := h
      replace w := w v9 e9 y4_ y5_
      rw [h]
      exact w
    · replace w := w.2 c
      exact vp_X5_setField_J10 h w
def v_X6_placesOf_J22 (ro : Int32) (uo : MS) (k4 : MS → Int32 → Int32 → Prop) (U22 : MS) (t22_0 : Int32) (t22_1 : Int32) (v22_2 : Int32) : Prop := (wfC U22 ∧ (∃ a4 : Int32, a4 = (t22_1 + t22_0) ∧ (∃ a6 : Int32, a6 = (v22_2 >>> ((4 : Int32) &&& 31)) ∧ (k4 U22 a4 a6))))
def v_X6_placesOf_L4 (ro : Int32) (uo : MS) : Nat → MS → Int32 → Int32 → Prop
  | 0, _, _, _ => False
  | n4 + 1, U4, v4_1, v4_2 => (wfC U4 ∧ ((v4_2.toInt ≤ 0 ∧ (ro = v4_1 ∧ uo = U4)) ∨ (¬ v4_2.toInt ≤ 0 ∧ (((v4_2 &&& (15 : Int32)).toInt = 2 ∧ (v_X6_placesOf_J22 ro uo (v_X6_placesOf_L4 ro uo n4) U4 2 v4_1 v4_2)) ∨ (¬ (v4_2 &&& (15 : Int32)).toInt = 2 ∧ (v_X6_placesOf_J22 ro uo (v_X6_placesOf_L4 ro uo n4) U4 1 v4_1 v4_2))))))
def vX6_placesOf (S : MS) (x0 : Int32) (ro : Int32) (uo : MS) : Prop := (∃ n, v_X6_placesOf_L4 ro uo n S 0 x0)
set_option maxRecDepth 100000 in
theorem ru_X6_placesOf_J22 {ι : Type} {P Q : Int32 → MS → Prop} {k4 k4' : MS → Int32 → Int32 → Prop} {k4v : ι → Int32 → MS → MS → Int32 → Int32 → Prop} {U22 : MS} {t22_0 : Int32} {t22_1 : Int32} {v22_2 : Int32} (i0 : ι) (hk4 : ∀ (u : MS) (z0 : Int32) (z1 : Int32), k4 u z0 z1 → (∀ (i : ι) (ro : Int32) (uo : MS), k4v i ro uo u z0 z1 → P ro uo) → k4' u z0 z1) (K : ∀ (i : ι) (ro : Int32) (uo : MS), v_X6_placesOf_J22 ro uo (k4v i ro uo) U22 t22_0 t22_1 v22_2 → P ro uo) (h : w_X6_placesOf_J22 Q k4 U22 t22_0 t22_1 v22_2) : w_X6_placesOf_J22 (fun r u => Q r u ∧ P r u) k4' U22 t22_0 t22_1 v22_2 := by
  unfold w_X6_placesOf_J22 at h ⊢
  intro y1_
  replace h := h y1_
  replace K := fun i ro uo z => K i ro uo ⟨y1_, z⟩
  intro a4 ea4 
  replace h := h a4 ea4 
  replace K := fun i ro uo z => K i ro uo ⟨a4, ea4, z⟩
  intro a6 ea6 
  replace h := h a6 ea6 
  replace K := fun i ro uo z => K i ro uo ⟨a6, ea6, z⟩
  exact hk4 _ _ _ h K
set_option maxRecDepth 100000 in
theorem ru_X6_placesOf_L4 {ι : Type} {P Q : Int32 → MS → Prop} : ∀ (n : Nat) {U4 : MS} {v4_1 : Int32} {v4_2 : Int32} (i0 : ι), (∀ (i : ι) (ro : Int32) (uo : MS), (∃ n8, v_X6_placesOf_L4 ro uo n8 U4 v4_1 v4_2) → P ro uo) → w_X6_placesOf_L4 Q n U4 v4_1 v4_2 → w_X6_placesOf_L4 (fun r u => Q r u ∧ P r u) n U4 v4_1 v4_2 := by
  intro n
  induction n with
  | zero => intro U4 v4_1 v4_2 i0 K h; unfold w_X6_placesOf_L4 at h; exact h.elim
  | succ n ih =>
    intro U4 v4_1 v4_2 i0 K h
    unfold w_X6_placesOf_L4 at h ⊢
    replace K := fun (i : ι × Nat) ro uo (z : v_X6_placesOf_L4 ro uo (i.2 + 1) U4 v4_1 v4_2) => K i.1 ro uo ⟨i.2 + 1, z⟩
    have i00 := i0
    replace i0 : ι × Nat := (i0, 0)
    intro y2_
    replace h := h y2_
    replace K := fun i ro uo z => K i ro uo ⟨y2_, z⟩
    refine ⟨fun c => ?_, fun c => ?_⟩
    · replace h := h.1 c
      replace K := fun i ro uo z => K i ro uo (Or.inl ⟨c, z⟩)
      exact ⟨h, K i0 _ _ ⟨rfl, rfl⟩⟩
    · replace h := h.2 c
      replace K := fun i ro uo z => K i ro uo (Or.inr ⟨c, z⟩)
      refine ⟨fun c => ?_, fun c => ?_⟩
      · replace h := h.1 c
        replace K := fun i ro uo z => K i ro uo (Or.inl ⟨c, z⟩)
        exact ru_X6_placesOf_J22 i0 (fun _ _ _ h K => ih i00 (fun i ro uo ⟨n8, z⟩ => K (i, n8) ro uo z) h) K h
      · replace h := h.2 c
        replace K := fun i ro uo z => K i ro uo (Or.inr ⟨c, z⟩)
        exact ru_X6_placesOf_J22 i0 (fun _ _ _ h K => ih i00 (fun i ro uo ⟨n8, z⟩ => K (i, n8) ro uo z) h) K h
set_option maxRecDepth 100000 in
theorem ruX6_placesOf {S : MS} {x0 : Int32} {Q : Int32 → MS → Prop} (h : wX6_placesOf S x0 Q) : wX6_placesOf S x0 (fun r u => Q r u ∧ vX6_placesOf S x0 r u) := by
  have i0 : Unit := ()
  have K : ∀ (i : Unit) (ro : Int32) (uo : MS), vX6_placesOf S x0 ro uo → vX6_placesOf S x0 ro uo := fun _ _ _ z => z
  unfold wX6_placesOf at h ⊢
  obtain ⟨n9, h⟩ := h
  exact ⟨n9, ru_X6_placesOf_L4 n9 i0 K h⟩
set_option maxRecDepth 100000 in
theorem vw_X6_placesOf_J22 {ro : Int32} {uo : MS} {k4 k4v : MS → Int32 → Int32 → Prop} {U22 : MS} {t22_0 : Int32} {t22_1 : Int32} {v22_2 : Int32} (hk4 : ∀ (u : MS) (z0 : Int32) (z1 : Int32), k4v u z0 z1 → k4 u z0 z1) (h : v_X6_placesOf_J22 ro uo k4v U22 t22_0 t22_1 v22_2) : w_X6_placesOf_J22 (fun r u => r = ro ∧ u = uo) k4 U22 t22_0 t22_1 v22_2 := by
  unfold v_X6_placesOf_J22 at h
  unfold w_X6_placesOf_J22
  intro _
  replace h := h.2
  obtain ⟨v9, e9, h⟩ := h
  intro x9 d9 
  have c9 : v9 = x9 := e9.trans d9.symm
  subst c9
  obtain ⟨v9, e9, h⟩ := h
  intro x9 d9 
  have c9 : v9 = x9 := e9.trans d9.symm
  subst c9
  exact hk4 _ _ _ h
set_option maxRecDepth 100000 in
theorem vp_X6_placesOf_J22 {ro : Int32} {uo : MS} {P : Int32 → MS → Prop} {k4 k4v : MS → Int32 → Int32 → Prop} {U22 : MS} {t22_0 : Int32} {t22_1 : Int32} {v22_2 : Int32} (hk4 : ∀ (u : MS) (z0 : Int32) (z1 : Int32), k4v u z0 z1 → k4 u z0 z1 → P ro uo) (h : v_X6_placesOf_J22 ro uo k4v U22 t22_0 t22_1 v22_2) (w : w_X6_placesOf_J22 P k4 U22 t22_0 t22_1 v22_2) : P ro uo := by
  unfold v_X6_placesOf_J22 at h
  unfold w_X6_placesOf_J22 at w
  obtain ⟨y1_, h⟩ := h
  replace w := w y1_
  obtain ⟨v9, e9, h⟩ := h
  replace w := w v9 e9 
  obtain ⟨v9, e9, h⟩ := h
  replace w := w v9 e9 
  exact hk4 _ _ _ h w
set_option maxRecDepth 100000 in
theorem vw_X6_placesOf_L4 {ro : Int32} {uo : MS} : ∀ (n : Nat) {U4 : MS} {v4_1 : Int32} {v4_2 : Int32}, v_X6_placesOf_L4 ro uo n U4 v4_1 v4_2 → w_X6_placesOf_L4 (fun r u => r = ro ∧ u = uo) n U4 v4_1 v4_2 := by
  intro n
  induction n with
  | zero => intro U4 v4_1 v4_2 h; unfold v_X6_placesOf_L4 at h; exact h.elim
  | succ n ih =>
    intro U4 v4_1 v4_2 h
    unfold v_X6_placesOf_L4 at h
    unfold w_X6_placesOf_L4
    intro _
    replace h := h.2
    rcases h with ⟨c, h⟩ | ⟨c, h⟩
    · refine ⟨fun _ => ?_, fun c2 => absurd c c2⟩
      exact ⟨h.1.symm, h.2.symm⟩
    · refine ⟨fun c2 => absurd c2 c, fun _ => ?_⟩
      rcases h with ⟨c, h⟩ | ⟨c, h⟩
      · refine ⟨fun _ => ?_, fun c2 => absurd c c2⟩
        exact vw_X6_placesOf_J22 (fun _ _ _ h => ih h) h
      · refine ⟨fun c2 => absurd c2 c, fun _ => ?_⟩
        exact vw_X6_placesOf_J22 (fun _ _ _ h => ih h) h
set_option maxRecDepth 100000 in
theorem vp_X6_placesOf_L4 {ro : Int32} {uo : MS} {P : Int32 → MS → Prop} : ∀ (n m : Nat) {U4 : MS} {v4_1 : Int32} {v4_2 : Int32}, v_X6_placesOf_L4 ro uo n U4 v4_1 v4_2 → w_X6_placesOf_L4 P m U4 v4_1 v4_2 → P ro uo := by
  intro n
  induction n with
  | zero => intro m U4 v4_1 v4_2 h; unfold v_X6_placesOf_L4 at h; exact h.elim
  | succ n ih =>
    intro m U4 v4_1 v4_2 h w
    cases m with
    | zero => unfold w_X6_placesOf_L4 at w; exact w.elim
    | succ m =>
      unfold v_X6_placesOf_L4 at h
      unfold w_X6_placesOf_L4 at w
      obtain ⟨y2_, h⟩ := h
      replace w := w y2_
      rcases h with ⟨c, h⟩ | ⟨c, h⟩
      · replace w := w.1 c
        rw [h.1, h.2]
        exact w
      · replace w := w.2 c
        rcases h with ⟨c, h⟩ | ⟨c, h⟩
        · replace w := w.1 c
          exact vp_X6_placesOf_J22 (fun _ _ _ h w => ih m h w) h w
        · replace w := w.2 c
          exact vp_X6_placesOf_J22 (fun _ _ _ h w => ih m h w) h w
set_option maxRecDepth 100000 in
theorem vwX6_placesOf {S : MS} {x0 : Int32} {ro : Int32} {uo : MS} (h : vX6_placesOf S x0 ro uo) : wX6_placesOf S x0 (fun r u => r = ro ∧ u = uo) := by
  unfold vX6_placesOf at h
  unfold wX6_placesOf
  obtain ⟨n9, h⟩ := h
  exact ⟨n9, vw_X6_placesOf_L4 n9 h⟩
set_option maxRecDepth 100000 in
theorem vpX6_placesOf {S : MS} {x0 : Int32} {ro : Int32} {uo : MS} {P : Int32 → MS → Prop} (h : vX6_placesOf S x0 ro uo) (w : wX6_placesOf S x0 P) : P ro uo := by
  unfold vX6_placesOf at h
  unfold wX6_placesOf at w
  obtain ⟨n9, h⟩ := h
  obtain ⟨n8, w⟩ := w
  exact vp_X6_placesOf_L4 n9 n8 h w
def v_X6_kindCount_L4 (ro : Int32) (uo : MS) : Nat → MS → Int32 → Int32 → Prop
  | 0, _, _, _ => False
  | n4 + 1, U4, v4_1, v4_2 => (wfC U4 ∧ ((v4_2.toInt ≤ 0 ∧ (ro = v4_1 ∧ uo = U4)) ∨ (¬ v4_2.toInt ≤ 0 ∧ (∃ a2 : Int32, a2 = (v4_1 + Int32.ofInt 1) ∧ (∃ a4 : Int32, a4 = (v4_2 >>> ((4 : Int32) &&& 31)) ∧ ((v_X6_kindCount_L4 ro uo n4) U4 a2 a4))))))
def vX6_kindCount (S : MS) (x0 : Int32) (ro : Int32) (uo : MS) : Prop := (∃ n, v_X6_kindCount_L4 ro uo n S 0 x0)
set_option maxRecDepth 100000 in
theorem ru_X6_kindCount_L4 {ι : Type} {P Q : Int32 → MS → Prop} : ∀ (n : Nat) {U4 : MS} {v4_1 : Int32} {v4_2 : Int32} (i0 : ι), (∀ (i : ι) (ro : Int32) (uo : MS), (∃ n8, v_X6_kindCount_L4 ro uo n8 U4 v4_1 v4_2) → P ro uo) → w_X6_kindCount_L4 Q n U4 v4_1 v4_2 → w_X6_kindCount_L4 (fun r u => Q r u ∧ P r u) n U4 v4_1 v4_2 := by
  intro n
  induction n with
  | zero => intro U4 v4_1 v4_2 i0 K h; unfold w_X6_kindCount_L4 at h; exact h.elim
  | succ n ih =>
    intro U4 v4_1 v4_2 i0 K h
    unfold w_X6_kindCount_L4 at h ⊢
    replace K := fun (i : ι × Nat) ro uo (z : v_X6_kindCount_L4 ro uo (i.2 + 1) U4 v4_1 v4_2) => K i.1 ro uo ⟨i.2 + 1, z⟩
    have i00 := i0
    replace i0 : ι × Nat := (i0, 0)
    intro y1_
    replace h := h y1_
    replace K := fun i ro uo z => K i ro uo ⟨y1_, z⟩
    refine ⟨fun c => ?_, fun c => ?_⟩
    · replace h := h.1 c
      replace K := fun i ro uo z => K i ro uo (Or.inl ⟨c, z⟩)
      exact ⟨h, K i0 _ _ ⟨rfl, rfl⟩⟩
    · replace h := h.2 c
      replace K := fun i ro uo z => K i ro uo (Or.inr ⟨c, z⟩)
      intro a2 ea2 
      replace h := h a2 ea2 
      replace K := fun i ro uo z => K i ro uo ⟨a2, ea2, z⟩
      intro a4 ea4 
      replace h := h a4 ea4 
      replace K := fun i ro uo z => K i ro uo ⟨a4, ea4, z⟩
      exact ih i00 (fun i ro uo ⟨n8, z⟩ => K (i, n8) ro uo z) h
set_option maxRecDepth 100000 in
theorem ruX6_kindCount {S : MS} {x0 : Int32} {Q : Int32 → MS → Prop} (h : wX6_kindCount S x0 Q) : wX6_kindCount S x0 (fun r u => Q r u ∧ vX6_kindCount S x0 r u) := by
  have i0 : Unit := ()
  have K : ∀ (i : Unit) (ro : Int32) (uo : MS), vX6_kindCount S x0 ro uo → vX6_kindCount S x0 ro uo := fun _ _ _ z => z
  unfold wX6_kindCount at h ⊢
  obtain ⟨n9, h⟩ := h
  exact ⟨n9, ru_X6_kindCount_L4 n9 i0 K h⟩
set_option maxRecDepth 100000 in
theorem vw_X6_kindCount_L4 {ro : Int32} {uo : MS} : ∀ (n : Nat) {U4 : MS} {v4_1 : Int32} {v4_2 : Int32}, v_X6_kindCount_L4 ro uo n U4 v4_1 v4_2 → w_X6_kindCount_L4 (fun r u => r = ro ∧ u = uo) n U4 v4_1 v4_2 := by
  intro n
  induction n with
  | zero => intro U4 v4_1 v4_2 h; unfold v_X6_kindCount_L4 at h; exact h.elim
  | succ n ih =>
    intro U4 v4_1 v4_2 h
    unfold v_X6_kindCount_L4 at h
    unfold w_X6_kindCount_L4
    intro _
    replace h := h.2
    rcases h with ⟨c, h⟩ | ⟨c, h⟩
    · refine ⟨fun _ => ?_, fun c2 => absurd c c2⟩
      exact ⟨h.1.symm, h.2.symm⟩
    · refine ⟨fun c2 => absurd c2 c, fun _ => ?_⟩
      obtain ⟨v9, e9, h⟩ := h
      intro x9 d9 
      have c9 : v9 = x9 := e9.trans d9.symm
      subst c9
      obtain ⟨v9, e9, h⟩ := h
      intro x9 d9 
      have c9 : v9 = x9 := e9.trans d9.symm
      subst c9
      exact ih h
set_option maxRecDepth 100000 in
theorem vp_X6_kindCount_L4 {ro : Int32} {uo : MS} {P : Int32 → MS → Prop} : ∀ (n m : Nat) {U4 : MS} {v4_1 : Int32} {v4_2 : Int32}, v_X6_kindCount_L4 ro uo n U4 v4_1 v4_2 → w_X6_kindCount_L4 P m U4 v4_1 v4_2 → P ro uo := by
  intro n
  induction n with
  | zero => intro m U4 v4_1 v4_2 h; unfold v_X6_kindCount_L4 at h; exact h.elim
  | succ n ih =>
    intro m U4 v4_1 v4_2 h w
    cases m with
    | zero => unfold w_X6_kindCount_L4 at w; exact w.elim
    | succ m =>
      unfold v_X6_kindCount_L4 at h
      unfold w_X6_kindCount_L4 at w
      obtain ⟨y1_, h⟩ := h
      replace w := w y1_
      rcases h with ⟨c, h⟩ | ⟨c, h⟩
      · replace w := w.1 c
        rw [h.1, h.2]
        exact w
      · replace w := w.2 c
        obtain ⟨v9, e9, h⟩ := h
        replace w := w v9 e9 
        obtain ⟨v9, e9, h⟩ := h
        replace w := w v9 e9 
        exact ih m h w
set_option maxRecDepth 100000 in
theorem vwX6_kindCount {S : MS} {x0 : Int32} {ro : Int32} {uo : MS} (h : vX6_kindCount S x0 ro uo) : wX6_kindCount S x0 (fun r u => r = ro ∧ u = uo) := by
  unfold vX6_kindCount at h
  unfold wX6_kindCount
  obtain ⟨n9, h⟩ := h
  exact ⟨n9, vw_X6_kindCount_L4 n9 h⟩
set_option maxRecDepth 100000 in
theorem vpX6_kindCount {S : MS} {x0 : Int32} {ro : Int32} {uo : MS} {P : Int32 → MS → Prop} (h : vX6_kindCount S x0 ro uo) (w : wX6_kindCount S x0 P) : P ro uo := by
  unfold vX6_kindCount at h
  unfold wX6_kindCount at w
  obtain ⟨n9, h⟩ := h
  obtain ⟨n8, w⟩ := w
  exact vp_X6_kindCount_L4 n9 n8 h w
def vX6_kindAt (S : MS) (x0 : Int32) (x1 : Int32) (ro : Int32) (uo : MS) : Prop := (∃ (r2 : Int32) (S3 : MS), vX6_kindCount S x0 r2 S3 ∧ wfC S3 ∧ shy S S3 ∧ (ro = ((x0 >>> (((4 : Int32) * ((r2 - (1 : Int32)) - x1)) &&& 31)) &&& (15 : Int32)) ∧ uo = S3))
set_option maxRecDepth 100000 in
theorem ruX6_kindAt {S : MS} {x0 : Int32} {x1 : Int32} {Q : Int32 → MS → Prop} (h : wX6_kindAt S x0 x1 Q) : wX6_kindAt S x0 x1 (fun r u => Q r u ∧ vX6_kindAt S x0 x1 r u) := by
  have i0 : Unit := ()
  have K : ∀ (i : Unit) (ro : Int32) (uo : MS), vX6_kindAt S x0 x1 ro uo → vX6_kindAt S x0 x1 ro uo := fun _ _ _ z => z
  unfold wX6_kindAt at h ⊢
  obtain ⟨Q9, h0, h⟩ := h
  refine ⟨_, ruX6_kindCount h0, ?_⟩
  intro r2 S3 q1_ y2_ y3_
  replace h := h r2 S3 q1_.1 y2_ y3_
  replace K := fun i ro uo z => K i ro uo ⟨r2, S3, q1_.2, y2_, y3_, z⟩
  exact ⟨h, K i0 _ _ ⟨rfl, rfl⟩⟩
set_option maxRecDepth 100000 in
theorem vwX6_kindAt {S : MS} {x0 : Int32} {x1 : Int32} {ro : Int32} {uo : MS} (h : vX6_kindAt S x0 x1 ro uo) : wX6_kindAt S x0 x1 (fun r u => r = ro ∧ u = uo) := by
  unfold vX6_kindAt at h
  unfold wX6_kindAt
  obtain ⟨p9, q9, z9, h⟩ := h
  refine ⟨_, vwX6_kindCount z9, ?_⟩
  rintro p8 q8 ⟨d8, d9⟩ _ _
  subst d8
  subst d9
  replace h := h.2.2
  exact ⟨h.1.symm, h.2.symm⟩
set_option maxRecDepth 100000 in
theorem vpX6_kindAt {S : MS} {x0 : Int32} {x1 : Int32} {ro : Int32} {uo : MS} {P : Int32 → MS → Prop} (h : vX6_kindAt S x0 x1 ro uo) (w : wX6_kindAt S x0 x1 P) : P ro uo := by
  unfold vX6_kindAt at h
  unfold wX6_kindAt at w
  obtain ⟨p9, q9, z9, y1_, y2_, h⟩ := h
  obtain ⟨Q9, w0, w⟩ := w
  replace w := w p9 q9 (vpX6_kindCount z9 w0) y1_ y2_
  rw [h.1, h.2]
  exact w
def vX7_breaks (S : MS) (x1 : Int32) (x2 : Int32) (ro : Int32) (uo : MS) : Prop := (∃ S1 : MS, S1 = wI S 9 2 x1 ∧ qT S 9 = 46 ∧ wfC S1 ∧ (∃ S2 : MS, S2 = wI S1 9 3 x2 ∧ qT S1 9 = 46 ∧ wfC S2 ∧ (ro = (0 : Int32) ∧ uo = S2)))
set_option maxRecDepth 100000 in
theorem ruX7_breaks {S : MS} {x1 : Int32} {x2 : Int32} {Q : Int32 → MS → Prop} (h : wX7_breaks S x1 x2 Q) : wX7_breaks S x1 x2 (fun r u => Q r u ∧ vX7_breaks S x1 x2 r u) := by
  have i0 : Unit := ()
  have K : ∀ (i : Unit) (ro : Int32) (uo : MS), vX7_breaks S x1 x2 ro uo → vX7_breaks S x1 x2 ro uo := fun _ _ _ z => z
  unfold wX7_breaks at h ⊢
  intro S1 eS1 y1_ y2_
  replace h := h S1 eS1 y1_ y2_
  replace K := fun i ro uo z => K i ro uo ⟨S1, eS1, y1_, y2_, z⟩
  intro S2 eS2 y3_ y4_
  replace h := h S2 eS2 y3_ y4_
  replace K := fun i ro uo z => K i ro uo ⟨S2, eS2, y3_, y4_, z⟩
  exact ⟨h, K i0 _ _ ⟨rfl, rfl⟩⟩
set_option maxRecDepth 100000 in
theorem vwX7_breaks {S : MS} {x1 : Int32} {x2 : Int32} {ro : Int32} {uo : MS} (h : vX7_breaks S x1 x2 ro uo) : wX7_breaks S x1 x2 (fun r u => r = ro ∧ u = uo) := by
  unfold vX7_breaks at h
  unfold wX7_breaks
  obtain ⟨v9, e9, h⟩ := h
  intro x9 d9 _ _
  have c9 : v9 = x9 := e9.trans d9.symm
  subst c9
  replace h := h.2.2
  obtain ⟨v9, e9, h⟩ := h
  intro x9 d9 _ _
  have c9 : v9 = x9 := e9.trans d9.symm
  subst c9
  replace h := h.2.2
  exact ⟨h.1.symm, h.2.symm⟩
set_option maxRecDepth 100000 in
theorem vpX7_breaks {S : MS} {x1 : Int32} {x2 : Int32} {ro : Int32} {uo : MS} {P : Int32 → MS → Prop} (h : vX7_breaks S x1 x2 ro uo) (w : wX7_breaks S x1 x2 P) : P ro uo := by
  unfold vX7_breaks at h
  unfold wX7_breaks at w
  obtain ⟨v9, e9, y1_, y2_, h⟩ := h
  replace w := w v9 e9 y1_ y2_
  obtain ⟨v9, e9, y3_, y4_, h⟩ := h
  replace w := w v9 e9 y3_ y4_
  rw [h.1, h.2]
  exact w
def v_X7_isThere_J25 (ro : Int32) (uo : MS) (U25 : MS) : Prop := (wfC U25 ∧ (ro = (1 : Int32) ∧ uo = U25))
def vX7_isThere (S : MS) (x1 : Int32) (ro : Int32) (uo : MS) : Prop := ((x1.toInt ≤ ((qI S 9 1) - (qI S 9 15)).toInt ∧ (v_X7_isThere_J25 ro uo S)) ∨ (¬ x1.toInt ≤ ((qI S 9 1) - (qI S 9 15)).toInt ∧ (∃ (r4 : Int32) (S5 : MS), vX7_breaks S (2 : Int32) (qI S 9 1) r4 S5 ∧ wfC S5 ∧ shy S S5 ∧ ((r4.toInt = 0 ∧ (ro = (0 : Int32) ∧ uo = S5)) ∨ (¬ r4.toInt = 0 ∧ (v_X7_isThere_J25 ro uo S5))))))
set_option maxRecDepth 100000 in
theorem ru_X7_isThere_J25 {ι : Type} {P Q : Int32 → MS → Prop} {U25 : MS} (i0 : ι) (K : ∀ (i : ι) (ro : Int32) (uo : MS), v_X7_isThere_J25 ro uo U25 → P ro uo) (h : w_X7_isThere_J25 Q U25) : w_X7_isThere_J25 (fun r u => Q r u ∧ P r u) U25 := by
  unfold w_X7_isThere_J25 at h ⊢
  intro y1_
  replace h := h y1_
  replace K := fun i ro uo z => K i ro uo ⟨y1_, z⟩
  exact ⟨h, K i0 _ _ ⟨rfl, rfl⟩⟩
set_option maxRecDepth 100000 in
theorem ruX7_isThere {S : MS} {x1 : Int32} {Q : Int32 → MS → Prop} (h : wX7_isThere S x1 Q) : wX7_isThere S x1 (fun r u => Q r u ∧ vX7_isThere S x1 r u) := by
  have i0 : Unit := ()
  have K : ∀ (i : Unit) (ro : Int32) (uo : MS), vX7_isThere S x1 ro uo → vX7_isThere S x1 ro uo := fun _ _ _ z => z
  unfold wX7_isThere at h ⊢
  refine ⟨fun c => ?_, fun c => ?_⟩
  · replace h := h.1 c
    replace K := fun i ro uo z => K i ro uo (Or.inl ⟨c, z⟩)
    exact ru_X7_isThere_J25 i0 K h
  · replace h := h.2 c
    replace K := fun i ro uo z => K i ro uo (Or.inr ⟨c, z⟩)
    obtain ⟨Q9, h0, h⟩ := h
    refine ⟨_, ruX7_breaks h0, ?_⟩
    intro r4 S5 q2_ y3_ y4_
    replace h := h r4 S5 q2_.1 y3_ y4_
    replace K := fun i ro uo z => K i ro uo ⟨r4, S5, q2_.2, y3_, y4_, z⟩
    refine ⟨fun c => ?_, fun c => ?_⟩
    · replace h := h.1 c
      replace K := fun i ro uo z => K i ro uo (Or.inl ⟨c, z⟩)
      exact ⟨h, K i0 _ _ ⟨rfl, rfl⟩⟩
    · replace h := h.2 c
      replace K := fun i ro uo z => K i ro uo (Or.inr ⟨c, z⟩)
      exact ru_X7_isThere_J25 i0 K h
set_option maxRecDepth 100000 in
theorem vw_X7_isThere_J25 {ro : Int32} {uo : MS} {U25 : MS} (h : v_X7_isThere_J25 ro uo U25) : w_X7_isThere_J25 (fun r u => r = ro ∧ u = uo) U25 := by
  unfold v_X7_isThere_J25 at h
  unfold w_X7_isThere_J25
  intro _
  replace h := h.2
  exact ⟨h.1.symm, h.2.symm⟩
set_option maxRecDepth 100000 in
theorem vp_X7_isThere_J25 {ro : Int32} {uo : MS} {P : Int32 → MS → Prop} {U25 : MS} (h : v_X7_isThere_J25 ro uo U25) (w : w_X7_isThere_J25 P U25) : P ro uo := by
  unfold v_X7_isThere_J25 at h
  unfold w_X7_isThere_J25 at w
  obtain ⟨y1_, h⟩ := h
  replace w := w y1_
  rw [h.1, h.2]
  exact w
set_option maxRecDepth 100000 in
theorem vwX7_isThere {S : MS} {x1 : Int32} {ro : Int32} {uo : MS} (h : vX7_isThere S x1 ro uo) : wX7_isThere S x1 (fun r u => r = ro ∧ u = uo) := by
  unfold vX7_isThere at h
  unfold wX7_isThere
  rcases h with ⟨c, h⟩ | ⟨c, h⟩
  · refine ⟨fun _ => ?_, fun c2 => absurd c c2⟩
    exact vw_X7_isThere_J25 h
  · refine ⟨fun c2 => absurd c2 c, fun _ => ?_⟩
    obtain ⟨p9, q9, z9, h⟩ := h
    refine ⟨_, vwX7_breaks z9, ?_⟩
    rintro p8 q8 ⟨d8, d9⟩ _ _
    subst d8
    subst d9
    replace h := h.2.2
    rcases h with ⟨c, h⟩ | ⟨c, h⟩
    · refine ⟨fun _ => ?_, fun c2 => absurd c c2⟩
      exact ⟨h.1.symm, h.2.symm⟩
    · refine ⟨fun c2 => absurd c2 c, fun _ => ?_⟩
      exact vw_X7_isThere_J25 h
set_option maxRecDepth 100000 in
theorem vpX7_isThere {S : MS} {x1 : Int32} {ro : Int32} {uo : MS} {P : Int32 → MS → Prop} (h : vX7_isThere S x1 ro uo) (w : wX7_isThere S x1 P) : P ro uo := by
  unfold vX7_isThere at h
  unfold wX7_isThere at w
  rcases h with ⟨c, h⟩ | ⟨c, h⟩
  · replace w := w.1 c
    exact vp_X7_isThere_J25 h w
  · replace w := w.2 c
    obtain ⟨p9, q9, z9, y2_, y3_, h⟩ := h
    obtain ⟨Q9, w0, w⟩ := w
    replace w := w p9 q9 (vpX7_breaks z9 w0) y2_ y3_
    rcases h with ⟨c, h⟩ | ⟨c, h⟩
    · replace w := w.1 c
      rw [h.1, h.2]
      exact w
    · replace w := w.2 c
      exact vp_X7_isThere_J25 h w
def v_X7_magicHolds_L2 (ro : Int32) (uo : MS) : Nat → MS → Int32 → Prop
  | 0, _, _ => False
  | n2 + 1, U2, v2_1 => (wfC U2 ∧ ((8 ≤ v2_1.toInt ∧ (∃ S4 : MS, S4 = wI U2 9 15 (8 : Int32) ∧ qT U2 9 = 46 ∧ wfC S4 ∧ (ro = (1 : Int32) ∧ uo = S4))) ∨ (¬ 8 ≤ v2_1.toInt ∧ ((v2_1.toInt < (qI U2 9 1).toInt ∧ (d_X7_u1 U2 v2_1 ∧ (((0 : Int) ≤ v2_1.toInt ∧ v2_1.toInt < ((8 : Nat) : Int)) ∧ (((fX7_u1 U2 v2_1).toInt = (stMG.getD v2_1.toInt.toNat 0).toInt ∧ (∃ a12 : Int32, a12 = (v2_1 + Int32.ofInt 1) ∧ ((v_X7_magicHolds_L2 ro uo n2) U2 a12))) ∨ (¬ (fX7_u1 U2 v2_1).toInt = (stMG.getD v2_1.toInt.toNat 0).toInt ∧ (∃ (r14 : Int32) (S15 : MS), vX7_breaks U2 (1 : Int32) v2_1 r14 S15 ∧ wfC S15 ∧ shy U2 S15 ∧ (ro = r14 ∧ uo = S15))))))) ∨ (¬ v2_1.toInt < (qI U2 9 1).toInt ∧ (∃ (r18 : Int32) (S19 : MS), vX7_breaks U2 (2 : Int32) (qI U2 9 1) r18 S19 ∧ wfC S19 ∧ shy U2 S19 ∧ (ro = r18 ∧ uo = S19)))))))
def vX7_magicHolds (S : MS) (ro : Int32) (uo : MS) : Prop := (∃ n, v_X7_magicHolds_L2 ro uo n S 0)
set_option maxRecDepth 100000 in
theorem ru_X7_magicHolds_L2 {ι : Type} {P Q : Int32 → MS → Prop} : ∀ (n : Nat) {U2 : MS} {v2_1 : Int32} (i0 : ι), (∀ (i : ι) (ro : Int32) (uo : MS), (∃ n8, v_X7_magicHolds_L2 ro uo n8 U2 v2_1) → P ro uo) → w_X7_magicHolds_L2 Q n U2 v2_1 → w_X7_magicHolds_L2 (fun r u => Q r u ∧ P r u) n U2 v2_1 := by
  intro n
  induction n with
  | zero => intro U2 v2_1 i0 K h; unfold w_X7_magicHolds_L2 at h; exact h.elim
  | succ n ih =>
    intro U2 v2_1 i0 K h
    unfold w_X7_magicHolds_L2 at h ⊢
    replace K := fun (i : ι × Nat) ro uo (z : v_X7_magicHolds_L2 ro uo (i.2 + 1) U2 v2_1) => K i.1 ro uo ⟨i.2 + 1, z⟩
    have i00 := i0
    replace i0 : ι × Nat := (i0, 0)
    intro y1_
    replace h := h y1_
    replace K := fun i ro uo z => K i ro uo ⟨y1_, z⟩
    refine ⟨fun c => ?_, fun c => ?_⟩
    · replace h := h.1 c
      replace K := fun i ro uo z => K i ro uo (Or.inl ⟨c, z⟩)
      intro S4 eS4 y2_ y3_
      replace h := h S4 eS4 y2_ y3_
      replace K := fun i ro uo z => K i ro uo ⟨S4, eS4, y2_, y3_, z⟩
      exact ⟨h, K i0 _ _ ⟨rfl, rfl⟩⟩
    · replace h := h.2 c
      replace K := fun i ro uo z => K i ro uo (Or.inr ⟨c, z⟩)
      refine ⟨fun c => ?_, fun c => ?_⟩
      · replace h := h.1 c
        replace K := fun i ro uo z => K i ro uo (Or.inl ⟨c, z⟩)
        obtain ⟨g4_, h⟩ := h
        refine ⟨g4_, ?_⟩
        replace K := fun i ro uo z => K i ro uo ⟨g4_, z⟩
        obtain ⟨g5_, h⟩ := h
        refine ⟨g5_, ?_⟩
        replace K := fun i ro uo z => K i ro uo ⟨g5_, z⟩
        refine ⟨fun c => ?_, fun c => ?_⟩
        · replace h := h.1 c
          replace K := fun i ro uo z => K i ro uo (Or.inl ⟨c, z⟩)
          intro a12 ea12 
          replace h := h a12 ea12 
          replace K := fun i ro uo z => K i ro uo ⟨a12, ea12, z⟩
          exact ih i00 (fun i ro uo ⟨n8, z⟩ => K (i, n8) ro uo z) h
        · replace h := h.2 c
          replace K := fun i ro uo z => K i ro uo (Or.inr ⟨c, z⟩)
          obtain ⟨Q9, h0, h⟩ := h
          refine ⟨_, ruX7_breaks h0, ?_⟩
          intro r14 S15 q6_ y7_ y8_
          replace h := h r14 S15 q6_.1 y7_ y8_
          replace K := fun i ro uo z => K i ro uo ⟨r14, S15, q6_.2, y7_, y8_, z⟩
          exact ⟨h, K i0 _ _ ⟨rfl, rfl⟩⟩
      · replace h := h.2 c
        replace K := fun i ro uo z => K i ro uo (Or.inr ⟨c, z⟩)
        obtain ⟨Q9, h0, h⟩ := h
        refine ⟨_, ruX7_breaks h0, ?_⟩
        intro r18 S19 q9_ y10_ y11_
        replace h := h r18 S19 q9_.1 y10_ y11_
        replace K := fun i ro uo z => K i ro uo ⟨r18, S19, q9_.2, y10_, y11_, z⟩
        exact ⟨h, K i0 _ _ ⟨rfl, rfl⟩⟩
set_option maxRecDepth 100000 in
theorem ruX7_magicHolds {S : MS} {Q : Int32 → MS → Prop} (h : wX7_magicHolds S Q) : wX7_magicHolds S (fun r u => Q r u ∧ vX7_magicHolds S r u) := by
  have i0 : Unit := ()
  have K : ∀ (i : Unit) (ro : Int32) (uo : MS), vX7_magicHolds S ro uo → vX7_magicHolds S ro uo := fun _ _ _ z => z
  unfold wX7_magicHolds at h ⊢
  obtain ⟨n9, h⟩ := h
  exact ⟨n9, ru_X7_magicHolds_L2 n9 i0 K h⟩
set_option maxRecDepth 100000 in
theorem vw_X7_magicHolds_L2 {ro : Int32} {uo : MS} : ∀ (n : Nat) {U2 : MS} {v2_1 : Int32}, v_X7_magicHolds_L2 ro uo n U2 v2_1 → w_X7_magicHolds_L2 (fun r u => r = ro ∧ u = uo) n U2 v2_1 := by
  intro n
  induction n with
  | zero => intro U2 v2_1 h; unfold v_X7_magicHolds_L2 at h; exact h.elim
  | succ n ih =>
    intro U2 v2_1 h
    unfold v_X7_magicHolds_L2 at h
    unfold w_X7_magicHolds_L2
    intro _
    replace h := h.2
    rcases h with ⟨c, h⟩ | ⟨c, h⟩
    · refine ⟨fun _ => ?_, fun c2 => absurd c c2⟩
      obtain ⟨v9, e9, h⟩ := h
      intro x9 d9 _ _
      have c9 : v9 = x9 := e9.trans d9.symm
      subst c9
      replace h := h.2.2
      exact ⟨h.1.symm, h.2.symm⟩
    · refine ⟨fun c2 => absurd c2 c, fun _ => ?_⟩
      rcases h with ⟨c, h⟩ | ⟨c, h⟩
      · refine ⟨fun _ => ?_, fun c2 => absurd c c2⟩
        obtain ⟨g9, h⟩ := h
        refine ⟨g9, ?_⟩
        obtain ⟨g9, h⟩ := h
        refine ⟨g9, ?_⟩
        rcases h with ⟨c, h⟩ | ⟨c, h⟩
        · refine ⟨fun _ => ?_, fun c2 => absurd c c2⟩
          obtain ⟨v9, e9, h⟩ := h
          intro x9 d9 
          have c9 : v9 = x9 := e9.trans d9.symm
          subst c9
          exact ih h
        · refine ⟨fun c2 => absurd c2 c, fun _ => ?_⟩
          obtain ⟨p9, q9, z9, h⟩ := h
          refine ⟨_, vwX7_breaks z9, ?_⟩
          rintro p8 q8 ⟨d8, d9⟩ _ _
          subst d8
          subst d9
          replace h := h.2.2
          exact ⟨h.1.symm, h.2.symm⟩
      · refine ⟨fun c2 => absurd c2 c, fun _ => ?_⟩
        obtain ⟨p9, q9, z9, h⟩ := h
        refine ⟨_, vwX7_breaks z9, ?_⟩
        rintro p8 q8 ⟨d8, d9⟩ _ _
        subst d8
        subst d9
        replace h := h.2.2
        exact ⟨h.1.symm, h.2.symm⟩
set_option maxRecDepth 100000 in
theorem vp_X7_magicHolds_L2 {ro : Int32} {uo : MS} {P : Int32 → MS → Prop} : ∀ (n m : Nat) {U2 : MS} {v2_1 : Int32}, v_X7_magicHolds_L2 ro uo n U2 v2_1 → w_X7_magicHolds_L2 P m U2 v2_1 → P ro uo := by
  intro n
  induction n with
  | zero => intro m U2 v2_1 h; unfold v_X7_magicHolds_L2 at h; exact h.elim
  | succ n ih =>
    intro m U2 v2_1 h w
    cases m with
    | zero => unfold w_X7_magicHolds_L2 at w; exact w.elim
    | succ m =>
      unfold v_X7_magicHolds_L2 at h
      unfold w_X7_magicHolds_L2 at w
      obtain ⟨y1_, h⟩ := h
      replace w := w y1_
      rcases h with ⟨c, h⟩ | ⟨c, h⟩
      · replace w := w.1 c
        obtain ⟨v9, e9, y2_, y3_, h⟩ := h
        replace w := w v9 e9 y2_ y3_
        rw [h.1, h.2]
        exact w
      · replace w := w.2 c
        rcases h with ⟨c, h⟩ | ⟨c, h⟩
        · replace w := w.1 c
          replace h := h.2
          replace w := w.2
          replace h := h.2
          replace w := w.2
          rcases h with ⟨c, h⟩ | ⟨c, h⟩
          · replace w := w.1 c
            obtain ⟨v9, e9, h⟩ := h
            replace w := w v9 e9 
            exact ih m h w
          · replace w := w.2 c
            obtain ⟨p9, q9, z9, y4_, y5_, h⟩ := h
            obtain ⟨Q9, w0, w⟩ := w
            replace w := w p9 q9 (vpX7_breaks z9 w0) y4_ y5_
            rw [h.1, h.2]
            exact w
        · replace w := w.2 c
          obtain ⟨p9, q9, z9, y6_, y7_, h⟩ := h
          obtain ⟨Q9, w0, w⟩ := w
          replace w := w p9 q9 (vpX7_breaks z9 w0) y6_ y7_
          rw [h.1, h.2]
          exact w
set_option maxRecDepth 100000 in
theorem vwX7_magicHolds {S : MS} {ro : Int32} {uo : MS} (h : vX7_magicHolds S ro uo) : wX7_magicHolds S (fun r u => r = ro ∧ u = uo) := by
  unfold vX7_magicHolds at h
  unfold wX7_magicHolds
  obtain ⟨n9, h⟩ := h
  exact ⟨n9, vw_X7_magicHolds_L2 n9 h⟩
set_option maxRecDepth 100000 in
theorem vpX7_magicHolds {S : MS} {ro : Int32} {uo : MS} {P : Int32 → MS → Prop} (h : vX7_magicHolds S ro uo) (w : wX7_magicHolds S P) : P ro uo := by
  unfold vX7_magicHolds at h
  unfold wX7_magicHolds at w
  obtain ⟨n9, h⟩ := h
  obtain ⟨n8, w⟩ := w
  exact vp_X7_magicHolds_L2 n9 n8 h w
def v_X7_nameFits_J32 (ro : Int32) (uo : MS) (U32 : MS) : Prop := (wfC U32 ∧ (∃ (r12 : Int32) (S13 : MS), vX7_breaks U32 (4 : Int32) (qI U32 9 15) r12 S13 ∧ wfC S13 ∧ shy U32 S13 ∧ (ro = r12 ∧ uo = S13)))
def v_X7_nameFits_J105 (ro : Int32) (uo : MS) (U105 : MS) (v105_1 : Int32) : Prop := (wfC U105 ∧ (∃ (r23 : Int32) (S24 : MS), vX7_isThere U105 ((3 : Int32) + v105_1) r23 S24 ∧ wfC S24 ∧ shy U105 S24 ∧ (ro = r23 ∧ uo = S24)))
def v_X7_nameFits_J89 (ro : Int32) (uo : MS) (U89 : MS) : Prop := (wfC U89 ∧ (∃ (r32 : Int32) (S33 : MS), vX7_breaks U89 (4 : Int32) (qI U89 9 15) r32 S33 ∧ wfC S33 ∧ shy U89 S33 ∧ (ro = r32 ∧ uo = S33)))
def v_X7_nameFits_L49 (ro : Int32) (uo : MS) : Nat → MS → Int32 → Int32 → Prop
  | 0, _, _, _ => False
  | n49 + 1, U49, v49_1, v49_2 => (wfC U49 ∧ (((((qI U49 9 15) + (3 : Int32)) + v49_1).toInt ≤ v49_2.toInt ∧ (v_X7_nameFits_J105 ro uo U49 v49_1)) ∨ (¬ (((qI U49 9 15) + (3 : Int32)) + v49_1).toInt ≤ v49_2.toInt ∧ (((qI U49 9 1).toInt ≤ v49_2.toInt ∧ (v_X7_nameFits_J105 ro uo U49 v49_1)) ∨ (¬ (qI U49 9 1).toInt ≤ v49_2.toInt ∧ (d_X7_u1 U49 v49_2 ∧ (((fX7_u1 U49 v49_2).toInt < 33 ∧ (v_X7_nameFits_J89 ro uo U49)) ∨ (¬ (fX7_u1 U49 v49_2).toInt < 33 ∧ (d_X7_u1 U49 v49_2 ∧ (((fX7_u1 U49 v49_2).toInt ≤ 126 ∧ (∃ a40 : Int32, a40 = (v49_2 + Int32.ofInt 1) ∧ ((v_X7_nameFits_L49 ro uo n49) U49 v49_1 a40))) ∨ (¬ (fX7_u1 U49 v49_2).toInt ≤ 126 ∧ (v_X7_nameFits_J89 ro uo U49))))))))))))
def vX7_nameFits (S : MS) (ro : Int32) (uo : MS) : Prop := (∃ (r2 : Int32) (S3 : MS), vX7_isThere S (3 : Int32) r2 S3 ∧ wfC S3 ∧ shy S S3 ∧ ((r2.toInt = 0 ∧ (ro = (0 : Int32) ∧ uo = S3)) ∨ (¬ r2.toInt = 0 ∧ (d_X7_u2 S3 ((qI S3 9 15) + (1 : Int32)) ∧ (∃ a10 : Int32, a10 = (fX7_u2 S3 ((qI S3 9 15) + (1 : Int32))) ∧ ((a10.toInt < 1 ∧ (v_X7_nameFits_J32 ro uo S3)) ∨ (¬ a10.toInt < 1 ∧ ((a10.toInt ≤ 100 ∧ (∃ a18 : Int32, a18 = ((qI S3 9 15) + (3 : Int32)) ∧ (∃ n, v_X7_nameFits_L49 ro uo n S3 a10 a18))) ∨ (¬ a10.toInt ≤ 100 ∧ (v_X7_nameFits_J32 ro uo S3))))))))))
set_option maxRecDepth 100000 in
theorem ru_X7_nameFits_J32 {ι : Type} {P Q : Int32 → MS → Prop} {U32 : MS} (i0 : ι) (K : ∀ (i : ι) (ro : Int32) (uo : MS), v_X7_nameFits_J32 ro uo U32 → P ro uo) (h : w_X7_nameFits_J32 Q U32) : w_X7_nameFits_J32 (fun r u => Q r u ∧ P r u) U32 := by
  unfold w_X7_nameFits_J32 at h ⊢
  intro y1_
  replace h := h y1_
  replace K := fun i ro uo z => K i ro uo ⟨y1_, z⟩
  obtain ⟨Q9, h0, h⟩ := h
  refine ⟨_, ruX7_breaks h0, ?_⟩
  intro r12 S13 q2_ y3_ y4_
  replace h := h r12 S13 q2_.1 y3_ y4_
  replace K := fun i ro uo z => K i ro uo ⟨r12, S13, q2_.2, y3_, y4_, z⟩
  exact ⟨h, K i0 _ _ ⟨rfl, rfl⟩⟩
set_option maxRecDepth 100000 in
theorem ru_X7_nameFits_J105 {ι : Type} {P Q : Int32 → MS → Prop} {U105 : MS} {v105_1 : Int32} (i0 : ι) (K : ∀ (i : ι) (ro : Int32) (uo : MS), v_X7_nameFits_J105 ro uo U105 v105_1 → P ro uo) (h : w_X7_nameFits_J105 Q U105 v105_1) : w_X7_nameFits_J105 (fun r u => Q r u ∧ P r u) U105 v105_1 := by
  unfold w_X7_nameFits_J105 at h ⊢
  intro y5_
  replace h := h y5_
  replace K := fun i ro uo z => K i ro uo ⟨y5_, z⟩
  obtain ⟨Q9, h0, h⟩ := h
  refine ⟨_, ruX7_isThere h0, ?_⟩
  intro r23 S24 q6_ y7_ y8_
  replace h := h r23 S24 q6_.1 y7_ y8_
  replace K := fun i ro uo z => K i ro uo ⟨r23, S24, q6_.2, y7_, y8_, z⟩
  exact ⟨h, K i0 _ _ ⟨rfl, rfl⟩⟩
set_option maxRecDepth 100000 in
theorem ru_X7_nameFits_J89 {ι : Type} {P Q : Int32 → MS → Prop} {U89 : MS} (i0 : ι) (K : ∀ (i : ι) (ro : Int32) (uo : MS), v_X7_nameFits_J89 ro uo U89 → P ro uo) (h : w_X7_nameFits_J89 Q U89) : w_X7_nameFits_J89 (fun r u => Q r u ∧ P r u) U89 := by
  unfold w_X7_nameFits_J89 at h ⊢
  intro y9_
  replace h := h y9_
  replace K := fun i ro uo z => K i ro uo ⟨y9_, z⟩
  obtain ⟨Q9, h0, h⟩ := h
  refine ⟨_, ruX7_breaks h0, ?_⟩
  intro r32 S33 q10_ y11_ y12_
  replace h := h r32 S33 q10_.1 y11_ y12_
  replace K := fun i ro uo z => K i ro uo ⟨r32, S33, q10_.2, y11_, y12_, z⟩
  exact ⟨h, K i0 _ _ ⟨rfl, rfl⟩⟩
set_option maxRecDepth 100000 in
theorem ru_X7_nameFits_L49 {ι : Type} {P Q : Int32 → MS → Prop} : ∀ (n : Nat) {U49 : MS} {v49_1 : Int32} {v49_2 : Int32} (i0 : ι), (∀ (i : ι) (ro : Int32) (uo : MS), (∃ n8, v_X7_nameFits_L49 ro uo n8 U49 v49_1 v49_2) → P ro uo) → w_X7_nameFits_L49 Q n U49 v49_1 v49_2 → w_X7_nameFits_L49 (fun r u => Q r u ∧ P r u) n U49 v49_1 v49_2 := by
  intro n
  induction n with
  | zero => intro U49 v49_1 v49_2 i0 K h; unfold w_X7_nameFits_L49 at h; exact h.elim
  | succ n ih =>
    intro U49 v49_1 v49_2 i0 K h
    unfold w_X7_nameFits_L49 at h ⊢
    replace K := fun (i : ι × Nat) ro uo (z : v_X7_nameFits_L49 ro uo (i.2 + 1) U49 v49_1 v49_2) => K i.1 ro uo ⟨i.2 + 1, z⟩
    have i00 := i0
    replace i0 : ι × Nat := (i0, 0)
    intro y13_
    replace h := h y13_
    replace K := fun i ro uo z => K i ro uo ⟨y13_, z⟩
    refine ⟨fun c => ?_, fun c => ?_⟩
    · replace h := h.1 c
      replace K := fun i ro uo z => K i ro uo (Or.inl ⟨c, z⟩)
      exact ru_X7_nameFits_J105 i0 K h
    · replace h := h.2 c
      replace K := fun i ro uo z => K i ro uo (Or.inr ⟨c, z⟩)
      refine ⟨fun c => ?_, fun c => ?_⟩
      · replace h := h.1 c
        replace K := fun i ro uo z => K i ro uo (Or.inl ⟨c, z⟩)
        exact ru_X7_nameFits_J105 i0 K h
      · replace h := h.2 c
        replace K := fun i ro uo z => K i ro uo (Or.inr ⟨c, z⟩)
        obtain ⟨g14_, h⟩ := h
        refine ⟨g14_, ?_⟩
        replace K := fun i ro uo z => K i ro uo ⟨g14_, z⟩
        refine ⟨fun c => ?_, fun c => ?_⟩
        · replace h := h.1 c
          replace K := fun i ro uo z => K i ro uo (Or.inl ⟨c, z⟩)
          exact ru_X7_nameFits_J89 i0 K h
        · replace h := h.2 c
          replace K := fun i ro uo z => K i ro uo (Or.inr ⟨c, z⟩)
          obtain ⟨g15_, h⟩ := h
          refine ⟨g15_, ?_⟩
          replace K := fun i ro uo z => K i ro uo ⟨g15_, z⟩
          refine ⟨fun c => ?_, fun c => ?_⟩
          · replace h := h.1 c
            replace K := fun i ro uo z => K i ro uo (Or.inl ⟨c, z⟩)
            intro a40 ea40 
            replace h := h a40 ea40 
            replace K := fun i ro uo z => K i ro uo ⟨a40, ea40, z⟩
            exact ih i00 (fun i ro uo ⟨n8, z⟩ => K (i, n8) ro uo z) h
          · replace h := h.2 c
            replace K := fun i ro uo z => K i ro uo (Or.inr ⟨c, z⟩)
            exact ru_X7_nameFits_J89 i0 K h
set_option maxRecDepth 100000 in
theorem ruX7_nameFits {S : MS} {Q : Int32 → MS → Prop} (h : wX7_nameFits S Q) : wX7_nameFits S (fun r u => Q r u ∧ vX7_nameFits S r u) := by
  have i0 : Unit := ()
  have K : ∀ (i : Unit) (ro : Int32) (uo : MS), vX7_nameFits S ro uo → vX7_nameFits S ro uo := fun _ _ _ z => z
  unfold wX7_nameFits at h ⊢
  obtain ⟨Q9, h0, h⟩ := h
  refine ⟨_, ruX7_isThere h0, ?_⟩
  intro r2 S3 q16_ y17_ y18_
  replace h := h r2 S3 q16_.1 y17_ y18_
  replace K := fun i ro uo z => K i ro uo ⟨r2, S3, q16_.2, y17_, y18_, z⟩
  refine ⟨fun c => ?_, fun c => ?_⟩
  · replace h := h.1 c
    replace K := fun i ro uo z => K i ro uo (Or.inl ⟨c, z⟩)
    exact ⟨h, K i0 _ _ ⟨rfl, rfl⟩⟩
  · replace h := h.2 c
    replace K := fun i ro uo z => K i ro uo (Or.inr ⟨c, z⟩)
    obtain ⟨g19_, h⟩ := h
    refine ⟨g19_, ?_⟩
    replace K := fun i ro uo z => K i ro uo ⟨g19_, z⟩
    intro a10 ea10 
    replace h := h a10 ea10 
    replace K := fun i ro uo z => K i ro uo ⟨a10, ea10, z⟩
    refine ⟨fun c => ?_, fun c => ?_⟩
    · replace h := h.1 c
      replace K := fun i ro uo z => K i ro uo (Or.inl ⟨c, z⟩)
      exact ru_X7_nameFits_J32 i0 K h
    · replace h := h.2 c
      replace K := fun i ro uo z => K i ro uo (Or.inr ⟨c, z⟩)
      refine ⟨fun c => ?_, fun c => ?_⟩
      · replace h := h.1 c
        replace K := fun i ro uo z => K i ro uo (Or.inl ⟨c, z⟩)
        intro a18 ea18 
        replace h := h a18 ea18 
        replace K := fun i ro uo z => K i ro uo ⟨a18, ea18, z⟩
        obtain ⟨n9, h⟩ := h
        exact ⟨n9, ru_X7_nameFits_L49 n9 i0 K h⟩
      · replace h := h.2 c
        replace K := fun i ro uo z => K i ro uo (Or.inr ⟨c, z⟩)
        exact ru_X7_nameFits_J32 i0 K h
set_option maxRecDepth 100000 in
theorem vw_X7_nameFits_J32 {ro : Int32} {uo : MS} {U32 : MS} (h : v_X7_nameFits_J32 ro uo U32) : w_X7_nameFits_J32 (fun r u => r = ro ∧ u = uo) U32 := by
  unfold v_X7_nameFits_J32 at h
  unfold w_X7_nameFits_J32
  intro _
  replace h := h.2
  obtain ⟨p9, q9, z9, h⟩ := h
  refine ⟨_, vwX7_breaks z9, ?_⟩
  rintro p8 q8 ⟨d8, d9⟩ _ _
  subst d8
  subst d9
  replace h := h.2.2
  exact ⟨h.1.symm, h.2.symm⟩
set_option maxRecDepth 100000 in
theorem vp_X7_nameFits_J32 {ro : Int32} {uo : MS} {P : Int32 → MS → Prop} {U32 : MS} (h : v_X7_nameFits_J32 ro uo U32) (w : w_X7_nameFits_J32 P U32) : P ro uo := by
  unfold v_X7_nameFits_J32 at h
  unfold w_X7_nameFits_J32 at w
  obtain ⟨y1_, h⟩ := h
  replace w := w y1_
  obtain ⟨p9, q9, z9, y2_, y3_, h⟩ := h
  obtain ⟨Q9, w0, w⟩ := w
  replace w := w p9 q9 (vpX7_breaks z9 w0) y2_ y3_
  rw [h.1, h.2]
  exact w
set_option maxRecDepth 100000 in
theorem vw_X7_nameFits_J105 {ro : Int32} {uo : MS} {U105 : MS} {v105_1 : Int32} (h : v_X7_nameFits_J105 ro uo U105 v105_1) : w_X7_nameFits_J105 (fun r u => r = ro ∧ u = uo) U105 v105_1 := by
  unfold v_X7_nameFits_J105 at h
  unfold w_X7_nameFits_J105
  intro _
  replace h := h.2
  obtain ⟨p9, q9, z9, h⟩ := h
  refine ⟨_, vwX7_isThere z9, ?_⟩
  rintro p8 q8 ⟨d8, d9⟩ _ _
  subst d8
  subst d9
  replace h := h.2.2
  exact ⟨h.1.symm, h.2.symm⟩
set_option maxRecDepth 100000 in
theorem vp_X7_nameFits_J105 {ro : Int32} {uo : MS} {P : Int32 → MS → Prop} {U105 : MS} {v105_1 : Int32} (h : v_X7_nameFits_J105 ro uo U105 v105_1) (w : w_X7_nameFits_J105 P U105 v105_1) : P ro uo := by
  unfold v_X7_nameFits_J105 at h
  unfold w_X7_nameFits_J105 at w
  obtain ⟨y4_, h⟩ := h
  replace w := w y4_
  obtain ⟨p9, q9, z9, y5_, y6_, h⟩ := h
  obtain ⟨Q9, w0, w⟩ := w
  replace w := w p9 q9 (vpX7_isThere z9 w0) y5_ y6_
  rw [h.1, h.2]
  exact w
set_option maxRecDepth 100000 in
theorem vw_X7_nameFits_J89 {ro : Int32} {uo : MS} {U89 : MS} (h : v_X7_nameFits_J89 ro uo U89) : w_X7_nameFits_J89 (fun r u => r = ro ∧ u = uo) U89 := by
  unfold v_X7_nameFits_J89 at h
  unfold w_X7_nameFits_J89
  intro _
  replace h := h.2
  obtain ⟨p9, q9, z9, h⟩ := h
  refine ⟨_, vwX7_breaks z9, ?_⟩
  rintro p8 q8 ⟨d8, d9⟩ _ _
  subst d8
  subst d9
  replace h := h.2.2
  exact ⟨h.1.symm, h.2.symm⟩
set_option maxRecDepth 100000 in
theorem vp_X7_nameFits_J89 {ro : Int32} {uo : MS} {P : Int32 → MS → Prop} {U89 : MS} (h : v_X7_nameFits_J89 ro uo U89) (w : w_X7_nameFits_J89 P U89) : P ro uo := by
  unfold v_X7_nameFits_J89 at h
  unfold w_X7_nameFits_J89 at w
  obtain ⟨y7_, h⟩ := h
  replace w := w y7_
  obtain ⟨p9, q9, z9, y8_, y9_, h⟩ := h
  obtain ⟨Q9, w0, w⟩ := w
  replace w := w p9 q9 (vpX7_breaks z9 w0) y8_ y9_
  rw [h.1, h.2]
  exact w
set_option maxRecDepth 100000 in
theorem vw_X7_nameFits_L49 {ro : Int32} {uo : MS} : ∀ (n : Nat) {U49 : MS} {v49_1 : Int32} {v49_2 : Int32}, v_X7_nameFits_L49 ro uo n U49 v49_1 v49_2 → w_X7_nameFits_L49 (fun r u => r = ro ∧ u = uo) n U49 v49_1 v49_2 := by
  intro n
  induction n with
  | zero => intro U49 v49_1 v49_2 h; unfold v_X7_nameFits_L49 at h; exact h.elim
  | succ n ih =>
    intro U49 v49_1 v49_2 h
    unfold v_X7_nameFits_L49 at h
    unfold w_X7_nameFits_L49
    intro _
    replace h := h.2
    rcases h with ⟨c, h⟩ | ⟨c, h⟩
    · refine ⟨fun _ => ?_, fun c2 => absurd c c2⟩
      exact vw_X7_nameFits_J105 h
    · refine ⟨fun c2 => absurd c2 c, fun _ => ?_⟩
      rcases h with ⟨c, h⟩ | ⟨c, h⟩
      · refine ⟨fun _ => ?_, fun c2 => absurd c c2⟩
        exact vw_X7_nameFits_J105 h
      · refine ⟨fun c2 => absurd c2 c, fun _ => ?_⟩
        obtain ⟨g9, h⟩ := h
        refine ⟨g9, ?_⟩
        rcases h with ⟨c, h⟩ | ⟨c, h⟩
        · refine ⟨fun _ => ?_, fun c2 => absurd c c2⟩
          exact vw_X7_nameFits_J89 h
        · refine ⟨fun c2 => absurd c2 c, fun _ => ?_⟩
          obtain ⟨g9, h⟩ := h
          refine ⟨g9, ?_⟩
          rcases h with ⟨c, h⟩ | ⟨c, h⟩
          · refine ⟨fun _ => ?_, fun c2 => absurd c c2⟩
            obtain ⟨v9, e9, h⟩ := h
            intro x9 d9 
            have c9 : v9 = x9 := e9.trans d9.symm
            subst c9
            exact ih h
          · refine ⟨fun c2 => absurd c2 c, fun _ => ?_⟩
            exact vw_X7_nameFits_J89 h
set_option maxRecDepth 100000 in
theorem vp_X7_nameFits_L49 {ro : Int32} {uo : MS} {P : Int32 → MS → Prop} : ∀ (n m : Nat) {U49 : MS} {v49_1 : Int32} {v49_2 : Int32}, v_X7_nameFits_L49 ro uo n U49 v49_1 v49_2 → w_X7_nameFits_L49 P m U49 v49_1 v49_2 → P ro uo := by
  intro n
  induction n with
  | zero => intro m U49 v49_1 v49_2 h; unfold v_X7_nameFits_L49 at h; exact h.elim
  | succ n ih =>
    intro m U49 v49_1 v49_2 h w
    cases m with
    | zero => unfold w_X7_nameFits_L49 at w; exact w.elim
    | succ m =>
      unfold v_X7_nameFits_L49 at h
      unfold w_X7_nameFits_L49 at w
      obtain ⟨y10_, h⟩ := h
      replace w := w y10_
      rcases h with ⟨c, h⟩ | ⟨c, h⟩
      · replace w := w.1 c
        exact vp_X7_nameFits_J105 h w
      · replace w := w.2 c
        rcases h with ⟨c, h⟩ | ⟨c, h⟩
        · replace w := w.1 c
          exact vp_X7_nameFits_J105 h w
        · replace w := w.2 c
          replace h := h.2
          replace w := w.2
          rcases h with ⟨c, h⟩ | ⟨c, h⟩
          · replace w := w.1 c
            exact vp_X7_nameFits_J89 h w
          · replace w := w.2 c
            replace h := h.2
            replace w := w.2
            rcases h with ⟨c, h⟩ | ⟨c, h⟩
            · replace w := w.1 c
              obtain ⟨v9, e9, h⟩ := h
              replace w := w v9 e9 
              exact ih m h w
            · replace w := w.2 c
              exact vp_X7_nameFits_J89 h w
set_option maxRecDepth 100000 in
theorem vwX7_nameFits {S : MS} {ro : Int32} {uo : MS} (h : vX7_nameFits S ro uo) : wX7_nameFits S (fun r u => r = ro ∧ u = uo) := by
  unfold vX7_nameFits at h
  unfold wX7_nameFits
  obtain ⟨p9, q9, z9, h⟩ := h
  refine ⟨_, vwX7_isThere z9, ?_⟩
  rintro p8 q8 ⟨d8, d9⟩ _ _
  subst d8
  subst d9
  replace h := h.2.2
  rcases h with ⟨c, h⟩ | ⟨c, h⟩
  · refine ⟨fun _ => ?_, fun c2 => absurd c c2⟩
    exact ⟨h.1.symm, h.2.symm⟩
  · refine ⟨fun c2 => absurd c2 c, fun _ => ?_⟩
    obtain ⟨g9, h⟩ := h
    refine ⟨g9, ?_⟩
    obtain ⟨v9, e9, h⟩ := h
    intro x9 d9 
    have c9 : v9 = x9 := e9.trans d9.symm
    subst c9
    rcases h with ⟨c, h⟩ | ⟨c, h⟩
    · refine ⟨fun _ => ?_, fun c2 => absurd c c2⟩
      exact vw_X7_nameFits_J32 h
    · refine ⟨fun c2 => absurd c2 c, fun _ => ?_⟩
      rcases h with ⟨c, h⟩ | ⟨c, h⟩
      · refine ⟨fun _ => ?_, fun c2 => absurd c c2⟩
        obtain ⟨v9, e9, h⟩ := h
        intro x9 d9 
        have c9 : v9 = x9 := e9.trans d9.symm
        subst c9
        obtain ⟨n9, h⟩ := h
        exact ⟨n9, vw_X7_nameFits_L49 n9 h⟩
      · refine ⟨fun c2 => absurd c2 c, fun _ => ?_⟩
        exact vw_X7_nameFits_J32 h
set_option maxRecDepth 100000 in
theorem vpX7_nameFits {S : MS} {ro : Int32} {uo : MS} {P : Int32 → MS → Prop} (h : vX7_nameFits S ro uo) (w : wX7_nameFits S P) : P ro uo := by
  unfold vX7_nameFits at h
  unfold wX7_nameFits at w
  obtain ⟨p9, q9, z9, y11_, y12_, h⟩ := h
  obtain ⟨Q9, w0, w⟩ := w
  replace w := w p9 q9 (vpX7_isThere z9 w0) y11_ y12_
  rcases h with ⟨c, h⟩ | ⟨c, h⟩
  · replace w := w.1 c
    rw [h.1, h.2]
    exact w
  · replace w := w.2 c
    replace h := h.2
    replace w := w.2
    obtain ⟨v9, e9, h⟩ := h
    replace w := w v9 e9 
    rcases h with ⟨c, h⟩ | ⟨c, h⟩
    · replace w := w.1 c
      exact vp_X7_nameFits_J32 h w
    · replace w := w.2 c
      rcases h with ⟨c, h⟩ | ⟨c, h⟩
      · replace w := w.1 c
        obtain ⟨v9, e9, h⟩ := h
        replace w := w v9 e9 
        obtain ⟨n9, h⟩ := h
        obtain ⟨n8, w⟩ := w
        exact vp_X7_nameFits_L49 n9 n8 h w
      · replace w := w.2 c
        exact vp_X7_nameFits_J32 h w
def vX7_headFits (S : MS) (ro : Int32) (uo : MS) : Prop := (∃ S1 : MS, S1 = wI S 9 6 (qI S 9 15) ∧ qT S 9 = 46 ∧ wfC S1 ∧ (∃ (r3 : Int32) (S4 : MS), vX7_isThere S1 (8 : Int32) r3 S4 ∧ wfC S4 ∧ shy S1 S4 ∧ ((r3.toInt = 0 ∧ (ro = (0 : Int32) ∧ uo = S4)) ∨ (¬ r3.toInt = 0 ∧ (∃ S8 : MS, S8 = wI S4 9 15 ((qI S4 9 15) + (8 : Int32)) ∧ qT S4 9 = 46 ∧ wfC S8 ∧ (ro = (1 : Int32) ∧ uo = S8))))))
set_option maxRecDepth 100000 in
theorem ruX7_headFits {S : MS} {Q : Int32 → MS → Prop} (h : wX7_headFits S Q) : wX7_headFits S (fun r u => Q r u ∧ vX7_headFits S r u) := by
  have i0 : Unit := ()
  have K : ∀ (i : Unit) (ro : Int32) (uo : MS), vX7_headFits S ro uo → vX7_headFits S ro uo := fun _ _ _ z => z
  unfold wX7_headFits at h ⊢
  intro S1 eS1 y1_ y2_
  replace h := h S1 eS1 y1_ y2_
  replace K := fun i ro uo z => K i ro uo ⟨S1, eS1, y1_, y2_, z⟩
  obtain ⟨Q9, h0, h⟩ := h
  refine ⟨_, ruX7_isThere h0, ?_⟩
  intro r3 S4 q3_ y4_ y5_
  replace h := h r3 S4 q3_.1 y4_ y5_
  replace K := fun i ro uo z => K i ro uo ⟨r3, S4, q3_.2, y4_, y5_, z⟩
  refine ⟨fun c => ?_, fun c => ?_⟩
  · replace h := h.1 c
    replace K := fun i ro uo z => K i ro uo (Or.inl ⟨c, z⟩)
    exact ⟨h, K i0 _ _ ⟨rfl, rfl⟩⟩
  · replace h := h.2 c
    replace K := fun i ro uo z => K i ro uo (Or.inr ⟨c, z⟩)
    intro S8 eS8 y6_ y7_
    replace h := h S8 eS8 y6_ y7_
    replace K := fun i ro uo z => K i ro uo ⟨S8, eS8, y6_, y7_, z⟩
    exact ⟨h, K i0 _ _ ⟨rfl, rfl⟩⟩
set_option maxRecDepth 100000 in
theorem vwX7_headFits {S : MS} {ro : Int32} {uo : MS} (h : vX7_headFits S ro uo) : wX7_headFits S (fun r u => r = ro ∧ u = uo) := by
  unfold vX7_headFits at h
  unfold wX7_headFits
  obtain ⟨v9, e9, h⟩ := h
  intro x9 d9 _ _
  have c9 : v9 = x9 := e9.trans d9.symm
  subst c9
  replace h := h.2.2
  obtain ⟨p9, q9, z9, h⟩ := h
  refine ⟨_, vwX7_isThere z9, ?_⟩
  rintro p8 q8 ⟨d8, d9⟩ _ _
  subst d8
  subst d9
  replace h := h.2.2
  rcases h with ⟨c, h⟩ | ⟨c, h⟩
  · refine ⟨fun _ => ?_, fun c2 => absurd c c2⟩
    exact ⟨h.1.symm, h.2.symm⟩
  · refine ⟨fun c2 => absurd c2 c, fun _ => ?_⟩
    obtain ⟨v9, e9, h⟩ := h
    intro x9 d9 _ _
    have c9 : v9 = x9 := e9.trans d9.symm
    subst c9
    replace h := h.2.2
    exact ⟨h.1.symm, h.2.symm⟩
set_option maxRecDepth 100000 in
theorem vpX7_headFits {S : MS} {ro : Int32} {uo : MS} {P : Int32 → MS → Prop} (h : vX7_headFits S ro uo) (w : wX7_headFits S P) : P ro uo := by
  unfold vX7_headFits at h
  unfold wX7_headFits at w
  obtain ⟨v9, e9, y1_, y2_, h⟩ := h
  replace w := w v9 e9 y1_ y2_
  obtain ⟨p9, q9, z9, y3_, y4_, h⟩ := h
  obtain ⟨Q9, w0, w⟩ := w
  replace w := w p9 q9 (vpX7_isThere z9 w0) y3_ y4_
  rcases h with ⟨c, h⟩ | ⟨c, h⟩
  · replace w := w.1 c
    rw [h.1, h.2]
    exact w
  · replace w := w.2 c
    obtain ⟨v9, e9, y5_, y6_, h⟩ := h
    replace w := w v9 e9 y5_ y6_
    rw [h.1, h.2]
    exact w
def v_X7_attributesFit_L31 (ro : Int32) (uo : MS) : Nat → MS → Int32 → Int32 → Prop
  | 0, _, _, _ => False
  | n31 + 1, U31, v31_1, v31_2 => (wfC U31 ∧ ((v31_1.toInt ≤ v31_2.toInt ∧ (ro = (1 : Int32) ∧ uo = U31)) ∨ (¬ v31_1.toInt ≤ v31_2.toInt ∧ (∃ (r14 : Int32) (S15 : MS), vX7_isThere U31 (6 : Int32) r14 S15 ∧ wfC S15 ∧ shy U31 S15 ∧ ((r14.toInt = 0 ∧ (ro = (0 : Int32) ∧ uo = S15)) ∨ (¬ r14.toInt = 0 ∧ (d_X7_u4 S15 ((qI S15 9 15) + (2 : Int32)) ∧ (∃ a22 : Int64, a22 = (fX7_u4 S15 ((qI S15 9 15) + (2 : Int32))) ∧ (∃ S24 : MS, S24 = wI S15 9 15 ((qI S15 9 15) + (6 : Int32)) ∧ qT S15 9 = 46 ∧ wfC S24 ∧ (((lg_cmp a22 (((qI S24 9 1) - (qI S24 9 15)).toInt64)).toInt ≤ 0 ∧ (∃ S29 : MS, S29 = wI S24 9 15 ((qI S24 9 15) + (a22.toInt32)) ∧ qT S24 9 = 46 ∧ wfC S29 ∧ (∃ a30 : Int32, a30 = (v31_2 + Int32.ofInt 1) ∧ ((v_X7_attributesFit_L31 ro uo n31) S29 v31_1 a30)))) ∨ (¬ (lg_cmp a22 (((qI S24 9 1) - (qI S24 9 15)).toInt64)).toInt ≤ 0 ∧ (∃ (r32 : Int32) (S33 : MS), vX7_breaks S24 (2 : Int32) (qI S24 9 1) r32 S33 ∧ wfC S33 ∧ shy S24 S33 ∧ (ro = r32 ∧ uo = S33)))))))))))))
def vX7_attributesFit (S : MS) (ro : Int32) (uo : MS) : Prop := (∃ (r2 : Int32) (S3 : MS), vX7_isThere S (2 : Int32) r2 S3 ∧ wfC S3 ∧ shy S S3 ∧ ((r2.toInt = 0 ∧ (ro = (0 : Int32) ∧ uo = S3)) ∨ (¬ r2.toInt = 0 ∧ (d_X7_u2 S3 (qI S3 9 15) ∧ (∃ a9 : Int32, a9 = (fX7_u2 S3 (qI S3 9 15)) ∧ (∃ S11 : MS, S11 = wI S3 9 15 ((qI S3 9 15) + (2 : Int32)) ∧ qT S3 9 = 46 ∧ wfC S11 ∧ (∃ n, v_X7_attributesFit_L31 ro uo n S11 a9 0)))))))
set_option maxRecDepth 100000 in
theorem ru_X7_attributesFit_L31 {ι : Type} {P Q : Int32 → MS → Prop} : ∀ (n : Nat) {U31 : MS} {v31_1 : Int32} {v31_2 : Int32} (i0 : ι), (∀ (i : ι) (ro : Int32) (uo : MS), (∃ n8, v_X7_attributesFit_L31 ro uo n8 U31 v31_1 v31_2) → P ro uo) → w_X7_attributesFit_L31 Q n U31 v31_1 v31_2 → w_X7_attributesFit_L31 (fun r u => Q r u ∧ P r u) n U31 v31_1 v31_2 := by
  intro n
  induction n with
  | zero => intro U31 v31_1 v31_2 i0 K h; unfold w_X7_attributesFit_L31 at h; exact h.elim
  | succ n ih =>
    intro U31 v31_1 v31_2 i0 K h
    unfold w_X7_attributesFit_L31 at h ⊢
    replace K := fun (i : ι × Nat) ro uo (z : v_X7_attributesFit_L31 ro uo (i.2 + 1) U31 v31_1 v31_2) => K i.1 ro uo ⟨i.2 + 1, z⟩
    have i00 := i0
    replace i0 : ι × Nat := (i0, 0)
    intro y1_
    replace h := h y1_
    replace K := fun i ro uo z => K i ro uo ⟨y1_, z⟩
    refine ⟨fun c => ?_, fun c => ?_⟩
    · replace h := h.1 c
      replace K := fun i ro uo z => K i ro uo (Or.inl ⟨c, z⟩)
      exact ⟨h, K i0 _ _ ⟨rfl, rfl⟩⟩
    · replace h := h.2 c
      replace K := fun i ro uo z => K i ro uo (Or.inr ⟨c, z⟩)
      obtain ⟨Q9, h0, h⟩ := h
      refine ⟨_, ruX7_isThere h0, ?_⟩
      intro r14 S15 q2_ y3_ y4_
      replace h := h r14 S15 q2_.1 y3_ y4_
      replace K := fun i ro uo z => K i ro uo ⟨r14, S15, q2_.2, y3_, y4_, z⟩
      refine ⟨fun c => ?_, fun c => ?_⟩
      · replace h := h.1 c
        replace K := fun i ro uo z => K i ro uo (Or.inl ⟨c, z⟩)
        exact ⟨h, K i0 _ _ ⟨rfl, rfl⟩⟩
      · replace h := h.2 c
        replace K := fun i ro uo z => K i ro uo (Or.inr ⟨c, z⟩)
        obtain ⟨g5_, h⟩ := h
        refine ⟨g5_, ?_⟩
        replace K := fun i ro uo z => K i ro uo ⟨g5_, z⟩
        intro a22 ea22 
        replace h := h a22 ea22 
        replace K := fun i ro uo z => K i ro uo ⟨a22, ea22, z⟩
        intro S24 eS24 y6_ y7_
        replace h := h S24 eS24 y6_ y7_
        replace K := fun i ro uo z => K i ro uo ⟨S24, eS24, y6_, y7_, z⟩
        refine ⟨fun c => ?_, fun c => ?_⟩
        · replace h := h.1 c
          replace K := fun i ro uo z => K i ro uo (Or.inl ⟨c, z⟩)
          intro S29 eS29 y8_ y9_
          replace h := h S29 eS29 y8_ y9_
          replace K := fun i ro uo z => K i ro uo ⟨S29, eS29, y8_, y9_, z⟩
          intro a30 ea30 
          replace h := h a30 ea30 
          replace K := fun i ro uo z => K i ro uo ⟨a30, ea30, z⟩
          exact ih i00 (fun i ro uo ⟨n8, z⟩ => K (i, n8) ro uo z) h
        · replace h := h.2 c
          replace K := fun i ro uo z => K i ro uo (Or.inr ⟨c, z⟩)
          obtain ⟨Q9, h0, h⟩ := h
          refine ⟨_, ruX7_breaks h0, ?_⟩
          intro r32 S33 q10_ y11_ y12_
          replace h := h r32 S33 q10_.1 y11_ y12_
          replace K := fun i ro uo z => K i ro uo ⟨r32, S33, q10_.2, y11_, y12_, z⟩
          exact ⟨h, K i0 _ _ ⟨rfl, rfl⟩⟩
set_option maxRecDepth 100000 in
theorem ruX7_attributesFit {S : MS} {Q : Int32 → MS → Prop} (h : wX7_attributesFit S Q) : wX7_attributesFit S (fun r u => Q r u ∧ vX7_attributesFit S r u) := by
  have i0 : Unit := ()
  have K : ∀ (i : Unit) (ro : Int32) (uo : MS), vX7_attributesFit S ro uo → vX7_attributesFit S ro uo := fun _ _ _ z => z
  unfold wX7_attributesFit at h ⊢
  obtain ⟨Q9, h0, h⟩ := h
  refine ⟨_, ruX7_isThere h0, ?_⟩
  intro r2 S3 q13_ y14_ y15_
  replace h := h r2 S3 q13_.1 y14_ y15_
  replace K := fun i ro uo z => K i ro uo ⟨r2, S3, q13_.2, y14_, y15_, z⟩
  refine ⟨fun c => ?_, fun c => ?_⟩
  · replace h := h.1 c
    replace K := fun i ro uo z => K i ro uo (Or.inl ⟨c, z⟩)
    exact ⟨h, K i0 _ _ ⟨rfl, rfl⟩⟩
  · replace h := h.2 c
    replace K := fun i ro uo z => K i ro uo (Or.inr ⟨c, z⟩)
    obtain ⟨g16_, h⟩ := h
    refine ⟨g16_, ?_⟩
    replace K := fun i ro uo z => K i ro uo ⟨g16_, z⟩
    intro a9 ea9 
    replace h := h a9 ea9 
    replace K := fun i ro uo z => K i ro uo ⟨a9, ea9, z⟩
    intro S11 eS11 y17_ y18_
    replace h := h S11 eS11 y17_ y18_
    replace K := fun i ro uo z => K i ro uo ⟨S11, eS11, y17_, y18_, z⟩
    obtain ⟨n9, h⟩ := h
    exact ⟨n9, ru_X7_attributesFit_L31 n9 i0 K h⟩
set_option maxRecDepth 100000 in
theorem vw_X7_attributesFit_L31 {ro : Int32} {uo : MS} : ∀ (n : Nat) {U31 : MS} {v31_1 : Int32} {v31_2 : Int32}, v_X7_attributesFit_L31 ro uo n U31 v31_1 v31_2 → w_X7_attributesFit_L31 (fun r u => r = ro ∧ u = uo) n U31 v31_1 v31_2 := by
  intro n
  induction n with
  | zero => intro U31 v31_1 v31_2 h; unfold v_X7_attributesFit_L31 at h; exact h.elim
  | succ n ih =>
    intro U31 v31_1 v31_2 h
    unfold v_X7_attributesFit_L31 at h
    unfold w_X7_attributesFit_L31
    intro _
    replace h := h.2
    rcases h with ⟨c, h⟩ | ⟨c, h⟩
    · refine ⟨fun _ => ?_, fun c2 => absurd c c2⟩
      exact ⟨h.1.symm, h.2.symm⟩
    · refine ⟨fun c2 => absurd c2 c, fun _ => ?_⟩
      obtain ⟨p9, q9, z9, h⟩ := h
      refine ⟨_, vwX7_isThere z9, ?_⟩
      rintro p8 q8 ⟨d8, d9⟩ _ _
      subst d8
      subst d9
      replace h := h.2.2
      rcases h with ⟨c, h⟩ | ⟨c, h⟩
      · refine ⟨fun _ => ?_, fun c2 => absurd c c2⟩
        exact ⟨h.1.symm, h.2.symm⟩
      · refine ⟨fun c2 => absurd c2 c, fun _ => ?_⟩
        obtain ⟨g9, h⟩ := h
        refine ⟨g9, ?_⟩
        obtain ⟨v9, e9, h⟩ := h
        intro x9 d9 
        have c9 : v9 = x9 := e9.trans d9.symm
        subst c9
        obtain ⟨v9, e9, h⟩ := h
        intro x9 d9 _ _
        have c9 : v9 = x9 := e9.trans d9.symm
        subst c9
        replace h := h.2.2
        rcases h with ⟨c, h⟩ | ⟨c, h⟩
        · refine ⟨fun _ => ?_, fun c2 => absurd c c2⟩
          obtain ⟨v9, e9, h⟩ := h
          intro x9 d9 _ _
          have c9 : v9 = x9 := e9.trans d9.symm
          subst c9
          replace h := h.2.2
          obtain ⟨v9, e9, h⟩ := h
          intro x9 d9 
          have c9 : v9 = x9 := e9.trans d9.symm
          subst c9
          exact ih h
        · refine ⟨fun c2 => absurd c2 c, fun _ => ?_⟩
          obtain ⟨p9, q9, z9, h⟩ := h
          refine ⟨_, vwX7_breaks z9, ?_⟩
          rintro p8 q8 ⟨d8, d9⟩ _ _
          subst d8
          subst d9
          replace h := h.2.2
          exact ⟨h.1.symm, h.2.symm⟩
set_option maxRecDepth 100000 in
theorem vp_X7_attributesFit_L31 {ro : Int32} {uo : MS} {P : Int32 → MS → Prop} : ∀ (n m : Nat) {U31 : MS} {v31_1 : Int32} {v31_2 : Int32}, v_X7_attributesFit_L31 ro uo n U31 v31_1 v31_2 → w_X7_attributesFit_L31 P m U31 v31_1 v31_2 → P ro uo := by
  intro n
  induction n with
  | zero => intro m U31 v31_1 v31_2 h; unfold v_X7_attributesFit_L31 at h; exact h.elim
  | succ n ih =>
    intro m U31 v31_1 v31_2 h w
    cases m with
    | zero => unfold w_X7_attributesFit_L31 at w; exact w.elim
    | succ m =>
      unfold v_X7_attributesFit_L31 at h
      unfold w_X7_attributesFit_L31 at w
      obtain ⟨y1_, h⟩ := h
      replace w := w y1_
      rcases h with ⟨c, h⟩ | ⟨c, h⟩
      · replace w := w.1 c
        rw [h.1, h.2]
        exact w
      · replace w := w.2 c
        obtain ⟨p9, q9, z9, y2_, y3_, h⟩ := h
        obtain ⟨Q9, w0, w⟩ := w
        replace w := w p9 q9 (vpX7_isThere z9 w0) y2_ y3_
        rcases h with ⟨c, h⟩ | ⟨c, h⟩
        · replace w := w.1 c
          rw [h.1, h.2]
          exact w
        · replace w := w.2 c
          replace h := h.2
          replace w := w.2
          obtain ⟨v9, e9, h⟩ := h
          replace w := w v9 e9 
          obtain ⟨v9, e9, y4_, y5_, h⟩ := h
          replace w := w v9 e9 y4_ y5_
          rcases h with ⟨c, h⟩ | ⟨c, h⟩
          · replace w := w.1 c
            obtain ⟨v9, e9, y6_, y7_, h⟩ := h
            replace w := w v9 e9 y6_ y7_
            obtain ⟨v9, e9, h⟩ := h
            replace w := w v9 e9 
            exact ih m h w
          · replace w := w.2 c
            obtain ⟨p9, q9, z9, y8_, y9_, h⟩ := h
            obtain ⟨Q9, w0, w⟩ := w
            replace w := w p9 q9 (vpX7_breaks z9 w0) y8_ y9_
            rw [h.1, h.2]
            exact w
set_option maxRecDepth 100000 in
theorem vwX7_attributesFit {S : MS} {ro : Int32} {uo : MS} (h : vX7_attributesFit S ro uo) : wX7_attributesFit S (fun r u => r = ro ∧ u = uo) := by
  unfold vX7_attributesFit at h
  unfold wX7_attributesFit
  obtain ⟨p9, q9, z9, h⟩ := h
  refine ⟨_, vwX7_isThere z9, ?_⟩
  rintro p8 q8 ⟨d8, d9⟩ _ _
  subst d8
  subst d9
  replace h := h.2.2
  rcases h with ⟨c, h⟩ | ⟨c, h⟩
  · refine ⟨fun _ => ?_, fun c2 => absurd c c2⟩
    exact ⟨h.1.symm, h.2.symm⟩
  · refine ⟨fun c2 => absurd c2 c, fun _ => ?_⟩
    obtain ⟨g9, h⟩ := h
    refine ⟨g9, ?_⟩
    obtain ⟨v9, e9, h⟩ := h
    intro x9 d9 
    have c9 : v9 = x9 := e9.trans d9.symm
    subst c9
    obtain ⟨v9, e9, h⟩ := h
    intro x9 d9 _ _
    have c9 : v9 = x9 := e9.trans d9.symm
    subst c9
    replace h := h.2.2
    obtain ⟨n9, h⟩ := h
    exact ⟨n9, vw_X7_attributesFit_L31 n9 h⟩
set_option maxRecDepth 100000 in
theorem vpX7_attributesFit {S : MS} {ro : Int32} {uo : MS} {P : Int32 → MS → Prop} (h : vX7_attributesFit S ro uo) (w : wX7_attributesFit S P) : P ro uo := by
  unfold vX7_attributesFit at h
  unfold wX7_attributesFit at w
  obtain ⟨p9, q9, z9, y10_, y11_, h⟩ := h
  obtain ⟨Q9, w0, w⟩ := w
  replace w := w p9 q9 (vpX7_isThere z9 w0) y10_ y11_
  rcases h with ⟨c, h⟩ | ⟨c, h⟩
  · replace w := w.1 c
    rw [h.1, h.2]
    exact w
  · replace w := w.2 c
    replace h := h.2
    replace w := w.2
    obtain ⟨v9, e9, h⟩ := h
    replace w := w v9 e9 
    obtain ⟨v9, e9, y12_, y13_, h⟩ := h
    replace w := w v9 e9 y12_ y13_
    obtain ⟨n9, h⟩ := h
    obtain ⟨n8, w⟩ := w
    exact vp_X7_attributesFit_L31 n9 n8 h w
def v_X7_entryPoints_J127 (ro : Int32) (uo : MS) (U127 : MS) : Prop := (wfC U127 ∧ (ro = (0 : Int32) ∧ uo = U127))
def v_X7_entryPoints_J95 (ro : Int32) (uo : MS) (U95 : MS) (v95_1 : Int32) : Prop := (wfC U95 ∧ (d_X7_firstOf U95 v95_1 ∧ (∃ a8 : Int32, a8 = (fX7_firstOf U95 v95_1) ∧ (d_X7_tagOf U95 a8 ∧ (∃ a12 : Int32, a12 = (fX7_tagOf U95 a8) ∧ ((a12.toInt = 7 ∧ (d_X7_secondOf U95 v95_1 ∧ (∃ a17 : Int32, a17 = (fX7_secondOf U95 v95_1) ∧ (d_X7_tagOf U95 a17 ∧ (∃ a21 : Int32, a21 = (fX7_tagOf U95 a17) ∧ ((a21.toInt = 12 ∧ (ro = (1 : Int32) ∧ uo = U95)) ∨ (¬ a21.toInt = 12 ∧ (v_X7_entryPoints_J127 ro uo U95)))))))) ∨ (¬ a12.toInt = 7 ∧ (v_X7_entryPoints_J127 ro uo U95))))))))
def v_X7_entryPoints_J93 (ro : Int32) (uo : MS) (U93 : MS) : Prop := (wfC U93 ∧ (ro = (0 : Int32) ∧ uo = U93))
def vX7_entryPoints (S : MS) (x1 : Int32) (ro : Int32) (uo : MS) : Prop := (d_X7_tagOf S x1 ∧ (∃ a4 : Int32, a4 = (fX7_tagOf S x1) ∧ ((a4.toInt = 7 ∧ (d_X7_firstOf S x1 ∧ (∃ a26 : Int32, a26 = (fX7_firstOf S x1) ∧ (d_X7_tagOf S a26 ∧ (∃ a30 : Int32, a30 = (fX7_tagOf S a26) ∧ ((a30.toInt = 1 ∧ (ro = (1 : Int32) ∧ uo = S)) ∨ (¬ a30.toInt = 1 ∧ (ro = (0 : Int32) ∧ uo = S)))))))) ∨ (¬ a4.toInt = 7 ∧ ((a4.toInt = 8 ∧ (ro = (1 : Int32) ∧ uo = S)) ∨ (¬ a4.toInt = 8 ∧ ((a4.toInt = 9 ∧ (v_X7_entryPoints_J95 ro uo S x1)) ∨ (¬ a4.toInt = 9 ∧ ((a4.toInt = 10 ∧ (v_X7_entryPoints_J95 ro uo S x1)) ∨ (¬ a4.toInt = 10 ∧ ((a4.toInt = 11 ∧ (ro = (1 : Int32) ∧ uo = S)) ∨ (¬ a4.toInt = 11 ∧ ((a4.toInt = 12 ∧ (d_X7_firstOf S x1 ∧ (∃ a35 : Int32, a35 = (fX7_firstOf S x1) ∧ (d_X7_tagOf S a35 ∧ (∃ a39 : Int32, a39 = (fX7_tagOf S a35) ∧ ((a39.toInt = 1 ∧ (d_X7_secondOf S x1 ∧ (∃ a44 : Int32, a44 = (fX7_secondOf S x1) ∧ (d_X7_tagOf S a44 ∧ (∃ a48 : Int32, a48 = (fX7_tagOf S a44) ∧ ((a48.toInt = 1 ∧ (ro = (1 : Int32) ∧ uo = S)) ∨ (¬ a48.toInt = 1 ∧ (v_X7_entryPoints_J93 ro uo S)))))))) ∨ (¬ a39.toInt = 1 ∧ (v_X7_entryPoints_J93 ro uo S)))))))) ∨ (¬ a4.toInt = 12 ∧ (ro = (1 : Int32) ∧ uo = S)))))))))))))))
set_option maxRecDepth 100000 in
theorem ru_X7_entryPoints_J127 {ι : Type} {P Q : Int32 → MS → Prop} {U127 : MS} (i0 : ι) (K : ∀ (i : ι) (ro : Int32) (uo : MS), v_X7_entryPoints_J127 ro uo U127 → P ro uo) (h : w_X7_entryPoints_J127 Q U127) : w_X7_entryPoints_J127 (fun r u => Q r u ∧ P r u) U127 := by
  unfold w_X7_entryPoints_J127 at h ⊢
  intro y1_
  replace h := h y1_
  replace K := fun i ro uo z => K i ro uo ⟨y1_, z⟩
  exact ⟨h, K i0 _ _ ⟨rfl, rfl⟩⟩
set_option maxRecDepth 100000 in
theorem ru_X7_entryPoints_J95 {ι : Type} {P Q : Int32 → MS → Prop} {U95 : MS} {v95_1 : Int32} (i0 : ι) (K : ∀ (i : ι) (ro : Int32) (uo : MS), v_X7_entryPoints_J95 ro uo U95 v95_1 → P ro uo) (h : w_X7_entryPoints_J95 Q U95 v95_1) : w_X7_entryPoints_J95 (fun r u => Q r u ∧ P r u) U95 v95_1 := by
  unfold w_X7_entryPoints_J95 at h ⊢
  intro y2_
  replace h := h y2_
  replace K := fun i ro uo z => K i ro uo ⟨y2_, z⟩
  obtain ⟨g3_, h⟩ := h
  refine ⟨g3_, ?_⟩
  replace K := fun i ro uo z => K i ro uo ⟨g3_, z⟩
  intro a8 ea8 
  replace h := h a8 ea8 
  replace K := fun i ro uo z => K i ro uo ⟨a8, ea8, z⟩
  obtain ⟨g4_, h⟩ := h
  refine ⟨g4_, ?_⟩
  replace K := fun i ro uo z => K i ro uo ⟨g4_, z⟩
  intro a12 ea12 
  replace h := h a12 ea12 
  replace K := fun i ro uo z => K i ro uo ⟨a12, ea12, z⟩
  refine ⟨fun c => ?_, fun c => ?_⟩
  · replace h := h.1 c
    replace K := fun i ro uo z => K i ro uo (Or.inl ⟨c, z⟩)
    obtain ⟨g5_, h⟩ := h
    refine ⟨g5_, ?_⟩
    replace K := fun i ro uo z => K i ro uo ⟨g5_, z⟩
    intro a17 ea17 
    replace h := h a17 ea17 
    replace K := fun i ro uo z => K i ro uo ⟨a17, ea17, z⟩
    obtain ⟨g6_, h⟩ := h
    refine ⟨g6_, ?_⟩
    replace K := fun i ro uo z => K i ro uo ⟨g6_, z⟩
    intro a21 ea21 
    replace h := h a21 ea21 
    replace K := fun i ro uo z => K i ro uo ⟨a21, ea21, z⟩
    refine ⟨fun c => ?_, fun c => ?_⟩
    · replace h := h.1 c
      replace K := fun i ro uo z => K i ro uo (Or.inl ⟨c, z⟩)
      exact ⟨h, K i0 _ _ ⟨rfl, rfl⟩⟩
    · replace h := h.2 c
      replace K := fun i ro uo z => K i ro uo (Or.inr ⟨c, z⟩)
      exact ru_X7_entryPoints_J127 i0 K h
  · replace h := h.2 c
    replace K := fun i ro uo z => K i ro uo (Or.inr ⟨c, z⟩)
    exact ru_X7_entryPoints_J127 i0 K h
set_option maxRecDepth 100000 in
theorem ru_X7_entryPoints_J93 {ι : Type} {P Q : Int32 → MS → Prop} {U93 : MS} (i0 : ι) (K : ∀ (i : ι) (ro : Int32) (uo : MS), v_X7_entryPoints_J93 ro uo U93 → P ro uo) (h : w_X7_entryPoints_J93 Q U93) : w_X7_entryPoints_J93 (fun r u => Q r u ∧ P r u) U93 := by
  unfold w_X7_entryPoints_J93 at h ⊢
  intro y7_
  replace h := h y7_
  replace K := fun i ro uo z => K i ro uo ⟨y7_, z⟩
  exact ⟨h, K i0 _ _ ⟨rfl, rfl⟩⟩
set_option maxRecDepth 100000 in
theorem ruX7_entryPoints {S : MS} {x1 : Int32} {Q : Int32 → MS → Prop} (h : wX7_entryPoints S x1 Q) : wX7_entryPoints S x1 (fun r u => Q r u ∧ vX7_entryPoints S x1 r u) := by
  have i0 : Unit := ()
  have K : ∀ (i : Unit) (ro : Int32) (uo : MS), vX7_entryPoints S x1 ro uo → vX7_entryPoints S x1 ro uo := fun _ _ _ z => z
  unfold wX7_entryPoints at h ⊢
  obtain ⟨g8_, h⟩ := h
  refine ⟨g8_, ?_⟩
  replace K := fun i ro uo z => K i ro uo ⟨g8_, z⟩
  intro a4 ea4 
  replace h := h a4 ea4 
  replace K := fun i ro uo z => K i ro uo ⟨a4, ea4, z⟩
  refine ⟨fun c => ?_, fun c => ?_⟩
  · replace h := h.1 c
    replace K := fun i ro uo z => K i ro uo (Or.inl ⟨c, z⟩)
    obtain ⟨g9_, h⟩ := h
    refine ⟨g9_, ?_⟩
    replace K := fun i ro uo z => K i ro uo ⟨g9_, z⟩
    intro a26 ea26 
    replace h := h a26 ea26 
    replace K := fun i ro uo z => K i ro uo ⟨a26, ea26, z⟩
    obtain ⟨g10_, h⟩ := h
    refine ⟨g10_, ?_⟩
    replace K := fun i ro uo z => K i ro uo ⟨g10_, z⟩
    intro a30 ea30 
    replace h := h a30 ea30 
    replace K := fun i ro uo z => K i ro uo ⟨a30, ea30, z⟩
    refine ⟨fun c => ?_, fun c => ?_⟩
    · replace h := h.1 c
      replace K := fun i ro uo z => K i ro uo (Or.inl ⟨c, z⟩)
      exact ⟨h, K i0 _ _ ⟨rfl, rfl⟩⟩
    · replace h := h.2 c
      replace K := fun i ro uo z => K i ro uo (Or.inr ⟨c, z⟩)
      exact ⟨h, K i0 _ _ ⟨rfl, rfl⟩⟩
  · replace h := h.2 c
    replace K := fun i ro uo z => K i ro uo (Or.inr ⟨c, z⟩)
    refine ⟨fun c => ?_, fun c => ?_⟩
    · replace h := h.1 c
      replace K := fun i ro uo z => K i ro uo (Or.inl ⟨c, z⟩)
      exact ⟨h, K i0 _ _ ⟨rfl, rfl⟩⟩
    · replace h := h.2 c
      replace K := fun i ro uo z => K i ro uo (Or.inr ⟨c, z⟩)
      refine ⟨fun c => ?_, fun c => ?_⟩
      · replace h := h.1 c
        replace K := fun i ro uo z => K i ro uo (Or.inl ⟨c, z⟩)
        exact ru_X7_entryPoints_J95 i0 K h
      · replace h := h.2 c
        replace K := fun i ro uo z => K i ro uo (Or.inr ⟨c, z⟩)
        refine ⟨fun c => ?_, fun c => ?_⟩
        · replace h := h.1 c
          replace K := fun i ro uo z => K i ro uo (Or.inl ⟨c, z⟩)
          exact ru_X7_entryPoints_J95 i0 K h
        · replace h := h.2 c
          replace K := fun i ro uo z => K i ro uo (Or.inr ⟨c, z⟩)
          refine ⟨fun c => ?_, fun c => ?_⟩
          · replace h := h.1 c
            replace K := fun i ro uo z => K i ro uo (Or.inl ⟨c, z⟩)
            exact ⟨h, K i0 _ _ ⟨rfl, rfl⟩⟩
          · replace h := h.2 c
            replace K := fun i ro uo z => K i ro uo (Or.inr ⟨c, z⟩)
            refine ⟨fun c => ?_, fun c => ?_⟩
            · replace h := h.1 c
              replace K := fun i ro uo z => K i ro uo (Or.inl ⟨c, z⟩)
              obtain ⟨g11_, h⟩ := h
              refine ⟨g11_, ?_⟩
              replace K := fun i ro uo z => K i ro uo ⟨g11_, z⟩
              intro a35 ea35 
              replace h := h a35 ea35 
              replace K := fun i ro uo z => K i ro uo ⟨a35, ea35, z⟩
              obtain ⟨g12_, h⟩ := h
              refine ⟨g12_, ?_⟩
              replace K := fun i ro uo z => K i ro uo ⟨g12_, z⟩
              intro a39 ea39 
              replace h := h a39 ea39 
              replace K := fun i ro uo z => K i ro uo ⟨a39, ea39, z⟩
              refine ⟨fun c => ?_, fun c => ?_⟩
              · replace h := h.1 c
                replace K := fun i ro uo z => K i ro uo (Or.inl ⟨c, z⟩)
                obtain ⟨g13_, h⟩ := h
                refine ⟨g13_, ?_⟩
                replace K := fun i ro uo z => K i ro uo ⟨g13_, z⟩
                intro a44 ea44 
                replace h := h a44 ea44 
                replace K := fun i ro uo z => K i ro uo ⟨a44, ea44, z⟩
                obtain ⟨g14_, h⟩ := h
                refine ⟨g14_, ?_⟩
                replace K := fun i ro uo z => K i ro uo ⟨g14_, z⟩
                intro a48 ea48 
                replace h := h a48 ea48 
                replace K := fun i ro uo z => K i ro uo ⟨a48, ea48, z⟩
                refine ⟨fun c => ?_, fun c => ?_⟩
                · replace h := h.1 c
                  replace K := fun i ro uo z => K i ro uo (Or.inl ⟨c, z⟩)
                  exact ⟨h, K i0 _ _ ⟨rfl, rfl⟩⟩
                · replace h := h.2 c
                  replace K := fun i ro uo z => K i ro uo (Or.inr ⟨c, z⟩)
                  exact ru_X7_entryPoints_J93 i0 K h
              · replace h := h.2 c
                replace K := fun i ro uo z => K i ro uo (Or.inr ⟨c, z⟩)
                exact ru_X7_entryPoints_J93 i0 K h
            · replace h := h.2 c
              replace K := fun i ro uo z => K i ro uo (Or.inr ⟨c, z⟩)
              exact ⟨h, K i0 _ _ ⟨rfl, rfl⟩⟩
set_option maxRecDepth 100000 in
theorem vw_X7_entryPoints_J127 {ro : Int32} {uo : MS} {U127 : MS} (h : v_X7_entryPoints_J127 ro uo U127) : w_X7_entryPoints_J127 (fun r u => r = ro ∧ u = uo) U127 := by
  unfold v_X7_entryPoints_J127 at h
  unfold w_X7_entryPoints_J127
  intro _
  replace h := h.2
  exact ⟨h.1.symm, h.2.symm⟩
set_option maxRecDepth 100000 in
theorem vp_X7_entryPoints_J127 {ro : Int32} {uo : MS} {P : Int32 → MS → Prop} {U127 : MS} (h : v_X7_entryPoints_J127 ro uo U127) (w : w_X7_entryPoints_J127 P U127) : P ro uo := by
  unfold v_X7_entryPoints_J127 at h
  unfold w_X7_entryPoints_J127 at w
  obtain ⟨y1_, h⟩ := h
  replace w := w y1_
  rw [h.1, h.2]
  exact w
set_option maxRecDepth 100000 in
theorem vw_X7_entryPoints_J95 {ro : Int32} {uo : MS} {U95 : MS} {v95_1 : Int32} (h : v_X7_entryPoints_J95 ro uo U95 v95_1) : w_X7_entryPoints_J95 (fun r u => r = ro ∧ u = uo) U95 v95_1 := by
  unfold v_X7_entryPoints_J95 at h
  unfold w_X7_entryPoints_J95
  intro _
  replace h := h.2
  obtain ⟨g9, h⟩ := h
  refine ⟨g9, ?_⟩
  obtain ⟨v9, e9, h⟩ := h
  intro x9 d9 
  have c9 : v9 = x9 := e9.trans d9.symm
  subst c9
  obtain ⟨g9, h⟩ := h
  refine ⟨g9, ?_⟩
  obtain ⟨v9, e9, h⟩ := h
  intro x9 d9 
  have c9 : v9 = x9 := e9.trans d9.symm
  subst c9
  rcases h with ⟨c, h⟩ | ⟨c, h⟩
  · refine ⟨fun _ => ?_, fun c2 => absurd c c2⟩
    obtain ⟨g9, h⟩ := h
    refine ⟨g9, ?_⟩
    obtain ⟨v9, e9, h⟩ := h
    intro x9 d9 
    have c9 : v9 = x9 := e9.trans d9.symm
    subst c9
    obtain ⟨g9, h⟩ := h
    refine ⟨g9, ?_⟩
    obtain ⟨v9, e9, h⟩ := h
    intro x9 d9 
    have c9 : v9 = x9 := e9.trans d9.symm
    subst c9
    rcases h with ⟨c, h⟩ | ⟨c, h⟩
    · refine ⟨fun _ => ?_, fun c2 => absurd c c2⟩
      exact ⟨h.1.symm, h.2.symm⟩
    · refine ⟨fun c2 => absurd c2 c, fun _ => ?_⟩
      exact vw_X7_entryPoints_J127 h
  · refine ⟨fun c2 => absurd c2 c, fun _ => ?_⟩
    exact vw_X7_entryPoints_J127 h
set_option maxRecDepth 100000 in
theorem vp_X7_entryPoints_J95 {ro : Int32} {uo : MS} {P : Int32 → MS → Prop} {U95 : MS} {v95_1 : Int32} (h : v_X7_entryPoints_J95 ro uo U95 v95_1) (w : w_X7_entryPoints_J95 P U95 v95_1) : P ro uo := by
  unfold v_X7_entryPoints_J95 at h
  unfold w_X7_entryPoints_J95 at w
  obtain ⟨y2_, h⟩ := h
  replace w := w y2_
  replace h := h.2
  replace w := w.2
  obtain ⟨v9, e9, h⟩ := h
  replace w := w v9 e9 
  replace h := h.2
  replace w := w.2
  obtain ⟨v9, e9, h⟩ := h
  replace w := w v9 e9 
  rcases h with ⟨c, h⟩ | ⟨c, h⟩
  · replace w := w.1 c
    replace h := h.2
    replace w := w.2
    obtain ⟨v9, e9, h⟩ := h
    replace w := w v9 e9 
    replace h := h.2
    replace w := w.2
    obtain ⟨v9, e9, h⟩ := h
    replace w := w v9 e9 
    rcases h with ⟨c, h⟩ | ⟨c, h⟩
    · replace w := w.1 c
      rw [h.1, h.2]
      exact w
    · replace w := w.2 c
      exact vp_X7_entryPoints_J127 h w
  · replace w := w.2 c
    exact vp_X7_entryPoints_J127 h w
set_option maxRecDepth 100000 in
theorem vw_X7_entryPoints_J93 {ro : Int32} {uo : MS} {U93 : MS} (h : v_X7_entryPoints_J93 ro uo U93) : w_X7_entryPoints_J93 (fun r u => r = ro ∧ u = uo) U93 := by
  unfold v_X7_entryPoints_J93 at h
  unfold w_X7_entryPoints_J93
  intro _
  replace h := h.2
  exact ⟨h.1.symm, h.2.symm⟩
set_option maxRecDepth 100000 in
theorem vp_X7_entryPoints_J93 {ro : Int32} {uo : MS} {P : Int32 → MS → Prop} {U93 : MS} (h : v_X7_entryPoints_J93 ro uo U93) (w : w_X7_entryPoints_J93 P U93) : P ro uo := by
  unfold v_X7_entryPoints_J93 at h
  unfold w_X7_entryPoints_J93 at w
  obtain ⟨y3_, h⟩ := h
  replace w := w y3_
  rw [h.1, h.2]
  exact w
set_option maxRecDepth 100000 in
theorem vwX7_entryPoints {S : MS} {x1 : Int32} {ro : Int32} {uo : MS} (h : vX7_entryPoints S x1 ro uo) : wX7_entryPoints S x1 (fun r u => r = ro ∧ u = uo) := by
  unfold vX7_entryPoints at h
  unfold wX7_entryPoints
  obtain ⟨g9, h⟩ := h
  refine ⟨g9, ?_⟩
  obtain ⟨v9, e9, h⟩ := h
  intro x9 d9 
  have c9 : v9 = x9 := e9.trans d9.symm
  subst c9
  rcases h with ⟨c, h⟩ | ⟨c, h⟩
  · refine ⟨fun _ => ?_, fun c2 => absurd c c2⟩
    obtain ⟨g9, h⟩ := h
    refine ⟨g9, ?_⟩
    obtain ⟨v9, e9, h⟩ := h
    intro x9 d9 
    have c9 : v9 = x9 := e9.trans d9.symm
    subst c9
    obtain ⟨g9, h⟩ := h
    refine ⟨g9, ?_⟩
    obtain ⟨v9, e9, h⟩ := h
    intro x9 d9 
    have c9 : v9 = x9 := e9.trans d9.symm
    subst c9
    rcases h with ⟨c, h⟩ | ⟨c, h⟩
    · refine ⟨fun _ => ?_, fun c2 => absurd c c2⟩
      exact ⟨h.1.symm, h.2.symm⟩
    · refine ⟨fun c2 => absurd c2 c, fun _ => ?_⟩
      exact ⟨h.1.symm, h.2.symm⟩
  · refine ⟨fun c2 => absurd c2 c, fun _ => ?_⟩
    rcases h with ⟨c, h⟩ | ⟨c, h⟩
    · refine ⟨fun _ => ?_, fun c2 => absurd c c2⟩
      exact ⟨h.1.symm, h.2.symm⟩
    · refine ⟨fun c2 => absurd c2 c, fun _ => ?_⟩
      rcases h with ⟨c, h⟩ | ⟨c, h⟩
      · refine ⟨fun _ => ?_, fun c2 => absurd c c2⟩
        exact vw_X7_entryPoints_J95 h
      · refine ⟨fun c2 => absurd c2 c, fun _ => ?_⟩
        rcases h with ⟨c, h⟩ | ⟨c, h⟩
        · refine ⟨fun _ => ?_, fun c2 => absurd c c2⟩
          exact vw_X7_entryPoints_J95 h
        · refine ⟨fun c2 => absurd c2 c, fun _ => ?_⟩
          rcases h with ⟨c, h⟩ | ⟨c, h⟩
          · refine ⟨fun _ => ?_, fun c2 => absurd c c2⟩
            exact ⟨h.1.symm, h.2.symm⟩
          · refine ⟨fun c2 => absurd c2 c, fun _ => ?_⟩
            rcases h with ⟨c, h⟩ | ⟨c, h⟩
            · refine ⟨fun _ => ?_, fun c2 => absurd c c2⟩
              obtain ⟨g9, h⟩ := h
              refine ⟨g9, ?_⟩
              obtain ⟨v9, e9, h⟩ := h
              intro x9 d9 
              have c9 : v9 = x9 := e9.trans d9.symm
              subst c9
              obtain ⟨g9, h⟩ := h
              refine ⟨g9, ?_⟩
              obtain ⟨v9, e9, h⟩ := h
              intro x9 d9 
              have c9 : v9 = x9 := e9.trans d9.symm
              subst c9
              rcases h with ⟨c, h⟩ | ⟨c, h⟩
              · refine ⟨fun _ => ?_, fun c2 => absurd c c2⟩
                obtain ⟨g9, h⟩ := h
                refine ⟨g9, ?_⟩
                obtain ⟨v9, e9, h⟩ := h
                intro x9 d9 
                have c9 : v9 = x9 := e9.trans d9.symm
                subst c9
                obtain ⟨g9, h⟩ := h
                refine ⟨g9, ?_⟩
                obtain ⟨v9, e9, h⟩ := h
                intro x9 d9 
                have c9 : v9 = x9 := e9.trans d9.symm
                subst c9
                rcases h with ⟨c, h⟩ | ⟨c, h⟩
                · refine ⟨fun _ => ?_, fun c2 => absurd c c2⟩
                  exact ⟨h.1.symm, h.2.symm⟩
                · refine ⟨fun c2 => absurd c2 c, fun _ => ?_⟩
                  exact vw_X7_entryPoints_J93 h
              · refine ⟨fun c2 => absurd c2 c, fun _ => ?_⟩
                exact vw_X7_entryPoints_J93 h
            · refine ⟨fun c2 => absurd c2 c, fun _ => ?_⟩
              exact ⟨h.1.symm, h.2.symm⟩
set_option maxRecDepth 100000 in
theorem vpX7_entryPoints {S : MS} {x1 : Int32} {ro : Int32} {uo : MS} {P : Int32 → MS → Prop} (h : vX7_entryPoints S x1 ro uo) (w : wX7_entryPoints S x1 P) : P ro uo := by
  unfold vX7_entryPoints at h
  unfold wX7_entryPoints at w
  replace h := h.2
  replace w := w.2
  obtain ⟨v9, e9, h⟩ := h
  replace w := w v9 e9 
  rcases h with ⟨c, h⟩ | ⟨c, h⟩
  · replace w := w.1 c
    replace h := h.2
    replace w := w.2
    obtain ⟨v9, e9, h⟩ := h
    replace w := w v9 e9 
    replace h := h.2
    replace w := w.2
    obtain ⟨v9, e9, h⟩ := h
    replace w := w v9 e9 
    rcases h with ⟨c, h⟩ | ⟨c, h⟩
    · replace w := w.1 c
      rw [h.1, h.2]
      exact w
    · replace w := w.2 c
      rw [h.1, h.2]
      exact w
  · replace w := w.2 c
    rcases h with ⟨c, h⟩ | ⟨c, h⟩
    · replace w := w.1 c
      rw [h.1, h.2]
      exact w
    · replace w := w.2 c
      rcases h with ⟨c, h⟩ | ⟨c, h⟩
      · replace w := w.1 c
        exact vp_X7_entryPoints_J95 h w
      · replace w := w.2 c
        rcases h with ⟨c, h⟩ | ⟨c, h⟩
        · replace w := w.1 c
          exact vp_X7_entryPoints_J95 h w
        · replace w := w.2 c
          rcases h with ⟨c, h⟩ | ⟨c, h⟩
          · replace w := w.1 c
            rw [h.1, h.2]
            exact w
          · replace w := w.2 c
            rcases h with ⟨c, h⟩ | ⟨c, h⟩
            · replace w := w.1 c
              replace h := h.2
              replace w := w.2
              obtain ⟨v9, e9, h⟩ := h
              replace w := w v9 e9 
              replace h := h.2
              replace w := w.2
              obtain ⟨v9, e9, h⟩ := h
              replace w := w v9 e9 
              rcases h with ⟨c, h⟩ | ⟨c, h⟩
              · replace w := w.1 c
                replace h := h.2
                replace w := w.2
                obtain ⟨v9, e9, h⟩ := h
                replace w := w v9 e9 
                replace h := h.2
                replace w := w.2
                obtain ⟨v9, e9, h⟩ := h
                replace w := w v9 e9 
                rcases h with ⟨c, h⟩ | ⟨c, h⟩
                · replace w := w.1 c
                  rw [h.1, h.2]
                  exact w
                · replace w := w.2 c
                  exact vp_X7_entryPoints_J93 h w
              · replace w := w.2 c
                exact vp_X7_entryPoints_J93 h w
            · replace w := w.2 c
              rw [h.1, h.2]
              exact w
def v_X7_flagsHold_L26 (ro : Int32) (uo : MS) : Nat → MS → Int32 → Prop
  | 0, _, _ => False
  | n26 + 1, U26, v26_1 => (wfC U26 ∧ ((((qI U26 9 7) + (qI U26 9 8)).toInt ≤ v26_1.toInt ∧ (ro = (1 : Int32) ∧ uo = U26)) ∨ (¬ ((qI U26 9 7) + (qI U26 9 8)).toInt ≤ v26_1.toInt ∧ (d_X7_memberPlace U26 v26_1 ∧ (∃ a11 : Int32, a11 = (fX7_memberPlace U26 v26_1) ∧ (d_X7_u2 U26 a11 ∧ (∃ a15 : Int32, a15 = (fX7_u2 U26 a11) ∧ ((a15.toInt = 9 ∧ (∃ a17 : Int32, a17 = (v26_1 + Int32.ofInt 1) ∧ ((v_X7_flagsHold_L26 ro uo n26) U26 a17))) ∨ (¬ a15.toInt = 9 ∧ (d_X7_memberPlace U26 v26_1 ∧ (∃ a21 : Int32, a21 = (fX7_memberPlace U26 v26_1) ∧ (∃ (r23 : Int32) (S24 : MS), vX7_breaks U26 (7 : Int32) a21 r23 S24 ∧ wfC S24 ∧ shy U26 S24 ∧ (ro = r23 ∧ uo = S24)))))))))))))
def vX7_flagsHold (S : MS) (ro : Int32) (uo : MS) : Prop := (d_X7_u2 S (qI S 9 6) ∧ (∃ a4 : Int32, a4 = (fX7_u2 S (qI S 9 6)) ∧ ((a4.toInt = 33 ∧ (∃ n, v_X7_flagsHold_L26 ro uo n S 0)) ∨ (¬ a4.toInt = 33 ∧ (∃ (r27 : Int32) (S28 : MS), vX7_breaks S (7 : Int32) (qI S 9 6) r27 S28 ∧ wfC S28 ∧ shy S S28 ∧ (ro = r27 ∧ uo = S28))))))
set_option maxRecDepth 100000 in
theorem ru_X7_flagsHold_L26 {ι : Type} {P Q : Int32 → MS → Prop} : ∀ (n : Nat) {U26 : MS} {v26_1 : Int32} (i0 : ι), (∀ (i : ι) (ro : Int32) (uo : MS), (∃ n8, v_X7_flagsHold_L26 ro uo n8 U26 v26_1) → P ro uo) → w_X7_flagsHold_L26 Q n U26 v26_1 → w_X7_flagsHold_L26 (fun r u => Q r u ∧ P r u) n U26 v26_1 := by
  intro n
  induction n with
  | zero => intro U26 v26_1 i0 K h; unfold w_X7_flagsHold_L26 at h; exact h.elim
  | succ n ih =>
    intro U26 v26_1 i0 K h
    unfold w_X7_flagsHold_L26 at h ⊢
    replace K := fun (i : ι × Nat) ro uo (z : v_X7_flagsHold_L26 ro uo (i.2 + 1) U26 v26_1) => K i.1 ro uo ⟨i.2 + 1, z⟩
    have i00 := i0
    replace i0 : ι × Nat := (i0, 0)
    intro y1_
    replace h := h y1_
    replace K := fun i ro uo z => K i ro uo ⟨y1_, z⟩
    refine ⟨fun c => ?_, fun c => ?_⟩
    · replace h := h.1 c
      replace K := fun i ro uo z => K i ro uo (Or.inl ⟨c, z⟩)
      exact ⟨h, K i0 _ _ ⟨rfl, rfl⟩⟩
    · replace h := h.2 c
      replace K := fun i ro uo z => K i ro uo (Or.inr ⟨c, z⟩)
      obtain ⟨g2_, h⟩ := h
      refine ⟨g2_, ?_⟩
      replace K := fun i ro uo z => K i ro uo ⟨g2_, z⟩
      intro a11 ea11 
      replace h := h a11 ea11 
      replace K := fun i ro uo z => K i ro uo ⟨a11, ea11, z⟩
      obtain ⟨g3_, h⟩ := h
      refine ⟨g3_, ?_⟩
      replace K := fun i ro uo z => K i ro uo ⟨g3_, z⟩
      intro a15 ea15 
      replace h := h a15 ea15 
      replace K := fun i ro uo z => K i ro uo ⟨a15, ea15, z⟩
      refine ⟨fun c => ?_, fun c => ?_⟩
      · replace h := h.1 c
        replace K := fun i ro uo z => K i ro uo (Or.inl ⟨c, z⟩)
        intro a17 ea17 
        replace h := h a17 ea17 
        replace K := fun i ro uo z => K i ro uo ⟨a17, ea17, z⟩
        exact ih i00 (fun i ro uo ⟨n8, z⟩ => K (i, n8) ro uo z) h
      · replace h := h.2 c
        replace K := fun i ro uo z => K i ro uo (Or.inr ⟨c, z⟩)
        obtain ⟨g4_, h⟩ := h
        refine ⟨g4_, ?_⟩
        replace K := fun i ro uo z => K i ro uo ⟨g4_, z⟩
        intro a21 ea21 
        replace h := h a21 ea21 
        replace K := fun i ro uo z => K i ro uo ⟨a21, ea21, z⟩
        obtain ⟨Q9, h0, h⟩ := h
        refine ⟨_, ruX7_breaks h0, ?_⟩
        intro r23 S24 q5_ y6_ y7_
        replace h := h r23 S24 q5_.1 y6_ y7_
        replace K := fun i ro uo z => K i ro uo ⟨r23, S24, q5_.2, y6_, y7_, z⟩
        exact ⟨h, K i0 _ _ ⟨rfl, rfl⟩⟩
set_option maxRecDepth 100000 in
theorem ruX7_flagsHold {S : MS} {Q : Int32 → MS → Prop} (h : wX7_flagsHold S Q) : wX7_flagsHold S (fun r u => Q r u ∧ vX7_flagsHold S r u) := by
  have i0 : Unit := ()
  have K : ∀ (i : Unit) (ro : Int32) (uo : MS), vX7_flagsHold S ro uo → vX7_flagsHold S ro uo := fun _ _ _ z => z
  unfold wX7_flagsHold at h ⊢
  obtain ⟨g8_, h⟩ := h
  refine ⟨g8_, ?_⟩
  replace K := fun i ro uo z => K i ro uo ⟨g8_, z⟩
  intro a4 ea4 
  replace h := h a4 ea4 
  replace K := fun i ro uo z => K i ro uo ⟨a4, ea4, z⟩
  refine ⟨fun c => ?_, fun c => ?_⟩
  · replace h := h.1 c
    replace K := fun i ro uo z => K i ro uo (Or.inl ⟨c, z⟩)
    obtain ⟨n9, h⟩ := h
    exact ⟨n9, ru_X7_flagsHold_L26 n9 i0 K h⟩
  · replace h := h.2 c
    replace K := fun i ro uo z => K i ro uo (Or.inr ⟨c, z⟩)
    obtain ⟨Q9, h0, h⟩ := h
    refine ⟨_, ruX7_breaks h0, ?_⟩
    intro r27 S28 q9_ y10_ y11_
    replace h := h r27 S28 q9_.1 y10_ y11_
    replace K := fun i ro uo z => K i ro uo ⟨r27, S28, q9_.2, y10_, y11_, z⟩
    exact ⟨h, K i0 _ _ ⟨rfl, rfl⟩⟩
set_option maxRecDepth 100000 in
theorem vw_X7_flagsHold_L26 {ro : Int32} {uo : MS} : ∀ (n : Nat) {U26 : MS} {v26_1 : Int32}, v_X7_flagsHold_L26 ro uo n U26 v26_1 → w_X7_flagsHold_L26 (fun r u => r = ro ∧ u = uo) n U26 v26_1 := by
  intro n
  induction n with
  | zero => intro U26 v26_1 h; unfold v_X7_flagsHold_L26 at h; exact h.elim
  | succ n ih =>
    intro U26 v26_1 h
    unfold v_X7_flagsHold_L26 at h
    unfold w_X7_flagsHold_L26
    intro _
    replace h := h.2
    rcases h with ⟨c, h⟩ | ⟨c, h⟩
    · refine ⟨fun _ => ?_, fun c2 => absurd c c2⟩
      exact ⟨h.1.symm, h.2.symm⟩
    · refine ⟨fun c2 => absurd c2 c, fun _ => ?_⟩
      obtain ⟨g9, h⟩ := h
      refine ⟨g9, ?_⟩
      obtain ⟨v9, e9, h⟩ := h
      intro x9 d9 
      have c9 : v9 = x9 := e9.trans d9.symm
      subst c9
      obtain ⟨g9, h⟩ := h
      refine ⟨g9, ?_⟩
      obtain ⟨v9, e9, h⟩ := h
      intro x9 d9 
      have c9 : v9 = x9 := e9.trans d9.symm
      subst c9
      rcases h with ⟨c, h⟩ | ⟨c, h⟩
      · refine ⟨fun _ => ?_, fun c2 => absurd c c2⟩
        obtain ⟨v9, e9, h⟩ := h
        intro x9 d9 
        have c9 : v9 = x9 := e9.trans d9.symm
        subst c9
        exact ih h
      · refine ⟨fun c2 => absurd c2 c, fun _ => ?_⟩
        obtain ⟨g9, h⟩ := h
        refine ⟨g9, ?_⟩
        obtain ⟨v9, e9, h⟩ := h
        intro x9 d9 
        have c9 : v9 = x9 := e9.trans d9.symm
        subst c9
        obtain ⟨p9, q9, z9, h⟩ := h
        refine ⟨_, vwX7_breaks z9, ?_⟩
        rintro p8 q8 ⟨d8, d9⟩ _ _
        subst d8
        subst d9
        replace h := h.2.2
        exact ⟨h.1.symm, h.2.symm⟩
set_option maxRecDepth 100000 in
theorem vp_X7_flagsHold_L26 {ro : Int32} {uo : MS} {P : Int32 → MS → Prop} : ∀ (n m : Nat) {U26 : MS} {v26_1 : Int32}, v_X7_flagsHold_L26 ro uo n U26 v26_1 → w_X7_flagsHold_L26 P m U26 v26_1 → P ro uo := by
  intro n
  induction n with
  | zero => intro m U26 v26_1 h; unfold v_X7_flagsHold_L26 at h; exact h.elim
  | succ n ih =>
    intro m U26 v26_1 h w
    cases m with
    | zero => unfold w_X7_flagsHold_L26 at w; exact w.elim
    | succ m =>
      unfold v_X7_flagsHold_L26 at h
      unfold w_X7_flagsHold_L26 at w
      obtain ⟨y1_, h⟩ := h
      replace w := w y1_
      rcases h with ⟨c, h⟩ | ⟨c, h⟩
      · replace w := w.1 c
        rw [h.1, h.2]
        exact w
      · replace w := w.2 c
        replace h := h.2
        replace w := w.2
        obtain ⟨v9, e9, h⟩ := h
        replace w := w v9 e9 
        replace h := h.2
        replace w := w.2
        obtain ⟨v9, e9, h⟩ := h
        replace w := w v9 e9 
        rcases h with ⟨c, h⟩ | ⟨c, h⟩
        · replace w := w.1 c
          obtain ⟨v9, e9, h⟩ := h
          replace w := w v9 e9 
          exact ih m h w
        · replace w := w.2 c
          replace h := h.2
          replace w := w.2
          obtain ⟨v9, e9, h⟩ := h
          replace w := w v9 e9 
          obtain ⟨p9, q9, z9, y2_, y3_, h⟩ := h
          obtain ⟨Q9, w0, w⟩ := w
          replace w := w p9 q9 (vpX7_breaks z9 w0) y2_ y3_
          rw [h.1, h.2]
          exact w
set_option maxRecDepth 100000 in
theorem vwX7_flagsHold {S : MS} {ro : Int32} {uo : MS} (h : vX7_flagsHold S ro uo) : wX7_flagsHold S (fun r u => r = ro ∧ u = uo) := by
  unfold vX7_flagsHold at h
  unfold wX7_flagsHold
  obtain ⟨g9, h⟩ := h
  refine ⟨g9, ?_⟩
  obtain ⟨v9, e9, h⟩ := h
  intro x9 d9 
  have c9 : v9 = x9 := e9.trans d9.symm
  subst c9
  rcases h with ⟨c, h⟩ | ⟨c, h⟩
  · refine ⟨fun _ => ?_, fun c2 => absurd c c2⟩
    obtain ⟨n9, h⟩ := h
    exact ⟨n9, vw_X7_flagsHold_L26 n9 h⟩
  · refine ⟨fun c2 => absurd c2 c, fun _ => ?_⟩
    obtain ⟨p9, q9, z9, h⟩ := h
    refine ⟨_, vwX7_breaks z9, ?_⟩
    rintro p8 q8 ⟨d8, d9⟩ _ _
    subst d8
    subst d9
    replace h := h.2.2
    exact ⟨h.1.symm, h.2.symm⟩
set_option maxRecDepth 100000 in
theorem vpX7_flagsHold {S : MS} {ro : Int32} {uo : MS} {P : Int32 → MS → Prop} (h : vX7_flagsHold S ro uo) (w : wX7_flagsHold S P) : P ro uo := by
  unfold vX7_flagsHold at h
  unfold wX7_flagsHold at w
  replace h := h.2
  replace w := w.2
  obtain ⟨v9, e9, h⟩ := h
  replace w := w v9 e9 
  rcases h with ⟨c, h⟩ | ⟨c, h⟩
  · replace w := w.1 c
    obtain ⟨n9, h⟩ := h
    obtain ⟨n8, w⟩ := w
    exact vp_X7_flagsHold_L26 n9 n8 h w
  · replace w := w.2 c
    obtain ⟨p9, q9, z9, y4_, y5_, h⟩ := h
    obtain ⟨Q9, w0, w⟩ := w
    replace w := w p9 q9 (vpX7_breaks z9 w0) y4_ y5_
    rw [h.1, h.2]
    exact w
def v_X7_headHolds_J94 (ro : Int32) (uo : MS) (U94 : MS) : Prop := (wfC U94 ∧ (ro = (1 : Int32) ∧ uo = U94))
def vX7_headHolds (S : MS) (ro : Int32) (uo : MS) : Prop := (d_X7_u2 S ((qI S 9 6) + (2 : Int32)) ∧ (∃ a5 : Int32, a5 = (fX7_u2 S ((qI S 9 6) + (2 : Int32))) ∧ (d_X7_tagOf S a5 ∧ (∃ a9 : Int32, a9 = (fX7_tagOf S a5) ∧ ((a9.toInt = 7 ∧ (d_X7_u2 S ((qI S 9 6) + (4 : Int32)) ∧ (∃ a15 : Int32, a15 = (fX7_u2 S ((qI S 9 6) + (4 : Int32))) ∧ (d_X7_tagOf S a15 ∧ (∃ a19 : Int32, a19 = (fX7_tagOf S a15) ∧ ((a19.toInt = 7 ∧ (d_X7_u2 S ((qI S 9 6) + (6 : Int32)) ∧ (∃ a25 : Int32, a25 = (fX7_u2 S ((qI S 9 6) + (6 : Int32))) ∧ ((a25.toInt = 0 ∧ (v_X7_headHolds_J94 ro uo S)) ∨ (¬ a25.toInt = 0 ∧ (∃ (r29 : Int32) (S30 : MS), vX7_breaks S (8 : Int32) ((qI S 9 6) + (6 : Int32)) r29 S30 ∧ wfC S30 ∧ shy S S30 ∧ ((r29.toInt = 0 ∧ (ro = (0 : Int32) ∧ uo = S30)) ∨ (¬ r29.toInt = 0 ∧ (v_X7_headHolds_J94 ro uo S30))))))))) ∨ (¬ a19.toInt = 7 ∧ (∃ (r35 : Int32) (S36 : MS), vX7_breaks S (8 : Int32) ((qI S 9 6) + (4 : Int32)) r35 S36 ∧ wfC S36 ∧ shy S S36 ∧ (ro = r35 ∧ uo = S36))))))))) ∨ (¬ a9.toInt = 7 ∧ (∃ (r40 : Int32) (S41 : MS), vX7_breaks S (8 : Int32) ((qI S 9 6) + (2 : Int32)) r40 S41 ∧ wfC S41 ∧ shy S S41 ∧ (ro = r40 ∧ uo = S41))))))))
set_option maxRecDepth 100000 in
theorem ru_X7_headHolds_J94 {ι : Type} {P Q : Int32 → MS → Prop} {U94 : MS} (i0 : ι) (K : ∀ (i : ι) (ro : Int32) (uo : MS), v_X7_headHolds_J94 ro uo U94 → P ro uo) (h : w_X7_headHolds_J94 Q U94) : w_X7_headHolds_J94 (fun r u => Q r u ∧ P r u) U94 := by
  unfold w_X7_headHolds_J94 at h ⊢
  intro y1_
  replace h := h y1_
  replace K := fun i ro uo z => K i ro uo ⟨y1_, z⟩
  exact ⟨h, K i0 _ _ ⟨rfl, rfl⟩⟩
set_option maxRecDepth 100000 in
theorem ruX7_headHolds {S : MS} {Q : Int32 → MS → Prop} (h : wX7_headHolds S Q) : wX7_headHolds S (fun r u => Q r u ∧ vX7_headHolds S r u) := by
  have i0 : Unit := ()
  have K : ∀ (i : Unit) (ro : Int32) (uo : MS), vX7_headHolds S ro uo → vX7_headHolds S ro uo := fun _ _ _ z => z
  unfold wX7_headHolds at h ⊢
  obtain ⟨g2_, h⟩ := h
  refine ⟨g2_, ?_⟩
  replace K := fun i ro uo z => K i ro uo ⟨g2_, z⟩
  intro a5 ea5 
  replace h := h a5 ea5 
  replace K := fun i ro uo z => K i ro uo ⟨a5, ea5, z⟩
  obtain ⟨g3_, h⟩ := h
  refine ⟨g3_, ?_⟩
  replace K := fun i ro uo z => K i ro uo ⟨g3_, z⟩
  intro a9 ea9 
  replace h := h a9 ea9 
  replace K := fun i ro uo z => K i ro uo ⟨a9, ea9, z⟩
  refine ⟨fun c => ?_, fun c => ?_⟩
  · replace h := h.1 c
    replace K := fun i ro uo z => K i ro uo (Or.inl ⟨c, z⟩)
    obtain ⟨g4_, h⟩ := h
    refine ⟨g4_, ?_⟩
    replace K := fun i ro uo z => K i ro uo ⟨g4_, z⟩
    intro a15 ea15 
    replace h := h a15 ea15 
    replace K := fun i ro uo z => K i ro uo ⟨a15, ea15, z⟩
    obtain ⟨g5_, h⟩ := h
    refine ⟨g5_, ?_⟩
    replace K := fun i ro uo z => K i ro uo ⟨g5_, z⟩
    intro a19 ea19 
    replace h := h a19 ea19 
    replace K := fun i ro uo z => K i ro uo ⟨a19, ea19, z⟩
    refine ⟨fun c => ?_, fun c => ?_⟩
    · replace h := h.1 c
      replace K := fun i ro uo z => K i ro uo (Or.inl ⟨c, z⟩)
      obtain ⟨g6_, h⟩ := h
      refine ⟨g6_, ?_⟩
      replace K := fun i ro uo z => K i ro uo ⟨g6_, z⟩
      intro a25 ea25 
      replace h := h a25 ea25 
      replace K := fun i ro uo z => K i ro uo ⟨a25, ea25, z⟩
      refine ⟨fun c => ?_, fun c => ?_⟩
      · replace h := h.1 c
        replace K := fun i ro uo z => K i ro uo (Or.inl ⟨c, z⟩)
        exact ru_X7_headHolds_J94 i0 K h
      · replace h := h.2 c
        replace K := fun i ro uo z => K i ro uo (Or.inr ⟨c, z⟩)
        obtain ⟨Q9, h0, h⟩ := h
        refine ⟨_, ruX7_breaks h0, ?_⟩
        intro r29 S30 q7_ y8_ y9_
        replace h := h r29 S30 q7_.1 y8_ y9_
        replace K := fun i ro uo z => K i ro uo ⟨r29, S30, q7_.2, y8_, y9_, z⟩
        refine ⟨fun c => ?_, fun c => ?_⟩
        · replace h := h.1 c
          replace K := fun i ro uo z => K i ro uo (Or.inl ⟨c, z⟩)
          exact ⟨h, K i0 _ _ ⟨rfl, rfl⟩⟩
        · replace h := h.2 c
          replace K := fun i ro uo z => K i ro uo (Or.inr ⟨c, z⟩)
          exact ru_X7_headHolds_J94 i0 K h
    · replace h := h.2 c
      replace K := fun i ro uo z => K i ro uo (Or.inr ⟨c, z⟩)
      obtain ⟨Q9, h0, h⟩ := h
      refine ⟨_, ruX7_breaks h0, ?_⟩
      intro r35 S36 q10_ y11_ y12_
      replace h := h r35 S36 q10_.1 y11_ y12_
      replace K := fun i ro uo z => K i ro uo ⟨r35, S36, q10_.2, y11_, y12_, z⟩
      exact ⟨h, K i0 _ _ ⟨rfl, rfl⟩⟩
  · replace h := h.2 c
    replace K := fun i ro uo z => K i ro uo (Or.inr ⟨c, z⟩)
    obtain ⟨Q9, h0, h⟩ := h
    refine ⟨_, ruX7_breaks h0, ?_⟩
    intro r40 S41 q13_ y14_ y15_
    replace h := h r40 S41 q13_.1 y14_ y15_
    replace K := fun i ro uo z => K i ro uo ⟨r40, S41, q13_.2, y14_, y15_, z⟩
    exact ⟨h, K i0 _ _ ⟨rfl, rfl⟩⟩
set_option maxRecDepth 100000 in
theorem vw_X7_headHolds_J94 {ro : Int32} {uo : MS} {U94 : MS} (h : v_X7_headHolds_J94 ro uo U94) : w_X7_headHolds_J94 (fun r u => r = ro ∧ u = uo) U94 := by
  unfold v_X7_headHolds_J94 at h
  unfold w_X7_headHolds_J94
  intro _
  replace h := h.2
  exact ⟨h.1.symm, h.2.symm⟩
set_option maxRecDepth 100000 in
theorem vp_X7_headHolds_J94 {ro : Int32} {uo : MS} {P : Int32 → MS → Prop} {U94 : MS} (h : v_X7_headHolds_J94 ro uo U94) (w : w_X7_headHolds_J94 P U94) : P ro uo := by
  unfold v_X7_headHolds_J94 at h
  unfold w_X7_headHolds_J94 at w
  obtain ⟨y1_, h⟩ := h
  replace w := w y1_
  rw [h.1, h.2]
  exact w
set_option maxRecDepth 100000 in
theorem vwX7_headHolds {S : MS} {ro : Int32} {uo : MS} (h : vX7_headHolds S ro uo) : wX7_headHolds S (fun r u => r = ro ∧ u = uo) := by
  unfold vX7_headHolds at h
  unfold wX7_headHolds
  obtain ⟨g9, h⟩ := h
  refine ⟨g9, ?_⟩
  obtain ⟨v9, e9, h⟩ := h
  intro x9 d9 
  have c9 : v9 = x9 := e9.trans d9.symm
  subst c9
  obtain ⟨g9, h⟩ := h
  refine ⟨g9, ?_⟩
  obtain ⟨v9, e9, h⟩ := h
  intro x9 d9 
  have c9 : v9 = x9 := e9.trans d9.symm
  subst c9
  rcases h with ⟨c, h⟩ | ⟨c, h⟩
  · refine ⟨fun _ => ?_, fun c2 => absurd c c2⟩
    obtain ⟨g9, h⟩ := h
    refine ⟨g9, ?_⟩
    obtain ⟨v9, e9, h⟩ := h
    intro x9 d9 
    have c9 : v9 = x9 := e9.trans d9.symm
    subst c9
    obtain ⟨g9, h⟩ := h
    refine ⟨g9, ?_⟩
    obtain ⟨v9, e9, h⟩ := h
    intro x9 d9 
    have c9 : v9 = x9 := e9.trans d9.symm
    subst c9
    rcases h with ⟨c, h⟩ | ⟨c, h⟩
    · refine ⟨fun _ => ?_, fun c2 => absurd c c2⟩
      obtain ⟨g9, h⟩ := h
      refine ⟨g9, ?_⟩
      obtain ⟨v9, e9, h⟩ := h
      intro x9 d9 
      have c9 : v9 = x9 := e9.trans d9.symm
      subst c9
      rcases h with ⟨c, h⟩ | ⟨c, h⟩
      · refine ⟨fun _ => ?_, fun c2 => absurd c c2⟩
        exact vw_X7_headHolds_J94 h
      · refine ⟨fun c2 => absurd c2 c, fun _ => ?_⟩
        obtain ⟨p9, q9, z9, h⟩ := h
        refine ⟨_, vwX7_breaks z9, ?_⟩
        rintro p8 q8 ⟨d8, d9⟩ _ _
        subst d8
        subst d9
        replace h := h.2.2
        rcases h with ⟨c, h⟩ | ⟨c, h⟩
        · refine ⟨fun _ => ?_, fun c2 => absurd c c2⟩
          exact ⟨h.1.symm, h.2.symm⟩
        · refine ⟨fun c2 => absurd c2 c, fun _ => ?_⟩
          exact vw_X7_headHolds_J94 h
    · refine ⟨fun c2 => absurd c2 c, fun _ => ?_⟩
      obtain ⟨p9, q9, z9, h⟩ := h
      refine ⟨_, vwX7_breaks z9, ?_⟩
      rintro p8 q8 ⟨d8, d9⟩ _ _
      subst d8
      subst d9
      replace h := h.2.2
      exact ⟨h.1.symm, h.2.symm⟩
  · refine ⟨fun c2 => absurd c2 c, fun _ => ?_⟩
    obtain ⟨p9, q9, z9, h⟩ := h
    refine ⟨_, vwX7_breaks z9, ?_⟩
    rintro p8 q8 ⟨d8, d9⟩ _ _
    subst d8
    subst d9
    replace h := h.2.2
    exact ⟨h.1.symm, h.2.symm⟩
set_option maxRecDepth 100000 in
theorem vpX7_headHolds {S : MS} {ro : Int32} {uo : MS} {P : Int32 → MS → Prop} (h : vX7_headHolds S ro uo) (w : wX7_headHolds S P) : P ro uo := by
  unfold vX7_headHolds at h
  unfold wX7_headHolds at w
  replace h := h.2
  replace w := w.2
  obtain ⟨v9, e9, h⟩ := h
  replace w := w v9 e9 
  replace h := h.2
  replace w := w.2
  obtain ⟨v9, e9, h⟩ := h
  replace w := w v9 e9 
  rcases h with ⟨c, h⟩ | ⟨c, h⟩
  · replace w := w.1 c
    replace h := h.2
    replace w := w.2
    obtain ⟨v9, e9, h⟩ := h
    replace w := w v9 e9 
    replace h := h.2
    replace w := w.2
    obtain ⟨v9, e9, h⟩ := h
    replace w := w v9 e9 
    rcases h with ⟨c, h⟩ | ⟨c, h⟩
    · replace w := w.1 c
      replace h := h.2
      replace w := w.2
      obtain ⟨v9, e9, h⟩ := h
      replace w := w v9 e9 
      rcases h with ⟨c, h⟩ | ⟨c, h⟩
      · replace w := w.1 c
        exact vp_X7_headHolds_J94 h w
      · replace w := w.2 c
        obtain ⟨p9, q9, z9, y2_, y3_, h⟩ := h
        obtain ⟨Q9, w0, w⟩ := w
        replace w := w p9 q9 (vpX7_breaks z9 w0) y2_ y3_
        rcases h with ⟨c, h⟩ | ⟨c, h⟩
        · replace w := w.1 c
          rw [h.1, h.2]
          exact w
        · replace w := w.2 c
          exact vp_X7_headHolds_J94 h w
    · replace w := w.2 c
      obtain ⟨p9, q9, z9, y4_, y5_, h⟩ := h
      obtain ⟨Q9, w0, w⟩ := w
      replace w := w p9 q9 (vpX7_breaks z9 w0) y4_ y5_
      rw [h.1, h.2]
      exact w
  · replace w := w.2 c
    obtain ⟨p9, q9, z9, y6_, y7_, h⟩ := h
    obtain ⟨Q9, w0, w⟩ := w
    replace w := w p9 q9 (vpX7_breaks z9 w0) y6_ y7_
    rw [h.1, h.2]
    exact w
def v_X7_isNameAt_J23 (ro : Int32) (uo : MS) (U23 : MS) : Prop := (wfC U23 ∧ (ro = (1 : Int32) ∧ uo = U23))
def vX7_isNameAt (S : MS) (x1 : Int32) (ro : Int32) (uo : MS) : Prop := (d_X7_u2 S x1 ∧ (∃ a4 : Int32, a4 = (fX7_u2 S x1) ∧ (d_X7_tagOf S a4 ∧ (∃ a8 : Int32, a8 = (fX7_tagOf S a4) ∧ ((a8.toInt = 1 ∧ (v_X7_isNameAt_J23 ro uo S)) ∨ (¬ a8.toInt = 1 ∧ (∃ (r11 : Int32) (S12 : MS), vX7_breaks S (9 : Int32) x1 r11 S12 ∧ wfC S12 ∧ shy S S12 ∧ ((r11.toInt = 0 ∧ (ro = (0 : Int32) ∧ uo = S12)) ∨ (¬ r11.toInt = 0 ∧ (v_X7_isNameAt_J23 ro uo S12))))))))))
set_option maxRecDepth 100000 in
theorem ru_X7_isNameAt_J23 {ι : Type} {P Q : Int32 → MS → Prop} {U23 : MS} (i0 : ι) (K : ∀ (i : ι) (ro : Int32) (uo : MS), v_X7_isNameAt_J23 ro uo U23 → P ro uo) (h : w_X7_isNameAt_J23 Q U23) : w_X7_isNameAt_J23 (fun r u => Q r u ∧ P r u) U23 := by
  unfold w_X7_isNameAt_J23 at h ⊢
  intro y1_
  replace h := h y1_
  replace K := fun i ro uo z => K i ro uo ⟨y1_, z⟩
  exact ⟨h, K i0 _ _ ⟨rfl, rfl⟩⟩
set_option maxRecDepth 100000 in
theorem ruX7_isNameAt {S : MS} {x1 : Int32} {Q : Int32 → MS → Prop} (h : wX7_isNameAt S x1 Q) : wX7_isNameAt S x1 (fun r u => Q r u ∧ vX7_isNameAt S x1 r u) := by
  have i0 : Unit := ()
  have K : ∀ (i : Unit) (ro : Int32) (uo : MS), vX7_isNameAt S x1 ro uo → vX7_isNameAt S x1 ro uo := fun _ _ _ z => z
  unfold wX7_isNameAt at h ⊢
  obtain ⟨g2_, h⟩ := h
  refine ⟨g2_, ?_⟩
  replace K := fun i ro uo z => K i ro uo ⟨g2_, z⟩
  intro a4 ea4 
  replace h := h a4 ea4 
  replace K := fun i ro uo z => K i ro uo ⟨a4, ea4, z⟩
  obtain ⟨g3_, h⟩ := h
  refine ⟨g3_, ?_⟩
  replace K := fun i ro uo z => K i ro uo ⟨g3_, z⟩
  intro a8 ea8 
  replace h := h a8 ea8 
  replace K := fun i ro uo z => K i ro uo ⟨a8, ea8, z⟩
  refine ⟨fun c => ?_, fun c => ?_⟩
  · replace h := h.1 c
    replace K := fun i ro uo z => K i ro uo (Or.inl ⟨c, z⟩)
    exact ru_X7_isNameAt_J23 i0 K h
  · replace h := h.2 c
    replace K := fun i ro uo z => K i ro uo (Or.inr ⟨c, z⟩)
    obtain ⟨Q9, h0, h⟩ := h
    refine ⟨_, ruX7_breaks h0, ?_⟩
    intro r11 S12 q4_ y5_ y6_
    replace h := h r11 S12 q4_.1 y5_ y6_
    replace K := fun i ro uo z => K i ro uo ⟨r11, S12, q4_.2, y5_, y6_, z⟩
    refine ⟨fun c => ?_, fun c => ?_⟩
    · replace h := h.1 c
      replace K := fun i ro uo z => K i ro uo (Or.inl ⟨c, z⟩)
      exact ⟨h, K i0 _ _ ⟨rfl, rfl⟩⟩
    · replace h := h.2 c
      replace K := fun i ro uo z => K i ro uo (Or.inr ⟨c, z⟩)
      exact ru_X7_isNameAt_J23 i0 K h
set_option maxRecDepth 100000 in
theorem vw_X7_isNameAt_J23 {ro : Int32} {uo : MS} {U23 : MS} (h : v_X7_isNameAt_J23 ro uo U23) : w_X7_isNameAt_J23 (fun r u => r = ro ∧ u = uo) U23 := by
  unfold v_X7_isNameAt_J23 at h
  unfold w_X7_isNameAt_J23
  intro _
  replace h := h.2
  exact ⟨h.1.symm, h.2.symm⟩
set_option maxRecDepth 100000 in
theorem vp_X7_isNameAt_J23 {ro : Int32} {uo : MS} {P : Int32 → MS → Prop} {U23 : MS} (h : v_X7_isNameAt_J23 ro uo U23) (w : w_X7_isNameAt_J23 P U23) : P ro uo := by
  unfold v_X7_isNameAt_J23 at h
  unfold w_X7_isNameAt_J23 at w
  obtain ⟨y1_, h⟩ := h
  replace w := w y1_
  rw [h.1, h.2]
  exact w
set_option maxRecDepth 100000 in
theorem vwX7_isNameAt {S : MS} {x1 : Int32} {ro : Int32} {uo : MS} (h : vX7_isNameAt S x1 ro uo) : wX7_isNameAt S x1 (fun r u => r = ro ∧ u = uo) := by
  unfold vX7_isNameAt at h
  unfold wX7_isNameAt
  obtain ⟨g9, h⟩ := h
  refine ⟨g9, ?_⟩
  obtain ⟨v9, e9, h⟩ := h
  intro x9 d9 
  have c9 : v9 = x9 := e9.trans d9.symm
  subst c9
  obtain ⟨g9, h⟩ := h
  refine ⟨g9, ?_⟩
  obtain ⟨v9, e9, h⟩ := h
  intro x9 d9 
  have c9 : v9 = x9 := e9.trans d9.symm
  subst c9
  rcases h with ⟨c, h⟩ | ⟨c, h⟩
  · refine ⟨fun _ => ?_, fun c2 => absurd c c2⟩
    exact vw_X7_isNameAt_J23 h
  · refine ⟨fun c2 => absurd c2 c, fun _ => ?_⟩
    obtain ⟨p9, q9, z9, h⟩ := h
    refine ⟨_, vwX7_breaks z9, ?_⟩
    rintro p8 q8 ⟨d8, d9⟩ _ _
    subst d8
    subst d9
    replace h := h.2.2
    rcases h with ⟨c, h⟩ | ⟨c, h⟩
    · refine ⟨fun _ => ?_, fun c2 => absurd c c2⟩
      exact ⟨h.1.symm, h.2.symm⟩
    · refine ⟨fun c2 => absurd c2 c, fun _ => ?_⟩
      exact vw_X7_isNameAt_J23 h
set_option maxRecDepth 100000 in
theorem vpX7_isNameAt {S : MS} {x1 : Int32} {ro : Int32} {uo : MS} {P : Int32 → MS → Prop} (h : vX7_isNameAt S x1 ro uo) (w : wX7_isNameAt S x1 P) : P ro uo := by
  unfold vX7_isNameAt at h
  unfold wX7_isNameAt at w
  replace h := h.2
  replace w := w.2
  obtain ⟨v9, e9, h⟩ := h
  replace w := w v9 e9 
  replace h := h.2
  replace w := w.2
  obtain ⟨v9, e9, h⟩ := h
  replace w := w v9 e9 
  rcases h with ⟨c, h⟩ | ⟨c, h⟩
  · replace w := w.1 c
    exact vp_X7_isNameAt_J23 h w
  · replace w := w.2 c
    obtain ⟨p9, q9, z9, y2_, y3_, h⟩ := h
    obtain ⟨Q9, w0, w⟩ := w
    replace w := w p9 q9 (vpX7_breaks z9 w0) y2_ y3_
    rcases h with ⟨c, h⟩ | ⟨c, h⟩
    · replace w := w.1 c
      rw [h.1, h.2]
      exact w
    · replace w := w.2 c
      exact vp_X7_isNameAt_J23 h w
def v_X7_attributeNamesHold_L13 (ro : Int32) (uo : MS) : Nat → MS → Int32 → Int32 → Int32 → Prop
  | 0, _, _, _, _ => False
  | n13 + 1, U13, v13_2, v13_3, v13_4 => (wfC U13 ∧ ((v13_2.toInt ≤ v13_4.toInt ∧ (ro = (1 : Int32) ∧ uo = U13)) ∨ (¬ v13_2.toInt ≤ v13_4.toInt ∧ (∃ (r9 : Int32) (S10 : MS), vX7_isNameAt U13 v13_3 r9 S10 ∧ wfC S10 ∧ shy U13 S10 ∧ ((r9.toInt = 0 ∧ (ro = (0 : Int32) ∧ uo = S10)) ∨ (¬ r9.toInt = 0 ∧ (d_X7_s4 S10 (v13_3 + (2 : Int32)) ∧ (∃ a19 : Int32, a19 = (v13_3 + ((6 : Int32) + (fX7_s4 S10 (v13_3 + (2 : Int32))))) ∧ (∃ a20 : Int32, a20 = (v13_4 + Int32.ofInt 1) ∧ ((v_X7_attributeNamesHold_L13 ro uo n13) S10 v13_2 a19 a20))))))))))
def vX7_attributeNamesHold (S : MS) (x1 : Int32) (ro : Int32) (uo : MS) : Prop := (d_X7_u2 S x1 ∧ (∃ a4 : Int32, a4 = (fX7_u2 S x1) ∧ (∃ a6 : Int32, a6 = (x1 + (2 : Int32)) ∧ (∃ n, v_X7_attributeNamesHold_L13 ro uo n S a4 a6 0))))
set_option maxRecDepth 100000 in
theorem ru_X7_attributeNamesHold_L13 {ι : Type} {P Q : Int32 → MS → Prop} : ∀ (n : Nat) {U13 : MS} {v13_2 : Int32} {v13_3 : Int32} {v13_4 : Int32} (i0 : ι), (∀ (i : ι) (ro : Int32) (uo : MS), (∃ n8, v_X7_attributeNamesHold_L13 ro uo n8 U13 v13_2 v13_3 v13_4) → P ro uo) → w_X7_attributeNamesHold_L13 Q n U13 v13_2 v13_3 v13_4 → w_X7_attributeNamesHold_L13 (fun r u => Q r u ∧ P r u) n U13 v13_2 v13_3 v13_4 := by
  intro n
  induction n with
  | zero => intro U13 v13_2 v13_3 v13_4 i0 K h; unfold w_X7_attributeNamesHold_L13 at h; exact h.elim
  | succ n ih =>
    intro U13 v13_2 v13_3 v13_4 i0 K h
    unfold w_X7_attributeNamesHold_L13 at h ⊢
    replace K := fun (i : ι × Nat) ro uo (z : v_X7_attributeNamesHold_L13 ro uo (i.2 + 1) U13 v13_2 v13_3 v13_4) => K i.1 ro uo ⟨i.2 + 1, z⟩
    have i00 := i0
    replace i0 : ι × Nat := (i0, 0)
    intro y1_
    replace h := h y1_
    replace K := fun i ro uo z => K i ro uo ⟨y1_, z⟩
    refine ⟨fun c => ?_, fun c => ?_⟩
    · replace h := h.1 c
      replace K := fun i ro uo z => K i ro uo (Or.inl ⟨c, z⟩)
      exact ⟨h, K i0 _ _ ⟨rfl, rfl⟩⟩
    · replace h := h.2 c
      replace K := fun i ro uo z => K i ro uo (Or.inr ⟨c, z⟩)
      obtain ⟨Q9, h0, h⟩ := h
      refine ⟨_, ruX7_isNameAt h0, ?_⟩
      intro r9 S10 q2_ y3_ y4_
      replace h := h r9 S10 q2_.1 y3_ y4_
      replace K := fun i ro uo z => K i ro uo ⟨r9, S10, q2_.2, y3_, y4_, z⟩
      refine ⟨fun c => ?_, fun c => ?_⟩
      · replace h := h.1 c
        replace K := fun i ro uo z => K i ro uo (Or.inl ⟨c, z⟩)
        exact ⟨h, K i0 _ _ ⟨rfl, rfl⟩⟩
      · replace h := h.2 c
        replace K := fun i ro uo z => K i ro uo (Or.inr ⟨c, z⟩)
        obtain ⟨g5_, h⟩ := h
        refine ⟨g5_, ?_⟩
        replace K := fun i ro uo z => K i ro uo ⟨g5_, z⟩
        intro a19 ea19 
        replace h := h a19 ea19 
        replace K := fun i ro uo z => K i ro uo ⟨a19, ea19, z⟩
        intro a20 ea20 
        replace h := h a20 ea20 
        replace K := fun i ro uo z => K i ro uo ⟨a20, ea20, z⟩
        exact ih i00 (fun i ro uo ⟨n8, z⟩ => K (i, n8) ro uo z) h
set_option maxRecDepth 100000 in
theorem ruX7_attributeNamesHold {S : MS} {x1 : Int32} {Q : Int32 → MS → Prop} (h : wX7_attributeNamesHold S x1 Q) : wX7_attributeNamesHold S x1 (fun r u => Q r u ∧ vX7_attributeNamesHold S x1 r u) := by
  have i0 : Unit := ()
  have K : ∀ (i : Unit) (ro : Int32) (uo : MS), vX7_attributeNamesHold S x1 ro uo → vX7_attributeNamesHold S x1 ro uo := fun _ _ _ z => z
  unfold wX7_attributeNamesHold at h ⊢
  obtain ⟨g6_, h⟩ := h
  refine ⟨g6_, ?_⟩
  replace K := fun i ro uo z => K i ro uo ⟨g6_, z⟩
  intro a4 ea4 
  replace h := h a4 ea4 
  replace K := fun i ro uo z => K i ro uo ⟨a4, ea4, z⟩
  intro a6 ea6 
  replace h := h a6 ea6 
  replace K := fun i ro uo z => K i ro uo ⟨a6, ea6, z⟩
  obtain ⟨n9, h⟩ := h
  exact ⟨n9, ru_X7_attributeNamesHold_L13 n9 i0 K h⟩
set_option maxRecDepth 100000 in
theorem vw_X7_attributeNamesHold_L13 {ro : Int32} {uo : MS} : ∀ (n : Nat) {U13 : MS} {v13_2 : Int32} {v13_3 : Int32} {v13_4 : Int32}, v_X7_attributeNamesHold_L13 ro uo n U13 v13_2 v13_3 v13_4 → w_X7_attributeNamesHold_L13 (fun r u => r = ro ∧ u = uo) n U13 v13_2 v13_3 v13_4 := by
  intro n
  induction n with
  | zero => intro U13 v13_2 v13_3 v13_4 h; unfold v_X7_attributeNamesHold_L13 at h; exact h.elim
  | succ n ih =>
    intro U13 v13_2 v13_3 v13_4 h
    unfold v_X7_attributeNamesHold_L13 at h
    unfold w_X7_attributeNamesHold_L13
    intro _
    replace h := h.2
    rcases h with ⟨c, h⟩ | ⟨c, h⟩
    · refine ⟨fun _ => ?_, fun c2 => absurd c c2⟩
      exact ⟨h.1.symm, h.2.symm⟩
    · refine ⟨fun c2 => absurd c2 c, fun _ => ?_⟩
      obtain ⟨p9, q9, z9, h⟩ := h
      refine ⟨_, vwX7_isNameAt z9, ?_⟩
      rintro p8 q8 ⟨d8, d9⟩ _ _
      subst d8
      subst d9
      replace h := h.2.2
      rcases h with ⟨c, h⟩ | ⟨c, h⟩
      · refine ⟨fun _ => ?_, fun c2 => absurd c c2⟩
        exact ⟨h.1.symm, h.2.symm⟩
      · refine ⟨fun c2 => absurd c2 c, fun _ => ?_⟩
        obtain ⟨g9, h⟩ := h
        refine ⟨g9, ?_⟩
        obtain ⟨v9, e9, h⟩ := h
        intro x9 d9 
        have c9 : v9 = x9 := e9.trans d9.symm
        subst c9
        obtain ⟨v9, e9, h⟩ := h
        intro x9 d9 
        have c9 : v9 = x9 := e9.trans d9.symm
        subst c9
        exact ih h
set_option maxRecDepth 100000 in
theorem vp_X7_attributeNamesHold_L13 {ro : Int32} {uo : MS} {P : Int32 → MS → Prop} : ∀ (n m : Nat) {U13 : MS} {v13_2 : Int32} {v13_3 : Int32} {v13_4 : Int32}, v_X7_attributeNamesHold_L13 ro uo n U13 v13_2 v13_3 v13_4 → w_X7_attributeNamesHold_L13 P m U13 v13_2 v13_3 v13_4 → P ro uo := by
  intro n
  induction n with
  | zero => intro m U13 v13_2 v13_3 v13_4 h; unfold v_X7_attributeNamesHold_L13 at h; exact h.elim
  | succ n ih =>
    intro m U13 v13_2 v13_3 v13_4 h w
    cases m with
    | zero => unfold w_X7_attributeNamesHold_L13 at w; exact w.elim
    | succ m =>
      unfold v_X7_attributeNamesHold_L13 at h
      unfold w_X7_attributeNamesHold_L13 at w
      obtain ⟨y1_, h⟩ := h
      replace w := w y1_
      rcases h with ⟨c, h⟩ | ⟨c, h⟩
      · replace w := w.1 c
        rw [h.1, h.2]
        exact w
      · replace w := w.2 c
        obtain ⟨p9, q9, z9, y2_, y3_, h⟩ := h
        obtain ⟨Q9, w0, w⟩ := w
        replace w := w p9 q9 (vpX7_isNameAt z9 w0) y2_ y3_
        rcases h with ⟨c, h⟩ | ⟨c, h⟩
        · replace w := w.1 c
          rw [h.1, h.2]
          exact w
        · replace w := w.2 c
          replace h := h.2
          replace w := w.2
          obtain ⟨v9, e9, h⟩ := h
          replace w := w v9 e9 
          obtain ⟨v9, e9, h⟩ := h
          replace w := w v9 e9 
          exact ih m h w
set_option maxRecDepth 100000 in
theorem vwX7_attributeNamesHold {S : MS} {x1 : Int32} {ro : Int32} {uo : MS} (h : vX7_attributeNamesHold S x1 ro uo) : wX7_attributeNamesHold S x1 (fun r u => r = ro ∧ u = uo) := by
  unfold vX7_attributeNamesHold at h
  unfold wX7_attributeNamesHold
  obtain ⟨g9, h⟩ := h
  refine ⟨g9, ?_⟩
  obtain ⟨v9, e9, h⟩ := h
  intro x9 d9 
  have c9 : v9 = x9 := e9.trans d9.symm
  subst c9
  obtain ⟨v9, e9, h⟩ := h
  intro x9 d9 
  have c9 : v9 = x9 := e9.trans d9.symm
  subst c9
  obtain ⟨n9, h⟩ := h
  exact ⟨n9, vw_X7_attributeNamesHold_L13 n9 h⟩
set_option maxRecDepth 100000 in
theorem vpX7_attributeNamesHold {S : MS} {x1 : Int32} {ro : Int32} {uo : MS} {P : Int32 → MS → Prop} (h : vX7_attributeNamesHold S x1 ro uo) (w : wX7_attributeNamesHold S x1 P) : P ro uo := by
  unfold vX7_attributeNamesHold at h
  unfold wX7_attributeNamesHold at w
  replace h := h.2
  replace w := w.2
  obtain ⟨v9, e9, h⟩ := h
  replace w := w v9 e9 
  obtain ⟨v9, e9, h⟩ := h
  replace w := w v9 e9 
  obtain ⟨n9, h⟩ := h
  obtain ⟨n8, w⟩ := w
  exact vp_X7_attributeNamesHold_L13 n9 n8 h w
def v_X7_isMethodType_J179 (ro : Int32) (uo : MS) (U179 : MS) (t179_0 : Int32) (t179_1 : Int32) (v179_2 : Int32) : Prop := (wfC U179 ∧ (((t179_1 + t179_0).toInt = v179_2.toInt ∧ (ro = (1 : Int32) ∧ uo = U179)) ∨ (¬ (t179_1 + t179_0).toInt = v179_2.toInt ∧ (ro = (0 : Int32) ∧ uo = U179))))
def v_X7_isMethodType_J165 (ro : Int32) (uo : MS) (U165 : MS) (v165_2 : Int32) (v165_3 : Int32) : Prop := (wfC U165 ∧ (((qI U165 9 14).toInt = 3 ∧ (v_X7_isMethodType_J179 ro uo U165 2 v165_3 v165_2)) ∨ (¬ (qI U165 9 14).toInt = 3 ∧ (v_X7_isMethodType_J179 ro uo U165 1 v165_3 v165_2))))
def v_X7_isMethodType_J112 (ro : Int32) (uo : MS) (U112 : MS) (v112_1 : Int32) (v112_2 : Int32) (v112_3 : Int32) : Prop := (wfC U112 ∧ ((v112_2.toInt ≤ (v112_3 + (1 : Int32)).toInt ∧ (ro = (0 : Int32) ∧ uo = U112)) ∨ (¬ v112_2.toInt ≤ (v112_3 + (1 : Int32)).toInt ∧ (d_X7_nameSign U112 v112_1 v112_3 ∧ (((fX7_nameSign U112 v112_1 v112_3).toInt = 41 ∧ (∃ a22 : Int32, a22 = (v112_3 + Int32.ofInt 1) ∧ (d_X7_kindOfPart U112 v112_1 a22 ∧ (∃ S26 : MS, S26 = wI U112 9 14 (fX7_kindOfPart U112 v112_1 a22) ∧ qT U112 9 = 46 ∧ wfC S26 ∧ (((qI S26 9 14).toInt = 0 ∧ (d_X7_nameSign S26 v112_1 a22 ∧ (((fX7_nameSign S26 v112_1 a22).toInt = 86 ∧ (v_X7_isMethodType_J165 ro uo S26 v112_2 a22)) ∨ (¬ (fX7_nameSign S26 v112_1 a22).toInt = 86 ∧ (ro = (0 : Int32) ∧ uo = S26))))) ∨ (¬ (qI S26 9 14).toInt = 0 ∧ (v_X7_isMethodType_J165 ro uo S26 v112_2 a22))))))) ∨ (¬ (fX7_nameSign U112 v112_1 v112_3).toInt = 41 ∧ (ro = (0 : Int32) ∧ uo = U112)))))))
def v_X7_isMethodType_J99 (ro : Int32) (uo : MS) (k44 : MS → Int32 → Int32 → Int32 → Int32 → Prop) (U99 : MS) (t99_0 : Int32) (t99_1 : Int32) (v99_1 : Int32) (v99_2 : Int32) : Prop := (wfC U99 ∧ (∃ a43 : Int32, a43 = (t99_1 + t99_0) ∧ (d_X7_kindOfPart U99 v99_1 a43 ∧ (∃ a47 : Int32, a47 = (fX7_kindOfPart U99 v99_1 a43) ∧ (k44 U99 v99_1 v99_2 a43 a47)))))
def v_X7_isMethodType_J83 (ro : Int32) (uo : MS) (k44 : MS → Int32 → Int32 → Int32 → Int32 → Prop) (U83 : MS) (t83_0 : Int32) (t83_1 : Int32) (v83_1 : Int32) (v83_2 : Int32) (v83_3 : Int32) (v83_4 : Int32) : Prop := (wfC U83 ∧ (∃ S41 : MS, S41 = wI U83 9 13 (t83_1 + t83_0) ∧ qT U83 9 = 46 ∧ wfC S41 ∧ ((v83_4.toInt = 3 ∧ (v_X7_isMethodType_J99 ro uo k44 S41 2 v83_3 v83_1 v83_2)) ∨ (¬ v83_4.toInt = 3 ∧ (v_X7_isMethodType_J99 ro uo k44 S41 1 v83_3 v83_1 v83_2)))))
def v_X7_isMethodType_L44 (ro : Int32) (uo : MS) : Nat → MS → Int32 → Int32 → Int32 → Int32 → Prop
  | 0, _, _, _, _, _ => False
  | n44 + 1, U44, v44_1, v44_2, v44_3, v44_4 => (wfC U44 ∧ ((v44_4.toInt = 0 ∧ (v_X7_isMethodType_J112 ro uo U44 v44_1 v44_2 v44_3)) ∨ (¬ v44_4.toInt = 0 ∧ ((v44_2.toInt ≤ v44_3.toInt ∧ (v_X7_isMethodType_J112 ro uo U44 v44_1 v44_2 v44_3)) ∨ (¬ v44_2.toInt ≤ v44_3.toInt ∧ (∃ S39 : MS, S39 = wI U44 9 12 (((qI U44 9 12) <<< ((4 : Int32) &&& 31)) ||| v44_4) ∧ qT U44 9 = 46 ∧ wfC S39 ∧ ((v44_4.toInt = 2 ∧ (v_X7_isMethodType_J83 ro uo (v_X7_isMethodType_L44 ro uo n44) S39 2 (qI S39 9 13) v44_1 v44_2 v44_3 v44_4)) ∨ (¬ v44_4.toInt = 2 ∧ (v_X7_isMethodType_J83 ro uo (v_X7_isMethodType_L44 ro uo n44) S39 1 (qI S39 9 13) v44_1 v44_2 v44_3 v44_4)))))))))
def vX7_isMethodType (S : MS) (x1 : Int32) (ro : Int32) (uo : MS) : Prop := (∃ S1 : MS, S1 = wI S 9 12 (0 : Int32) ∧ qT S 9 = 46 ∧ wfC S1 ∧ (∃ S2 : MS, S2 = wI S1 9 13 (0 : Int32) ∧ qT S1 9 = 46 ∧ wfC S2 ∧ (∃ S3 : MS, S3 = wI S2 9 14 (0 : Int32) ∧ qT S2 9 = 46 ∧ wfC S3 ∧ (d_X7_nameLength S3 x1 ∧ (∃ a7 : Int32, a7 = (fX7_nameLength S3 x1) ∧ (d_X7_nameSign S3 x1 (0 : Int32) ∧ (((fX7_nameSign S3 x1 (0 : Int32)).toInt = 40 ∧ (d_X7_kindOfPart S3 x1 (1 : Int32) ∧ (∃ a15 : Int32, a15 = (fX7_kindOfPart S3 x1 (1 : Int32)) ∧ (∃ n, v_X7_isMethodType_L44 ro uo n S3 x1 a7 1 a15)))) ∨ (¬ (fX7_nameSign S3 x1 (0 : Int32)).toInt = 40 ∧ (ro = (0 : Int32) ∧ uo = S3)))))))))
set_option maxRecDepth 100000 in
theorem ru_X7_isMethodType_J179 {ι : Type} {P Q : Int32 → MS → Prop} {U179 : MS} {t179_0 : Int32} {t179_1 : Int32} {v179_2 : Int32} (i0 : ι) (K : ∀ (i : ι) (ro : Int32) (uo : MS), v_X7_isMethodType_J179 ro uo U179 t179_0 t179_1 v179_2 → P ro uo) (h : w_X7_isMethodType_J179 Q U179 t179_0 t179_1 v179_2) : w_X7_isMethodType_J179 (fun r u => Q r u ∧ P r u) U179 t179_0 t179_1 v179_2 := by
  unfold w_X7_isMethodType_J179 at h ⊢
  intro y1_
  replace h := h y1_
  replace K := fun i ro uo z => K i ro uo ⟨y1_, z⟩
  refine ⟨fun c => ?_, fun c => ?_⟩
  · replace h := h.1 c
    replace K := fun i ro uo z => K i ro uo (Or.inl ⟨c, z⟩)
    exact ⟨h, K i0 _ _ ⟨rfl, rfl⟩⟩
  · replace h := h.2 c
    replace K := fun i ro uo z => K i ro uo (Or.inr ⟨c, z⟩)
    exact ⟨h, K i0 _ _ ⟨rfl, rfl⟩⟩
set_option maxRecDepth 100000 in
theorem ru_X7_isMethodType_J165 {ι : Type} {P Q : Int32 → MS → Prop} {U165 : MS} {v165_2 : Int32} {v165_3 : Int32} (i0 : ι) (K : ∀ (i : ι) (ro : Int32) (uo : MS), v_X7_isMethodType_J165 ro uo U165 v165_2 v165_3 → P ro uo) (h : w_X7_isMethodType_J165 Q U165 v165_2 v165_3) : w_X7_isMethodType_J165 (fun r u => Q r u ∧ P r u) U165 v165_2 v165_3 := by
  unfold w_X7_isMethodType_J165 at h ⊢
  intro y2_
  replace h := h y2_
  replace K := fun i ro uo z => K i ro uo ⟨y2_, z⟩
  refine ⟨fun c => ?_, fun c => ?_⟩
  · replace h := h.1 c
    replace K := fun i ro uo z => K i ro uo (Or.inl ⟨c, z⟩)
    exact ru_X7_isMethodType_J179 i0 K h
  · replace h := h.2 c
    replace K := fun i ro uo z => K i ro uo (Or.inr ⟨c, z⟩)
    exact ru_X7_isMethodType_J179 i0 K h
set_option maxRecDepth 100000 in
theorem ru_X7_isMethodType_J112 {ι : Type} {P Q : Int32 → MS → Prop} {U112 : MS} {v112_1 : Int32} {v112_2 : Int32} {v112_3 : Int32} (i0 : ι) (K : ∀ (i : ι) (ro : Int32) (uo : MS), v_X7_isMethodType_J112 ro uo U112 v112_1 v112_2 v112_3 → P ro uo) (h : w_X7_isMethodType_J112 Q U112 v112_1 v112_2 v112_3) : w_X7_isMethodType_J112 (fun r u => Q r u ∧ P r u) U112 v112_1 v112_2 v112_3 := by
  unfold w_X7_isMethodType_J112 at h ⊢
  intro y3_
  replace h := h y3_
  replace K := fun i ro uo z => K i ro uo ⟨y3_, z⟩
  refine ⟨fun c => ?_, fun c => ?_⟩
  · replace h := h.1 c
    replace K := fun i ro uo z => K i ro uo (Or.inl ⟨c, z⟩)
    exact ⟨h, K i0 _ _ ⟨rfl, rfl⟩⟩
  · replace h := h.2 c
    replace K := fun i ro uo z => K i ro uo (Or.inr ⟨c, z⟩)
    obtain ⟨g4_, h⟩ := h
    refine ⟨g4_, ?_⟩
    replace K := fun i ro uo z => K i ro uo ⟨g4_, z⟩
    refine ⟨fun c => ?_, fun c => ?_⟩
    · replace h := h.1 c
      replace K := fun i ro uo z => K i ro uo (Or.inl ⟨c, z⟩)
      intro a22 ea22 
      replace h := h a22 ea22 
      replace K := fun i ro uo z => K i ro uo ⟨a22, ea22, z⟩
      obtain ⟨g5_, h⟩ := h
      refine ⟨g5_, ?_⟩
      replace K := fun i ro uo z => K i ro uo ⟨g5_, z⟩
      intro S26 eS26 y6_ y7_
      replace h := h S26 eS26 y6_ y7_
      replace K := fun i ro uo z => K i ro uo ⟨S26, eS26, y6_, y7_, z⟩
      refine ⟨fun c => ?_, fun c => ?_⟩
      · replace h := h.1 c
        replace K := fun i ro uo z => K i ro uo (Or.inl ⟨c, z⟩)
        obtain ⟨g8_, h⟩ := h
        refine ⟨g8_, ?_⟩
        replace K := fun i ro uo z => K i ro uo ⟨g8_, z⟩
        refine ⟨fun c => ?_, fun c => ?_⟩
        · replace h := h.1 c
          replace K := fun i ro uo z => K i ro uo (Or.inl ⟨c, z⟩)
          exact ru_X7_isMethodType_J165 i0 K h
        · replace h := h.2 c
          replace K := fun i ro uo z => K i ro uo (Or.inr ⟨c, z⟩)
          exact ⟨h, K i0 _ _ ⟨rfl, rfl⟩⟩
      · replace h := h.2 c
        replace K := fun i ro uo z => K i ro uo (Or.inr ⟨c, z⟩)
        exact ru_X7_isMethodType_J165 i0 K h
    · replace h := h.2 c
      replace K := fun i ro uo z => K i ro uo (Or.inr ⟨c, z⟩)
      exact ⟨h, K i0 _ _ ⟨rfl, rfl⟩⟩
set_option maxRecDepth 100000 in
theorem ru_X7_isMethodType_J99 {ι : Type} {P Q : Int32 → MS → Prop} {k44 k44' : MS → Int32 → Int32 → Int32 → Int32 → Prop} {k44v : ι → Int32 → MS → MS → Int32 → Int32 → Int32 → Int32 → Prop} {U99 : MS} {t99_0 : Int32} {t99_1 : Int32} {v99_1 : Int32} {v99_2 : Int32} (i0 : ι) (hk44 : ∀ (u : MS) (z0 : Int32) (z1 : Int32) (z2 : Int32) (z3 : Int32), k44 u z0 z1 z2 z3 → (∀ (i : ι) (ro : Int32) (uo : MS), k44v i ro uo u z0 z1 z2 z3 → P ro uo) → k44' u z0 z1 z2 z3) (K : ∀ (i : ι) (ro : Int32) (uo : MS), v_X7_isMethodType_J99 ro uo (k44v i ro uo) U99 t99_0 t99_1 v99_1 v99_2 → P ro uo) (h : w_X7_isMethodType_J99 Q k44 U99 t99_0 t99_1 v99_1 v99_2) : w_X7_isMethodType_J99 (fun r u => Q r u ∧ P r u) k44' U99 t99_0 t99_1 v99_1 v99_2 := by
  unfold w_X7_isMethodType_J99 at h ⊢
  intro y9_
  replace h := h y9_
  replace K := fun i ro uo z => K i ro uo ⟨y9_, z⟩
  intro a43 ea43 
  replace h := h a43 ea43 
  replace K := fun i ro uo z => K i ro uo ⟨a43, ea43, z⟩
  obtain ⟨g10_, h⟩ := h
  refine ⟨g10_, ?_⟩
  replace K := fun i ro uo z => K i ro uo ⟨g10_, z⟩
  intro a47 ea47 
  replace h := h a47 ea47 
  replace K := fun i ro uo z => K i ro uo ⟨a47, ea47, z⟩
  exact hk44 _ _ _ _ _ h K
set_option maxRecDepth 100000 in
theorem ru_X7_isMethodType_J83 {ι : Type} {P Q : Int32 → MS → Prop} {k44 k44' : MS → Int32 → Int32 → Int32 → Int32 → Prop} {k44v : ι → Int32 → MS → MS → Int32 → Int32 → Int32 → Int32 → Prop} {U83 : MS} {t83_0 : Int32} {t83_1 : Int32} {v83_1 : Int32} {v83_2 : Int32} {v83_3 : Int32} {v83_4 : Int32} (i0 : ι) (hk44 : ∀ (u : MS) (z0 : Int32) (z1 : Int32) (z2 : Int32) (z3 : Int32), k44 u z0 z1 z2 z3 → (∀ (i : ι) (ro : Int32) (uo : MS), k44v i ro uo u z0 z1 z2 z3 → P ro uo) → k44' u z0 z1 z2 z3) (K : ∀ (i : ι) (ro : Int32) (uo : MS), v_X7_isMethodType_J83 ro uo (k44v i ro uo) U83 t83_0 t83_1 v83_1 v83_2 v83_3 v83_4 → P ro uo) (h : w_X7_isMethodType_J83 Q k44 U83 t83_0 t83_1 v83_1 v83_2 v83_3 v83_4) : w_X7_isMethodType_J83 (fun r u => Q r u ∧ P r u) k44' U83 t83_0 t83_1 v83_1 v83_2 v83_3 v83_4 := by
  unfold w_X7_isMethodType_J83 at h ⊢
  intro y11_
  replace h := h y11_
  replace K := fun i ro uo z => K i ro uo ⟨y11_, z⟩
  intro S41 eS41 y12_ y13_
  replace h := h S41 eS41 y12_ y13_
  replace K := fun i ro uo z => K i ro uo ⟨S41, eS41, y12_, y13_, z⟩
  refine ⟨fun c => ?_, fun c => ?_⟩
  · replace h := h.1 c
    replace K := fun i ro uo z => K i ro uo (Or.inl ⟨c, z⟩)
    exact ru_X7_isMethodType_J99 i0 hk44 K h
  · replace h := h.2 c
    replace K := fun i ro uo z => K i ro uo (Or.inr ⟨c, z⟩)
    exact ru_X7_isMethodType_J99 i0 hk44 K h
set_option maxRecDepth 100000 in
theorem ru_X7_isMethodType_L44 {ι : Type} {P Q : Int32 → MS → Prop} : ∀ (n : Nat) {U44 : MS} {v44_1 : Int32} {v44_2 : Int32} {v44_3 : Int32} {v44_4 : Int32} (i0 : ι), (∀ (i : ι) (ro : Int32) (uo : MS), (∃ n8, v_X7_isMethodType_L44 ro uo n8 U44 v44_1 v44_2 v44_3 v44_4) → P ro uo) → w_X7_isMethodType_L44 Q n U44 v44_1 v44_2 v44_3 v44_4 → w_X7_isMethodType_L44 (fun r u => Q r u ∧ P r u) n U44 v44_1 v44_2 v44_3 v44_4 := by
  intro n
  induction n with
  | zero => intro U44 v44_1 v44_2 v44_3 v44_4 i0 K h; unfold w_X7_isMethodType_L44 at h; exact h.elim
  | succ n ih =>
    intro U44 v44_1 v44_2 v44_3 v44_4 i0 K h
    unfold w_X7_isMethodType_L44 at h ⊢
    replace K := fun (i : ι × Nat) ro uo (z : v_X7_isMethodType_L44 ro uo (i.2 + 1) U44 v44_1 v44_2 v44_3 v44_4) => K i.1 ro uo ⟨i.2 + 1, z⟩
    have i00 := i0
    replace i0 : ι × Nat := (i0, 0)
    intro y14_
    replace h := h y14_
    replace K := fun i ro uo z => K i ro uo ⟨y14_, z⟩
    refine ⟨fun c => ?_, fun c => ?_⟩
    · replace h := h.1 c
      replace K := fun i ro uo z => K i ro uo (Or.inl ⟨c, z⟩)
      exact ru_X7_isMethodType_J112 i0 K h
    · replace h := h.2 c
      replace K := fun i ro uo z => K i ro uo (Or.inr ⟨c, z⟩)
      refine ⟨fun c => ?_, fun c => ?_⟩
      · replace h := h.1 c
        replace K := fun i ro uo z => K i ro uo (Or.inl ⟨c, z⟩)
        exact ru_X7_isMethodType_J112 i0 K h
      · replace h := h.2 c
        replace K := fun i ro uo z => K i ro uo (Or.inr ⟨c, z⟩)
        intro S39 eS39 y15_ y16_
        replace h := h S39 eS39 y15_ y16_
        replace K := fun i ro uo z => K i ro uo ⟨S39, eS39, y15_, y16_, z⟩
        refine ⟨fun c => ?_, fun c => ?_⟩
        · replace h := h.1 c
          replace K := fun i ro uo z => K i ro uo (Or.inl ⟨c, z⟩)
          exact ru_X7_isMethodType_J83 i0 (fun _ _ _ _ _ h K => ih i00 (fun i ro uo ⟨n8, z⟩ => K (i, n8) ro uo z) h) K h
        · replace h := h.2 c
          replace K := fun i ro uo z => K i ro uo (Or.inr ⟨c, z⟩)
          exact ru_X7_isMethodType_J83 i0 (fun _ _ _ _ _ h K => ih i00 (fun i ro uo ⟨n8, z⟩ => K (i, n8) ro uo z) h) K h
set_option maxRecDepth 100000 in
theorem ruX7_isMethodType {S : MS} {x1 : Int32} {Q : Int32 → MS → Prop} (h : wX7_isMethodType S x1 Q) : wX7_isMethodType S x1 (fun r u => Q r u ∧ vX7_isMethodType S x1 r u) := by
  have i0 : Unit := ()
  have K : ∀ (i : Unit) (ro : Int32) (uo : MS), vX7_isMethodType S x1 ro uo → vX7_isMethodType S x1 ro uo := fun _ _ _ z => z
  unfold wX7_isMethodType at h ⊢
  intro S1 eS1 y17_ y18_
  replace h := h S1 eS1 y17_ y18_
  replace K := fun i ro uo z => K i ro uo ⟨S1, eS1, y17_, y18_, z⟩
  intro S2 eS2 y19_ y20_
  replace h := h S2 eS2 y19_ y20_
  replace K := fun i ro uo z => K i ro uo ⟨S2, eS2, y19_, y20_, z⟩
  intro S3 eS3 y21_ y22_
  replace h := h S3 eS3 y21_ y22_
  replace K := fun i ro uo z => K i ro uo ⟨S3, eS3, y21_, y22_, z⟩
  obtain ⟨g23_, h⟩ := h
  refine ⟨g23_, ?_⟩
  replace K := fun i ro uo z => K i ro uo ⟨g23_, z⟩
  intro a7 ea7 
  replace h := h a7 ea7 
  replace K := fun i ro uo z => K i ro uo ⟨a7, ea7, z⟩
  obtain ⟨g24_, h⟩ := h
  refine ⟨g24_, ?_⟩
  replace K := fun i ro uo z => K i ro uo ⟨g24_, z⟩
  refine ⟨fun c => ?_, fun c => ?_⟩
  · replace h := h.1 c
    replace K := fun i ro uo z => K i ro uo (Or.inl ⟨c, z⟩)
    obtain ⟨g25_, h⟩ := h
    refine ⟨g25_, ?_⟩
    replace K := fun i ro uo z => K i ro uo ⟨g25_, z⟩
    intro a15 ea15 
    replace h := h a15 ea15 
    replace K := fun i ro uo z => K i ro uo ⟨a15, ea15, z⟩
    obtain ⟨n9, h⟩ := h
    exact ⟨n9, ru_X7_isMethodType_L44 n9 i0 K h⟩
  · replace h := h.2 c
    replace K := fun i ro uo z => K i ro uo (Or.inr ⟨c, z⟩)
    exact ⟨h, K i0 _ _ ⟨rfl, rfl⟩⟩
set_option maxRecDepth 100000 in
theorem vw_X7_isMethodType_J179 {ro : Int32} {uo : MS} {U179 : MS} {t179_0 : Int32} {t179_1 : Int32} {v179_2 : Int32} (h : v_X7_isMethodType_J179 ro uo U179 t179_0 t179_1 v179_2) : w_X7_isMethodType_J179 (fun r u => r = ro ∧ u = uo) U179 t179_0 t179_1 v179_2 := by
  unfold v_X7_isMethodType_J179 at h
  unfold w_X7_isMethodType_J179
  intro _
  replace h := h.2
  rcases h with ⟨c, h⟩ | ⟨c, h⟩
  · refine ⟨fun _ => ?_, fun c2 => absurd c c2⟩
    exact ⟨h.1.symm, h.2.symm⟩
  · refine ⟨fun c2 => absurd c2 c, fun _ => ?_⟩
    exact ⟨h.1.symm, h.2.symm⟩
set_option maxRecDepth 100000 in
theorem vp_X7_isMethodType_J179 {ro : Int32} {uo : MS} {P : Int32 → MS → Prop} {U179 : MS} {t179_0 : Int32} {t179_1 : Int32} {v179_2 : Int32} (h : v_X7_isMethodType_J179 ro uo U179 t179_0 t179_1 v179_2) (w : w_X7_isMethodType_J179 P U179 t179_0 t179_1 v179_2) : P ro uo := by
  unfold v_X7_isMethodType_J179 at h
  unfold w_X7_isMethodType_J179 at w
  obtain ⟨y1_, h⟩ := h
  replace w := w y1_
  rcases h with ⟨c, h⟩ | ⟨c, h⟩
  · replace w := w.1 c
    rw [h.1, h.2]
    exact w
  · replace w := w.2 c
    rw [h.1, h.2]
    exact w
set_option maxRecDepth 100000 in
theorem vw_X7_isMethodType_J165 {ro : Int32} {uo : MS} {U165 : MS} {v165_2 : Int32} {v165_3 : Int32} (h : v_X7_isMethodType_J165 ro uo U165 v165_2 v165_3) : w_X7_isMethodType_J165 (fun r u => r = ro ∧ u = uo) U165 v165_2 v165_3 := by
  unfold v_X7_isMethodType_J165 at h
  unfold w_X7_isMethodType_J165
  intro _
  replace h := h.2
  rcases h with ⟨c, h⟩ | ⟨c, h⟩
  · refine ⟨fun _ => ?_, fun c2 => absurd c c2⟩
    exact vw_X7_isMethodType_J179 h
  · refine ⟨fun c2 => absurd c2 c, fun _ => ?_⟩
    exact vw_X7_isMethodType_J179 h
set_option maxRecDepth 100000 in
theorem vp_X7_isMethodType_J165 {ro : Int32} {uo : MS} {P : Int32 → MS → Prop} {U165 : MS} {v165_2 : Int32} {v165_3 : Int32} (h : v_X7_isMethodType_J165 ro uo U165 v165_2 v165_3) (w : w_X7_isMethodType_J165 P U165 v165_2 v165_3) : P ro uo := by
  unfold v_X7_isMethodType_J165 at h
  unfold w_X7_isMethodType_J165 at w
  obtain ⟨y2_, h⟩ := h
  replace w := w y2_
  rcases h with ⟨c, h⟩ | ⟨c, h⟩
  · replace w := w.1 c
    exact vp_X7_isMethodType_J179 h w
  · replace w := w.2 c
    exact vp_X7_isMethodType_J179 h w
set_option maxRecDepth 100000 in
theorem vw_X7_isMethodType_J112 {ro : Int32} {uo : MS} {U112 : MS} {v112_1 : Int32} {v112_2 : Int32} {v112_3 : Int32} (h : v_X7_isMethodType_J112 ro uo U112 v112_1 v112_2 v112_3) : w_X7_isMethodType_J112 (fun r u => r = ro ∧ u = uo) U112 v112_1 v112_2 v112_3 := by
  unfold v_X7_isMethodType_J112 at h
  unfold w_X7_isMethodType_J112
  intro _
  replace h := h.2
  rcases h with ⟨c, h⟩ | ⟨c, h⟩
  · refine ⟨fun _ => ?_, fun c2 => absurd c c2⟩
    exact ⟨h.1.symm, h.2.symm⟩
  · refine ⟨fun c2 => absurd c2 c, fun _ => ?_⟩
    obtain ⟨g9, h⟩ := h
    refine ⟨g9, ?_⟩
    rcases h with ⟨c, h⟩ | ⟨c, h⟩
    · refine ⟨fun _ => ?_, fun c2 => absurd c c2⟩
      obtain ⟨v9, e9, h⟩ := h
      intro x9 d9 
      have c9 : v9 = x9 := e9.trans d9.symm
      subst c9
      obtain ⟨g9, h⟩ := h
      refine ⟨g9, ?_⟩
      obtain ⟨v9, e9, h⟩ := h
      intro x9 d9 _ _
      have c9 : v9 = x9 := e9.trans d9.symm
      subst c9
      replace h := h.2.2
      rcases h with ⟨c, h⟩ | ⟨c, h⟩
      · refine ⟨fun _ => ?_, fun c2 => absurd c c2⟩
        obtain ⟨g9, h⟩ := h
        refine ⟨g9, ?_⟩
        rcases h with ⟨c, h⟩ | ⟨c, h⟩
        · refine ⟨fun _ => ?_, fun c2 => absurd c c2⟩
          exact vw_X7_isMethodType_J165 h
        · refine ⟨fun c2 => absurd c2 c, fun _ => ?_⟩
          exact ⟨h.1.symm, h.2.symm⟩
      · refine ⟨fun c2 => absurd c2 c, fun _ => ?_⟩
        exact vw_X7_isMethodType_J165 h
    · refine ⟨fun c2 => absurd c2 c, fun _ => ?_⟩
      exact ⟨h.1.symm, h.2.symm⟩
set_option maxRecDepth 100000 in
theorem vp_X7_isMethodType_J112 {ro : Int32} {uo : MS} {P : Int32 → MS → Prop} {U112 : MS} {v112_1 : Int32} {v112_2 : Int32} {v112_3 : Int32} (h : v_X7_isMethodType_J112 ro uo U112 v112_1 v112_2 v112_3) (w : w_X7_isMethodType_J112 P U112 v112_1 v112_2 v112_3) : P ro uo := by
  unfold v_X7_isMethodType_J112 at h
  unfold w_X7_isMethodType_J112 at w
  obtain ⟨y3_, h⟩ := h
  replace w := w y3_
  rcases h with ⟨c, h⟩ | ⟨c, h⟩
  · replace w := w.1 c
    rw [h.1, h.2]
    exact w
  · replace w := w.2 c
    replace h := h.2
    replace w := w.2
    rcases h with ⟨c, h⟩ | ⟨c, h⟩
    · replace w := w.1 c
      obtain ⟨v9, e9, h⟩ := h
      replace w := w v9 e9 
      replace h := h.2
      replace w := w.2
      obtain ⟨v9, e9, y4_, y5_, h⟩ := h
      replace w := w v9 e9 y4_ y5_
      rcases h with ⟨c, h⟩ | ⟨c, h⟩
      · replace w := w.1 c
        replace h := h.2
        replace w := w.2
        rcases h with ⟨c, h⟩ | ⟨c, h⟩
        · replace w := w.1 c
          exact vp_X7_isMethodType_J165 h w
        · replace w := w.2 c
          rw [h.1, h.2]
          exact w
      · replace w := w.2 c
        exact vp_X7_isMethodType_J165 h w
    · replace w := w.2 c
      rw [h.1, h.2]
      exact w
set_option maxRecDepth 100000 in
theorem vw_X7_isMethodType_J99 {ro : Int32} {uo : MS} {k44 k44v : MS → Int32 → Int32 → Int32 → Int32 → Prop} {U99 : MS} {t99_0 : Int32} {t99_1 : Int32} {v99_1 : Int32} {v99_2 : Int32} (hk44 : ∀ (u : MS) (z0 : Int32) (z1 : Int32) (z2 : Int32) (z3 : Int32), k44v u z0 z1 z2 z3 → k44 u z0 z1 z2 z3) (h : v_X7_isMethodType_J99 ro uo k44v U99 t99_0 t99_1 v99_1 v99_2) : w_X7_isMethodType_J99 (fun r u => r = ro ∧ u = uo) k44 U99 t99_0 t99_1 v99_1 v99_2 := by
  unfold v_X7_isMethodType_J99 at h
  unfold w_X7_isMethodType_J99
  intro _
  replace h := h.2
  obtain ⟨v9, e9, h⟩ := h
  intro x9 d9 
  have c9 : v9 = x9 := e9.trans d9.symm
  subst c9
  obtain ⟨g9, h⟩ := h
  refine ⟨g9, ?_⟩
  obtain ⟨v9, e9, h⟩ := h
  intro x9 d9 
  have c9 : v9 = x9 := e9.trans d9.symm
  subst c9
  exact hk44 _ _ _ _ _ h
set_option maxRecDepth 100000 in
theorem vp_X7_isMethodType_J99 {ro : Int32} {uo : MS} {P : Int32 → MS → Prop} {k44 k44v : MS → Int32 → Int32 → Int32 → Int32 → Prop} {U99 : MS} {t99_0 : Int32} {t99_1 : Int32} {v99_1 : Int32} {v99_2 : Int32} (hk44 : ∀ (u : MS) (z0 : Int32) (z1 : Int32) (z2 : Int32) (z3 : Int32), k44v u z0 z1 z2 z3 → k44 u z0 z1 z2 z3 → P ro uo) (h : v_X7_isMethodType_J99 ro uo k44v U99 t99_0 t99_1 v99_1 v99_2) (w : w_X7_isMethodType_J99 P k44 U99 t99_0 t99_1 v99_1 v99_2) : P ro uo := by
  unfold v_X7_isMethodType_J99 at h
  unfold w_X7_isMethodType_J99 at w
  obtain ⟨y6_, h⟩ := h
  replace w := w y6_
  obtain ⟨v9, e9, h⟩ := h
  replace w := w v9 e9 
  replace h := h.2
  replace w := w.2
  obtain ⟨v9, e9, h⟩ := h
  replace w := w v9 e9 
  exact hk44 _ _ _ _ _ h w
set_option maxRecDepth 100000 in
theorem vw_X7_isMethodType_J83 {ro : Int32} {uo : MS} {k44 k44v : MS → Int32 → Int32 → Int32 → Int32 → Prop} {U83 : MS} {t83_0 : Int32} {t83_1 : Int32} {v83_1 : Int32} {v83_2 : Int32} {v83_3 : Int32} {v83_4 : Int32} (hk44 : ∀ (u : MS) (z0 : Int32) (z1 : Int32) (z2 : Int32) (z3 : Int32), k44v u z0 z1 z2 z3 → k44 u z0 z1 z2 z3) (h : v_X7_isMethodType_J83 ro uo k44v U83 t83_0 t83_1 v83_1 v83_2 v83_3 v83_4) : w_X7_isMethodType_J83 (fun r u => r = ro ∧ u = uo) k44 U83 t83_0 t83_1 v83_1 v83_2 v83_3 v83_4 := by
  unfold v_X7_isMethodType_J83 at h
  unfold w_X7_isMethodType_J83
  intro _
  replace h := h.2
  obtain ⟨v9, e9, h⟩ := h
  intro x9 d9 _ _
  have c9 : v9 = x9 := e9.trans d9.symm
  subst c9
  replace h := h.2.2
  rcases h with ⟨c, h⟩ | ⟨c, h⟩
  · refine ⟨fun _ => ?_, fun c2 => absurd c c2⟩
    exact vw_X7_isMethodType_J99 hk44 h
  · refine ⟨fun c2 => absurd c2 c, fun _ => ?_⟩
    exact vw_X7_isMethodType_J99 hk44 h
set_option maxRecDepth 100000 in
theorem vp_X7_isMethodType_J83 {ro : Int32} {uo : MS} {P : Int32 → MS → Prop} {k44 k44v : MS → Int32 → Int32 → Int32 → Int32 → Prop} {U83 : MS} {t83_0 : Int32} {t83_1 : Int32} {v83_1 : Int32} {v83_2 : Int32} {v83_3 : Int32} {v83_4 : Int32} (hk44 : ∀ (u : MS) (z0 : Int32) (z1 : Int32) (z2 : Int32) (z3 : Int32), k44v u z0 z1 z2 z3 → k44 u z0 z1 z2 z3 → P ro uo) (h : v_X7_isMethodType_J83 ro uo k44v U83 t83_0 t83_1 v83_1 v83_2 v83_3 v83_4) (w : w_X7_isMethodType_J83 P k44 U83 t83_0 t83_1 v83_1 v83_2 v83_3 v83_4) : P ro uo := by
  unfold v_X7_isMethodType_J83 at h
  unfold w_X7_isMethodType_J83 at w
  obtain ⟨y7_, h⟩ := h
  replace w := w y7_
  obtain ⟨v9, e9, y8_, y9_, h⟩ := h
  replace w := w v9 e9 y8_ y9_
  rcases h with ⟨c, h⟩ | ⟨c, h⟩
  · replace w := w.1 c
    exact vp_X7_isMethodType_J99 hk44 h w
  · replace w := w.2 c
    exact vp_X7_isMethodType_J99 hk44 h w
set_option maxRecDepth 100000 in
theorem vw_X7_isMethodType_L44 {ro : Int32} {uo : MS} : ∀ (n : Nat) {U44 : MS} {v44_1 : Int32} {v44_2 : Int32} {v44_3 : Int32} {v44_4 : Int32}, v_X7_isMethodType_L44 ro uo n U44 v44_1 v44_2 v44_3 v44_4 → w_X7_isMethodType_L44 (fun r u => r = ro ∧ u = uo) n U44 v44_1 v44_2 v44_3 v44_4 := by
  intro n
  induction n with
  | zero => intro U44 v44_1 v44_2 v44_3 v44_4 h; unfold v_X7_isMethodType_L44 at h; exact h.elim
  | succ n ih =>
    intro U44 v44_1 v44_2 v44_3 v44_4 h
    unfold v_X7_isMethodType_L44 at h
    unfold w_X7_isMethodType_L44
    intro _
    replace h := h.2
    rcases h with ⟨c, h⟩ | ⟨c, h⟩
    · refine ⟨fun _ => ?_, fun c2 => absurd c c2⟩
      exact vw_X7_isMethodType_J112 h
    · refine ⟨fun c2 => absurd c2 c, fun _ => ?_⟩
      rcases h with ⟨c, h⟩ | ⟨c, h⟩
      · refine ⟨fun _ => ?_, fun c2 => absurd c c2⟩
        exact vw_X7_isMethodType_J112 h
      · refine ⟨fun c2 => absurd c2 c, fun _ => ?_⟩
        obtain ⟨v9, e9, h⟩ := h
        intro x9 d9 _ _
        have c9 : v9 = x9 := e9.trans d9.symm
        subst c9
        replace h := h.2.2
        rcases h with ⟨c, h⟩ | ⟨c, h⟩
        · refine ⟨fun _ => ?_, fun c2 => absurd c c2⟩
          exact vw_X7_isMethodType_J83 (fun _ _ _ _ _ h => ih h) h
        · refine ⟨fun c2 => absurd c2 c, fun _ => ?_⟩
          exact vw_X7_isMethodType_J83 (fun _ _ _ _ _ h => ih h) h
set_option maxRecDepth 100000 in
theorem vp_X7_isMethodType_L44 {ro : Int32} {uo : MS} {P : Int32 → MS → Prop} : ∀ (n m : Nat) {U44 : MS} {v44_1 : Int32} {v44_2 : Int32} {v44_3 : Int32} {v44_4 : Int32}, v_X7_isMethodType_L44 ro uo n U44 v44_1 v44_2 v44_3 v44_4 → w_X7_isMethodType_L44 P m U44 v44_1 v44_2 v44_3 v44_4 → P ro uo := by
  intro n
  induction n with
  | zero => intro m U44 v44_1 v44_2 v44_3 v44_4 h; unfold v_X7_isMethodType_L44 at h; exact h.elim
  | succ n ih =>
    intro m U44 v44_1 v44_2 v44_3 v44_4 h w
    cases m with
    | zero => unfold w_X7_isMethodType_L44 at w; exact w.elim
    | succ m =>
      unfold v_X7_isMethodType_L44 at h
      unfold w_X7_isMethodType_L44 at w
      obtain ⟨y10_, h⟩ := h
      replace w := w y10_
      rcases h with ⟨c, h⟩ | ⟨c, h⟩
      · replace w := w.1 c
        exact vp_X7_isMethodType_J112 h w
      · replace w := w.2 c
        rcases h with ⟨c, h⟩ | ⟨c, h⟩
        · replace w := w.1 c
          exact vp_X7_isMethodType_J112 h w
        · replace w := w.2 c
          obtain ⟨v9, e9, y11_, y12_, h⟩ := h
          replace w := w v9 e9 y11_ y12_
          rcases h with ⟨c, h⟩ | ⟨c, h⟩
          · replace w := w.1 c
            exact vp_X7_isMethodType_J83 (fun _ _ _ _ _ h w => ih m h w) h w
          · replace w := w.2 c
            exact vp_X7_isMethodType_J83 (fun _ _ _ _ _ h w => ih m h w) h w
set_option maxRecDepth 100000 in
theorem vwX7_isMethodType {S : MS} {x1 : Int32} {ro : Int32} {uo : MS} (h : vX7_isMethodType S x1 ro uo) : wX7_isMethodType S x1 (fun r u => r = ro ∧ u = uo) := by
  unfold vX7_isMethodType at h
  unfold wX7_isMethodType
  obtain ⟨v9, e9, h⟩ := h
  intro x9 d9 _ _
  have c9 : v9 = x9 := e9.trans d9.symm
  subst c9
  replace h := h.2.2
  obtain ⟨v9, e9, h⟩ := h
  intro x9 d9 _ _
  have c9 : v9 = x9 := e9.trans d9.symm
  subst c9
  replace h := h.2.2
  obtain ⟨v9, e9, h⟩ := h
  intro x9 d9 _ _
  have c9 : v9 = x9 := e9.trans d9.symm
  subst c9
  replace h := h.2.2
  obtain ⟨g9, h⟩ := h
  refine ⟨g9, ?_⟩
  obtain ⟨v9, e9, h⟩ := h
  intro x9 d9 
  have c9 : v9 = x9 := e9.trans d9.symm
  subst c9
  obtain ⟨g9, h⟩ := h
  refine ⟨g9, ?_⟩
  rcases h with ⟨c, h⟩ | ⟨c, h⟩
  · refine ⟨fun _ => ?_, fun c2 => absurd c c2⟩
    obtain ⟨g9, h⟩ := h
    refine ⟨g9, ?_⟩
    obtain ⟨v9, e9, h⟩ := h
    intro x9 d9 
    have c9 : v9 = x9 := e9.trans d9.symm
    subst c9
    obtain ⟨n9, h⟩ := h
    exact ⟨n9, vw_X7_isMethodType_L44 n9 h⟩
  · refine ⟨fun c2 => absurd c2 c, fun _ => ?_⟩
    exact ⟨h.1.symm, h.2.symm⟩
set_option maxRecDepth 100000 in
theorem vpX7_isMethodType {S : MS} {x1 : Int32} {ro : Int32} {uo : MS} {P : Int32 → MS → Prop} (h : vX7_isMethodType S x1 ro uo) (w : wX7_isMethodType S x1 P) : P ro uo := by
  unfold vX7_isMethodType at h
  unfold wX7_isMethodType at w
  obtain ⟨v9, e9, y13_, y14_, h⟩ := h
  replace w := w v9 e9 y13_ y14_
  obtain ⟨v9, e9, y15_, y16_, h⟩ := h
  replace w := w v9 e9 y15_ y16_
  obtain ⟨v9, e9, y17_, y18_, h⟩ := h
  replace w := w v9 e9 y17_ y18_
  replace h := h.2
  replace w := w.2
  obtain ⟨v9, e9, h⟩ := h
  replace w := w v9 e9 
  replace h := h.2
  replace w := w.2
  rcases h with ⟨c, h⟩ | ⟨c, h⟩
  · replace w := w.1 c
    replace h := h.2
    replace w := w.2
    obtain ⟨v9, e9, h⟩ := h
    replace w := w v9 e9 
    obtain ⟨n9, h⟩ := h
    obtain ⟨n8, w⟩ := w
    exact vp_X7_isMethodType_L44 n9 n8 h w
  · replace w := w.2 c
    rw [h.1, h.2]
    exact w
