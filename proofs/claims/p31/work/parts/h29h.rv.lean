def v_X5_elementAt_J13 (ro : Int32) (uo : MS) (U13 : MS) : Prop := (wfC U13 ∧ (ro = (0 : Int32) ∧ uo = U13))
def vX5_elementAt (S : MS) (x1 : Int32) (x2 : Int32) (ro : Int32) (uo : MS) : Prop := ((x2.toInt < 0 ∧ (v_X5_elementAt_J13 ro uo S)) ∨ (¬ x2.toInt < 0 ∧ (d_X5_lengthOf S x1 ∧ ((x2.toInt < (fX5_lengthOf S x1).toInt ∧ (d_X5_arrayStart S x1 ∧ (∃ (r11 : Int32) (S12 : MS), vX5_heapAt S ((fX5_arrayStart S x1) + x2) r11 S12 ∧ wfC S12 ∧ shy S S12 ∧ (ro = r11 ∧ uo = S12)))) ∨ (¬ x2.toInt < (fX5_lengthOf S x1).toInt ∧ (v_X5_elementAt_J13 ro uo S))))))
set_option maxRecDepth 100000 in
theorem ru_X5_elementAt_J13 {ι : Type} {P Q : Int32 → MS → Prop} {U13 : MS} (i0 : ι) (K : ∀ (i : ι) (ro : Int32) (uo : MS), v_X5_elementAt_J13 ro uo U13 → P ro uo) (h : w_X5_elementAt_J13 Q U13) : w_X5_elementAt_J13 (fun r u => Q r u ∧ P r u) U13 := by
  unfold w_X5_elementAt_J13 at h ⊢
  intro y1_
  replace h := h y1_
  replace K := fun i ro uo z => K i ro uo ⟨y1_, z⟩
  exact ⟨h, K i0 _ _ ⟨rfl, rfl⟩⟩
set_option maxRecDepth 100000 in
theorem ruX5_elementAt {S : MS} {x1 : Int32} {x2 : Int32} {Q : Int32 → MS → Prop} (h : wX5_elementAt S x1 x2 Q) : wX5_elementAt S x1 x2 (fun r u => Q r u ∧ vX5_elementAt S x1 x2 r u) := by
  have i0 : Unit := ()
  have K : ∀ (i : Unit) (ro : Int32) (uo : MS), vX5_elementAt S x1 x2 ro uo → vX5_elementAt S x1 x2 ro uo := fun _ _ _ z => z
  unfold wX5_elementAt at h ⊢
  refine ⟨fun c => ?_, fun c => ?_⟩
  · replace h := h.1 c
    replace K := fun i ro uo z => K i ro uo (Or.inl ⟨c, z⟩)
    exact ru_X5_elementAt_J13 i0 K h
  · replace h := h.2 c
    replace K := fun i ro uo z => K i ro uo (Or.inr ⟨c, z⟩)
    obtain ⟨g2_, h⟩ := h
    refine ⟨g2_, ?_⟩
    replace K := fun i ro uo z => K i ro uo ⟨g2_, z⟩
    refine ⟨fun c => ?_, fun c => ?_⟩
    · replace h := h.1 c
      replace K := fun i ro uo z => K i ro uo (Or.inl ⟨c, z⟩)
      obtain ⟨g3_, h⟩ := h
      refine ⟨g3_, ?_⟩
      replace K := fun i ro uo z => K i ro uo ⟨g3_, z⟩
      obtain ⟨Q9, h0, h⟩ := h
      refine ⟨_, ruX5_heapAt h0, ?_⟩
      intro r11 S12 q4_ y5_ y6_
      replace h := h r11 S12 q4_.1 y5_ y6_
      replace K := fun i ro uo z => K i ro uo ⟨r11, S12, q4_.2, y5_, y6_, z⟩
      exact ⟨h, K i0 _ _ ⟨rfl, rfl⟩⟩
    · replace h := h.2 c
      replace K := fun i ro uo z => K i ro uo (Or.inr ⟨c, z⟩)
      exact ru_X5_elementAt_J13 i0 K h
set_option maxRecDepth 100000 in
theorem vw_X5_elementAt_J13 {ro : Int32} {uo : MS} {U13 : MS} (h : v_X5_elementAt_J13 ro uo U13) : w_X5_elementAt_J13 (fun r u => r = ro ∧ u = uo) U13 := by
  unfold v_X5_elementAt_J13 at h
  unfold w_X5_elementAt_J13
  intro _
  replace h := h.2
  exact ⟨h.1.symm, h.2.symm⟩
set_option maxRecDepth 100000 in
theorem vp_X5_elementAt_J13 {ro : Int32} {uo : MS} {P : Int32 → MS → Prop} {U13 : MS} (h : v_X5_elementAt_J13 ro uo U13) (w : w_X5_elementAt_J13 P U13) : P ro uo := by
  unfold v_X5_elementAt_J13 at h
  unfold w_X5_elementAt_J13 at w
  obtain ⟨y1_, h⟩ := h
  replace w := w y1_
  rw [h.1, h.2]
  exact w
set_option maxRecDepth 100000 in
theorem vwX5_elementAt {S : MS} {x1 : Int32} {x2 : Int32} {ro : Int32} {uo : MS} (h : vX5_elementAt S x1 x2 ro uo) : wX5_elementAt S x1 x2 (fun r u => r = ro ∧ u = uo) := by
  unfold vX5_elementAt at h
  unfold wX5_elementAt
  rcases h with ⟨c, h⟩ | ⟨c, h⟩
  · refine ⟨fun _ => ?_, fun c2 => absurd c c2⟩
    exact vw_X5_elementAt_J13 h
  · refine ⟨fun c2 => absurd c2 c, fun _ => ?_⟩
    obtain ⟨g9, h⟩ := h
    refine ⟨g9, ?_⟩
    rcases h with ⟨c, h⟩ | ⟨c, h⟩
    · refine ⟨fun _ => ?_, fun c2 => absurd c c2⟩
      obtain ⟨g9, h⟩ := h
      refine ⟨g9, ?_⟩
      obtain ⟨p9, q9, z9, h⟩ := h
      refine ⟨_, vwX5_heapAt z9, ?_⟩
      rintro p8 q8 ⟨d8, d9⟩ _ _
      subst d8
      subst d9
      replace h := h.2.2
      exact ⟨h.1.symm, h.2.symm⟩
    · refine ⟨fun c2 => absurd c2 c, fun _ => ?_⟩
      exact vw_X5_elementAt_J13 h
set_option maxRecDepth 100000 in
theorem vpX5_elementAt {S : MS} {x1 : Int32} {x2 : Int32} {ro : Int32} {uo : MS} {P : Int32 → MS → Prop} (h : vX5_elementAt S x1 x2 ro uo) (w : wX5_elementAt S x1 x2 P) : P ro uo := by
  unfold vX5_elementAt at h
  unfold wX5_elementAt at w
  rcases h with ⟨c, h⟩ | ⟨c, h⟩
  · replace w := w.1 c
    exact vp_X5_elementAt_J13 h w
  · replace w := w.2 c
    replace h := h.2
    replace w := w.2
    rcases h with ⟨c, h⟩ | ⟨c, h⟩
    · replace w := w.1 c
      replace h := h.2
      replace w := w.2
      obtain ⟨p9, q9, z9, y2_, y3_, h⟩ := h
      obtain ⟨Q9, w0, w⟩ := w
      replace w := w p9 q9 (vpX5_heapAt z9 w0) y2_ y3_
      rw [h.1, h.2]
      exact w
    · replace w := w.2 c
      exact vp_X5_elementAt_J13 h w
def v_X5_refusal_J110 (ro : Int32) (uo : MS) (U110 : MS) : Prop := (wfC U110 ∧ (ro = (-3 : Int32) ∧ uo = U110))
def v_X5_refusal_J94 (ro : Int32) (uo : MS) (k46 : MS → Int32 → Int32 → Int32 → Prop) (U94 : MS) (v94_2 : Int32) (v94_3 : Int32) (v94_4 : Int32) : Prop := (wfC U94 ∧ (∃ a29 : Int32, a29 = (v94_4 + Int32.ofInt 1) ∧ (k46 U94 v94_2 v94_3 a29)))
def v_X5_refusal_L46 (ro : Int32) (uo : MS) : Nat → MS → Int32 → Int32 → Int32 → Prop
  | 0, _, _, _, _ => False
  | n46 + 1, U46, v46_2, v46_3, v46_4 => (wfC U46 ∧ (((qI U46 44 7).toInt ≤ v46_4.toInt ∧ ((v46_2.toInt < 0 ∧ (v_X5_refusal_J110 ro uo U46)) ∨ (¬ v46_2.toInt < 0 ∧ ((v46_2.toInt ≤ 50000 ∧ (ro = (0 : Int32) ∧ uo = U46)) ∨ (¬ v46_2.toInt ≤ 50000 ∧ (v_X5_refusal_J110 ro uo U46)))))) ∨ (¬ (qI U46 44 7).toInt ≤ v46_4.toInt ∧ (∃ (r26 : Int32) (S27 : MS), vX6_kindAt U46 v46_3 v46_4 r26 S27 ∧ wfC S27 ∧ shy U46 S27 ∧ ((r26.toInt = 3 ∧ (((0 : Int) ≤ v46_4.toInt ∧ v46_4.toInt < 8) ∧ (((lg_cmp (qJ S27 48 v46_4.toInt.toNat) 0).toInt = 0 ∧ (v_X5_refusal_J94 ro uo (v_X5_refusal_L46 ro uo n46) S27 v46_2 v46_3 v46_4)) ∨ (¬ (lg_cmp (qJ S27 48 v46_4.toInt.toNat) 0).toInt = 0 ∧ (((0 : Int) ≤ v46_4.toInt ∧ v46_4.toInt < 8) ∧ (d_X5_isArray S27 (qJ S27 48 v46_4.toInt.toNat) ∧ (((fX5_isArray S27 (qJ S27 48 v46_4.toInt.toNat)).toInt = 0 ∧ (ro = (-2 : Int32) ∧ uo = S27)) ∨ (¬ (fX5_isArray S27 (qJ S27 48 v46_4.toInt.toNat)).toInt = 0 ∧ (v_X5_refusal_J94 ro uo (v_X5_refusal_L46 ro uo n46) S27 v46_2 v46_3 v46_4))))))))) ∨ (¬ r26.toInt = 3 ∧ (v_X5_refusal_J94 ro uo (v_X5_refusal_L46 ro uo n46) S27 v46_2 v46_3 v46_4)))))))
def vX5_refusal (S : MS) (x1 : Int32) (x2 : Int32) (ro : Int32) (uo : MS) : Prop := (((qR S 44 0) = none ∧ (ro = (-1 : Int32) ∧ uo = S)) ∨ (¬ (qR S 44 0) = none ∧ ((qR S 44 0 = some (qO S 44 0)) ∧ (qT S (qO S 44 0) = 49 ∧ (∃ (b9 : Option Nat) (S7 : MS), vX10_rowAt S (qO S 44 0) x1 b9 S7 ∧ wfC S7 ∧ shy S S7 ∧ (∀ z, b9 = some z → qT S7 z = 47) ∧ ((b9 = none ∧ (ro = (-1 : Int32) ∧ uo = S7)) ∨ (¬ b9 = none ∧ ((qR S7 44 0 = some (qO S7 44 0)) ∧ (d_X10_takesOfMethod S7 (qO S7 44 0) x1 ∧ (∃ a16 : Int32, a16 = (fX10_takesOfMethod S7 (qO S7 44 0) x1) ∧ (∃ (r18 : Int32) (S19 : MS), vX6_kindCount S7 a16 r18 S19 ∧ wfC S19 ∧ shy S7 S19 ∧ ((r18.toInt = (qI S19 44 7).toInt ∧ (∃ n, v_X5_refusal_L46 ro uo n S19 x2 a16 0)) ∨ (¬ r18.toInt = (qI S19 44 7).toInt ∧ (ro = (-2 : Int32) ∧ uo = S19))))))))))))))
set_option maxRecDepth 100000 in
theorem ru_X5_refusal_J110 {ι : Type} {P Q : Int32 → MS → Prop} {U110 : MS} (i0 : ι) (K : ∀ (i : ι) (ro : Int32) (uo : MS), v_X5_refusal_J110 ro uo U110 → P ro uo) (h : w_X5_refusal_J110 Q U110) : w_X5_refusal_J110 (fun r u => Q r u ∧ P r u) U110 := by
  unfold w_X5_refusal_J110 at h ⊢
  intro y1_
  replace h := h y1_
  replace K := fun i ro uo z => K i ro uo ⟨y1_, z⟩
  exact ⟨h, K i0 _ _ ⟨rfl, rfl⟩⟩
set_option maxRecDepth 100000 in
theorem ru_X5_refusal_J94 {ι : Type} {P Q : Int32 → MS → Prop} {k46 k46' : MS → Int32 → Int32 → Int32 → Prop} {k46v : ι → Int32 → MS → MS → Int32 → Int32 → Int32 → Prop} {U94 : MS} {v94_2 : Int32} {v94_3 : Int32} {v94_4 : Int32} (i0 : ι) (hk46 : ∀ (u : MS) (z0 : Int32) (z1 : Int32) (z2 : Int32), k46 u z0 z1 z2 → (∀ (i : ι) (ro : Int32) (uo : MS), k46v i ro uo u z0 z1 z2 → P ro uo) → k46' u z0 z1 z2) (K : ∀ (i : ι) (ro : Int32) (uo : MS), v_X5_refusal_J94 ro uo (k46v i ro uo) U94 v94_2 v94_3 v94_4 → P ro uo) (h : w_X5_refusal_J94 Q k46 U94 v94_2 v94_3 v94_4) : w_X5_refusal_J94 (fun r u => Q r u ∧ P r u) k46' U94 v94_2 v94_3 v94_4 := by
  unfold w_X5_refusal_J94 at h ⊢
  intro y2_
  replace h := h y2_
  replace K := fun i ro uo z => K i ro uo ⟨y2_, z⟩
  intro a29 ea29 
  replace h := h a29 ea29 
  replace K := fun i ro uo z => K i ro uo ⟨a29, ea29, z⟩
  exact hk46 _ _ _ _ h K
set_option maxRecDepth 100000 in
theorem ru_X5_refusal_L46 {ι : Type} {P Q : Int32 → MS → Prop} : ∀ (n : Nat) {U46 : MS} {v46_2 : Int32} {v46_3 : Int32} {v46_4 : Int32} (i0 : ι), (∀ (i : ι) (ro : Int32) (uo : MS), (∃ n8, v_X5_refusal_L46 ro uo n8 U46 v46_2 v46_3 v46_4) → P ro uo) → w_X5_refusal_L46 Q n U46 v46_2 v46_3 v46_4 → w_X5_refusal_L46 (fun r u => Q r u ∧ P r u) n U46 v46_2 v46_3 v46_4 := by
  intro n
  induction n with
  | zero => intro U46 v46_2 v46_3 v46_4 i0 K h; unfold w_X5_refusal_L46 at h; exact h.elim
  | succ n ih =>
    intro U46 v46_2 v46_3 v46_4 i0 K h
    unfold w_X5_refusal_L46 at h ⊢
    replace K := fun (i : ι × Nat) ro uo (z : v_X5_refusal_L46 ro uo (i.2 + 1) U46 v46_2 v46_3 v46_4) => K i.1 ro uo ⟨i.2 + 1, z⟩
    have i00 := i0
    replace i0 : ι × Nat := (i0, 0)
    intro y3_
    replace h := h y3_
    replace K := fun i ro uo z => K i ro uo ⟨y3_, z⟩
    refine ⟨fun c => ?_, fun c => ?_⟩
    · replace h := h.1 c
      replace K := fun i ro uo z => K i ro uo (Or.inl ⟨c, z⟩)
      refine ⟨fun c => ?_, fun c => ?_⟩
      · replace h := h.1 c
        replace K := fun i ro uo z => K i ro uo (Or.inl ⟨c, z⟩)
        exact ru_X5_refusal_J110 i0 K h
      · replace h := h.2 c
        replace K := fun i ro uo z => K i ro uo (Or.inr ⟨c, z⟩)
        refine ⟨fun c => ?_, fun c => ?_⟩
        · replace h := h.1 c
          replace K := fun i ro uo z => K i ro uo (Or.inl ⟨c, z⟩)
          exact ⟨h, K i0 _ _ ⟨rfl, rfl⟩⟩
        · replace h := h.2 c
          replace K := fun i ro uo z => K i ro uo (Or.inr ⟨c, z⟩)
          exact ru_X5_refusal_J110 i0 K h
    · replace h := h.2 c
      replace K := fun i ro uo z => K i ro uo (Or.inr ⟨c, z⟩)
      obtain ⟨Q9, h0, h⟩ := h
      refine ⟨_, ruX6_kindAt h0, ?_⟩
      intro r26 S27 q4_ y5_ y6_
      replace h := h r26 S27 q4_.1 y5_ y6_
      replace K := fun i ro uo z => K i ro uo ⟨r26, S27, q4_.2, y5_, y6_, z⟩
      refine ⟨fun c => ?_, fun c => ?_⟩
      · replace h := h.1 c
        replace K := fun i ro uo z => K i ro uo (Or.inl ⟨c, z⟩)
        obtain ⟨g7_, h⟩ := h
        refine ⟨g7_, ?_⟩
        replace K := fun i ro uo z => K i ro uo ⟨g7_, z⟩
        refine ⟨fun c => ?_, fun c => ?_⟩
        · replace h := h.1 c
          replace K := fun i ro uo z => K i ro uo (Or.inl ⟨c, z⟩)
          exact ru_X5_refusal_J94 i0 (fun _ _ _ _ h K => ih i00 (fun i ro uo ⟨n8, z⟩ => K (i, n8) ro uo z) h) K h
        · replace h := h.2 c
          replace K := fun i ro uo z => K i ro uo (Or.inr ⟨c, z⟩)
          obtain ⟨g8_, h⟩ := h
          refine ⟨g8_, ?_⟩
          replace K := fun i ro uo z => K i ro uo ⟨g8_, z⟩
          obtain ⟨g9_, h⟩ := h
          refine ⟨g9_, ?_⟩
          replace K := fun i ro uo z => K i ro uo ⟨g9_, z⟩
          refine ⟨fun c => ?_, fun c => ?_⟩
          · replace h := h.1 c
            replace K := fun i ro uo z => K i ro uo (Or.inl ⟨c, z⟩)
            exact ⟨h, K i0 _ _ ⟨rfl, rfl⟩⟩
          · replace h := h.2 c
            replace K := fun i ro uo z => K i ro uo (Or.inr ⟨c, z⟩)
            exact ru_X5_refusal_J94 i0 (fun _ _ _ _ h K => ih i00 (fun i ro uo ⟨n8, z⟩ => K (i, n8) ro uo z) h) K h
      · replace h := h.2 c
        replace K := fun i ro uo z => K i ro uo (Or.inr ⟨c, z⟩)
        exact ru_X5_refusal_J94 i0 (fun _ _ _ _ h K => ih i00 (fun i ro uo ⟨n8, z⟩ => K (i, n8) ro uo z) h) K h
set_option maxRecDepth 100000 in
theorem ruX5_refusal {S : MS} {x1 : Int32} {x2 : Int32} {Q : Int32 → MS → Prop} (h : wX5_refusal S x1 x2 Q) : wX5_refusal S x1 x2 (fun r u => Q r u ∧ vX5_refusal S x1 x2 r u) := by
  have i0 : Unit := ()
  have K : ∀ (i : Unit) (ro : Int32) (uo : MS), vX5_refusal S x1 x2 ro uo → vX5_refusal S x1 x2 ro uo := fun _ _ _ z => z
  unfold wX5_refusal at h ⊢
  refine ⟨fun c => ?_, fun c => ?_⟩
  · replace h := h.1 c
    replace K := fun i ro uo z => K i ro uo (Or.inl ⟨c, z⟩)
    exact ⟨h, K i0 _ _ ⟨rfl, rfl⟩⟩
  · replace h := h.2 c
    replace K := fun i ro uo z => K i ro uo (Or.inr ⟨c, z⟩)
    obtain ⟨g10_, h⟩ := h
    refine ⟨g10_, ?_⟩
    replace K := fun i ro uo z => K i ro uo ⟨g10_, z⟩
    intro y11_
    replace h := h y11_
    replace K := fun i ro uo z => K i ro uo ⟨y11_, z⟩
    obtain ⟨Q9, h0, h⟩ := h
    refine ⟨_, ruX10_rowAt h0, ?_⟩
    intro b9 S7 q12_ y13_ y14_ y15_
    replace h := h b9 S7 q12_.1 y13_ y14_ y15_
    replace K := fun i ro uo z => K i ro uo ⟨b9, S7, q12_.2, y13_, y14_, y15_, z⟩
    refine ⟨fun c => ?_, fun c => ?_⟩
    · replace h := h.1 c
      replace K := fun i ro uo z => K i ro uo (Or.inl ⟨c, z⟩)
      exact ⟨h, K i0 _ _ ⟨rfl, rfl⟩⟩
    · replace h := h.2 c
      replace K := fun i ro uo z => K i ro uo (Or.inr ⟨c, z⟩)
      obtain ⟨g16_, h⟩ := h
      refine ⟨g16_, ?_⟩
      replace K := fun i ro uo z => K i ro uo ⟨g16_, z⟩
      obtain ⟨g17_, h⟩ := h
      refine ⟨g17_, ?_⟩
      replace K := fun i ro uo z => K i ro uo ⟨g17_, z⟩
      intro a16 ea16 
      replace h := h a16 ea16 
      replace K := fun i ro uo z => K i ro uo ⟨a16, ea16, z⟩
      obtain ⟨Q9, h0, h⟩ := h
      refine ⟨_, ruX6_kindCount h0, ?_⟩
      intro r18 S19 q18_ y19_ y20_
      replace h := h r18 S19 q18_.1 y19_ y20_
      replace K := fun i ro uo z => K i ro uo ⟨r18, S19, q18_.2, y19_, y20_, z⟩
      refine ⟨fun c => ?_, fun c => ?_⟩
      · replace h := h.1 c
        replace K := fun i ro uo z => K i ro uo (Or.inl ⟨c, z⟩)
        obtain ⟨n9, h⟩ := h
        exact ⟨n9, ru_X5_refusal_L46 n9 i0 K h⟩
      · replace h := h.2 c
        replace K := fun i ro uo z => K i ro uo (Or.inr ⟨c, z⟩)
        exact ⟨h, K i0 _ _ ⟨rfl, rfl⟩⟩
set_option maxRecDepth 100000 in
theorem vw_X5_refusal_J110 {ro : Int32} {uo : MS} {U110 : MS} (h : v_X5_refusal_J110 ro uo U110) : w_X5_refusal_J110 (fun r u => r = ro ∧ u = uo) U110 := by
  unfold v_X5_refusal_J110 at h
  unfold w_X5_refusal_J110
  intro _
  replace h := h.2
  exact ⟨h.1.symm, h.2.symm⟩
set_option maxRecDepth 100000 in
theorem vp_X5_refusal_J110 {ro : Int32} {uo : MS} {P : Int32 → MS → Prop} {U110 : MS} (h : v_X5_refusal_J110 ro uo U110) (w : w_X5_refusal_J110 P U110) : P ro uo := by
  unfold v_X5_refusal_J110 at h
  unfold w_X5_refusal_J110 at w
  obtain ⟨y1_, h⟩ := h
  replace w := w y1_
  rw [h.1, h.2]
  exact w
set_option maxRecDepth 100000 in
theorem vw_X5_refusal_J94 {ro : Int32} {uo : MS} {k46 k46v : MS → Int32 → Int32 → Int32 → Prop} {U94 : MS} {v94_2 : Int32} {v94_3 : Int32} {v94_4 : Int32} (hk46 : ∀ (u : MS) (z0 : Int32) (z1 : Int32) (z2 : Int32), k46v u z0 z1 z2 → k46 u z0 z1 z2) (h : v_X5_refusal_J94 ro uo k46v U94 v94_2 v94_3 v94_4) : w_X5_refusal_J94 (fun r u => r = ro ∧ u = uo) k46 U94 v94_2 v94_3 v94_4 := by
  unfold v_X5_refusal_J94 at h
  unfold w_X5_refusal_J94
  intro _
  replace h := h.2
  obtain ⟨v9, e9, h⟩ := h
  intro x9 d9 
  have c9 : v9 = x9 := e9.trans d9.symm
  subst c9
  exact hk46 _ _ _ _ h
set_option maxRecDepth 100000 in
theorem vp_X5_refusal_J94 {ro : Int32} {uo : MS} {P : Int32 → MS → Prop} {k46 k46v : MS → Int32 → Int32 → Int32 → Prop} {U94 : MS} {v94_2 : Int32} {v94_3 : Int32} {v94_4 : Int32} (hk46 : ∀ (u : MS) (z0 : Int32) (z1 : Int32) (z2 : Int32), k46v u z0 z1 z2 → k46 u z0 z1 z2 → P ro uo) (h : v_X5_refusal_J94 ro uo k46v U94 v94_2 v94_3 v94_4) (w : w_X5_refusal_J94 P k46 U94 v94_2 v94_3 v94_4) : P ro uo := by
  unfold v_X5_refusal_J94 at h
  unfold w_X5_refusal_J94 at w
  obtain ⟨y2_, h⟩ := h
  replace w := w y2_
  obtain ⟨v9, e9, h⟩ := h
  replace w := w v9 e9 
  exact hk46 _ _ _ _ h w
set_option maxRecDepth 100000 in
theorem vw_X5_refusal_L46 {ro : Int32} {uo : MS} : ∀ (n : Nat) {U46 : MS} {v46_2 : Int32} {v46_3 : Int32} {v46_4 : Int32}, v_X5_refusal_L46 ro uo n U46 v46_2 v46_3 v46_4 → w_X5_refusal_L46 (fun r u => r = ro ∧ u = uo) n U46 v46_2 v46_3 v46_4 := by
  intro n
  induction n with
  | zero => intro U46 v46_2 v46_3 v46_4 h; unfold v_X5_refusal_L46 at h; exact h.elim
  | succ n ih =>
    intro U46 v46_2 v46_3 v46_4 h
    unfold v_X5_refusal_L46 at h
    unfold w_X5_refusal_L46
    intro _
    replace h := h.2
    rcases h with ⟨c, h⟩ | ⟨c, h⟩
    · refine ⟨fun _ => ?_, fun c2 => absurd c c2⟩
      rcases h with ⟨c, h⟩ | ⟨c, h⟩
      · refine ⟨fun _ => ?_, fun c2 => absurd c c2⟩
        exact vw_X5_refusal_J110 h
      · refine ⟨fun c2 => absurd c2 c, fun _ => ?_⟩
        rcases h with ⟨c, h⟩ | ⟨c, h⟩
        · refine ⟨fun _ => ?_, fun c2 => absurd c c2⟩
          exact ⟨h.1.symm, h.2.symm⟩
        · refine ⟨fun c2 => absurd c2 c, fun _ => ?_⟩
          exact vw_X5_refusal_J110 h
    · refine ⟨fun c2 => absurd c2 c, fun _ => ?_⟩
      obtain ⟨p9, q9, z9, h⟩ := h
      refine ⟨_, vwX6_kindAt z9, ?_⟩
      rintro p8 q8 ⟨d8, d9⟩ _ _
      subst d8
      subst d9
      replace h := h.2.2
      rcases h with ⟨c, h⟩ | ⟨c, h⟩
      · refine ⟨fun _ => ?_, fun c2 => absurd c c2⟩
        obtain ⟨g9, h⟩ := h
        refine ⟨g9, ?_⟩
        rcases h with ⟨c, h⟩ | ⟨c, h⟩
        · refine ⟨fun _ => ?_, fun c2 => absurd c c2⟩
          exact vw_X5_refusal_J94 (fun _ _ _ _ h => ih h) h
        · refine ⟨fun c2 => absurd c2 c, fun _ => ?_⟩
          obtain ⟨g9, h⟩ := h
          refine ⟨g9, ?_⟩
          obtain ⟨g9, h⟩ := h
          refine ⟨g9, ?_⟩
          rcases h with ⟨c, h⟩ | ⟨c, h⟩
          · refine ⟨fun _ => ?_, fun c2 => absurd c c2⟩
            exact ⟨h.1.symm, h.2.symm⟩
          · refine ⟨fun c2 => absurd c2 c, fun _ => ?_⟩
            exact vw_X5_refusal_J94 (fun _ _ _ _ h => ih h) h
      · refine ⟨fun c2 => absurd c2 c, fun _ => ?_⟩
        exact vw_X5_refusal_J94 (fun _ _ _ _ h => ih h) h
set_option maxRecDepth 100000 in
theorem vp_X5_refusal_L46 {ro : Int32} {uo : MS} {P : Int32 → MS → Prop} : ∀ (n m : Nat) {U46 : MS} {v46_2 : Int32} {v46_3 : Int32} {v46_4 : Int32}, v_X5_refusal_L46 ro uo n U46 v46_2 v46_3 v46_4 → w_X5_refusal_L46 P m U46 v46_2 v46_3 v46_4 → P ro uo := by
  intro n
  induction n with
  | zero => intro m U46 v46_2 v46_3 v46_4 h; unfold v_X5_refusal_L46 at h; exact h.elim
  | succ n ih =>
    intro m U46 v46_2 v46_3 v46_4 h w
    cases m with
    | zero => unfold w_X5_refusal_L46 at w; exact w.elim
    | succ m =>
      unfold v_X5_refusal_L46 at h
      unfold w_X5_refusal_L46 at w
      obtain ⟨y3_, h⟩ := h
      replace w := w y3_
      rcases h with ⟨c, h⟩ | ⟨c, h⟩
      · replace w := w.1 c
        rcases h with ⟨c, h⟩ | ⟨c, h⟩
        · replace w := w.1 c
          exact vp_X5_refusal_J110 h w
        · replace w := w.2 c
          rcases h with ⟨c, h⟩ | ⟨c, h⟩
          · replace w := w.1 c
            rw [h.1, h.2]
            exact w
          · replace w := w.2 c
            exact vp_X5_refusal_J110 h w
      · replace w := w.2 c
        obtain ⟨p9, q9, z9, y4_, y5_, h⟩ := h
        obtain ⟨Q9, w0, w⟩ := w
        replace w := w p9 q9 (vpX6_kindAt z9 w0) y4_ y5_
        rcases h with ⟨c, h⟩ | ⟨c, h⟩
        · replace w := w.1 c
          replace h := h.2
          replace w := w.2
          rcases h with ⟨c, h⟩ | ⟨c, h⟩
          · replace w := w.1 c
            exact vp_X5_refusal_J94 (fun _ _ _ _ h w => ih m h w) h w
          · replace w := w.2 c
            replace h := h.2
            replace w := w.2
            replace h := h.2
            replace w := w.2
            rcases h with ⟨c, h⟩ | ⟨c, h⟩
            · replace w := w.1 c
              rw [h.1, h.2]
              exact w
            · replace w := w.2 c
              exact vp_X5_refusal_J94 (fun _ _ _ _ h w => ih m h w) h w
        · replace w := w.2 c
          exact vp_X5_refusal_J94 (fun _ _ _ _ h w => ih m h w) h w
set_option maxRecDepth 100000 in
theorem vwX5_refusal {S : MS} {x1 : Int32} {x2 : Int32} {ro : Int32} {uo : MS} (h : vX5_refusal S x1 x2 ro uo) : wX5_refusal S x1 x2 (fun r u => r = ro ∧ u = uo) := by
  unfold vX5_refusal at h
  unfold wX5_refusal
  rcases h with ⟨c, h⟩ | ⟨c, h⟩
  · refine ⟨fun _ => ?_, fun c2 => absurd c c2⟩
    exact ⟨h.1.symm, h.2.symm⟩
  · refine ⟨fun c2 => absurd c2 c, fun _ => ?_⟩
    obtain ⟨g9, h⟩ := h
    refine ⟨g9, ?_⟩
    intro _
    replace h := h.2
    obtain ⟨p9, q9, z9, h⟩ := h
    refine ⟨_, vwX10_rowAt z9, ?_⟩
    rintro p8 q8 ⟨d8, d9⟩ _ _ _
    subst d8
    subst d9
    replace h := h.2.2.2
    rcases h with ⟨c, h⟩ | ⟨c, h⟩
    · refine ⟨fun _ => ?_, fun c2 => absurd c c2⟩
      exact ⟨h.1.symm, h.2.symm⟩
    · refine ⟨fun c2 => absurd c2 c, fun _ => ?_⟩
      obtain ⟨g9, h⟩ := h
      refine ⟨g9, ?_⟩
      obtain ⟨g9, h⟩ := h
      refine ⟨g9, ?_⟩
      obtain ⟨v9, e9, h⟩ := h
      intro x9 d9 
      have c9 : v9 = x9 := e9.trans d9.symm
      subst c9
      obtain ⟨p9, q9, z9, h⟩ := h
      refine ⟨_, vwX6_kindCount z9, ?_⟩
      rintro p8 q8 ⟨d8, d9⟩ _ _
      subst d8
      subst d9
      replace h := h.2.2
      rcases h with ⟨c, h⟩ | ⟨c, h⟩
      · refine ⟨fun _ => ?_, fun c2 => absurd c c2⟩
        obtain ⟨n9, h⟩ := h
        exact ⟨n9, vw_X5_refusal_L46 n9 h⟩
      · refine ⟨fun c2 => absurd c2 c, fun _ => ?_⟩
        exact ⟨h.1.symm, h.2.symm⟩
set_option maxRecDepth 100000 in
theorem vpX5_refusal {S : MS} {x1 : Int32} {x2 : Int32} {ro : Int32} {uo : MS} {P : Int32 → MS → Prop} (h : vX5_refusal S x1 x2 ro uo) (w : wX5_refusal S x1 x2 P) : P ro uo := by
  unfold vX5_refusal at h
  unfold wX5_refusal at w
  rcases h with ⟨c, h⟩ | ⟨c, h⟩
  · replace w := w.1 c
    rw [h.1, h.2]
    exact w
  · replace w := w.2 c
    replace h := h.2
    replace w := w.2
    obtain ⟨y6_, h⟩ := h
    replace w := w y6_
    obtain ⟨p9, q9, z9, y7_, y8_, y9_, h⟩ := h
    obtain ⟨Q9, w0, w⟩ := w
    replace w := w p9 q9 (vpX10_rowAt z9 w0) y7_ y8_ y9_
    rcases h with ⟨c, h⟩ | ⟨c, h⟩
    · replace w := w.1 c
      rw [h.1, h.2]
      exact w
    · replace w := w.2 c
      replace h := h.2
      replace w := w.2
      replace h := h.2
      replace w := w.2
      obtain ⟨v9, e9, h⟩ := h
      replace w := w v9 e9 
      obtain ⟨p9, q9, z9, y10_, y11_, h⟩ := h
      obtain ⟨Q9, w0, w⟩ := w
      replace w := w p9 q9 (vpX6_kindCount z9 w0) y10_ y11_
      rcases h with ⟨c, h⟩ | ⟨c, h⟩
      · replace w := w.1 c
        obtain ⟨n9, h⟩ := h
        obtain ⟨n8, w⟩ := w
        exact vp_X5_refusal_L46 n9 n8 h w
      · replace w := w.2 c
        rw [h.1, h.2]
        exact w
def vX5_openFrame (S : MS) (x1 : Int32) (uo : MS) : Prop := ((qR S 44 0 = some (qO S 44 0)) ∧ (qT S (qO S 44 0) = 49 ∧ (∃ (b7 : Option Nat) (S5 : MS), vX10_rowAt S (qO S 44 0) x1 b7 S5 ∧ wfC S5 ∧ shy S S5 ∧ (∀ z, b7 = some z → qT S5 z = 47) ∧ (∃ S8 : MS, S8 = wR S5 44 12 b7 ∧ qT S5 44 = 45 ∧ wfC S8 ∧ (∃ S9 : MS, S9 = wI S8 44 13 (0 : Int32) ∧ qT S8 44 = 45 ∧ wfC S9 ∧ (∃ S10 : MS, S10 = wI S9 44 14 (0 : Int32) ∧ qT S9 44 = 45 ∧ wfC S10 ∧ (∃ (S12 : MS), vX5_setFrame S10 (0 : Int32) x1 S12 ∧ wfC S12 ∧ shy S10 S12 ∧ (uo = S12))))))))
set_option maxRecDepth 100000 in
theorem ruX5_openFrame {S : MS} {x1 : Int32} {Q : MS → Prop} (h : wX5_openFrame S x1 Q) : wX5_openFrame S x1 (fun u => Q u ∧ vX5_openFrame S x1 u) := by
  have i0 : Unit := ()
  have K : ∀ (i : Unit) (uo : MS), vX5_openFrame S x1 uo → vX5_openFrame S x1 uo := fun _ _ z => z
  unfold wX5_openFrame at h ⊢
  obtain ⟨g1_, h⟩ := h
  refine ⟨g1_, ?_⟩
  replace K := fun i uo z => K i uo ⟨g1_, z⟩
  intro y2_
  replace h := h y2_
  replace K := fun i uo z => K i uo ⟨y2_, z⟩
  obtain ⟨Q9, h0, h⟩ := h
  refine ⟨_, ruX10_rowAt h0, ?_⟩
  intro b7 S5 q3_ y4_ y5_ y6_
  replace h := h b7 S5 q3_.1 y4_ y5_ y6_
  replace K := fun i uo z => K i uo ⟨b7, S5, q3_.2, y4_, y5_, y6_, z⟩
  intro S8 eS8 y7_ y8_
  replace h := h S8 eS8 y7_ y8_
  replace K := fun i uo z => K i uo ⟨S8, eS8, y7_, y8_, z⟩
  intro S9 eS9 y9_ y10_
  replace h := h S9 eS9 y9_ y10_
  replace K := fun i uo z => K i uo ⟨S9, eS9, y9_, y10_, z⟩
  intro S10 eS10 y11_ y12_
  replace h := h S10 eS10 y11_ y12_
  replace K := fun i uo z => K i uo ⟨S10, eS10, y11_, y12_, z⟩
  obtain ⟨Q9, h0, h⟩ := h
  refine ⟨_, ruX5_setFrame h0, ?_⟩
  intro S12 q13_ y14_ y15_
  replace h := h S12 q13_.1 y14_ y15_
  replace K := fun i uo z => K i uo ⟨S12, q13_.2, y14_, y15_, z⟩
  exact ⟨h, K i0 _ rfl⟩
set_option maxRecDepth 100000 in
theorem vwX5_openFrame {S : MS} {x1 : Int32} {uo : MS} (h : vX5_openFrame S x1 uo) : wX5_openFrame S x1 (fun u => u = uo) := by
  unfold vX5_openFrame at h
  unfold wX5_openFrame
  obtain ⟨g9, h⟩ := h
  refine ⟨g9, ?_⟩
  intro _
  replace h := h.2
  obtain ⟨p9, q9, z9, h⟩ := h
  refine ⟨_, vwX10_rowAt z9, ?_⟩
  rintro p8 q8 ⟨d8, d9⟩ _ _ _
  subst d8
  subst d9
  replace h := h.2.2.2
  obtain ⟨v9, e9, h⟩ := h
  intro x9 d9 _ _
  have c9 : v9 = x9 := e9.trans d9.symm
  subst c9
  replace h := h.2.2
  obtain ⟨v9, e9, h⟩ := h
  intro x9 d9 _ _
  have c9 : v9 = x9 := e9.trans d9.symm
  subst c9
  replace h := h.2.2
  obtain ⟨v9, e9, h⟩ := h
  intro x9 d9 _ _
  have c9 : v9 = x9 := e9.trans d9.symm
  subst c9
  replace h := h.2.2
  obtain ⟨q9, z9, h⟩ := h
  refine ⟨_, vwX5_setFrame z9, ?_⟩
  intro q8 d9 _ _
  subst d9
  replace h := h.2.2
  exact h.symm
set_option maxRecDepth 100000 in
theorem vpX5_openFrame {S : MS} {x1 : Int32} {uo : MS} {P : MS → Prop} (h : vX5_openFrame S x1 uo) (w : wX5_openFrame S x1 P) : P uo := by
  unfold vX5_openFrame at h
  unfold wX5_openFrame at w
  replace h := h.2
  replace w := w.2
  obtain ⟨y1_, h⟩ := h
  replace w := w y1_
  obtain ⟨p9, q9, z9, y2_, y3_, y4_, h⟩ := h
  obtain ⟨Q9, w0, w⟩ := w
  replace w := w p9 q9 (vpX10_rowAt z9 w0) y2_ y3_ y4_
  obtain ⟨v9, e9, y5_, y6_, h⟩ := h
  replace w := w v9 e9 y5_ y6_
  obtain ⟨v9, e9, y7_, y8_, h⟩ := h
  replace w := w v9 e9 y7_ y8_
  obtain ⟨v9, e9, y9_, y10_, h⟩ := h
  replace w := w v9 e9 y9_ y10_
  obtain ⟨q9, z9, y11_, y12_, h⟩ := h
  obtain ⟨Q9, w0, w⟩ := w
  replace w := w q9 (vpX5_setFrame z9 w0) y11_ y12_
  rw [h]
  exact w
def v_X5_passArguments_J59 (uo : MS) (k4 : MS → Int32 → Int32 → Int32 → Prop) (U59 : MS) (t59_0 : Int32) (t59_1 : Int32) (v59_1 : Int32) (v59_3 : Int32) : Prop := (wfC U59 ∧ (∃ a10 : Int32, a10 = (t59_1 + t59_0) ∧ (∃ a11 : Int32, a11 = (v59_3 + Int32.ofInt 1) ∧ (k4 U59 v59_1 a10 a11))))
def v_X5_passArguments_J44 (uo : MS) (k4 : MS → Int32 → Int32 → Int32 → Prop) (U44 : MS) (t44_0 : Int64) (t44_1 : Int32) (v44_1 : Int32) (v44_2 : Int32) (v44_3 : Int32) (v44_4 : Int32) : Prop := (wfC U44 ∧ (∃ (S7 : MS), vX5_setLocal U44 t44_1 t44_0 S7 ∧ wfC S7 ∧ shy U44 S7 ∧ ((v44_4.toInt = 2 ∧ (v_X5_passArguments_J59 uo k4 S7 2 v44_2 v44_1 v44_3)) ∨ (¬ v44_4.toInt = 2 ∧ (v_X5_passArguments_J59 uo k4 S7 1 v44_2 v44_1 v44_3)))))
def v_X5_passArguments_L4 (uo : MS) : Nat → MS → Int32 → Int32 → Int32 → Prop
  | 0, _, _, _, _ => False
  | n4 + 1, U4, v4_1, v4_2, v4_3 => (wfC U4 ∧ (((qI U4 44 7).toInt ≤ v4_3.toInt ∧ (uo = U4)) ∨ (¬ (qI U4 44 7).toInt ≤ v4_3.toInt ∧ (∃ (r3 : Int32) (S4 : MS), vX6_kindAt U4 v4_1 v4_3 r3 S4 ∧ wfC S4 ∧ shy U4 S4 ∧ ((r3.toInt = 1 ∧ (((0 : Int) ≤ v4_3.toInt ∧ v4_3.toInt < 8) ∧ (v_X5_passArguments_J44 uo (v_X5_passArguments_L4 uo n4) S4 (((qJ S4 48 v4_3.toInt.toNat).toInt32).toInt64) v4_2 v4_1 v4_2 v4_3 r3))) ∨ (¬ r3.toInt = 1 ∧ (((0 : Int) ≤ v4_3.toInt ∧ v4_3.toInt < 8) ∧ (v_X5_passArguments_J44 uo (v_X5_passArguments_L4 uo n4) S4 (qJ S4 48 v4_3.toInt.toNat) v4_2 v4_1 v4_2 v4_3 r3))))))))
def vX5_passArguments (S : MS) (x1 : Int32) (uo : MS) : Prop := (∃ n, v_X5_passArguments_L4 uo n S x1 0 0)
set_option maxRecDepth 100000 in
theorem ru_X5_passArguments_J59 {ι : Type} {P Q : MS → Prop} {k4 k4' : MS → Int32 → Int32 → Int32 → Prop} {k4v : ι → MS → MS → Int32 → Int32 → Int32 → Prop} {U59 : MS} {t59_0 : Int32} {t59_1 : Int32} {v59_1 : Int32} {v59_3 : Int32} (i0 : ι) (hk4 : ∀ (u : MS) (z0 : Int32) (z1 : Int32) (z2 : Int32), k4 u z0 z1 z2 → (∀ (i : ι) (uo : MS), k4v i uo u z0 z1 z2 → P uo) → k4' u z0 z1 z2) (K : ∀ (i : ι) (uo : MS), v_X5_passArguments_J59 uo (k4v i uo) U59 t59_0 t59_1 v59_1 v59_3 → P uo) (h : w_X5_passArguments_J59 Q k4 U59 t59_0 t59_1 v59_1 v59_3) : w_X5_passArguments_J59 (fun u => Q u ∧ P u) k4' U59 t59_0 t59_1 v59_1 v59_3 := by
  unfold w_X5_passArguments_J59 at h ⊢
  intro y1_
  replace h := h y1_
  replace K := fun i uo z => K i uo ⟨y1_, z⟩
  intro a10 ea10 
  replace h := h a10 ea10 
  replace K := fun i uo z => K i uo ⟨a10, ea10, z⟩
  intro a11 ea11 
  replace h := h a11 ea11 
  replace K := fun i uo z => K i uo ⟨a11, ea11, z⟩
  exact hk4 _ _ _ _ h K
set_option maxRecDepth 100000 in
theorem ru_X5_passArguments_J44 {ι : Type} {P Q : MS → Prop} {k4 k4' : MS → Int32 → Int32 → Int32 → Prop} {k4v : ι → MS → MS → Int32 → Int32 → Int32 → Prop} {U44 : MS} {t44_0 : Int64} {t44_1 : Int32} {v44_1 : Int32} {v44_2 : Int32} {v44_3 : Int32} {v44_4 : Int32} (i0 : ι) (hk4 : ∀ (u : MS) (z0 : Int32) (z1 : Int32) (z2 : Int32), k4 u z0 z1 z2 → (∀ (i : ι) (uo : MS), k4v i uo u z0 z1 z2 → P uo) → k4' u z0 z1 z2) (K : ∀ (i : ι) (uo : MS), v_X5_passArguments_J44 uo (k4v i uo) U44 t44_0 t44_1 v44_1 v44_2 v44_3 v44_4 → P uo) (h : w_X5_passArguments_J44 Q k4 U44 t44_0 t44_1 v44_1 v44_2 v44_3 v44_4) : w_X5_passArguments_J44 (fun u => Q u ∧ P u) k4' U44 t44_0 t44_1 v44_1 v44_2 v44_3 v44_4 := by
  unfold w_X5_passArguments_J44 at h ⊢
  intro y2_
  replace h := h y2_
  replace K := fun i uo z => K i uo ⟨y2_, z⟩
  obtain ⟨Q9, h0, h⟩ := h
  refine ⟨_, ruX5_setLocal h0, ?_⟩
  intro S7 q3_ y4_ y5_
  replace h := h S7 q3_.1 y4_ y5_
  replace K := fun i uo z => K i uo ⟨S7, q3_.2, y4_, y5_, z⟩
  refine ⟨fun c => ?_, fun c => ?_⟩
  · replace h := h.1 c
    replace K := fun i uo z => K i uo (Or.inl ⟨c, z⟩)
    exact ru_X5_passArguments_J59 i0 hk4 K h
  · replace h := h.2 c
    replace K := fun i uo z => K i uo (Or.inr ⟨c, z⟩)
    exact ru_X5_passArguments_J59 i0 hk4 K h
set_option maxRecDepth 100000 in
theorem ru_X5_passArguments_L4 {ι : Type} {P Q : MS → Prop} : ∀ (n : Nat) {U4 : MS} {v4_1 : Int32} {v4_2 : Int32} {v4_3 : Int32} (i0 : ι), (∀ (i : ι) (uo : MS), (∃ n8, v_X5_passArguments_L4 uo n8 U4 v4_1 v4_2 v4_3) → P uo) → w_X5_passArguments_L4 Q n U4 v4_1 v4_2 v4_3 → w_X5_passArguments_L4 (fun u => Q u ∧ P u) n U4 v4_1 v4_2 v4_3 := by
  intro n
  induction n with
  | zero => intro U4 v4_1 v4_2 v4_3 i0 K h; unfold w_X5_passArguments_L4 at h; exact h.elim
  | succ n ih =>
    intro U4 v4_1 v4_2 v4_3 i0 K h
    unfold w_X5_passArguments_L4 at h ⊢
    replace K := fun (i : ι × Nat) uo (z : v_X5_passArguments_L4 uo (i.2 + 1) U4 v4_1 v4_2 v4_3) => K i.1 uo ⟨i.2 + 1, z⟩
    have i00 := i0
    replace i0 : ι × Nat := (i0, 0)
    intro y6_
    replace h := h y6_
    replace K := fun i uo z => K i uo ⟨y6_, z⟩
    refine ⟨fun c => ?_, fun c => ?_⟩
    · replace h := h.1 c
      replace K := fun i uo z => K i uo (Or.inl ⟨c, z⟩)
      exact ⟨h, K i0 _ rfl⟩
    · replace h := h.2 c
      replace K := fun i uo z => K i uo (Or.inr ⟨c, z⟩)
      obtain ⟨Q9, h0, h⟩ := h
      refine ⟨_, ruX6_kindAt h0, ?_⟩
      intro r3 S4 q7_ y8_ y9_
      replace h := h r3 S4 q7_.1 y8_ y9_
      replace K := fun i uo z => K i uo ⟨r3, S4, q7_.2, y8_, y9_, z⟩
      refine ⟨fun c => ?_, fun c => ?_⟩
      · replace h := h.1 c
        replace K := fun i uo z => K i uo (Or.inl ⟨c, z⟩)
        obtain ⟨g10_, h⟩ := h
        refine ⟨g10_, ?_⟩
        replace K := fun i uo z => K i uo ⟨g10_, z⟩
        exact ru_X5_passArguments_J44 i0 (fun _ _ _ _ h K => ih i00 (fun i uo ⟨n8, z⟩ => K (i, n8) uo z) h) K h
      · replace h := h.2 c
        replace K := fun i uo z => K i uo (Or.inr ⟨c, z⟩)
        obtain ⟨g11_, h⟩ := h
        refine ⟨g11_, ?_⟩
        replace K := fun i uo z => K i uo ⟨g11_, z⟩
        exact ru_X5_passArguments_J44 i0 (fun _ _ _ _ h K => ih i00 (fun i uo ⟨n8, z⟩ => K (i, n8) uo z) h) K h
set_option maxRecDepth 100000 in
theorem ruX5_passArguments {S : MS} {x1 : Int32} {Q : MS → Prop} (h : wX5_passArguments S x1 Q) : wX5_passArguments S x1 (fun u => Q u ∧ vX5_passArguments S x1 u) := by
  have i0 : Unit := ()
  have K : ∀ (i : Unit) (uo : MS), vX5_passArguments S x1 uo → vX5_passArguments S x1 uo := fun _ _ z => z
  unfold wX5_passArguments at h ⊢
  obtain ⟨n9, h⟩ := h
  exact ⟨n9, ru_X5_passArguments_L4 n9 i0 K h⟩
set_option maxRecDepth 100000 in
theorem vw_X5_passArguments_J59 {uo : MS} {k4 k4v : MS → Int32 → Int32 → Int32 → Prop} {U59 : MS} {t59_0 : Int32} {t59_1 : Int32} {v59_1 : Int32} {v59_3 : Int32} (hk4 : ∀ (u : MS) (z0 : Int32) (z1 : Int32) (z2 : Int32), k4v u z0 z1 z2 → k4 u z0 z1 z2) (h : v_X5_passArguments_J59 uo k4v U59 t59_0 t59_1 v59_1 v59_3) : w_X5_passArguments_J59 (fun u => u = uo) k4 U59 t59_0 t59_1 v59_1 v59_3 := by
  unfold v_X5_passArguments_J59 at h
  unfold w_X5_passArguments_J59
  intro _
  replace h := h.2
  obtain ⟨v9, e9, h⟩ := h
  intro x9 d9 
  have c9 : v9 = x9 := e9.trans d9.symm
  subst c9
  obtain ⟨v9, e9, h⟩ := h
  intro x9 d9 
  have c9 : v9 = x9 := e9.trans d9.symm
  subst c9
  exact hk4 _ _ _ _ h
set_option maxRecDepth 100000 in
theorem vp_X5_passArguments_J59 {uo : MS} {P : MS → Prop} {k4 k4v : MS → Int32 → Int32 → Int32 → Prop} {U59 : MS} {t59_0 : Int32} {t59_1 : Int32} {v59_1 : Int32} {v59_3 : Int32} (hk4 : ∀ (u : MS) (z0 : Int32) (z1 : Int32) (z2 : Int32), k4v u z0 z1 z2 → k4 u z0 z1 z2 → P uo) (h : v_X5_passArguments_J59 uo k4v U59 t59_0 t59_1 v59_1 v59_3) (w : w_X5_passArguments_J59 P k4 U59 t59_0 t59_1 v59_1 v59_3) : P uo := by
  unfold v_X5_passArguments_J59 at h
  unfold w_X5_passArguments_J59 at w
  obtain ⟨y1_, h⟩ := h
  replace w := w y1_
  obtain ⟨v9, e9, h⟩ := h
  replace w := w v9 e9 
  obtain ⟨v9, e9, h⟩ := h
  replace w := w v9 e9 
  exact hk4 _ _ _ _ h w
set_option maxRecDepth 100000 in
theorem vw_X5_passArguments_J44 {uo : MS} {k4 k4v : MS → Int32 → Int32 → Int32 → Prop} {U44 : MS} {t44_0 : Int64} {t44_1 : Int32} {v44_1 : Int32} {v44_2 : Int32} {v44_3 : Int32} {v44_4 : Int32} (hk4 : ∀ (u : MS) (z0 : Int32) (z1 : Int32) (z2 : Int32), k4v u z0 z1 z2 → k4 u z0 z1 z2) (h : v_X5_passArguments_J44 uo k4v U44 t44_0 t44_1 v44_1 v44_2 v44_3 v44_4) : w_X5_passArguments_J44 (fun u => u = uo) k4 U44 t44_0 t44_1 v44_1 v44_2 v44_3 v44_4 := by
  unfold v_X5_passArguments_J44 at h
  unfold w_X5_passArguments_J44
  intro _
  replace h := h.2
  obtain ⟨q9, z9, h⟩ := h
  refine ⟨_, vwX5_setLocal z9, ?_⟩
  intro q8 d9 _ _
  subst d9
  replace h := h.2.2
  rcases h with ⟨c, h⟩ | ⟨c, h⟩
  · refine ⟨fun _ => ?_, fun c2 => absurd c c2⟩
    exact vw_X5_passArguments_J59 hk4 h
  · refine ⟨fun c2 => absurd c2 c, fun _ => ?_⟩
    exact vw_X5_passArguments_J59 hk4 h
set_option maxRecDepth 100000 in
theorem vp_X5_passArguments_J44 {uo : MS} {P : MS → Prop} {k4 k4v : MS → Int32 → Int32 → Int32 → Prop} {U44 : MS} {t44_0 : Int64} {t44_1 : Int32} {v44_1 : Int32} {v44_2 : Int32} {v44_3 : Int32} {v44_4 : Int32} (hk4 : ∀ (u : MS) (z0 : Int32) (z1 : Int32) (z2 : Int32), k4v u z0 z1 z2 → k4 u z0 z1 z2 → P uo) (h : v_X5_passArguments_J44 uo k4v U44 t44_0 t44_1 v44_1 v44_2 v44_3 v44_4) (w : w_X5_passArguments_J44 P k4 U44 t44_0 t44_1 v44_1 v44_2 v44_3 v44_4) : P uo := by
  unfold v_X5_passArguments_J44 at h
  unfold w_X5_passArguments_J44 at w
  obtain ⟨y2_, h⟩ := h
  replace w := w y2_
  obtain ⟨q9, z9, y3_, y4_, h⟩ := h
  obtain ⟨Q9, w0, w⟩ := w
  replace w := w q9 (vpX5_setLocal z9 w0) y3_ y4_
  rcases h with ⟨c, h⟩ | ⟨c, h⟩
  · replace w := w.1 c
    exact vp_X5_passArguments_J59 hk4 h w
  · replace w := w.2 c
    exact vp_X5_passArguments_J59 hk4 h w
set_option maxRecDepth 100000 in
theorem vw_X5_passArguments_L4 {uo : MS} : ∀ (n : Nat) {U4 : MS} {v4_1 : Int32} {v4_2 : Int32} {v4_3 : Int32}, v_X5_passArguments_L4 uo n U4 v4_1 v4_2 v4_3 → w_X5_passArguments_L4 (fun u => u = uo) n U4 v4_1 v4_2 v4_3 := by
  intro n
  induction n with
  | zero => intro U4 v4_1 v4_2 v4_3 h; unfold v_X5_passArguments_L4 at h; exact h.elim
  | succ n ih =>
    intro U4 v4_1 v4_2 v4_3 h
    unfold v_X5_passArguments_L4 at h
    unfold w_X5_passArguments_L4
    intro _
    replace h := h.2
    rcases h with ⟨c, h⟩ | ⟨c, h⟩
    · refine ⟨fun _ => ?_, fun c2 => absurd c c2⟩
      exact h.symm
    · refine ⟨fun c2 => absurd c2 c, fun _ => ?_⟩
      obtain ⟨p9, q9, z9, h⟩ := h
      refine ⟨_, vwX6_kindAt z9, ?_⟩
      rintro p8 q8 ⟨d8, d9⟩ _ _
      subst d8
      subst d9
      replace h := h.2.2
      rcases h with ⟨c, h⟩ | ⟨c, h⟩
      · refine ⟨fun _ => ?_, fun c2 => absurd c c2⟩
        obtain ⟨g9, h⟩ := h
        refine ⟨g9, ?_⟩
        exact vw_X5_passArguments_J44 (fun _ _ _ _ h => ih h) h
      · refine ⟨fun c2 => absurd c2 c, fun _ => ?_⟩
        obtain ⟨g9, h⟩ := h
        refine ⟨g9, ?_⟩
        exact vw_X5_passArguments_J44 (fun _ _ _ _ h => ih h) h
set_option maxRecDepth 100000 in
theorem vp_X5_passArguments_L4 {uo : MS} {P : MS → Prop} : ∀ (n m : Nat) {U4 : MS} {v4_1 : Int32} {v4_2 : Int32} {v4_3 : Int32}, v_X5_passArguments_L4 uo n U4 v4_1 v4_2 v4_3 → w_X5_passArguments_L4 P m U4 v4_1 v4_2 v4_3 → P uo := by
  intro n
  induction n with
  | zero => intro m U4 v4_1 v4_2 v4_3 h; unfold v_X5_passArguments_L4 at h; exact h.elim
  | succ n ih =>
    intro m U4 v4_1 v4_2 v4_3 h w
    cases m with
    | zero => unfold w_X5_passArguments_L4 at w; exact w.elim
    | succ m =>
      unfold v_X5_passArguments_L4 at h
      unfold w_X5_passArguments_L4 at w
      obtain ⟨y5_, h⟩ := h
      replace w := w y5_
      rcases h with ⟨c, h⟩ | ⟨c, h⟩
      · replace w := w.1 c
        rw [h]
        exact w
      · replace w := w.2 c
        obtain ⟨p9, q9, z9, y6_, y7_, h⟩ := h
        obtain ⟨Q9, w0, w⟩ := w
        replace w := w p9 q9 (vpX6_kindAt z9 w0) y6_ y7_
        rcases h with ⟨c, h⟩ | ⟨c, h⟩
        · replace w := w.1 c
          replace h := h.2
          replace w := w.2
          exact vp_X5_passArguments_J44 (fun _ _ _ _ h w => ih m h w) h w
        · replace w := w.2 c
          replace h := h.2
          replace w := w.2
          exact vp_X5_passArguments_J44 (fun _ _ _ _ h w => ih m h w) h w
set_option maxRecDepth 100000 in
theorem vwX5_passArguments {S : MS} {x1 : Int32} {uo : MS} (h : vX5_passArguments S x1 uo) : wX5_passArguments S x1 (fun u => u = uo) := by
  unfold vX5_passArguments at h
  unfold wX5_passArguments
  obtain ⟨n9, h⟩ := h
  exact ⟨n9, vw_X5_passArguments_L4 n9 h⟩
set_option maxRecDepth 100000 in
theorem vpX5_passArguments {S : MS} {x1 : Int32} {uo : MS} {P : MS → Prop} (h : vX5_passArguments S x1 uo) (w : wX5_passArguments S x1 P) : P uo := by
  unfold vX5_passArguments at h
  unfold wX5_passArguments at w
  obtain ⟨n9, h⟩ := h
  obtain ⟨n8, w⟩ := w
  exact vp_X5_passArguments_L4 n9 n8 h w
def vX5_isJumpTaken (S : MS) (x1 : Int32) (ro : Int32) (uo : MS) : Prop := ((x1.toInt = 167 ∧ (ro = (1 : Int32) ∧ uo = S)) ∨ (¬ x1.toInt = 167 ∧ (∃ (r3 : Int64) (S4 : MS), vX5_pop S r3 S4 ∧ wfC S4 ∧ shy S S4 ∧ ((x1.toInt = 165 ∧ (∃ (r7 : Int64) (S8 : MS), vX5_pop S4 r7 S8 ∧ wfC S8 ∧ shy S4 S8 ∧ (((lg_cmp r7 r3).toInt = 0 ∧ (ro = (1 : Int32) ∧ uo = S8)) ∨ (¬ (lg_cmp r7 r3).toInt = 0 ∧ (ro = (0 : Int32) ∧ uo = S8))))) ∨ (¬ x1.toInt = 165 ∧ ((x1.toInt = 166 ∧ (∃ (r13 : Int64) (S14 : MS), vX5_pop S4 r13 S14 ∧ wfC S14 ∧ shy S4 S14 ∧ (((lg_cmp r13 r3).toInt = 0 ∧ (ro = (0 : Int32) ∧ uo = S14)) ∨ (¬ (lg_cmp r13 r3).toInt = 0 ∧ (ro = (1 : Int32) ∧ uo = S14))))) ∨ (¬ x1.toInt = 166 ∧ ((x1.toInt = 198 ∧ (((lg_cmp r3 0).toInt = 0 ∧ (ro = (1 : Int32) ∧ uo = S4)) ∨ (¬ (lg_cmp r3 0).toInt = 0 ∧ (ro = (0 : Int32) ∧ uo = S4)))) ∨ (¬ x1.toInt = 198 ∧ ((x1.toInt = 199 ∧ (((lg_cmp r3 0).toInt = 0 ∧ (ro = (0 : Int32) ∧ uo = S4)) ∨ (¬ (lg_cmp r3 0).toInt = 0 ∧ (ro = (1 : Int32) ∧ uo = S4)))) ∨ (¬ x1.toInt = 199 ∧ ((159 ≤ x1.toInt ∧ (∃ (r24 : Int64) (S25 : MS), vX5_pop S4 r24 S25 ∧ wfC S25 ∧ shy S4 S25 ∧ (d_X6_isTaken S25 x1 (r24.toInt32) (r3.toInt32) ∧ (ro = (fX6_isTaken S25 x1 (r24.toInt32) (r3.toInt32)) ∧ uo = S25)))) ∨ (¬ 159 ≤ x1.toInt ∧ (d_X6_isTaken S4 x1 (r3.toInt32) (0 : Int32) ∧ (ro = (fX6_isTaken S4 x1 (r3.toInt32) (0 : Int32)) ∧ uo = S4)))))))))))))))
set_option maxRecDepth 100000 in
theorem ruX5_isJumpTaken {S : MS} {x1 : Int32} {Q : Int32 → MS → Prop} (h : wX5_isJumpTaken S x1 Q) : wX5_isJumpTaken S x1 (fun r u => Q r u ∧ vX5_isJumpTaken S x1 r u) := by
  have i0 : Unit := ()
  have K : ∀ (i : Unit) (ro : Int32) (uo : MS), vX5_isJumpTaken S x1 ro uo → vX5_isJumpTaken S x1 ro uo := fun _ _ _ z => z
  unfold wX5_isJumpTaken at h ⊢
  refine ⟨fun c => ?_, fun c => ?_⟩
  · replace h := h.1 c
    replace K := fun i ro uo z => K i ro uo (Or.inl ⟨c, z⟩)
    exact ⟨h, K i0 _ _ ⟨rfl, rfl⟩⟩
  · replace h := h.2 c
    replace K := fun i ro uo z => K i ro uo (Or.inr ⟨c, z⟩)
    obtain ⟨Q9, h0, h⟩ := h
    refine ⟨_, ruX5_pop h0, ?_⟩
    intro r3 S4 q1_ y2_ y3_
    replace h := h r3 S4 q1_.1 y2_ y3_
    replace K := fun i ro uo z => K i ro uo ⟨r3, S4, q1_.2, y2_, y3_, z⟩
    refine ⟨fun c => ?_, fun c => ?_⟩
    · replace h := h.1 c
      replace K := fun i ro uo z => K i ro uo (Or.inl ⟨c, z⟩)
      obtain ⟨Q9, h0, h⟩ := h
      refine ⟨_, ruX5_pop h0, ?_⟩
      intro r7 S8 q4_ y5_ y6_
      replace h := h r7 S8 q4_.1 y5_ y6_
      replace K := fun i ro uo z => K i ro uo ⟨r7, S8, q4_.2, y5_, y6_, z⟩
      refine ⟨fun c => ?_, fun c => ?_⟩
      · replace h := h.1 c
        replace K := fun i ro uo z => K i ro uo (Or.inl ⟨c, z⟩)
        exact ⟨h, K i0 _ _ ⟨rfl, rfl⟩⟩
      · replace h := h.2 c
        replace K := fun i ro uo z => K i ro uo (Or.inr ⟨c, z⟩)
        exact ⟨h, K i0 _ _ ⟨rfl, rfl⟩⟩
    · replace h := h.2 c
      replace K := fun i ro uo z => K i ro uo (Or.inr ⟨c, z⟩)
      refine ⟨fun c => ?_, fun c => ?_⟩
      · replace h := h.1 c
        replace K := fun i ro uo z => K i ro uo (Or.inl ⟨c, z⟩)
        obtain ⟨Q9, h0, h⟩ := h
        refine ⟨_, ruX5_pop h0, ?_⟩
        intro r13 S14 q7_ y8_ y9_
        replace h := h r13 S14 q7_.1 y8_ y9_
        replace K := fun i ro uo z => K i ro uo ⟨r13, S14, q7_.2, y8_, y9_, z⟩
        refine ⟨fun c => ?_, fun c => ?_⟩
        · replace h := h.1 c
          replace K := fun i ro uo z => K i ro uo (Or.inl ⟨c, z⟩)
          exact ⟨h, K i0 _ _ ⟨rfl, rfl⟩⟩
        · replace h := h.2 c
          replace K := fun i ro uo z => K i ro uo (Or.inr ⟨c, z⟩)
          exact ⟨h, K i0 _ _ ⟨rfl, rfl⟩⟩
      · replace h := h.2 c
        replace K := fun i ro uo z => K i ro uo (Or.inr ⟨c, z⟩)
        refine ⟨fun c => ?_, fun c => ?_⟩
        · replace h := h.1 c
          replace K := fun i ro uo z => K i ro uo (Or.inl ⟨c, z⟩)
          refine ⟨fun c => ?_, fun c => ?_⟩
          · replace h := h.1 c
            replace K := fun i ro uo z => K i ro uo (Or.inl ⟨c, z⟩)
            exact ⟨h, K i0 _ _ ⟨rfl, rfl⟩⟩
          · replace h := h.2 c
            replace K := fun i ro uo z => K i ro uo (Or.inr ⟨c, z⟩)
            exact ⟨h, K i0 _ _ ⟨rfl, rfl⟩⟩
        · replace h := h.2 c
          replace K := fun i ro uo z => K i ro uo (Or.inr ⟨c, z⟩)
          refine ⟨fun c => ?_, fun c => ?_⟩
          · replace h := h.1 c
            replace K := fun i ro uo z => K i ro uo (Or.inl ⟨c, z⟩)
            refine ⟨fun c => ?_, fun c => ?_⟩
            · replace h := h.1 c
              replace K := fun i ro uo z => K i ro uo (Or.inl ⟨c, z⟩)
              exact ⟨h, K i0 _ _ ⟨rfl, rfl⟩⟩
            · replace h := h.2 c
              replace K := fun i ro uo z => K i ro uo (Or.inr ⟨c, z⟩)
              exact ⟨h, K i0 _ _ ⟨rfl, rfl⟩⟩
          · replace h := h.2 c
            replace K := fun i ro uo z => K i ro uo (Or.inr ⟨c, z⟩)
            refine ⟨fun c => ?_, fun c => ?_⟩
            · replace h := h.1 c
              replace K := fun i ro uo z => K i ro uo (Or.inl ⟨c, z⟩)
              obtain ⟨Q9, h0, h⟩ := h
              refine ⟨_, ruX5_pop h0, ?_⟩
              intro r24 S25 q10_ y11_ y12_
              replace h := h r24 S25 q10_.1 y11_ y12_
              replace K := fun i ro uo z => K i ro uo ⟨r24, S25, q10_.2, y11_, y12_, z⟩
              obtain ⟨g13_, h⟩ := h
              refine ⟨g13_, ?_⟩
              replace K := fun i ro uo z => K i ro uo ⟨g13_, z⟩
              exact ⟨h, K i0 _ _ ⟨rfl, rfl⟩⟩
            · replace h := h.2 c
              replace K := fun i ro uo z => K i ro uo (Or.inr ⟨c, z⟩)
              obtain ⟨g14_, h⟩ := h
              refine ⟨g14_, ?_⟩
              replace K := fun i ro uo z => K i ro uo ⟨g14_, z⟩
              exact ⟨h, K i0 _ _ ⟨rfl, rfl⟩⟩
set_option maxRecDepth 100000 in
theorem vwX5_isJumpTaken {S : MS} {x1 : Int32} {ro : Int32} {uo : MS} (h : vX5_isJumpTaken S x1 ro uo) : wX5_isJumpTaken S x1 (fun r u => r = ro ∧ u = uo) := by
  unfold vX5_isJumpTaken at h
  unfold wX5_isJumpTaken
  rcases h with ⟨c, h⟩ | ⟨c, h⟩
  · refine ⟨fun _ => ?_, fun c2 => absurd c c2⟩
    exact ⟨h.1.symm, h.2.symm⟩
  · refine ⟨fun c2 => absurd c2 c, fun _ => ?_⟩
    obtain ⟨p9, q9, z9, h⟩ := h
    refine ⟨_, vwX5_pop z9, ?_⟩
    rintro p8 q8 ⟨d8, d9⟩ _ _
    subst d8
    subst d9
    replace h := h.2.2
    rcases h with ⟨c, h⟩ | ⟨c, h⟩
    · refine ⟨fun _ => ?_, fun c2 => absurd c c2⟩
      obtain ⟨p9, q9, z9, h⟩ := h
      refine ⟨_, vwX5_pop z9, ?_⟩
      rintro p8 q8 ⟨d8, d9⟩ _ _
      subst d8
      subst d9
      replace h := h.2.2
      rcases h with ⟨c, h⟩ | ⟨c, h⟩
      · refine ⟨fun _ => ?_, fun c2 => absurd c c2⟩
        exact ⟨h.1.symm, h.2.symm⟩
      · refine ⟨fun c2 => absurd c2 c, fun _ => ?_⟩
        exact ⟨h.1.symm, h.2.symm⟩
    · refine ⟨fun c2 => absurd c2 c, fun _ => ?_⟩
      rcases h with ⟨c, h⟩ | ⟨c, h⟩
      · refine ⟨fun _ => ?_, fun c2 => absurd c c2⟩
        obtain ⟨p9, q9, z9, h⟩ := h
        refine ⟨_, vwX5_pop z9, ?_⟩
        rintro p8 q8 ⟨d8, d9⟩ _ _
        subst d8
        subst d9
        replace h := h.2.2
        rcases h with ⟨c, h⟩ | ⟨c, h⟩
        · refine ⟨fun _ => ?_, fun c2 => absurd c c2⟩
          exact ⟨h.1.symm, h.2.symm⟩
        · refine ⟨fun c2 => absurd c2 c, fun _ => ?_⟩
          exact ⟨h.1.symm, h.2.symm⟩
      · refine ⟨fun c2 => absurd c2 c, fun _ => ?_⟩
        rcases h with ⟨c, h⟩ | ⟨c, h⟩
        · refine ⟨fun _ => ?_, fun c2 => absurd c c2⟩
          rcases h with ⟨c, h⟩ | ⟨c, h⟩
          · refine ⟨fun _ => ?_, fun c2 => absurd c c2⟩
            exact ⟨h.1.symm, h.2.symm⟩
          · refine ⟨fun c2 => absurd c2 c, fun _ => ?_⟩
            exact ⟨h.1.symm, h.2.symm⟩
        · refine ⟨fun c2 => absurd c2 c, fun _ => ?_⟩
          rcases h with ⟨c, h⟩ | ⟨c, h⟩
          · refine ⟨fun _ => ?_, fun c2 => absurd c c2⟩
            rcases h with ⟨c, h⟩ | ⟨c, h⟩
            · refine ⟨fun _ => ?_, fun c2 => absurd c c2⟩
              exact ⟨h.1.symm, h.2.symm⟩
            · refine ⟨fun c2 => absurd c2 c, fun _ => ?_⟩
              exact ⟨h.1.symm, h.2.symm⟩
          · refine ⟨fun c2 => absurd c2 c, fun _ => ?_⟩
            rcases h with ⟨c, h⟩ | ⟨c, h⟩
            · refine ⟨fun _ => ?_, fun c2 => absurd c c2⟩
              obtain ⟨p9, q9, z9, h⟩ := h
              refine ⟨_, vwX5_pop z9, ?_⟩
              rintro p8 q8 ⟨d8, d9⟩ _ _
              subst d8
              subst d9
              replace h := h.2.2
              obtain ⟨g9, h⟩ := h
              refine ⟨g9, ?_⟩
              exact ⟨h.1.symm, h.2.symm⟩
            · refine ⟨fun c2 => absurd c2 c, fun _ => ?_⟩
              obtain ⟨g9, h⟩ := h
              refine ⟨g9, ?_⟩
              exact ⟨h.1.symm, h.2.symm⟩
set_option maxRecDepth 100000 in
theorem vpX5_isJumpTaken {S : MS} {x1 : Int32} {ro : Int32} {uo : MS} {P : Int32 → MS → Prop} (h : vX5_isJumpTaken S x1 ro uo) (w : wX5_isJumpTaken S x1 P) : P ro uo := by
  unfold vX5_isJumpTaken at h
  unfold wX5_isJumpTaken at w
  rcases h with ⟨c, h⟩ | ⟨c, h⟩
  · replace w := w.1 c
    rw [h.1, h.2]
    exact w
  · replace w := w.2 c
    obtain ⟨p9, q9, z9, y1_, y2_, h⟩ := h
    obtain ⟨Q9, w0, w⟩ := w
    replace w := w p9 q9 (vpX5_pop z9 w0) y1_ y2_
    rcases h with ⟨c, h⟩ | ⟨c, h⟩
    · replace w := w.1 c
      obtain ⟨p9, q9, z9, y3_, y4_, h⟩ := h
      obtain ⟨Q9, w0, w⟩ := w
      replace w := w p9 q9 (vpX5_pop z9 w0) y3_ y4_
      rcases h with ⟨c, h⟩ | ⟨c, h⟩
      · replace w := w.1 c
        rw [h.1, h.2]
        exact w
      · replace w := w.2 c
        rw [h.1, h.2]
        exact w
    · replace w := w.2 c
      rcases h with ⟨c, h⟩ | ⟨c, h⟩
      · replace w := w.1 c
        obtain ⟨p9, q9, z9, y5_, y6_, h⟩ := h
        obtain ⟨Q9, w0, w⟩ := w
        replace w := w p9 q9 (vpX5_pop z9 w0) y5_ y6_
        rcases h with ⟨c, h⟩ | ⟨c, h⟩
        · replace w := w.1 c
          rw [h.1, h.2]
          exact w
        · replace w := w.2 c
          rw [h.1, h.2]
          exact w
      · replace w := w.2 c
        rcases h with ⟨c, h⟩ | ⟨c, h⟩
        · replace w := w.1 c
          rcases h with ⟨c, h⟩ | ⟨c, h⟩
          · replace w := w.1 c
            rw [h.1, h.2]
            exact w
          · replace w := w.2 c
            rw [h.1, h.2]
            exact w
        · replace w := w.2 c
          rcases h with ⟨c, h⟩ | ⟨c, h⟩
          · replace w := w.1 c
            rcases h with ⟨c, h⟩ | ⟨c, h⟩
            · replace w := w.1 c
              rw [h.1, h.2]
              exact w
            · replace w := w.2 c
              rw [h.1, h.2]
              exact w
          · replace w := w.2 c
            rcases h with ⟨c, h⟩ | ⟨c, h⟩
            · replace w := w.1 c
              obtain ⟨p9, q9, z9, y7_, y8_, h⟩ := h
              obtain ⟨Q9, w0, w⟩ := w
              replace w := w p9 q9 (vpX5_pop z9 w0) y7_ y8_
              replace h := h.2
              replace w := w.2
              rw [h.1, h.2]
              exact w
            · replace w := w.2 c
              replace h := h.2
              replace w := w.2
              rw [h.1, h.2]
              exact w
def v_X5_switchChoice_J67 (ro : Int32) (uo : MS) (U67 : MS) : Prop := (wfC U67 ∧ (ro = (0 : Int32) ∧ uo = U67))
def v_X5_switchChoice_L80 (ro : Int32) (uo : MS) : Nat → MS → Int32 → Int32 → Int32 → Int32 → Prop
  | 0, _, _, _, _, _ => False
  | n80 + 1, U80, v80_2, v80_3, v80_4, v80_5 => (wfC U80 ∧ ((v80_4.toInt < v80_5.toInt ∧ (ro = (0 : Int32) ∧ uo = U80)) ∨ (¬ v80_4.toInt < v80_5.toInt ∧ ((qR U80 44 12 = some (qO U80 44 12)) ∧ (d_X8_tableAt U80 (qO U80 44 12) (((v80_3 + (2 : Int32)) + v80_4) + v80_5) ∧ (((fX8_tableAt U80 (qO U80 44 12) (((v80_3 + (2 : Int32)) + v80_4) + v80_5)).toInt = v80_2.toInt ∧ (ro = v80_5 ∧ uo = U80)) ∨ (¬ (fX8_tableAt U80 (qO U80 44 12) (((v80_3 + (2 : Int32)) + v80_4) + v80_5)).toInt = v80_2.toInt ∧ (∃ a25 : Int32, a25 = (v80_5 + Int32.ofInt 1) ∧ ((v_X5_switchChoice_L80 ro uo n80) U80 v80_2 v80_3 v80_4 a25)))))))))
def vX5_switchChoice (S : MS) (x1 : Int32) (x2 : Int32) (ro : Int32) (uo : MS) : Prop := ((qR S 44 12 = some (qO S 44 12)) ∧ (d_X8_argAt S (qO S 44 12) (qI S 44 13) ∧ (∃ a6 : Int32, a6 = ((fX8_argAt S (qO S 44 12) (qI S 44 13)).toInt32) ∧ ((qR S 44 12 = some (qO S 44 12)) ∧ (d_X8_targetCount S (qO S 44 12) (qI S 44 13) ∧ (∃ a13 : Int32, a13 = ((fX8_targetCount S (qO S 44 12) (qI S 44 13)) - (1 : Int32)) ∧ ((x1.toInt = 170 ∧ ((qR S 44 12 = some (qO S 44 12)) ∧ (d_X8_tableAt S (qO S 44 12) (a6 + (1 : Int32)) ∧ (∃ a33 : Int64, a33 = ((x2.toInt64) - ((fX8_tableAt S (qO S 44 12) (a6 + (1 : Int32))).toInt64)) ∧ (((lg_cmp a33 0).toInt < 0 ∧ (v_X5_switchChoice_J67 ro uo S)) ∨ (¬ (lg_cmp a33 0).toInt < 0 ∧ (((lg_cmp a33 (a13.toInt64)).toInt < 0 ∧ (ro = ((a33.toInt32) + (1 : Int32)) ∧ uo = S)) ∨ (¬ (lg_cmp a33 (a13.toInt64)).toInt < 0 ∧ (v_X5_switchChoice_J67 ro uo S))))))))) ∨ (¬ x1.toInt = 170 ∧ (∃ n, v_X5_switchChoice_L80 ro uo n S x2 a6 a13 1)))))))))
set_option maxRecDepth 100000 in
theorem ru_X5_switchChoice_J67 {ι : Type} {P Q : Int32 → MS → Prop} {U67 : MS} (i0 : ι) (K : ∀ (i : ι) (ro : Int32) (uo : MS), v_X5_switchChoice_J67 ro uo U67 → P ro uo) (h : w_X5_switchChoice_J67 Q U67) : w_X5_switchChoice_J67 (fun r u => Q r u ∧ P r u) U67 := by
  unfold w_X5_switchChoice_J67 at h ⊢
  intro y1_
  replace h := h y1_
  replace K := fun i ro uo z => K i ro uo ⟨y1_, z⟩
  exact ⟨h, K i0 _ _ ⟨rfl, rfl⟩⟩
set_option maxRecDepth 100000 in
theorem ru_X5_switchChoice_L80 {ι : Type} {P Q : Int32 → MS → Prop} : ∀ (n : Nat) {U80 : MS} {v80_2 : Int32} {v80_3 : Int32} {v80_4 : Int32} {v80_5 : Int32} (i0 : ι), (∀ (i : ι) (ro : Int32) (uo : MS), (∃ n8, v_X5_switchChoice_L80 ro uo n8 U80 v80_2 v80_3 v80_4 v80_5) → P ro uo) → w_X5_switchChoice_L80 Q n U80 v80_2 v80_3 v80_4 v80_5 → w_X5_switchChoice_L80 (fun r u => Q r u ∧ P r u) n U80 v80_2 v80_3 v80_4 v80_5 := by
  intro n
  induction n with
  | zero => intro U80 v80_2 v80_3 v80_4 v80_5 i0 K h; unfold w_X5_switchChoice_L80 at h; exact h.elim
  | succ n ih =>
    intro U80 v80_2 v80_3 v80_4 v80_5 i0 K h
    unfold w_X5_switchChoice_L80 at h ⊢
    replace K := fun (i : ι × Nat) ro uo (z : v_X5_switchChoice_L80 ro uo (i.2 + 1) U80 v80_2 v80_3 v80_4 v80_5) => K i.1 ro uo ⟨i.2 + 1, z⟩
    have i00 := i0
    replace i0 : ι × Nat := (i0, 0)
    intro y2_
    replace h := h y2_
    replace K := fun i ro uo z => K i ro uo ⟨y2_, z⟩
    refine ⟨fun c => ?_, fun c => ?_⟩
    · replace h := h.1 c
      replace K := fun i ro uo z => K i ro uo (Or.inl ⟨c, z⟩)
      exact ⟨h, K i0 _ _ ⟨rfl, rfl⟩⟩
    · replace h := h.2 c
      replace K := fun i ro uo z => K i ro uo (Or.inr ⟨c, z⟩)
      obtain ⟨g3_, h⟩ := h
      refine ⟨g3_, ?_⟩
      replace K := fun i ro uo z => K i ro uo ⟨g3_, z⟩
      obtain ⟨g4_, h⟩ := h
      refine ⟨g4_, ?_⟩
      replace K := fun i ro uo z => K i ro uo ⟨g4_, z⟩
      refine ⟨fun c => ?_, fun c => ?_⟩
      · replace h := h.1 c
        replace K := fun i ro uo z => K i ro uo (Or.inl ⟨c, z⟩)
        exact ⟨h, K i0 _ _ ⟨rfl, rfl⟩⟩
      · replace h := h.2 c
        replace K := fun i ro uo z => K i ro uo (Or.inr ⟨c, z⟩)
        intro a25 ea25 
        replace h := h a25 ea25 
        replace K := fun i ro uo z => K i ro uo ⟨a25, ea25, z⟩
        exact ih i00 (fun i ro uo ⟨n8, z⟩ => K (i, n8) ro uo z) h
set_option maxRecDepth 100000 in
theorem ruX5_switchChoice {S : MS} {x1 : Int32} {x2 : Int32} {Q : Int32 → MS → Prop} (h : wX5_switchChoice S x1 x2 Q) : wX5_switchChoice S x1 x2 (fun r u => Q r u ∧ vX5_switchChoice S x1 x2 r u) := by
  have i0 : Unit := ()
  have K : ∀ (i : Unit) (ro : Int32) (uo : MS), vX5_switchChoice S x1 x2 ro uo → vX5_switchChoice S x1 x2 ro uo := fun _ _ _ z => z
  unfold wX5_switchChoice at h ⊢
  obtain ⟨g5_, h⟩ := h
  refine ⟨g5_, ?_⟩
  replace K := fun i ro uo z => K i ro uo ⟨g5_, z⟩
  obtain ⟨g6_, h⟩ := h
  refine ⟨g6_, ?_⟩
  replace K := fun i ro uo z => K i ro uo ⟨g6_, z⟩
  intro a6 ea6 
  replace h := h a6 ea6 
  replace K := fun i ro uo z => K i ro uo ⟨a6, ea6, z⟩
  obtain ⟨g7_, h⟩ := h
  refine ⟨g7_, ?_⟩
  replace K := fun i ro uo z => K i ro uo ⟨g7_, z⟩
  obtain ⟨g8_, h⟩ := h
  refine ⟨g8_, ?_⟩
  replace K := fun i ro uo z => K i ro uo ⟨g8_, z⟩
  intro a13 ea13 
  replace h := h a13 ea13 
  replace K := fun i ro uo z => K i ro uo ⟨a13, ea13, z⟩
  refine ⟨fun c => ?_, fun c => ?_⟩
  · replace h := h.1 c
    replace K := fun i ro uo z => K i ro uo (Or.inl ⟨c, z⟩)
    obtain ⟨g9_, h⟩ := h
    refine ⟨g9_, ?_⟩
    replace K := fun i ro uo z => K i ro uo ⟨g9_, z⟩
    obtain ⟨g10_, h⟩ := h
    refine ⟨g10_, ?_⟩
    replace K := fun i ro uo z => K i ro uo ⟨g10_, z⟩
    intro a33 ea33 
    replace h := h a33 ea33 
    replace K := fun i ro uo z => K i ro uo ⟨a33, ea33, z⟩
    refine ⟨fun c => ?_, fun c => ?_⟩
    · replace h := h.1 c
      replace K := fun i ro uo z => K i ro uo (Or.inl ⟨c, z⟩)
      exact ru_X5_switchChoice_J67 i0 K h
    · replace h := h.2 c
      replace K := fun i ro uo z => K i ro uo (Or.inr ⟨c, z⟩)
      refine ⟨fun c => ?_, fun c => ?_⟩
      · replace h := h.1 c
        replace K := fun i ro uo z => K i ro uo (Or.inl ⟨c, z⟩)
        exact ⟨h, K i0 _ _ ⟨rfl, rfl⟩⟩
      · replace h := h.2 c
        replace K := fun i ro uo z => K i ro uo (Or.inr ⟨c, z⟩)
        exact ru_X5_switchChoice_J67 i0 K h
  · replace h := h.2 c
    replace K := fun i ro uo z => K i ro uo (Or.inr ⟨c, z⟩)
    obtain ⟨n9, h⟩ := h
    exact ⟨n9, ru_X5_switchChoice_L80 n9 i0 K h⟩
set_option maxRecDepth 100000 in
theorem vw_X5_switchChoice_J67 {ro : Int32} {uo : MS} {U67 : MS} (h : v_X5_switchChoice_J67 ro uo U67) : w_X5_switchChoice_J67 (fun r u => r = ro ∧ u = uo) U67 := by
  unfold v_X5_switchChoice_J67 at h
  unfold w_X5_switchChoice_J67
  intro _
  replace h := h.2
  exact ⟨h.1.symm, h.2.symm⟩
set_option maxRecDepth 100000 in
theorem vp_X5_switchChoice_J67 {ro : Int32} {uo : MS} {P : Int32 → MS → Prop} {U67 : MS} (h : v_X5_switchChoice_J67 ro uo U67) (w : w_X5_switchChoice_J67 P U67) : P ro uo := by
  unfold v_X5_switchChoice_J67 at h
  unfold w_X5_switchChoice_J67 at w
  obtain ⟨y1_, h⟩ := h
  replace w := w y1_
  rw [h.1, h.2]
  exact w
set_option maxRecDepth 100000 in
theorem vw_X5_switchChoice_L80 {ro : Int32} {uo : MS} : ∀ (n : Nat) {U80 : MS} {v80_2 : Int32} {v80_3 : Int32} {v80_4 : Int32} {v80_5 : Int32}, v_X5_switchChoice_L80 ro uo n U80 v80_2 v80_3 v80_4 v80_5 → w_X5_switchChoice_L80 (fun r u => r = ro ∧ u = uo) n U80 v80_2 v80_3 v80_4 v80_5 := by
  intro n
  induction n with
  | zero => intro U80 v80_2 v80_3 v80_4 v80_5 h; unfold v_X5_switchChoice_L80 at h; exact h.elim
  | succ n ih =>
    intro U80 v80_2 v80_3 v80_4 v80_5 h
    unfold v_X5_switchChoice_L80 at h
    unfold w_X5_switchChoice_L80
    intro _
    replace h := h.2
    rcases h with ⟨c, h⟩ | ⟨c, h⟩
    · refine ⟨fun _ => ?_, fun c2 => absurd c c2⟩
      exact ⟨h.1.symm, h.2.symm⟩
    · refine ⟨fun c2 => absurd c2 c, fun _ => ?_⟩
      obtain ⟨g9, h⟩ := h
      refine ⟨g9, ?_⟩
      obtain ⟨g9, h⟩ := h
      refine ⟨g9, ?_⟩
      rcases h with ⟨c, h⟩ | ⟨c, h⟩
      · refine ⟨fun _ => ?_, fun c2 => absurd c c2⟩
        exact ⟨h.1.symm, h.2.symm⟩
      · refine ⟨fun c2 => absurd c2 c, fun _ => ?_⟩
        obtain ⟨v9, e9, h⟩ := h
        intro x9 d9 
        have c9 : v9 = x9 := e9.trans d9.symm
        subst c9
        exact ih h
set_option maxRecDepth 100000 in
theorem vp_X5_switchChoice_L80 {ro : Int32} {uo : MS} {P : Int32 → MS → Prop} : ∀ (n m : Nat) {U80 : MS} {v80_2 : Int32} {v80_3 : Int32} {v80_4 : Int32} {v80_5 : Int32}, v_X5_switchChoice_L80 ro uo n U80 v80_2 v80_3 v80_4 v80_5 → w_X5_switchChoice_L80 P m U80 v80_2 v80_3 v80_4 v80_5 → P ro uo := by
  intro n
  induction n with
  | zero => intro m U80 v80_2 v80_3 v80_4 v80_5 h; unfold v_X5_switchChoice_L80 at h; exact h.elim
  | succ n ih =>
    intro m U80 v80_2 v80_3 v80_4 v80_5 h w
    cases m with
    | zero => unfold w_X5_switchChoice_L80 at w; exact w.elim
    | succ m =>
      unfold v_X5_switchChoice_L80 at h
      unfold w_X5_switchChoice_L80 at w
      obtain ⟨y2_, h⟩ := h
      replace w := w y2_
      rcases h with ⟨c, h⟩ | ⟨c, h⟩
      · replace w := w.1 c
        rw [h.1, h.2]
        exact w
      · replace w := w.2 c
        replace h := h.2
        replace w := w.2
        replace h := h.2
        replace w := w.2
        rcases h with ⟨c, h⟩ | ⟨c, h⟩
        · replace w := w.1 c
          rw [h.1, h.2]
          exact w
        · replace w := w.2 c
          obtain ⟨v9, e9, h⟩ := h
          replace w := w v9 e9 
          exact ih m h w
set_option maxRecDepth 100000 in
theorem vwX5_switchChoice {S : MS} {x1 : Int32} {x2 : Int32} {ro : Int32} {uo : MS} (h : vX5_switchChoice S x1 x2 ro uo) : wX5_switchChoice S x1 x2 (fun r u => r = ro ∧ u = uo) := by
  unfold vX5_switchChoice at h
  unfold wX5_switchChoice
  obtain ⟨g9, h⟩ := h
  refine ⟨g9, ?_⟩
  obtain ⟨g9, h⟩ := h
  refine ⟨g9, ?_⟩
  obtain ⟨v9, e9, h⟩ := h
  intro x9 d9 
  have c9 : v9 = x9 := e9.trans d9.symm
  subst c9
  obtain ⟨g9, h⟩ := h
  refine ⟨g9, ?_⟩
  obtain ⟨g9, h⟩ := h
  refine ⟨g9, ?_⟩
  obtain ⟨v9, e9, h⟩ := h
  intro x9 d9 
  have c9 : v9 = x9 := e9.trans d9.symm
  subst c9
  rcases h with ⟨c, h⟩ | ⟨c, h⟩
  · refine ⟨fun _ => ?_, fun c2 => absurd c c2⟩
    obtain ⟨g9, h⟩ := h
    refine ⟨g9, ?_⟩
    obtain ⟨g9, h⟩ := h
    refine ⟨g9, ?_⟩
    obtain ⟨v9, e9, h⟩ := h
    intro x9 d9 
    have c9 : v9 = x9 := e9.trans d9.symm
    subst c9
    rcases h with ⟨c, h⟩ | ⟨c, h⟩
    · refine ⟨fun _ => ?_, fun c2 => absurd c c2⟩
      exact vw_X5_switchChoice_J67 h
    · refine ⟨fun c2 => absurd c2 c, fun _ => ?_⟩
      rcases h with ⟨c, h⟩ | ⟨c, h⟩
      · refine ⟨fun _ => ?_, fun c2 => absurd c c2⟩
        exact ⟨h.1.symm, h.2.symm⟩
      · refine ⟨fun c2 => absurd c2 c, fun _ => ?_⟩
        exact vw_X5_switchChoice_J67 h
  · refine ⟨fun c2 => absurd c2 c, fun _ => ?_⟩
    obtain ⟨n9, h⟩ := h
    exact ⟨n9, vw_X5_switchChoice_L80 n9 h⟩
set_option maxRecDepth 100000 in
theorem vpX5_switchChoice {S : MS} {x1 : Int32} {x2 : Int32} {ro : Int32} {uo : MS} {P : Int32 → MS → Prop} (h : vX5_switchChoice S x1 x2 ro uo) (w : wX5_switchChoice S x1 x2 P) : P ro uo := by
  unfold vX5_switchChoice at h
  unfold wX5_switchChoice at w
  replace h := h.2
  replace w := w.2
  replace h := h.2
  replace w := w.2
  obtain ⟨v9, e9, h⟩ := h
  replace w := w v9 e9 
  replace h := h.2
  replace w := w.2
  replace h := h.2
  replace w := w.2
  obtain ⟨v9, e9, h⟩ := h
  replace w := w v9 e9 
  rcases h with ⟨c, h⟩ | ⟨c, h⟩
  · replace w := w.1 c
    replace h := h.2
    replace w := w.2
    replace h := h.2
    replace w := w.2
    obtain ⟨v9, e9, h⟩ := h
    replace w := w v9 e9 
    rcases h with ⟨c, h⟩ | ⟨c, h⟩
    · replace w := w.1 c
      exact vp_X5_switchChoice_J67 h w
    · replace w := w.2 c
      rcases h with ⟨c, h⟩ | ⟨c, h⟩
      · replace w := w.1 c
        rw [h.1, h.2]
        exact w
      · replace w := w.2 c
        exact vp_X5_switchChoice_J67 h w
  · replace w := w.2 c
    obtain ⟨n9, h⟩ := h
    obtain ⟨n8, w⟩ := w
    exact vp_X5_switchChoice_L80 n9 n8 h w
def v_X5_move_J29 (uo : MS) (U29 : MS) (v29_1 : Int32) : Prop := (wfC U29 ∧ (d_X6_gives U29 v29_1 ∧ (∃ a10 : Int32, a10 = (fX6_gives U29 v29_1) ∧ ((qR U29 44 12 = some (qO U29 44 12)) ∧ (d_X8_argAt U29 (qO U29 44 12) (qI U29 44 13) ∧ (∃ a16 : Int64, a16 = (fX8_argAt U29 (qO U29 44 12) (qI U29 44 13)) ∧ (∃ (S18 : MS), vX5_push_ U29 a10 a16 S18 ∧ wfC S18 ∧ shy U29 S18 ∧ (uo = S18))))))))
def vX5_move (S : MS) (x1 : Int32) (uo : MS) : Prop := ((qR S 44 12 = some (qO S 44 12)) ∧ (d_X8_localOf S (qO S 44 12) (qI S 44 13) ∧ (∃ a6 : Int32, a6 = (fX8_localOf S (qO S 44 12) (qI S 44 13)) ∧ ((x1.toInt = 17 ∧ (v_X5_move_J29 uo S x1)) ∨ (¬ x1.toInt = 17 ∧ ((x1.toInt = 20 ∧ (v_X5_move_J29 uo S x1)) ∨ (¬ x1.toInt = 20 ∧ ((x1.toInt = 1 ∧ (v_X5_move_J29 uo S x1)) ∨ (¬ x1.toInt = 1 ∧ (d_X6_isLoad S x1 ∧ (∃ a26 : Int32, a26 = (fX6_isLoad S x1) ∧ ((a26.toInt = 0 ∧ (d_X6_isStore S x1 ∧ (∃ a31 : Int32, a31 = (fX6_isStore S x1) ∧ ((a31.toInt = 0 ∧ ((x1.toInt = 132 ∧ (∃ (r38 : Int64) (S39 : MS), vX5_localAt S a6 r38 S39 ∧ wfC S39 ∧ shy S S39 ∧ ((qR S39 44 12 = some (qO S39 44 12)) ∧ (d_X8_stepOf S39 (qO S39 44 12) (qI S39 44 13) ∧ (∃ a46 : Int32, a46 = (fX8_stepOf S39 (qO S39 44 12) (qI S39 44 13)) ∧ (∃ (S49 : MS), vX5_setLocal S39 a6 (((r38.toInt32) + a46).toInt64) S49 ∧ wfC S49 ∧ shy S39 S49 ∧ (uo = S49))))))) ∨ (¬ x1.toInt = 132 ∧ ((x1.toInt = 0 ∧ (uo = S)) ∨ (¬ x1.toInt = 0 ∧ (∃ S36 : MS, S36 = wI S 44 19 ((qI S 44 19) + (1 : Int32)) ∧ qT S 44 = 45 ∧ wfC S36 ∧ (uo = S36))))))) ∨ (¬ a31.toInt = 0 ∧ (d_X6_takes S x1 ∧ (∃ a54 : Int32, a54 = (fX6_takes S x1) ∧ (∃ (r56 : Int64) (S57 : MS), vX5_pop_ S a54 r56 S57 ∧ wfC S57 ∧ shy S S57 ∧ (∃ (S60 : MS), vX5_setLocal S57 a6 r56 S60 ∧ wfC S60 ∧ shy S57 S60 ∧ (uo = S60)))))))))) ∨ (¬ a26.toInt = 0 ∧ (d_X6_gives S x1 ∧ (∃ a65 : Int32, a65 = (fX6_gives S x1) ∧ (∃ (r67 : Int64) (S68 : MS), vX5_localAt S a6 r67 S68 ∧ wfC S68 ∧ shy S S68 ∧ (∃ (S71 : MS), vX5_push_ S68 a65 r67 S71 ∧ wfC S71 ∧ shy S68 S71 ∧ (uo = S71))))))))))))))))))
set_option maxRecDepth 100000 in
theorem ru_X5_move_J29 {ι : Type} {P Q : MS → Prop} {U29 : MS} {v29_1 : Int32} (i0 : ι) (K : ∀ (i : ι) (uo : MS), v_X5_move_J29 uo U29 v29_1 → P uo) (h : w_X5_move_J29 Q U29 v29_1) : w_X5_move_J29 (fun u => Q u ∧ P u) U29 v29_1 := by
  unfold w_X5_move_J29 at h ⊢
  intro y1_
  replace h := h y1_
  replace K := fun i uo z => K i uo ⟨y1_, z⟩
  obtain ⟨g2_, h⟩ := h
  refine ⟨g2_, ?_⟩
  replace K := fun i uo z => K i uo ⟨g2_, z⟩
  intro a10 ea10 
  replace h := h a10 ea10 
  replace K := fun i uo z => K i uo ⟨a10, ea10, z⟩
  obtain ⟨g3_, h⟩ := h
  refine ⟨g3_, ?_⟩
  replace K := fun i uo z => K i uo ⟨g3_, z⟩
  obtain ⟨g4_, h⟩ := h
  refine ⟨g4_, ?_⟩
  replace K := fun i uo z => K i uo ⟨g4_, z⟩
  intro a16 ea16 
  replace h := h a16 ea16 
  replace K := fun i uo z => K i uo ⟨a16, ea16, z⟩
  obtain ⟨Q9, h0, h⟩ := h
  refine ⟨_, ruX5_push_ h0, ?_⟩
  intro S18 q5_ y6_ y7_
  replace h := h S18 q5_.1 y6_ y7_
  replace K := fun i uo z => K i uo ⟨S18, q5_.2, y6_, y7_, z⟩
  exact ⟨h, K i0 _ rfl⟩
set_option maxRecDepth 100000 in
theorem ruX5_move {S : MS} {x1 : Int32} {Q : MS → Prop} (h : wX5_move S x1 Q) : wX5_move S x1 (fun u => Q u ∧ vX5_move S x1 u) := by
  have i0 : Unit := ()
  have K : ∀ (i : Unit) (uo : MS), vX5_move S x1 uo → vX5_move S x1 uo := fun _ _ z => z
  unfold wX5_move at h ⊢
  obtain ⟨g8_, h⟩ := h
  refine ⟨g8_, ?_⟩
  replace K := fun i uo z => K i uo ⟨g8_, z⟩
  obtain ⟨g9_, h⟩ := h
  refine ⟨g9_, ?_⟩
  replace K := fun i uo z => K i uo ⟨g9_, z⟩
  intro a6 ea6 
  replace h := h a6 ea6 
  replace K := fun i uo z => K i uo ⟨a6, ea6, z⟩
  refine ⟨fun c => ?_, fun c => ?_⟩
  · replace h := h.1 c
    replace K := fun i uo z => K i uo (Or.inl ⟨c, z⟩)
    exact ru_X5_move_J29 i0 K h
  · replace h := h.2 c
    replace K := fun i uo z => K i uo (Or.inr ⟨c, z⟩)
    refine ⟨fun c => ?_, fun c => ?_⟩
    · replace h := h.1 c
      replace K := fun i uo z => K i uo (Or.inl ⟨c, z⟩)
      exact ru_X5_move_J29 i0 K h
    · replace h := h.2 c
      replace K := fun i uo z => K i uo (Or.inr ⟨c, z⟩)
      refine ⟨fun c => ?_, fun c => ?_⟩
      · replace h := h.1 c
        replace K := fun i uo z => K i uo (Or.inl ⟨c, z⟩)
        exact ru_X5_move_J29 i0 K h
      · replace h := h.2 c
        replace K := fun i uo z => K i uo (Or.inr ⟨c, z⟩)
        obtain ⟨g10_, h⟩ := h
        refine ⟨g10_, ?_⟩
        replace K := fun i uo z => K i uo ⟨g10_, z⟩
        intro a26 ea26 
        replace h := h a26 ea26 
        replace K := fun i uo z => K i uo ⟨a26, ea26, z⟩
        refine ⟨fun c => ?_, fun c => ?_⟩
        · replace h := h.1 c
          replace K := fun i uo z => K i uo (Or.inl ⟨c, z⟩)
          obtain ⟨g11_, h⟩ := h
          refine ⟨g11_, ?_⟩
          replace K := fun i uo z => K i uo ⟨g11_, z⟩
          intro a31 ea31 
          replace h := h a31 ea31 
          replace K := fun i uo z => K i uo ⟨a31, ea31, z⟩
          refine ⟨fun c => ?_, fun c => ?_⟩
          · replace h := h.1 c
            replace K := fun i uo z => K i uo (Or.inl ⟨c, z⟩)
            refine ⟨fun c => ?_, fun c => ?_⟩
            · replace h := h.1 c
              replace K := fun i uo z => K i uo (Or.inl ⟨c, z⟩)
              obtain ⟨Q9, h0, h⟩ := h
              refine ⟨_, ruX5_localAt h0, ?_⟩
              intro r38 S39 q12_ y13_ y14_
              replace h := h r38 S39 q12_.1 y13_ y14_
              replace K := fun i uo z => K i uo ⟨r38, S39, q12_.2, y13_, y14_, z⟩
              obtain ⟨g15_, h⟩ := h
              refine ⟨g15_, ?_⟩
              replace K := fun i uo z => K i uo ⟨g15_, z⟩
              obtain ⟨g16_, h⟩ := h
              refine ⟨g16_, ?_⟩
              replace K := fun i uo z => K i uo ⟨g16_, z⟩
              intro a46 ea46 
              replace h := h a46 ea46 
              replace K := fun i uo z => K i uo ⟨a46, ea46, z⟩
              obtain ⟨Q9, h0, h⟩ := h
              refine ⟨_, ruX5_setLocal h0, ?_⟩
              intro S49 q17_ y18_ y19_
              replace h := h S49 q17_.1 y18_ y19_
              replace K := fun i uo z => K i uo ⟨S49, q17_.2, y18_, y19_, z⟩
              exact ⟨h, K i0 _ rfl⟩
            · replace h := h.2 c
              replace K := fun i uo z => K i uo (Or.inr ⟨c, z⟩)
              refine ⟨fun c => ?_, fun c => ?_⟩
              · replace h := h.1 c
                replace K := fun i uo z => K i uo (Or.inl ⟨c, z⟩)
                exact ⟨h, K i0 _ rfl⟩
              · replace h := h.2 c
                replace K := fun i uo z => K i uo (Or.inr ⟨c, z⟩)
                intro S36 eS36 y20_ y21_
                replace h := h S36 eS36 y20_ y21_
                replace K := fun i uo z => K i uo ⟨S36, eS36, y20_, y21_, z⟩
                exact ⟨h, K i0 _ rfl⟩
          · replace h := h.2 c
            replace K := fun i uo z => K i uo (Or.inr ⟨c, z⟩)
            obtain ⟨g22_, h⟩ := h
            refine ⟨g22_, ?_⟩
            replace K := fun i uo z => K i uo ⟨g22_, z⟩
            intro a54 ea54 
            replace h := h a54 ea54 
            replace K := fun i uo z => K i uo ⟨a54, ea54, z⟩
            obtain ⟨Q9, h0, h⟩ := h
            refine ⟨_, ruX5_pop_ h0, ?_⟩
            intro r56 S57 q23_ y24_ y25_
            replace h := h r56 S57 q23_.1 y24_ y25_
            replace K := fun i uo z => K i uo ⟨r56, S57, q23_.2, y24_, y25_, z⟩
            obtain ⟨Q9, h0, h⟩ := h
            refine ⟨_, ruX5_setLocal h0, ?_⟩
            intro S60 q26_ y27_ y28_
            replace h := h S60 q26_.1 y27_ y28_
            replace K := fun i uo z => K i uo ⟨S60, q26_.2, y27_, y28_, z⟩
            exact ⟨h, K i0 _ rfl⟩
        · replace h := h.2 c
          replace K := fun i uo z => K i uo (Or.inr ⟨c, z⟩)
          obtain ⟨g29_, h⟩ := h
          refine ⟨g29_, ?_⟩
          replace K := fun i uo z => K i uo ⟨g29_, z⟩
          intro a65 ea65 
          replace h := h a65 ea65 
          replace K := fun i uo z => K i uo ⟨a65, ea65, z⟩
          obtain ⟨Q9, h0, h⟩ := h
          refine ⟨_, ruX5_localAt h0, ?_⟩
          intro r67 S68 q30_ y31_ y32_
          replace h := h r67 S68 q30_.1 y31_ y32_
          replace K := fun i uo z => K i uo ⟨r67, S68, q30_.2, y31_, y32_, z⟩
          obtain ⟨Q9, h0, h⟩ := h
          refine ⟨_, ruX5_push_ h0, ?_⟩
          intro S71 q33_ y34_ y35_
          replace h := h S71 q33_.1 y34_ y35_
          replace K := fun i uo z => K i uo ⟨S71, q33_.2, y34_, y35_, z⟩
          exact ⟨h, K i0 _ rfl⟩
set_option maxRecDepth 100000 in
theorem vw_X5_move_J29 {uo : MS} {U29 : MS} {v29_1 : Int32} (h : v_X5_move_J29 uo U29 v29_1) : w_X5_move_J29 (fun u => u = uo) U29 v29_1 := by
  unfold v_X5_move_J29 at h
  unfold w_X5_move_J29
  intro _
  replace h := h.2
  obtain ⟨g9, h⟩ := h
  refine ⟨g9, ?_⟩
  obtain ⟨v9, e9, h⟩ := h
  intro x9 d9 
  have c9 : v9 = x9 := e9.trans d9.symm
  subst c9
  obtain ⟨g9, h⟩ := h
  refine ⟨g9, ?_⟩
  obtain ⟨g9, h⟩ := h
  refine ⟨g9, ?_⟩
  obtain ⟨v9, e9, h⟩ := h
  intro x9 d9 
  have c9 : v9 = x9 := e9.trans d9.symm
  subst c9
  obtain ⟨q9, z9, h⟩ := h
  refine ⟨_, vwX5_push_ z9, ?_⟩
  intro q8 d9 _ _
  subst d9
  replace h := h.2.2
  exact h.symm
set_option maxRecDepth 100000 in
theorem vp_X5_move_J29 {uo : MS} {P : MS → Prop} {U29 : MS} {v29_1 : Int32} (h : v_X5_move_J29 uo U29 v29_1) (w : w_X5_move_J29 P U29 v29_1) : P uo := by
  unfold v_X5_move_J29 at h
  unfold w_X5_move_J29 at w
  obtain ⟨y1_, h⟩ := h
  replace w := w y1_
  replace h := h.2
  replace w := w.2
  obtain ⟨v9, e9, h⟩ := h
  replace w := w v9 e9 
  replace h := h.2
  replace w := w.2
  replace h := h.2
  replace w := w.2
  obtain ⟨v9, e9, h⟩ := h
  replace w := w v9 e9 
  obtain ⟨q9, z9, y2_, y3_, h⟩ := h
  obtain ⟨Q9, w0, w⟩ := w
  replace w := w q9 (vpX5_push_ z9 w0) y2_ y3_
  rw [h]
  exact w
set_option maxRecDepth 100000 in
theorem vwX5_move {S : MS} {x1 : Int32} {uo : MS} (h : vX5_move S x1 uo) : wX5_move S x1 (fun u => u = uo) := by
  unfold vX5_move at h
  unfold wX5_move
  obtain ⟨g9, h⟩ := h
  refine ⟨g9, ?_⟩
  obtain ⟨g9, h⟩ := h
  refine ⟨g9, ?_⟩
  obtain ⟨v9, e9, h⟩ := h
  intro x9 d9 
  have c9 : v9 = x9 := e9.trans d9.symm
  subst c9
  rcases h with ⟨c, h⟩ | ⟨c, h⟩
  · refine ⟨fun _ => ?_, fun c2 => absurd c c2⟩
    exact vw_X5_move_J29 h
  · refine ⟨fun c2 => absurd c2 c, fun _ => ?_⟩
    rcases h with ⟨c, h⟩ | ⟨c, h⟩
    · refine ⟨fun _ => ?_, fun c2 => absurd c c2⟩
      exact vw_X5_move_J29 h
    · refine ⟨fun c2 => absurd c2 c, fun _ => ?_⟩
      rcases h with ⟨c, h⟩ | ⟨c, h⟩
      · refine ⟨fun _ => ?_, fun c2 => absurd c c2⟩
        exact vw_X5_move_J29 h
      · refine ⟨fun c2 => absurd c2 c, fun _ => ?_⟩
        obtain ⟨g9, h⟩ := h
        refine ⟨g9, ?_⟩
        obtain ⟨v9, e9, h⟩ := h
        intro x9 d9 
        have c9 : v9 = x9 := e9.trans d9.symm
        subst c9
        rcases h with ⟨c, h⟩ | ⟨c, h⟩
        · refine ⟨fun _ => ?_, fun c2 => absurd c c2⟩
          obtain ⟨g9, h⟩ := h
          refine ⟨g9, ?_⟩
          obtain ⟨v9, e9, h⟩ := h
          intro x9 d9 
          have c9 : v9 = x9 := e9.trans d9.symm
          subst c9
          rcases h with ⟨c, h⟩ | ⟨c, h⟩
          · refine ⟨fun _ => ?_, fun c2 => absurd c c2⟩
            rcases h with ⟨c, h⟩ | ⟨c, h⟩
            · refine ⟨fun _ => ?_, fun c2 => absurd c c2⟩
              obtain ⟨p9, q9, z9, h⟩ := h
              refine ⟨_, vwX5_localAt z9, ?_⟩
              rintro p8 q8 ⟨d8, d9⟩ _ _
              subst d8
              subst d9
              replace h := h.2.2
              obtain ⟨g9, h⟩ := h
              refine ⟨g9, ?_⟩
              obtain ⟨g9, h⟩ := h
              refine ⟨g9, ?_⟩
              obtain ⟨v9, e9, h⟩ := h
              intro x9 d9 
              have c9 : v9 = x9 := e9.trans d9.symm
              subst c9
              obtain ⟨q9, z9, h⟩ := h
              refine ⟨_, vwX5_setLocal z9, ?_⟩
              intro q8 d9 _ _
              subst d9
              replace h := h.2.2
              exact h.symm
            · refine ⟨fun c2 => absurd c2 c, fun _ => ?_⟩
              rcases h with ⟨c, h⟩ | ⟨c, h⟩
              · refine ⟨fun _ => ?_, fun c2 => absurd c c2⟩
                exact h.symm
              · refine ⟨fun c2 => absurd c2 c, fun _ => ?_⟩
                obtain ⟨v9, e9, h⟩ := h
                intro x9 d9 _ _
                have c9 : v9 = x9 := e9.trans d9.symm
                subst c9
                replace h := h.2.2
                exact h.symm
          · refine ⟨fun c2 => absurd c2 c, fun _ => ?_⟩
            obtain ⟨g9, h⟩ := h
            refine ⟨g9, ?_⟩
            obtain ⟨v9, e9, h⟩ := h
            intro x9 d9 
            have c9 : v9 = x9 := e9.trans d9.symm
            subst c9
            obtain ⟨p9, q9, z9, h⟩ := h
            refine ⟨_, vwX5_pop_ z9, ?_⟩
            rintro p8 q8 ⟨d8, d9⟩ _ _
            subst d8
            subst d9
            replace h := h.2.2
            obtain ⟨q9, z9, h⟩ := h
            refine ⟨_, vwX5_setLocal z9, ?_⟩
            intro q8 d9 _ _
            subst d9
            replace h := h.2.2
            exact h.symm
        · refine ⟨fun c2 => absurd c2 c, fun _ => ?_⟩
          obtain ⟨g9, h⟩ := h
          refine ⟨g9, ?_⟩
          obtain ⟨v9, e9, h⟩ := h
          intro x9 d9 
          have c9 : v9 = x9 := e9.trans d9.symm
          subst c9
          obtain ⟨p9, q9, z9, h⟩ := h
          refine ⟨_, vwX5_localAt z9, ?_⟩
          rintro p8 q8 ⟨d8, d9⟩ _ _
          subst d8
          subst d9
          replace h := h.2.2
          obtain ⟨q9, z9, h⟩ := h
          refine ⟨_, vwX5_push_ z9, ?_⟩
          intro q8 d9 _ _
          subst d9
          replace h := h.2.2
          exact h.symm
set_option maxRecDepth 100000 in
theorem vpX5_move {S : MS} {x1 : Int32} {uo : MS} {P : MS → Prop} (h : vX5_move S x1 uo) (w : wX5_move S x1 P) : P uo := by
  unfold vX5_move at h
  unfold wX5_move at w
  replace h := h.2
  replace w := w.2
  replace h := h.2
  replace w := w.2
  obtain ⟨v9, e9, h⟩ := h
  replace w := w v9 e9 
  rcases h with ⟨c, h⟩ | ⟨c, h⟩
  · replace w := w.1 c
    exact vp_X5_move_J29 h w
  · replace w := w.2 c
    rcases h with ⟨c, h⟩ | ⟨c, h⟩
    · replace w := w.1 c
      exact vp_X5_move_J29 h w
    · replace w := w.2 c
      rcases h with ⟨c, h⟩ | ⟨c, h⟩
      · replace w := w.1 c
        exact vp_X5_move_J29 h w
      · replace w := w.2 c
        replace h := h.2
        replace w := w.2
        obtain ⟨v9, e9, h⟩ := h
        replace w := w v9 e9 
        rcases h with ⟨c, h⟩ | ⟨c, h⟩
        · replace w := w.1 c
          replace h := h.2
          replace w := w.2
          obtain ⟨v9, e9, h⟩ := h
          replace w := w v9 e9 
          rcases h with ⟨c, h⟩ | ⟨c, h⟩
          · replace w := w.1 c
            rcases h with ⟨c, h⟩ | ⟨c, h⟩
            · replace w := w.1 c
              obtain ⟨p9, q9, z9, y4_, y5_, h⟩ := h
              obtain ⟨Q9, w0, w⟩ := w
              replace w := w p9 q9 (vpX5_localAt z9 w0) y4_ y5_
              replace h := h.2
              replace w := w.2
              replace h := h.2
              replace w := w.2
              obtain ⟨v9, e9, h⟩ := h
              replace w := w v9 e9 
              obtain ⟨q9, z9, y6_, y7_, h⟩ := h
              obtain ⟨Q9, w0, w⟩ := w
              replace w := w q9 (vpX5_setLocal z9 w0) y6_ y7_
              rw [h]
              exact w
            · replace w := w.2 c
              rcases h with ⟨c, h⟩ | ⟨c, h⟩
              · replace w := w.1 c
                rw [h]
                exact w
              · replace w := w.2 c
                obtain ⟨v9, e9, y8_, y9_, h⟩ := h
                replace w := w v9 e9 y8_ y9_
                rw [h]
                exact w
          · replace w := w.2 c
            replace h := h.2
            replace w := w.2
            obtain ⟨v9, e9, h⟩ := h
            replace w := w v9 e9 
            obtain ⟨p9, q9, z9, y10_, y11_, h⟩ := h
            obtain ⟨Q9, w0, w⟩ := w
            replace w := w p9 q9 (vpX5_pop_ z9 w0) y10_ y11_
            obtain ⟨q9, z9, y12_, y13_, h⟩ := h
            obtain ⟨Q9, w0, w⟩ := w
            replace w := w q9 (vpX5_setLocal z9 w0) y12_ y13_
            rw [h]
            exact w
        · replace w := w.2 c
          replace h := h.2
          replace w := w.2
          obtain ⟨v9, e9, h⟩ := h
          replace w := w v9 e9 
          obtain ⟨p9, q9, z9, y14_, y15_, h⟩ := h
          obtain ⟨Q9, w0, w⟩ := w
          replace w := w p9 q9 (vpX5_localAt z9 w0) y14_ y15_
          obtain ⟨q9, z9, y16_, y17_, h⟩ := h
          obtain ⟨Q9, w0, w⟩ := w
          replace w := w q9 (vpX5_push_ z9 w0) y16_ y17_
          rw [h]
          exact w
def v_X5_enter_J95 (uo : MS) (U95 : MS) : Prop := (wfC U95 ∧ (∃ S28 : MS, S28 = wI U95 44 19 ((qI U95 44 19) + (1 : Int32)) ∧ qT U95 44 = 45 ∧ wfC S28 ∧ (∃ S30 : MS, S30 = wI S28 44 13 ((qI S28 44 13) + (1 : Int32)) ∧ qT S28 44 = 45 ∧ wfC S30 ∧ (uo = S30))))
def vX5_enter (S : MS) (x1 : Int32) (uo : MS) : Prop := ((((qI S 44 11) + (1 : Int32)).toInt < 60 ∧ ((qR S 44 0 = some (qO S 44 0)) ∧ (d_X10_takesOfMethod S (qO S 44 0) x1 ∧ (∃ a8 : Int32, a8 = (fX10_takesOfMethod S (qO S 44 0) x1) ∧ (∃ (r10 : Int32) (S11 : MS), vX6_placesOf S a8 r10 S11 ∧ wfC S11 ∧ shy S S11 ∧ (∃ a16 : Int32, a16 = ((((qI S11 44 11) * (24 : Int32)) + (qI S11 44 14)) - r10) ∧ (∃ a19 : Int32, a19 = (((qI S11 44 11) + (1 : Int32)) * (24 : Int32)) ∧ ((qR S11 44 0 = some (qO S11 44 0)) ∧ (qT S11 (qO S11 44 0) = 49 ∧ (∃ (b26 : Option Nat) (S24 : MS), vX10_rowAt S11 (qO S11 44 0) x1 b26 S24 ∧ wfC S24 ∧ shy S11 S24 ∧ (∀ z, b26 = some z → qT S24 z = 47) ∧ ((b26 = none ∧ (v_X5_enter_J95 uo S24)) ∨ (¬ b26 = none ∧ (((qI S24 44 14).toInt < r10.toInt ∧ (v_X5_enter_J95 uo S24)) ∨ (¬ (qI S24 44 14).toInt < r10.toInt ∧ (((qN S24 (qO S24 44 8) : Int) < (a19 + r10).toInt ∧ (v_X5_enter_J95 uo S24)) ∨ (¬ (qN S24 (qO S24 44 8) : Int) < (a19 + r10).toInt ∧ (((qI S24 44 14).toInt ≤ 24 ∧ ((¬ a16 < 0 ∧ ¬ a19 < 0 ∧ ¬ r10 < 0 ∧ a16.toNatClampNeg + r10.toNatClampNeg ≤ qN S24 (qO S24 44 9) ∧ a19.toNatClampNeg + r10.toNatClampNeg ≤ qN S24 (qO S24 44 8)) ∧ (∃ S41 : MS, S41 = wL S24 (qO S24 44 8) (va_cpy (qJ S24 (qO S24 44 9)) (qJ S24 (qO S24 44 8)) a16.toNatClampNeg a19.toNatClampNeg r10.toNatClampNeg) ∧ qT S24 (qO S24 44 8) = 404 ∧ wfC S41 ∧ (∃ (S43 : MS), vX5_setFrame S41 (1 : Int32) (qI S41 44 13) S43 ∧ wfC S43 ∧ shy S41 S43 ∧ (∃ (S47 : MS), vX5_setFrame S43 (2 : Int32) ((qI S43 44 14) - r10) S47 ∧ wfC S47 ∧ shy S43 S47 ∧ (∃ S50 : MS, S50 = wI S47 44 11 ((qI S47 44 11) + (1 : Int32)) ∧ qT S47 44 = 45 ∧ wfC S50 ∧ (∃ (S52 : MS), vX5_openFrame S50 x1 S52 ∧ wfC S52 ∧ shy S50 S52 ∧ (uo = S52)))))))) ∨ (¬ (qI S24 44 14).toInt ≤ 24 ∧ (v_X5_enter_J95 uo S24))))))))))))))))))) ∨ (¬ ((qI S 44 11) + (1 : Int32)).toInt < 60 ∧ (∃ S54 : MS, S54 = wI S 44 15 (3 : Int32) ∧ qT S 44 = 45 ∧ wfC S54 ∧ (uo = S54))))
set_option maxRecDepth 100000 in
theorem ru_X5_enter_J95 {ι : Type} {P Q : MS → Prop} {U95 : MS} (i0 : ι) (K : ∀ (i : ι) (uo : MS), v_X5_enter_J95 uo U95 → P uo) (h : w_X5_enter_J95 Q U95) : w_X5_enter_J95 (fun u => Q u ∧ P u) U95 := by
  unfold w_X5_enter_J95 at h ⊢
  intro y1_
  replace h := h y1_
  replace K := fun i uo z => K i uo ⟨y1_, z⟩
  intro S28 eS28 y2_ y3_
  replace h := h S28 eS28 y2_ y3_
  replace K := fun i uo z => K i uo ⟨S28, eS28, y2_, y3_, z⟩
  intro S30 eS30 y4_ y5_
  replace h := h S30 eS30 y4_ y5_
  replace K := fun i uo z => K i uo ⟨S30, eS30, y4_, y5_, z⟩
  exact ⟨h, K i0 _ rfl⟩
set_option maxRecDepth 100000 in
theorem ruX5_enter {S : MS} {x1 : Int32} {Q : MS → Prop} (h : wX5_enter S x1 Q) : wX5_enter S x1 (fun u => Q u ∧ vX5_enter S x1 u) := by
  have i0 : Unit := ()
  have K : ∀ (i : Unit) (uo : MS), vX5_enter S x1 uo → vX5_enter S x1 uo := fun _ _ z => z
  unfold wX5_enter at h ⊢
  refine ⟨fun c => ?_, fun c => ?_⟩
  · replace h := h.1 c
    replace K := fun i uo z => K i uo (Or.inl ⟨c, z⟩)
    obtain ⟨g6_, h⟩ := h
    refine ⟨g6_, ?_⟩
    replace K := fun i uo z => K i uo ⟨g6_, z⟩
    obtain ⟨g7_, h⟩ := h
    refine ⟨g7_, ?_⟩
    replace K := fun i uo z => K i uo ⟨g7_, z⟩
    intro a8 ea8 
    replace h := h a8 ea8 
    replace K := fun i uo z => K i uo ⟨a8, ea8, z⟩
    obtain ⟨Q9, h0, h⟩ := h
    refine ⟨_, ruX6_placesOf h0, ?_⟩
    intro r10 S11 q8_ y9_ y10_
    replace h := h r10 S11 q8_.1 y9_ y10_
    replace K := fun i uo z => K i uo ⟨r10, S11, q8_.2, y9_, y10_, z⟩
    intro a16 ea16 
    replace h := h a16 ea16 
    replace K := fun i uo z => K i uo ⟨a16, ea16, z⟩
    intro a19 ea19 
    replace h := h a19 ea19 
    replace K := fun i uo z => K i uo ⟨a19, ea19, z⟩
    obtain ⟨g11_, h⟩ := h
    refine ⟨g11_, ?_⟩
    replace K := fun i uo z => K i uo ⟨g11_, z⟩
    intro y12_
    replace h := h y12_
    replace K := fun i uo z => K i uo ⟨y12_, z⟩
    obtain ⟨Q9, h0, h⟩ := h
    refine ⟨_, ruX10_rowAt h0, ?_⟩
    intro b26 S24 q13_ y14_ y15_ y16_
    replace h := h b26 S24 q13_.1 y14_ y15_ y16_
    replace K := fun i uo z => K i uo ⟨b26, S24, q13_.2, y14_, y15_, y16_, z⟩
    refine ⟨fun c => ?_, fun c => ?_⟩
    · replace h := h.1 c
      replace K := fun i uo z => K i uo (Or.inl ⟨c, z⟩)
      exact ru_X5_enter_J95 i0 K h
    · replace h := h.2 c
      replace K := fun i uo z => K i uo (Or.inr ⟨c, z⟩)
      refine ⟨fun c => ?_, fun c => ?_⟩
      · replace h := h.1 c
        replace K := fun i uo z => K i uo (Or.inl ⟨c, z⟩)
        exact ru_X5_enter_J95 i0 K h
      · replace h := h.2 c
        replace K := fun i uo z => K i uo (Or.inr ⟨c, z⟩)
        refine ⟨fun c => ?_, fun c => ?_⟩
        · replace h := h.1 c
          replace K := fun i uo z => K i uo (Or.inl ⟨c, z⟩)
          exact ru_X5_enter_J95 i0 K h
        · replace h := h.2 c
          replace K := fun i uo z => K i uo (Or.inr ⟨c, z⟩)
          refine ⟨fun c => ?_, fun c => ?_⟩
          · replace h := h.1 c
            replace K := fun i uo z => K i uo (Or.inl ⟨c, z⟩)
            obtain ⟨g17_, h⟩ := h
            refine ⟨g17_, ?_⟩
            replace K := fun i uo z => K i uo ⟨g17_, z⟩
            intro S41 eS41 y18_ y19_
            replace h := h S41 eS41 y18_ y19_
            replace K := fun i uo z => K i uo ⟨S41, eS41, y18_, y19_, z⟩
            obtain ⟨Q9, h0, h⟩ := h
            refine ⟨_, ruX5_setFrame h0, ?_⟩
            intro S43 q20_ y21_ y22_
            replace h := h S43 q20_.1 y21_ y22_
            replace K := fun i uo z => K i uo ⟨S43, q20_.2, y21_, y22_, z⟩
            obtain ⟨Q9, h0, h⟩ := h
            refine ⟨_, ruX5_setFrame h0, ?_⟩
            intro S47 q23_ y24_ y25_
            replace h := h S47 q23_.1 y24_ y25_
            replace K := fun i uo z => K i uo ⟨S47, q23_.2, y24_, y25_, z⟩
            intro S50 eS50 y26_ y27_
            replace h := h S50 eS50 y26_ y27_
            replace K := fun i uo z => K i uo ⟨S50, eS50, y26_, y27_, z⟩
            obtain ⟨Q9, h0, h⟩ := h
            refine ⟨_, ruX5_openFrame h0, ?_⟩
            intro S52 q28_ y29_ y30_
            replace h := h S52 q28_.1 y29_ y30_
            replace K := fun i uo z => K i uo ⟨S52, q28_.2, y29_, y30_, z⟩
            exact ⟨h, K i0 _ rfl⟩
          · replace h := h.2 c
            replace K := fun i uo z => K i uo (Or.inr ⟨c, z⟩)
            exact ru_X5_enter_J95 i0 K h
  · replace h := h.2 c
    replace K := fun i uo z => K i uo (Or.inr ⟨c, z⟩)
    intro S54 eS54 y31_ y32_
    replace h := h S54 eS54 y31_ y32_
    replace K := fun i uo z => K i uo ⟨S54, eS54, y31_, y32_, z⟩
    exact ⟨h, K i0 _ rfl⟩
set_option maxRecDepth 100000 in
theorem vw_X5_enter_J95 {uo : MS} {U95 : MS} (h : v_X5_enter_J95 uo U95) : w_X5_enter_J95 (fun u => u = uo) U95 := by
  unfold v_X5_enter_J95 at h
  unfold w_X5_enter_J95
  intro _
  replace h := h.2
  obtain ⟨v9, e9, h⟩ := h
  intro x9 d9 _ _
  have c9 : v9 = x9 := e9.trans d9.symm
  subst c9
  replace h := h.2.2
  obtain ⟨v9, e9, h⟩ := h
  intro x9 d9 _ _
  have c9 : v9 = x9 := e9.trans d9.symm
  subst c9
  replace h := h.2.2
  exact h.symm
set_option maxRecDepth 100000 in
theorem vp_X5_enter_J95 {uo : MS} {P : MS → Prop} {U95 : MS} (h : v_X5_enter_J95 uo U95) (w : w_X5_enter_J95 P U95) : P uo := by
  unfold v_X5_enter_J95 at h
  unfold w_X5_enter_J95 at w
  obtain ⟨y1_, h⟩ := h
  replace w := w y1_
  obtain ⟨v9, e9, y2_, y3_, h⟩ := h
  replace w := w v9 e9 y2_ y3_
  obtain ⟨v9, e9, y4_, y5_, h⟩ := h
  replace w := w v9 e9 y4_ y5_
  rw [h]
  exact w
set_option maxRecDepth 100000 in
theorem vwX5_enter {S : MS} {x1 : Int32} {uo : MS} (h : vX5_enter S x1 uo) : wX5_enter S x1 (fun u => u = uo) := by
  unfold vX5_enter at h
  unfold wX5_enter
  rcases h with ⟨c, h⟩ | ⟨c, h⟩
  · refine ⟨fun _ => ?_, fun c2 => absurd c c2⟩
    obtain ⟨g9, h⟩ := h
    refine ⟨g9, ?_⟩
    obtain ⟨g9, h⟩ := h
    refine ⟨g9, ?_⟩
    obtain ⟨v9, e9, h⟩ := h
    intro x9 d9 
    have c9 : v9 = x9 := e9.trans d9.symm
    subst c9
    obtain ⟨p9, q9, z9, h⟩ := h
    refine ⟨_, vwX6_placesOf z9, ?_⟩
    rintro p8 q8 ⟨d8, d9⟩ _ _
    subst d8
    subst d9
    replace h := h.2.2
    obtain ⟨v9, e9, h⟩ := h
    intro x9 d9 
    have c9 : v9 = x9 := e9.trans d9.symm
    subst c9
    obtain ⟨v9, e9, h⟩ := h
    intro x9 d9 
    have c9 : v9 = x9 := e9.trans d9.symm
    subst c9
    obtain ⟨g9, h⟩ := h
    refine ⟨g9, ?_⟩
    intro _
    replace h := h.2
    obtain ⟨p9, q9, z9, h⟩ := h
    refine ⟨_, vwX10_rowAt z9, ?_⟩
    rintro p8 q8 ⟨d8, d9⟩ _ _ _
    subst d8
    subst d9
    replace h := h.2.2.2
    rcases h with ⟨c, h⟩ | ⟨c, h⟩
    · refine ⟨fun _ => ?_, fun c2 => absurd c c2⟩
      exact vw_X5_enter_J95 h
    · refine ⟨fun c2 => absurd c2 c, fun _ => ?_⟩
      rcases h with ⟨c, h⟩ | ⟨c, h⟩
      · refine ⟨fun _ => ?_, fun c2 => absurd c c2⟩
        exact vw_X5_enter_J95 h
      · refine ⟨fun c2 => absurd c2 c, fun _ => ?_⟩
        rcases h with ⟨c, h⟩ | ⟨c, h⟩
        · refine ⟨fun _ => ?_, fun c2 => absurd c c2⟩
          exact vw_X5_enter_J95 h
        · refine ⟨fun c2 => absurd c2 c, fun _ => ?_⟩
          rcases h with ⟨c, h⟩ | ⟨c, h⟩
          · refine ⟨fun _ => ?_, fun c2 => absurd c c2⟩
            obtain ⟨g9, h⟩ := h
            refine ⟨g9, ?_⟩
            obtain ⟨v9, e9, h⟩ := h
            intro x9 d9 _ _
            have c9 : v9 = x9 := e9.trans d9.symm
            subst c9
            replace h := h.2.2
            obtain ⟨q9, z9, h⟩ := h
            refine ⟨_, vwX5_setFrame z9, ?_⟩
            intro q8 d9 _ _
            subst d9
            replace h := h.2.2
            obtain ⟨q9, z9, h⟩ := h
            refine ⟨_, vwX5_setFrame z9, ?_⟩
            intro q8 d9 _ _
            subst d9
            replace h := h.2.2
            obtain ⟨v9, e9, h⟩ := h
            intro x9 d9 _ _
            have c9 : v9 = x9 := e9.trans d9.symm
            subst c9
            replace h := h.2.2
            obtain ⟨q9, z9, h⟩ := h
            refine ⟨_, vwX5_openFrame z9, ?_⟩
            intro q8 d9 _ _
            subst d9
            replace h := h.2.2
            exact h.symm
          · refine ⟨fun c2 => absurd c2 c, fun _ => ?_⟩
            exact vw_X5_enter_J95 h
  · refine ⟨fun c2 => absurd c2 c, fun _ => ?_⟩
    obtain ⟨v9, e9, h⟩ := h
    intro x9 d9 _ _
    have c9 : v9 = x9 := e9.trans d9.symm
    subst c9
    replace h := h.2.2
    exact h.symm
set_option maxRecDepth 100000 in
theorem vpX5_enter {S : MS} {x1 : Int32} {uo : MS} {P : MS → Prop} (h : vX5_enter S x1 uo) (w : wX5_enter S x1 P) : P uo := by
  unfold vX5_enter at h
  unfold wX5_enter at w
  rcases h with ⟨c, h⟩ | ⟨c, h⟩
  · replace w := w.1 c
    replace h := h.2
    replace w := w.2
    replace h := h.2
    replace w := w.2
    obtain ⟨v9, e9, h⟩ := h
    replace w := w v9 e9 
    obtain ⟨p9, q9, z9, y6_, y7_, h⟩ := h
    obtain ⟨Q9, w0, w⟩ := w
    replace w := w p9 q9 (vpX6_placesOf z9 w0) y6_ y7_
    obtain ⟨v9, e9, h⟩ := h
    replace w := w v9 e9 
    obtain ⟨v9, e9, h⟩ := h
    replace w := w v9 e9 
    replace h := h.2
    replace w := w.2
    obtain ⟨y8_, h⟩ := h
    replace w := w y8_
    obtain ⟨p9, q9, z9, y9_, y10_, y11_, h⟩ := h
    obtain ⟨Q9, w0, w⟩ := w
    replace w := w p9 q9 (vpX10_rowAt z9 w0) y9_ y10_ y11_
    rcases h with ⟨c, h⟩ | ⟨c, h⟩
    · replace w := w.1 c
      exact vp_X5_enter_J95 h w
    · replace w := w.2 c
      rcases h with ⟨c, h⟩ | ⟨c, h⟩
      · replace w := w.1 c
        exact vp_X5_enter_J95 h w
      · replace w := w.2 c
        rcases h with ⟨c, h⟩ | ⟨c, h⟩
        · replace w := w.1 c
          exact vp_X5_enter_J95 h w
        · replace w := w.2 c
          rcases h with ⟨c, h⟩ | ⟨c, h⟩
          · replace w := w.1 c
            replace h := h.2
            replace w := w.2
            obtain ⟨v9, e9, y12_, y13_, h⟩ := h
            replace w := w v9 e9 y12_ y13_
            obtain ⟨q9, z9, y14_, y15_, h⟩ := h
            obtain ⟨Q9, w0, w⟩ := w
            replace w := w q9 (vpX5_setFrame z9 w0) y14_ y15_
            obtain ⟨q9, z9, y16_, y17_, h⟩ := h
            obtain ⟨Q9, w0, w⟩ := w
            replace w := w q9 (vpX5_setFrame z9 w0) y16_ y17_
            obtain ⟨v9, e9, y18_, y19_, h⟩ := h
            replace w := w v9 e9 y18_ y19_
            obtain ⟨q9, z9, y20_, y21_, h⟩ := h
            obtain ⟨Q9, w0, w⟩ := w
            replace w := w q9 (vpX5_openFrame z9 w0) y20_ y21_
            rw [h]
            exact w
          · replace w := w.2 c
            exact vp_X5_enter_J95 h w
  · replace w := w.2 c
    obtain ⟨v9, e9, y22_, y23_, h⟩ := h
    replace w := w v9 e9 y22_ y23_
    rw [h]
    exact w
def vX5_closeFrame (S : MS) (uo : MS) : Prop := (∃ S3 : MS, S3 = wI S 44 11 (if (0 : Int32) < ((qI S 44 11) - (1 : Int32)) then ((qI S 44 11) - (1 : Int32)) else (0 : Int32)) ∧ qT S 44 = 45 ∧ wfC S3 ∧ ((qR S3 44 0 = some (qO S3 44 0)) ∧ (d_X5_frameAt S3 (0 : Int32) ∧ (qT S3 (qO S3 44 0) = 49 ∧ (∃ (b13 : Option Nat) (S11 : MS), vX10_rowAt S3 (qO S3 44 0) (fX5_frameAt S3 (0 : Int32)) b13 S11 ∧ wfC S11 ∧ shy S3 S11 ∧ (∀ z, b13 = some z → qT S11 z = 47) ∧ (∃ S14 : MS, S14 = wR S11 44 12 b13 ∧ qT S11 44 = 45 ∧ wfC S14 ∧ (d_X5_frameAt S14 (1 : Int32) ∧ (∃ S18 : MS, S18 = wI S14 44 13 (fX5_frameAt S14 (1 : Int32)) ∧ qT S14 44 = 45 ∧ wfC S18 ∧ (d_X5_frameAt S18 (2 : Int32) ∧ (∃ S22 : MS, S22 = wI S18 44 14 (fX5_frameAt S18 (2 : Int32)) ∧ qT S18 44 = 45 ∧ wfC S22 ∧ (uo = S22)))))))))))
set_option maxRecDepth 100000 in
theorem ruX5_closeFrame {S : MS} {Q : MS → Prop} (h : wX5_closeFrame S Q) : wX5_closeFrame S (fun u => Q u ∧ vX5_closeFrame S u) := by
  have i0 : Unit := ()
  have K : ∀ (i : Unit) (uo : MS), vX5_closeFrame S uo → vX5_closeFrame S uo := fun _ _ z => z
  unfold wX5_closeFrame at h ⊢
  intro S3 eS3 y1_ y2_
  replace h := h S3 eS3 y1_ y2_
  replace K := fun i uo z => K i uo ⟨S3, eS3, y1_, y2_, z⟩
  obtain ⟨g3_, h⟩ := h
  refine ⟨g3_, ?_⟩
  replace K := fun i uo z => K i uo ⟨g3_, z⟩
  obtain ⟨g4_, h⟩ := h
  refine ⟨g4_, ?_⟩
  replace K := fun i uo z => K i uo ⟨g4_, z⟩
  intro y5_
  replace h := h y5_
  replace K := fun i uo z => K i uo ⟨y5_, z⟩
  obtain ⟨Q9, h0, h⟩ := h
  refine ⟨_, ruX10_rowAt h0, ?_⟩
  intro b13 S11 q6_ y7_ y8_ y9_
  replace h := h b13 S11 q6_.1 y7_ y8_ y9_
  replace K := fun i uo z => K i uo ⟨b13, S11, q6_.2, y7_, y8_, y9_, z⟩
  intro S14 eS14 y10_ y11_
  replace h := h S14 eS14 y10_ y11_
  replace K := fun i uo z => K i uo ⟨S14, eS14, y10_, y11_, z⟩
  obtain ⟨g12_, h⟩ := h
  refine ⟨g12_, ?_⟩
  replace K := fun i uo z => K i uo ⟨g12_, z⟩
  intro S18 eS18 y13_ y14_
  replace h := h S18 eS18 y13_ y14_
  replace K := fun i uo z => K i uo ⟨S18, eS18, y13_, y14_, z⟩
  obtain ⟨g15_, h⟩ := h
  refine ⟨g15_, ?_⟩
  replace K := fun i uo z => K i uo ⟨g15_, z⟩
  intro S22 eS22 y16_ y17_
  replace h := h S22 eS22 y16_ y17_
  replace K := fun i uo z => K i uo ⟨S22, eS22, y16_, y17_, z⟩
  exact ⟨h, K i0 _ rfl⟩
set_option maxRecDepth 100000 in
theorem vwX5_closeFrame {S : MS} {uo : MS} (h : vX5_closeFrame S uo) : wX5_closeFrame S (fun u => u = uo) := by
  unfold vX5_closeFrame at h
  unfold wX5_closeFrame
  obtain ⟨v9, e9, h⟩ := h
  intro x9 d9 _ _
  have c9 : v9 = x9 := e9.trans d9.symm
  subst c9
  replace h := h.2.2
  obtain ⟨g9, h⟩ := h
  refine ⟨g9, ?_⟩
  obtain ⟨g9, h⟩ := h
  refine ⟨g9, ?_⟩
  intro _
  replace h := h.2
  obtain ⟨p9, q9, z9, h⟩ := h
  refine ⟨_, vwX10_rowAt z9, ?_⟩
  rintro p8 q8 ⟨d8, d9⟩ _ _ _
  subst d8
  subst d9
  replace h := h.2.2.2
  obtain ⟨v9, e9, h⟩ := h
  intro x9 d9 _ _
  have c9 : v9 = x9 := e9.trans d9.symm
  subst c9
  replace h := h.2.2
  obtain ⟨g9, h⟩ := h
  refine ⟨g9, ?_⟩
  obtain ⟨v9, e9, h⟩ := h
  intro x9 d9 _ _
  have c9 : v9 = x9 := e9.trans d9.symm
  subst c9
  replace h := h.2.2
  obtain ⟨g9, h⟩ := h
  refine ⟨g9, ?_⟩
  obtain ⟨v9, e9, h⟩ := h
  intro x9 d9 _ _
  have c9 : v9 = x9 := e9.trans d9.symm
  subst c9
  replace h := h.2.2
  exact h.symm
set_option maxRecDepth 100000 in
theorem vpX5_closeFrame {S : MS} {uo : MS} {P : MS → Prop} (h : vX5_closeFrame S uo) (w : wX5_closeFrame S P) : P uo := by
  unfold vX5_closeFrame at h
  unfold wX5_closeFrame at w
  obtain ⟨v9, e9, y1_, y2_, h⟩ := h
  replace w := w v9 e9 y1_ y2_
  replace h := h.2
  replace w := w.2
  replace h := h.2
  replace w := w.2
  obtain ⟨y3_, h⟩ := h
  replace w := w y3_
  obtain ⟨p9, q9, z9, y4_, y5_, y6_, h⟩ := h
  obtain ⟨Q9, w0, w⟩ := w
  replace w := w p9 q9 (vpX10_rowAt z9 w0) y4_ y5_ y6_
  obtain ⟨v9, e9, y7_, y8_, h⟩ := h
  replace w := w v9 e9 y7_ y8_
  replace h := h.2
  replace w := w.2
  obtain ⟨v9, e9, y9_, y10_, h⟩ := h
  replace w := w v9 e9 y9_ y10_
  replace h := h.2
  replace w := w.2
  obtain ⟨v9, e9, y11_, y12_, h⟩ := h
  replace w := w v9 e9 y11_ y12_
  rw [h]
  exact w
def v_X5_handlerOf_J64 (ro : Int32) (uo : MS) (k2 : MS → Int32 → Int32 → Prop) (U64 : MS) (v64_1 : Int32) (v64_2 : Int32) : Prop := (wfC U64 ∧ (∃ a9 : Int32, a9 = (v64_2 + Int32.ofInt 1) ∧ (k2 U64 v64_1 a9)))
def v_X5_handlerOf_J54 (ro : Int32) (uo : MS) (U54 : MS) (v54_2 : Int32) : Prop := (wfC U54 ∧ ((qR U54 44 12 = some (qO U54 44 12)) ∧ ((qR U54 (qO U54 44 12) 7 = some (qO U54 (qO U54 44 12) 7)) ∧ (((0 : Int) ≤ v54_2.toInt ∧ v54_2.toInt < (qN U54 (qO U54 (qO U54 44 12) 7) : Int)) ∧ (ro = (qI U54 (qO U54 (qO U54 44 12) 7) v54_2.toInt.toNat) ∧ uo = U54)))))
def v_X5_handlerOf_L2 (ro : Int32) (uo : MS) : Nat → MS → Int32 → Int32 → Prop
  | 0, _, _, _ => False
  | n2 + 1, U2, v2_1, v2_2 => (wfC U2 ∧ ((qR U2 44 12 = some (qO U2 44 12)) ∧ (((qI U2 (qO U2 44 12) 9).toInt ≤ v2_2.toInt ∧ (ro = (-1 : Int32) ∧ uo = U2)) ∨ (¬ (qI U2 (qO U2 44 12) 9).toInt ≤ v2_2.toInt ∧ ((qR U2 44 12 = some (qO U2 44 12)) ∧ (d_X8_catchHas U2 (qO U2 44 12) v2_2 (qI U2 44 13) ∧ (((fX8_catchHas U2 (qO U2 44 12) v2_2 (qI U2 44 13)).toInt = 0 ∧ (v_X5_handlerOf_J64 ro uo (v_X5_handlerOf_L2 ro uo n2) U2 v2_1 v2_2)) ∨ (¬ (fX8_catchHas U2 (qO U2 44 12) v2_2 (qI U2 44 13)).toInt = 0 ∧ ((qR U2 44 12 = some (qO U2 44 12)) ∧ ((qR U2 (qO U2 44 12) 8 = some (qO U2 (qO U2 44 12) 8)) ∧ (((0 : Int) ≤ v2_2.toInt ∧ v2_2.toInt < (qN U2 (qO U2 (qO U2 44 12) 8) : Int)) ∧ (((qI U2 (qO U2 (qO U2 44 12) 8) v2_2.toInt.toNat).toInt = v2_1.toInt ∧ (v_X5_handlerOf_J54 ro uo U2 v2_2)) ∨ (¬ (qI U2 (qO U2 (qO U2 44 12) 8) v2_2.toInt.toNat).toInt = v2_1.toInt ∧ ((qR U2 44 12 = some (qO U2 44 12)) ∧ ((qR U2 (qO U2 44 12) 8 = some (qO U2 (qO U2 44 12) 8)) ∧ (((0 : Int) ≤ v2_2.toInt ∧ v2_2.toInt < (qN U2 (qO U2 (qO U2 44 12) 8) : Int)) ∧ (((qI U2 (qO U2 (qO U2 44 12) 8) v2_2.toInt.toNat).toInt = (-1) ∧ (v_X5_handlerOf_J54 ro uo U2 v2_2)) ∨ (¬ (qI U2 (qO U2 (qO U2 44 12) 8) v2_2.toInt.toNat).toInt = (-1) ∧ (v_X5_handlerOf_J64 ro uo (v_X5_handlerOf_L2 ro uo n2) U2 v2_1 v2_2)))))))))))))))))))
def vX5_handlerOf (S : MS) (x1 : Int32) (ro : Int32) (uo : MS) : Prop := (∃ n, v_X5_handlerOf_L2 ro uo n S x1 0)
set_option maxRecDepth 100000 in
theorem ru_X5_handlerOf_J64 {ι : Type} {P Q : Int32 → MS → Prop} {k2 k2' : MS → Int32 → Int32 → Prop} {k2v : ι → Int32 → MS → MS → Int32 → Int32 → Prop} {U64 : MS} {v64_1 : Int32} {v64_2 : Int32} (i0 : ι) (hk2 : ∀ (u : MS) (z0 : Int32) (z1 : Int32), k2 u z0 z1 → (∀ (i : ι) (ro : Int32) (uo : MS), k2v i ro uo u z0 z1 → P ro uo) → k2' u z0 z1) (K : ∀ (i : ι) (ro : Int32) (uo : MS), v_X5_handlerOf_J64 ro uo (k2v i ro uo) U64 v64_1 v64_2 → P ro uo) (h : w_X5_handlerOf_J64 Q k2 U64 v64_1 v64_2) : w_X5_handlerOf_J64 (fun r u => Q r u ∧ P r u) k2' U64 v64_1 v64_2 := by
  unfold w_X5_handlerOf_J64 at h ⊢
  intro y1_
  replace h := h y1_
  replace K := fun i ro uo z => K i ro uo ⟨y1_, z⟩
  intro a9 ea9 
  replace h := h a9 ea9 
  replace K := fun i ro uo z => K i ro uo ⟨a9, ea9, z⟩
  exact hk2 _ _ _ h K
set_option maxRecDepth 100000 in
theorem ru_X5_handlerOf_J54 {ι : Type} {P Q : Int32 → MS → Prop} {U54 : MS} {v54_2 : Int32} (i0 : ι) (K : ∀ (i : ι) (ro : Int32) (uo : MS), v_X5_handlerOf_J54 ro uo U54 v54_2 → P ro uo) (h : w_X5_handlerOf_J54 Q U54 v54_2) : w_X5_handlerOf_J54 (fun r u => Q r u ∧ P r u) U54 v54_2 := by
  unfold w_X5_handlerOf_J54 at h ⊢
  intro y2_
  replace h := h y2_
  replace K := fun i ro uo z => K i ro uo ⟨y2_, z⟩
  obtain ⟨g3_, h⟩ := h
  refine ⟨g3_, ?_⟩
  replace K := fun i ro uo z => K i ro uo ⟨g3_, z⟩
  obtain ⟨g4_, h⟩ := h
  refine ⟨g4_, ?_⟩
  replace K := fun i ro uo z => K i ro uo ⟨g4_, z⟩
  obtain ⟨g5_, h⟩ := h
  refine ⟨g5_, ?_⟩
  replace K := fun i ro uo z => K i ro uo ⟨g5_, z⟩
  exact ⟨h, K i0 _ _ ⟨rfl, rfl⟩⟩
set_option maxRecDepth 100000 in
theorem ru_X5_handlerOf_L2 {ι : Type} {P Q : Int32 → MS → Prop} : ∀ (n : Nat) {U2 : MS} {v2_1 : Int32} {v2_2 : Int32} (i0 : ι), (∀ (i : ι) (ro : Int32) (uo : MS), (∃ n8, v_X5_handlerOf_L2 ro uo n8 U2 v2_1 v2_2) → P ro uo) → w_X5_handlerOf_L2 Q n U2 v2_1 v2_2 → w_X5_handlerOf_L2 (fun r u => Q r u ∧ P r u) n U2 v2_1 v2_2 := by
  intro n
  induction n with
  | zero => intro U2 v2_1 v2_2 i0 K h; unfold w_X5_handlerOf_L2 at h; exact h.elim
  | succ n ih =>
    intro U2 v2_1 v2_2 i0 K h
    unfold w_X5_handlerOf_L2 at h ⊢
    replace K := fun (i : ι × Nat) ro uo (z : v_X5_handlerOf_L2 ro uo (i.2 + 1) U2 v2_1 v2_2) => K i.1 ro uo ⟨i.2 + 1, z⟩
    have i00 := i0
    replace i0 : ι × Nat := (i0, 0)
    intro y6_
    replace h := h y6_
    replace K := fun i ro uo z => K i ro uo ⟨y6_, z⟩
    obtain ⟨g7_, h⟩ := h
    refine ⟨g7_, ?_⟩
    replace K := fun i ro uo z => K i ro uo ⟨g7_, z⟩
    refine ⟨fun c => ?_, fun c => ?_⟩
    · replace h := h.1 c
      replace K := fun i ro uo z => K i ro uo (Or.inl ⟨c, z⟩)
      exact ⟨h, K i0 _ _ ⟨rfl, rfl⟩⟩
    · replace h := h.2 c
      replace K := fun i ro uo z => K i ro uo (Or.inr ⟨c, z⟩)
      obtain ⟨g8_, h⟩ := h
      refine ⟨g8_, ?_⟩
      replace K := fun i ro uo z => K i ro uo ⟨g8_, z⟩
      obtain ⟨g9_, h⟩ := h
      refine ⟨g9_, ?_⟩
      replace K := fun i ro uo z => K i ro uo ⟨g9_, z⟩
      refine ⟨fun c => ?_, fun c => ?_⟩
      · replace h := h.1 c
        replace K := fun i ro uo z => K i ro uo (Or.inl ⟨c, z⟩)
        exact ru_X5_handlerOf_J64 i0 (fun _ _ _ h K => ih i00 (fun i ro uo ⟨n8, z⟩ => K (i, n8) ro uo z) h) K h
      · replace h := h.2 c
        replace K := fun i ro uo z => K i ro uo (Or.inr ⟨c, z⟩)
        obtain ⟨g10_, h⟩ := h
        refine ⟨g10_, ?_⟩
        replace K := fun i ro uo z => K i ro uo ⟨g10_, z⟩
        obtain ⟨g11_, h⟩ := h
        refine ⟨g11_, ?_⟩
        replace K := fun i ro uo z => K i ro uo ⟨g11_, z⟩
        obtain ⟨g12_, h⟩ := h
        refine ⟨g12_, ?_⟩
        replace K := fun i ro uo z => K i ro uo ⟨g12_, z⟩
        refine ⟨fun c => ?_, fun c => ?_⟩
        · replace h := h.1 c
          replace K := fun i ro uo z => K i ro uo (Or.inl ⟨c, z⟩)
          exact ru_X5_handlerOf_J54 i0 K h
        · replace h := h.2 c
          replace K := fun i ro uo z => K i ro uo (Or.inr ⟨c, z⟩)
          obtain ⟨g13_, h⟩ := h
          refine ⟨g13_, ?_⟩
          replace K := fun i ro uo z => K i ro uo ⟨g13_, z⟩
          obtain ⟨g14_, h⟩ := h
          refine ⟨g14_, ?_⟩
          replace K := fun i ro uo z => K i ro uo ⟨g14_, z⟩
          obtain ⟨g15_, h⟩ := h
          refine ⟨g15_, ?_⟩
          replace K := fun i ro uo z => K i ro uo ⟨g15_, z⟩
          refine ⟨fun c => ?_, fun c => ?_⟩
          · replace h := h.1 c
            replace K := fun i ro uo z => K i ro uo (Or.inl ⟨c, z⟩)
            exact ru_X5_handlerOf_J54 i0 K h
          · replace h := h.2 c
            replace K := fun i ro uo z => K i ro uo (Or.inr ⟨c, z⟩)
            exact ru_X5_handlerOf_J64 i0 (fun _ _ _ h K => ih i00 (fun i ro uo ⟨n8, z⟩ => K (i, n8) ro uo z) h) K h
set_option maxRecDepth 100000 in
theorem ruX5_handlerOf {S : MS} {x1 : Int32} {Q : Int32 → MS → Prop} (h : wX5_handlerOf S x1 Q) : wX5_handlerOf S x1 (fun r u => Q r u ∧ vX5_handlerOf S x1 r u) := by
  have i0 : Unit := ()
  have K : ∀ (i : Unit) (ro : Int32) (uo : MS), vX5_handlerOf S x1 ro uo → vX5_handlerOf S x1 ro uo := fun _ _ _ z => z
  unfold wX5_handlerOf at h ⊢
  obtain ⟨n9, h⟩ := h
  exact ⟨n9, ru_X5_handlerOf_L2 n9 i0 K h⟩
set_option maxRecDepth 100000 in
theorem vw_X5_handlerOf_J64 {ro : Int32} {uo : MS} {k2 k2v : MS → Int32 → Int32 → Prop} {U64 : MS} {v64_1 : Int32} {v64_2 : Int32} (hk2 : ∀ (u : MS) (z0 : Int32) (z1 : Int32), k2v u z0 z1 → k2 u z0 z1) (h : v_X5_handlerOf_J64 ro uo k2v U64 v64_1 v64_2) : w_X5_handlerOf_J64 (fun r u => r = ro ∧ u = uo) k2 U64 v64_1 v64_2 := by
  unfold v_X5_handlerOf_J64 at h
  unfold w_X5_handlerOf_J64
  intro _
  replace h := h.2
  obtain ⟨v9, e9, h⟩ := h
  intro x9 d9 
  have c9 : v9 = x9 := e9.trans d9.symm
  subst c9
  exact hk2 _ _ _ h
set_option maxRecDepth 100000 in
theorem vp_X5_handlerOf_J64 {ro : Int32} {uo : MS} {P : Int32 → MS → Prop} {k2 k2v : MS → Int32 → Int32 → Prop} {U64 : MS} {v64_1 : Int32} {v64_2 : Int32} (hk2 : ∀ (u : MS) (z0 : Int32) (z1 : Int32), k2v u z0 z1 → k2 u z0 z1 → P ro uo) (h : v_X5_handlerOf_J64 ro uo k2v U64 v64_1 v64_2) (w : w_X5_handlerOf_J64 P k2 U64 v64_1 v64_2) : P ro uo := by
  unfold v_X5_handlerOf_J64 at h
  unfold w_X5_handlerOf_J64 at w
  obtain ⟨y1_, h⟩ := h
  replace w := w y1_
  obtain ⟨v9, e9, h⟩ := h
  replace w := w v9 e9 
  exact hk2 _ _ _ h w
set_option maxRecDepth 100000 in
theorem vw_X5_handlerOf_J54 {ro : Int32} {uo : MS} {U54 : MS} {v54_2 : Int32} (h : v_X5_handlerOf_J54 ro uo U54 v54_2) : w_X5_handlerOf_J54 (fun r u => r = ro ∧ u = uo) U54 v54_2 := by
  unfold v_X5_handlerOf_J54 at h
  unfold w_X5_handlerOf_J54
  intro _
  replace h := h.2
  obtain ⟨g9, h⟩ := h
  refine ⟨g9, ?_⟩
  obtain ⟨g9, h⟩ := h
  refine ⟨g9, ?_⟩
  obtain ⟨g9, h⟩ := h
  refine ⟨g9, ?_⟩
  exact ⟨h.1.symm, h.2.symm⟩
set_option maxRecDepth 100000 in
theorem vp_X5_handlerOf_J54 {ro : Int32} {uo : MS} {P : Int32 → MS → Prop} {U54 : MS} {v54_2 : Int32} (h : v_X5_handlerOf_J54 ro uo U54 v54_2) (w : w_X5_handlerOf_J54 P U54 v54_2) : P ro uo := by
  unfold v_X5_handlerOf_J54 at h
  unfold w_X5_handlerOf_J54 at w
  obtain ⟨y2_, h⟩ := h
  replace w := w y2_
  replace h := h.2
  replace w := w.2
  replace h := h.2
  replace w := w.2
  replace h := h.2
  replace w := w.2
  rw [h.1, h.2]
  exact w
set_option maxRecDepth 100000 in
theorem vw_X5_handlerOf_L2 {ro : Int32} {uo : MS} : ∀ (n : Nat) {U2 : MS} {v2_1 : Int32} {v2_2 : Int32}, v_X5_handlerOf_L2 ro uo n U2 v2_1 v2_2 → w_X5_handlerOf_L2 (fun r u => r = ro ∧ u = uo) n U2 v2_1 v2_2 := by
  intro n
  induction n with
  | zero => intro U2 v2_1 v2_2 h; unfold v_X5_handlerOf_L2 at h; exact h.elim
  | succ n ih =>
    intro U2 v2_1 v2_2 h
    unfold v_X5_handlerOf_L2 at h
    unfold w_X5_handlerOf_L2
    intro _
    replace h := h.2
    obtain ⟨g9, h⟩ := h
    refine ⟨g9, ?_⟩
    rcases h with ⟨c, h⟩ | ⟨c, h⟩
    · refine ⟨fun _ => ?_, fun c2 => absurd c c2⟩
      exact ⟨h.1.symm, h.2.symm⟩
    · refine ⟨fun c2 => absurd c2 c, fun _ => ?_⟩
      obtain ⟨g9, h⟩ := h
      refine ⟨g9, ?_⟩
      obtain ⟨g9, h⟩ := h
      refine ⟨g9, ?_⟩
      rcases h with ⟨c, h⟩ | ⟨c, h⟩
      · refine ⟨fun _ => ?_, fun c2 => absurd c c2⟩
        exact vw_X5_handlerOf_J64 (fun _ _ _ h => ih h) h
      · refine ⟨fun c2 => absurd c2 c, fun _ => ?_⟩
        obtain ⟨g9, h⟩ := h
        refine ⟨g9, ?_⟩
        obtain ⟨g9, h⟩ := h
        refine ⟨g9, ?_⟩
        obtain ⟨g9, h⟩ := h
        refine ⟨g9, ?_⟩
        rcases h with ⟨c, h⟩ | ⟨c, h⟩
        · refine ⟨fun _ => ?_, fun c2 => absurd c c2⟩
          exact vw_X5_handlerOf_J54 h
        · refine ⟨fun c2 => absurd c2 c, fun _ => ?_⟩
          obtain ⟨g9, h⟩ := h
          refine ⟨g9, ?_⟩
          obtain ⟨g9, h⟩ := h
          refine ⟨g9, ?_⟩
          obtain ⟨g9, h⟩ := h
          refine ⟨g9, ?_⟩
          rcases h with ⟨c, h⟩ | ⟨c, h⟩
          · refine ⟨fun _ => ?_, fun c2 => absurd c c2⟩
            exact vw_X5_handlerOf_J54 h
          · refine ⟨fun c2 => absurd c2 c, fun _ => ?_⟩
            exact vw_X5_handlerOf_J64 (fun _ _ _ h => ih h) h
set_option maxRecDepth 100000 in
theorem vp_X5_handlerOf_L2 {ro : Int32} {uo : MS} {P : Int32 → MS → Prop} : ∀ (n m : Nat) {U2 : MS} {v2_1 : Int32} {v2_2 : Int32}, v_X5_handlerOf_L2 ro uo n U2 v2_1 v2_2 → w_X5_handlerOf_L2 P m U2 v2_1 v2_2 → P ro uo := by
  intro n
  induction n with
  | zero => intro m U2 v2_1 v2_2 h; unfold v_X5_handlerOf_L2 at h; exact h.elim
  | succ n ih =>
    intro m U2 v2_1 v2_2 h w
    cases m with
    | zero => unfold w_X5_handlerOf_L2 at w; exact w.elim
    | succ m =>
      unfold v_X5_handlerOf_L2 at h
      unfold w_X5_handlerOf_L2 at w
      obtain ⟨y3_, h⟩ := h
      replace w := w y3_
      replace h := h.2
      replace w := w.2
      rcases h with ⟨c, h⟩ | ⟨c, h⟩
      · replace w := w.1 c
        rw [h.1, h.2]
        exact w
      · replace w := w.2 c
        replace h := h.2
        replace w := w.2
        replace h := h.2
        replace w := w.2
        rcases h with ⟨c, h⟩ | ⟨c, h⟩
        · replace w := w.1 c
          exact vp_X5_handlerOf_J64 (fun _ _ _ h w => ih m h w) h w
        · replace w := w.2 c
          replace h := h.2
          replace w := w.2
          replace h := h.2
          replace w := w.2
          replace h := h.2
          replace w := w.2
          rcases h with ⟨c, h⟩ | ⟨c, h⟩
          · replace w := w.1 c
            exact vp_X5_handlerOf_J54 h w
          · replace w := w.2 c
            replace h := h.2
            replace w := w.2
            replace h := h.2
            replace w := w.2
            replace h := h.2
            replace w := w.2
            rcases h with ⟨c, h⟩ | ⟨c, h⟩
            · replace w := w.1 c
              exact vp_X5_handlerOf_J54 h w
            · replace w := w.2 c
              exact vp_X5_handlerOf_J64 (fun _ _ _ h w => ih m h w) h w
set_option maxRecDepth 100000 in
theorem vwX5_handlerOf {S : MS} {x1 : Int32} {ro : Int32} {uo : MS} (h : vX5_handlerOf S x1 ro uo) : wX5_handlerOf S x1 (fun r u => r = ro ∧ u = uo) := by
  unfold vX5_handlerOf at h
  unfold wX5_handlerOf
  obtain ⟨n9, h⟩ := h
  exact ⟨n9, vw_X5_handlerOf_L2 n9 h⟩
set_option maxRecDepth 100000 in
theorem vpX5_handlerOf {S : MS} {x1 : Int32} {ro : Int32} {uo : MS} {P : Int32 → MS → Prop} (h : vX5_handlerOf S x1 ro uo) (w : wX5_handlerOf S x1 P) : P ro uo := by
  unfold vX5_handlerOf at h
  unfold wX5_handlerOf at w
  obtain ⟨n9, h⟩ := h
  obtain ⟨n8, w⟩ := w
  exact vp_X5_handlerOf_L2 n9 n8 h w
def vX7_entryFits (S : MS) (ro : Int32) (uo : MS) : Prop := (∃ (r2 : Int32) (S3 : MS), vX7_isThere S (1 : Int32) r2 S3 ∧ wfC S3 ∧ shy S S3 ∧ ((r2.toInt = 0 ∧ (ro = (0 : Int32) ∧ uo = S3)) ∨ (¬ r2.toInt = 0 ∧ (d_X7_u1 S3 (qI S3 9 15) ∧ (∃ a9 : Int32, a9 = (fX7_u1 S3 (qI S3 9 15)) ∧ ((a9.toInt = 1 ∧ (∃ (r29 : Int32) (S30 : MS), vX7_nameFits S3 r29 S30 ∧ wfC S30 ∧ shy S3 S30 ∧ (ro = r29 ∧ uo = S30))) ∨ (¬ a9.toInt = 1 ∧ (d_X7_entryLength S3 a9 ∧ (∃ a14 : Int32, a14 = (fX7_entryLength S3 a9) ∧ ((a14.toInt = 0 ∧ (∃ (r25 : Int32) (S26 : MS), vX7_breaks S3 (3 : Int32) (qI S3 9 15) r25 S26 ∧ wfC S26 ∧ shy S3 S26 ∧ (ro = r25 ∧ uo = S26))) ∨ (¬ a14.toInt = 0 ∧ (d_X7_entryLength S3 a9 ∧ (∃ a19 : Int32, a19 = (fX7_entryLength S3 a9) ∧ (∃ (r21 : Int32) (S22 : MS), vX7_isThere S3 a19 r21 S22 ∧ wfC S22 ∧ shy S3 S22 ∧ (ro = r21 ∧ uo = S22)))))))))))))))
set_option maxRecDepth 100000 in
theorem ruX7_entryFits {S : MS} {Q : Int32 → MS → Prop} (h : wX7_entryFits S Q) : wX7_entryFits S (fun r u => Q r u ∧ vX7_entryFits S r u) := by
  have i0 : Unit := ()
  have K : ∀ (i : Unit) (ro : Int32) (uo : MS), vX7_entryFits S ro uo → vX7_entryFits S ro uo := fun _ _ _ z => z
  unfold wX7_entryFits at h ⊢
  obtain ⟨Q9, h0, h⟩ := h
  refine ⟨_, ruX7_isThere h0, ?_⟩
  intro r2 S3 q1_ y2_ y3_
  replace h := h r2 S3 q1_.1 y2_ y3_
  replace K := fun i ro uo z => K i ro uo ⟨r2, S3, q1_.2, y2_, y3_, z⟩
  refine ⟨fun c => ?_, fun c => ?_⟩
  · replace h := h.1 c
    replace K := fun i ro uo z => K i ro uo (Or.inl ⟨c, z⟩)
    exact ⟨h, K i0 _ _ ⟨rfl, rfl⟩⟩
  · replace h := h.2 c
    replace K := fun i ro uo z => K i ro uo (Or.inr ⟨c, z⟩)
    obtain ⟨g4_, h⟩ := h
    refine ⟨g4_, ?_⟩
    replace K := fun i ro uo z => K i ro uo ⟨g4_, z⟩
    intro a9 ea9 
    replace h := h a9 ea9 
    replace K := fun i ro uo z => K i ro uo ⟨a9, ea9, z⟩
    refine ⟨fun c => ?_, fun c => ?_⟩
    · replace h := h.1 c
      replace K := fun i ro uo z => K i ro uo (Or.inl ⟨c, z⟩)
      obtain ⟨Q9, h0, h⟩ := h
      refine ⟨_, ruX7_nameFits h0, ?_⟩
      intro r29 S30 q5_ y6_ y7_
      replace h := h r29 S30 q5_.1 y6_ y7_
      replace K := fun i ro uo z => K i ro uo ⟨r29, S30, q5_.2, y6_, y7_, z⟩
      exact ⟨h, K i0 _ _ ⟨rfl, rfl⟩⟩
    · replace h := h.2 c
      replace K := fun i ro uo z => K i ro uo (Or.inr ⟨c, z⟩)
      obtain ⟨g8_, h⟩ := h
      refine ⟨g8_, ?_⟩
      replace K := fun i ro uo z => K i ro uo ⟨g8_, z⟩
      intro a14 ea14 
      replace h := h a14 ea14 
      replace K := fun i ro uo z => K i ro uo ⟨a14, ea14, z⟩
      refine ⟨fun c => ?_, fun c => ?_⟩
      · replace h := h.1 c
        replace K := fun i ro uo z => K i ro uo (Or.inl ⟨c, z⟩)
        obtain ⟨Q9, h0, h⟩ := h
        refine ⟨_, ruX7_breaks h0, ?_⟩
        intro r25 S26 q9_ y10_ y11_
        replace h := h r25 S26 q9_.1 y10_ y11_
        replace K := fun i ro uo z => K i ro uo ⟨r25, S26, q9_.2, y10_, y11_, z⟩
        exact ⟨h, K i0 _ _ ⟨rfl, rfl⟩⟩
      · replace h := h.2 c
        replace K := fun i ro uo z => K i ro uo (Or.inr ⟨c, z⟩)
        obtain ⟨g12_, h⟩ := h
        refine ⟨g12_, ?_⟩
        replace K := fun i ro uo z => K i ro uo ⟨g12_, z⟩
        intro a19 ea19 
        replace h := h a19 ea19 
        replace K := fun i ro uo z => K i ro uo ⟨a19, ea19, z⟩
        obtain ⟨Q9, h0, h⟩ := h
        refine ⟨_, ruX7_isThere h0, ?_⟩
        intro r21 S22 q13_ y14_ y15_
        replace h := h r21 S22 q13_.1 y14_ y15_
        replace K := fun i ro uo z => K i ro uo ⟨r21, S22, q13_.2, y14_, y15_, z⟩
        exact ⟨h, K i0 _ _ ⟨rfl, rfl⟩⟩
set_option maxRecDepth 100000 in
theorem vwX7_entryFits {S : MS} {ro : Int32} {uo : MS} (h : vX7_entryFits S ro uo) : wX7_entryFits S (fun r u => r = ro ∧ u = uo) := by
  unfold vX7_entryFits at h
  unfold wX7_entryFits
  obtain ⟨p9, q9, z9, h⟩ := h
  refine ⟨_, vwX7_isThere z9, ?_⟩
  rintro p8 q8 ⟨d8, d9⟩ _ _
  subst d8
  subst d9
  replace h := h.2.2
  rcases h with ⟨c, h⟩ | ⟨c, h⟩
  · refine ⟨fun _ => ?_, fun c2 => absurd c c2⟩
    exact ⟨h.1.symm, h.2.symm⟩
  · refine ⟨fun c2 => absurd c2 c, fun _ => ?_⟩
    obtain ⟨g9, h⟩ := h
    refine ⟨g9, ?_⟩
    obtain ⟨v9, e9, h⟩ := h
    intro x9 d9 
    have c9 : v9 = x9 := e9.trans d9.symm
    subst c9
    rcases h with ⟨c, h⟩ | ⟨c, h⟩
    · refine ⟨fun _ => ?_, fun c2 => absurd c c2⟩
      obtain ⟨p9, q9, z9, h⟩ := h
      refine ⟨_, vwX7_nameFits z9, ?_⟩
      rintro p8 q8 ⟨d8, d9⟩ _ _
      subst d8
      subst d9
      replace h := h.2.2
      exact ⟨h.1.symm, h.2.symm⟩
    · refine ⟨fun c2 => absurd c2 c, fun _ => ?_⟩
      obtain ⟨g9, h⟩ := h
      refine ⟨g9, ?_⟩
      obtain ⟨v9, e9, h⟩ := h
      intro x9 d9 
      have c9 : v9 = x9 := e9.trans d9.symm
      subst c9
      rcases h with ⟨c, h⟩ | ⟨c, h⟩
      · refine ⟨fun _ => ?_, fun c2 => absurd c c2⟩
        obtain ⟨p9, q9, z9, h⟩ := h
        refine ⟨_, vwX7_breaks z9, ?_⟩
        rintro p8 q8 ⟨d8, d9⟩ _ _
        subst d8
        subst d9
        replace h := h.2.2
        exact ⟨h.1.symm, h.2.symm⟩
      · refine ⟨fun c2 => absurd c2 c, fun _ => ?_⟩
        obtain ⟨g9, h⟩ := h
        refine ⟨g9, ?_⟩
        obtain ⟨v9, e9, h⟩ := h
        intro x9 d9 
        have c9 : v9 = x9 := e9.trans d9.symm
        subst c9
        obtain ⟨p9, q9, z9, h⟩ := h
        refine ⟨_, vwX7_isThere z9, ?_⟩
        rintro p8 q8 ⟨d8, d9⟩ _ _
        subst d8
        subst d9
        replace h := h.2.2
        exact ⟨h.1.symm, h.2.symm⟩
set_option maxRecDepth 100000 in
theorem vpX7_entryFits {S : MS} {ro : Int32} {uo : MS} {P : Int32 → MS → Prop} (h : vX7_entryFits S ro uo) (w : wX7_entryFits S P) : P ro uo := by
  unfold vX7_entryFits at h
  unfold wX7_entryFits at w
  obtain ⟨p9, q9, z9, y1_, y2_, h⟩ := h
  obtain ⟨Q9, w0, w⟩ := w
  replace w := w p9 q9 (vpX7_isThere z9 w0) y1_ y2_
  rcases h with ⟨c, h⟩ | ⟨c, h⟩
  · replace w := w.1 c
    rw [h.1, h.2]
    exact w
  · replace w := w.2 c
    replace h := h.2
    replace w := w.2
    obtain ⟨v9, e9, h⟩ := h
    replace w := w v9 e9 
    rcases h with ⟨c, h⟩ | ⟨c, h⟩
    · replace w := w.1 c
      obtain ⟨p9, q9, z9, y3_, y4_, h⟩ := h
      obtain ⟨Q9, w0, w⟩ := w
      replace w := w p9 q9 (vpX7_nameFits z9 w0) y3_ y4_
      rw [h.1, h.2]
      exact w
    · replace w := w.2 c
      replace h := h.2
      replace w := w.2
      obtain ⟨v9, e9, h⟩ := h
      replace w := w v9 e9 
      rcases h with ⟨c, h⟩ | ⟨c, h⟩
      · replace w := w.1 c
        obtain ⟨p9, q9, z9, y5_, y6_, h⟩ := h
        obtain ⟨Q9, w0, w⟩ := w
        replace w := w p9 q9 (vpX7_breaks z9 w0) y5_ y6_
        rw [h.1, h.2]
        exact w
      · replace w := w.2 c
        replace h := h.2
        replace w := w.2
        obtain ⟨v9, e9, h⟩ := h
        replace w := w v9 e9 
        obtain ⟨p9, q9, z9, y7_, y8_, h⟩ := h
        obtain ⟨Q9, w0, w⟩ := w
        replace w := w p9 q9 (vpX7_isThere z9 w0) y7_ y8_
        rw [h.1, h.2]
        exact w
def v_X7_membersFit_L49 (ro : Int32) (uo : MS) : Nat → MS → Int32 → Int32 → Int32 → Prop
  | 0, _, _, _, _ => False
  | n49 + 1, U49, v49_1, v49_2, v49_3 => (wfC U49 ∧ (((v49_1 + v49_2).toInt ≤ v49_3.toInt ∧ (ro = v49_2 ∧ uo = U49)) ∨ (¬ (v49_1 + v49_2).toInt ≤ v49_3.toInt ∧ ((48 ≤ v49_3.toInt ∧ (ro = v49_2 ∧ uo = U49)) ∨ (¬ 48 ≤ v49_3.toInt ∧ (((0 : Int) ≤ v49_3.toInt ∧ v49_3.toInt < 48) ∧ (∃ S17 : MS, S17 = wI U49 12 v49_3.toInt.toNat (qI U49 9 15) ∧ qT U49 12 = 219 ∧ wfC S17 ∧ (∃ (r19 : Int32) (S20 : MS), vX7_isThere S17 (6 : Int32) r19 S20 ∧ wfC S20 ∧ shy S17 S20 ∧ ((r19.toInt = 0 ∧ (ro = (-1 : Int32) ∧ uo = S20)) ∨ (¬ r19.toInt = 0 ∧ (∃ S24 : MS, S24 = wI S20 9 15 ((qI S20 9 15) + (6 : Int32)) ∧ qT S20 9 = 46 ∧ wfC S24 ∧ (∃ (r26 : Int32) (S27 : MS), vX7_attributesFit S24 r26 S27 ∧ wfC S27 ∧ shy S24 S27 ∧ ((r26.toInt = 0 ∧ (ro = (-1 : Int32) ∧ uo = S27)) ∨ (¬ r26.toInt = 0 ∧ (∃ a30 : Int32, a30 = (v49_3 + Int32.ofInt 1) ∧ ((v_X7_membersFit_L49 ro uo n49) S27 v49_1 v49_2 a30))))))))))))))))
def vX7_membersFit (S : MS) (x1 : Int32) (ro : Int32) (uo : MS) : Prop := (∃ (r2 : Int32) (S3 : MS), vX7_isThere S (2 : Int32) r2 S3 ∧ wfC S3 ∧ shy S S3 ∧ ((r2.toInt = 0 ∧ (ro = (-1 : Int32) ∧ uo = S3)) ∨ (¬ r2.toInt = 0 ∧ (d_X7_u2 S3 (qI S3 9 15) ∧ (∃ a9 : Int32, a9 = (fX7_u2 S3 (qI S3 9 15)) ∧ ((a9.toInt ≤ 24 ∧ (∃ S12 : MS, S12 = wI S3 9 15 ((qI S3 9 15) + (2 : Int32)) ∧ qT S3 9 = 46 ∧ wfC S12 ∧ (∃ n, v_X7_membersFit_L49 ro uo n S12 x1 a9 x1))) ∨ (¬ a9.toInt ≤ 24 ∧ (∃ (r32 : Int32) (S33 : MS), vX7_breaks S3 (5 : Int32) (qI S3 9 15) r32 S33 ∧ wfC S33 ∧ shy S3 S33 ∧ (ro = (-1 : Int32) ∧ uo = S33)))))))))
set_option maxRecDepth 100000 in
theorem ru_X7_membersFit_L49 {ι : Type} {P Q : Int32 → MS → Prop} : ∀ (n : Nat) {U49 : MS} {v49_1 : Int32} {v49_2 : Int32} {v49_3 : Int32} (i0 : ι), (∀ (i : ι) (ro : Int32) (uo : MS), (∃ n8, v_X7_membersFit_L49 ro uo n8 U49 v49_1 v49_2 v49_3) → P ro uo) → w_X7_membersFit_L49 Q n U49 v49_1 v49_2 v49_3 → w_X7_membersFit_L49 (fun r u => Q r u ∧ P r u) n U49 v49_1 v49_2 v49_3 := by
  intro n
  induction n with
  | zero => intro U49 v49_1 v49_2 v49_3 i0 K h; unfold w_X7_membersFit_L49 at h; exact h.elim
  | succ n ih =>
    intro U49 v49_1 v49_2 v49_3 i0 K h
    unfold w_X7_membersFit_L49 at h ⊢
    replace K := fun (i : ι × Nat) ro uo (z : v_X7_membersFit_L49 ro uo (i.2 + 1) U49 v49_1 v49_2 v49_3) => K i.1 ro uo ⟨i.2 + 1, z⟩
    have i00 := i0
    replace i0 : ι × Nat := (i0, 0)
    intro y1_
    replace h := h y1_
    replace K := fun i ro uo z => K i ro uo ⟨y1_, z⟩
    refine ⟨fun c => ?_, fun c => ?_⟩
    · replace h := h.1 c
      replace K := fun i ro uo z => K i ro uo (Or.inl ⟨c, z⟩)
      exact ⟨h, K i0 _ _ ⟨rfl, rfl⟩⟩
    · replace h := h.2 c
      replace K := fun i ro uo z => K i ro uo (Or.inr ⟨c, z⟩)
      refine ⟨fun c => ?_, fun c => ?_⟩
      · replace h := h.1 c
        replace K := fun i ro uo z => K i ro uo (Or.inl ⟨c, z⟩)
        exact ⟨h, K i0 _ _ ⟨rfl, rfl⟩⟩
      · replace h := h.2 c
        replace K := fun i ro uo z => K i ro uo (Or.inr ⟨c, z⟩)
        obtain ⟨g2_, h⟩ := h
        refine ⟨g2_, ?_⟩
        replace K := fun i ro uo z => K i ro uo ⟨g2_, z⟩
        intro S17 eS17 y3_ y4_
        replace h := h S17 eS17 y3_ y4_
        replace K := fun i ro uo z => K i ro uo ⟨S17, eS17, y3_, y4_, z⟩
        obtain ⟨Q9, h0, h⟩ := h
        refine ⟨_, ruX7_isThere h0, ?_⟩
        intro r19 S20 q5_ y6_ y7_
        replace h := h r19 S20 q5_.1 y6_ y7_
        replace K := fun i ro uo z => K i ro uo ⟨r19, S20, q5_.2, y6_, y7_, z⟩
        refine ⟨fun c => ?_, fun c => ?_⟩
        · replace h := h.1 c
          replace K := fun i ro uo z => K i ro uo (Or.inl ⟨c, z⟩)
          exact ⟨h, K i0 _ _ ⟨rfl, rfl⟩⟩
        · replace h := h.2 c
          replace K := fun i ro uo z => K i ro uo (Or.inr ⟨c, z⟩)
          intro S24 eS24 y8_ y9_
          replace h := h S24 eS24 y8_ y9_
          replace K := fun i ro uo z => K i ro uo ⟨S24, eS24, y8_, y9_, z⟩
          obtain ⟨Q9, h0, h⟩ := h
          refine ⟨_, ruX7_attributesFit h0, ?_⟩
          intro r26 S27 q10_ y11_ y12_
          replace h := h r26 S27 q10_.1 y11_ y12_
          replace K := fun i ro uo z => K i ro uo ⟨r26, S27, q10_.2, y11_, y12_, z⟩
          refine ⟨fun c => ?_, fun c => ?_⟩
          · replace h := h.1 c
            replace K := fun i ro uo z => K i ro uo (Or.inl ⟨c, z⟩)
            exact ⟨h, K i0 _ _ ⟨rfl, rfl⟩⟩
          · replace h := h.2 c
            replace K := fun i ro uo z => K i ro uo (Or.inr ⟨c, z⟩)
            intro a30 ea30 
            replace h := h a30 ea30 
            replace K := fun i ro uo z => K i ro uo ⟨a30, ea30, z⟩
            exact ih i00 (fun i ro uo ⟨n8, z⟩ => K (i, n8) ro uo z) h
set_option maxRecDepth 100000 in
theorem ruX7_membersFit {S : MS} {x1 : Int32} {Q : Int32 → MS → Prop} (h : wX7_membersFit S x1 Q) : wX7_membersFit S x1 (fun r u => Q r u ∧ vX7_membersFit S x1 r u) := by
  have i0 : Unit := ()
  have K : ∀ (i : Unit) (ro : Int32) (uo : MS), vX7_membersFit S x1 ro uo → vX7_membersFit S x1 ro uo := fun _ _ _ z => z
  unfold wX7_membersFit at h ⊢
  obtain ⟨Q9, h0, h⟩ := h
  refine ⟨_, ruX7_isThere h0, ?_⟩
  intro r2 S3 q13_ y14_ y15_
  replace h := h r2 S3 q13_.1 y14_ y15_
  replace K := fun i ro uo z => K i ro uo ⟨r2, S3, q13_.2, y14_, y15_, z⟩
  refine ⟨fun c => ?_, fun c => ?_⟩
  · replace h := h.1 c
    replace K := fun i ro uo z => K i ro uo (Or.inl ⟨c, z⟩)
    exact ⟨h, K i0 _ _ ⟨rfl, rfl⟩⟩
  · replace h := h.2 c
    replace K := fun i ro uo z => K i ro uo (Or.inr ⟨c, z⟩)
    obtain ⟨g16_, h⟩ := h
    refine ⟨g16_, ?_⟩
    replace K := fun i ro uo z => K i ro uo ⟨g16_, z⟩
    intro a9 ea9 
    replace h := h a9 ea9 
    replace K := fun i ro uo z => K i ro uo ⟨a9, ea9, z⟩
    refine ⟨fun c => ?_, fun c => ?_⟩
    · replace h := h.1 c
      replace K := fun i ro uo z => K i ro uo (Or.inl ⟨c, z⟩)
      intro S12 eS12 y17_ y18_
      replace h := h S12 eS12 y17_ y18_
      replace K := fun i ro uo z => K i ro uo ⟨S12, eS12, y17_, y18_, z⟩
      obtain ⟨n9, h⟩ := h
      exact ⟨n9, ru_X7_membersFit_L49 n9 i0 K h⟩
    · replace h := h.2 c
      replace K := fun i ro uo z => K i ro uo (Or.inr ⟨c, z⟩)
      obtain ⟨Q9, h0, h⟩ := h
      refine ⟨_, ruX7_breaks h0, ?_⟩
      intro r32 S33 q19_ y20_ y21_
      replace h := h r32 S33 q19_.1 y20_ y21_
      replace K := fun i ro uo z => K i ro uo ⟨r32, S33, q19_.2, y20_, y21_, z⟩
      exact ⟨h, K i0 _ _ ⟨rfl, rfl⟩⟩
set_option maxRecDepth 100000 in
theorem vw_X7_membersFit_L49 {ro : Int32} {uo : MS} : ∀ (n : Nat) {U49 : MS} {v49_1 : Int32} {v49_2 : Int32} {v49_3 : Int32}, v_X7_membersFit_L49 ro uo n U49 v49_1 v49_2 v49_3 → w_X7_membersFit_L49 (fun r u => r = ro ∧ u = uo) n U49 v49_1 v49_2 v49_3 := by
  intro n
  induction n with
  | zero => intro U49 v49_1 v49_2 v49_3 h; unfold v_X7_membersFit_L49 at h; exact h.elim
  | succ n ih =>
    intro U49 v49_1 v49_2 v49_3 h
    unfold v_X7_membersFit_L49 at h
    unfold w_X7_membersFit_L49
    intro _
    replace h := h.2
    rcases h with ⟨c, h⟩ | ⟨c, h⟩
    · refine ⟨fun _ => ?_, fun c2 => absurd c c2⟩
      exact ⟨h.1.symm, h.2.symm⟩
    · refine ⟨fun c2 => absurd c2 c, fun _ => ?_⟩
      rcases h with ⟨c, h⟩ | ⟨c, h⟩
      · refine ⟨fun _ => ?_, fun c2 => absurd c c2⟩
        exact ⟨h.1.symm, h.2.symm⟩
      · refine ⟨fun c2 => absurd c2 c, fun _ => ?_⟩
        obtain ⟨g9, h⟩ := h
        refine ⟨g9, ?_⟩
        obtain ⟨v9, e9, h⟩ := h
        intro x9 d9 _ _
        have c9 : v9 = x9 := e9.trans d9.symm
        subst c9
        replace h := h.2.2
        obtain ⟨p9, q9, z9, h⟩ := h
        refine ⟨_, vwX7_isThere z9, ?_⟩
        rintro p8 q8 ⟨d8, d9⟩ _ _
        subst d8
        subst d9
        replace h := h.2.2
        rcases h with ⟨c, h⟩ | ⟨c, h⟩
        · refine ⟨fun _ => ?_, fun c2 => absurd c c2⟩
          exact ⟨h.1.symm, h.2.symm⟩
        · refine ⟨fun c2 => absurd c2 c, fun _ => ?_⟩
          obtain ⟨v9, e9, h⟩ := h
          intro x9 d9 _ _
          have c9 : v9 = x9 := e9.trans d9.symm
          subst c9
          replace h := h.2.2
          obtain ⟨p9, q9, z9, h⟩ := h
          refine ⟨_, vwX7_attributesFit z9, ?_⟩
          rintro p8 q8 ⟨d8, d9⟩ _ _
          subst d8
          subst d9
          replace h := h.2.2
          rcases h with ⟨c, h⟩ | ⟨c, h⟩
          · refine ⟨fun _ => ?_, fun c2 => absurd c c2⟩
            exact ⟨h.1.symm, h.2.symm⟩
          · refine ⟨fun c2 => absurd c2 c, fun _ => ?_⟩
            obtain ⟨v9, e9, h⟩ := h
            intro x9 d9 
            have c9 : v9 = x9 := e9.trans d9.symm
            subst c9
            exact ih h
set_option maxRecDepth 100000 in
theorem vp_X7_membersFit_L49 {ro : Int32} {uo : MS} {P : Int32 → MS → Prop} : ∀ (n m : Nat) {U49 : MS} {v49_1 : Int32} {v49_2 : Int32} {v49_3 : Int32}, v_X7_membersFit_L49 ro uo n U49 v49_1 v49_2 v49_3 → w_X7_membersFit_L49 P m U49 v49_1 v49_2 v49_3 → P ro uo := by
  intro n
  induction n with
  | zero => intro m U49 v49_1 v49_2 v49_3 h; unfold v_X7_membersFit_L49 at h; exact h.elim
  | succ n ih =>
    intro m U49 v49_1 v49_2 v49_3 h w
    cases m with
    | zero => unfold w_X7_membersFit_L49 at w; exact w.elim
    | succ m =>
      unfold v_X7_membersFit_L49 at h
      unfold w_X7_membersFit_L49 at w
      obtain ⟨y1_, h⟩ := h
      replace w := w y1_
      rcases h with ⟨c, h⟩ | ⟨c, h⟩
      · replace w := w.1 c
        rw [h.1, h.2]
        exact w
      · replace w := w.2 c
        rcases h with ⟨c, h⟩ | ⟨c, h⟩
        · replace w := w.1 c
          rw [h.1, h.2]
          exact w
        · replace w := w.2 c
          replace h := h.2
          replace w := w.2
          obtain ⟨v9, e9, y2_, y3_, h⟩ := h
          replace w := w v9 e9 y2_ y3_
          obtain ⟨p9, q9, z9, y4_, y5_, h⟩ := h
          obtain ⟨Q9, w0, w⟩ := w
          replace w := w p9 q9 (vpX7_isThere z9 w0) y4_ y5_
          rcases h with ⟨c, h⟩ | ⟨c, h⟩
          · replace w := w.1 c
            rw [h.1, h.2]
            exact w
          · replace w := w.2 c
            obtain ⟨v9, e9, y6_, y7_, h⟩ := h
            replace w := w v9 e9 y6_ y7_
            obtain ⟨p9, q9, z9, y8_, y9_, h⟩ := h
            obtain ⟨Q9, w0, w⟩ := w
            replace w := w p9 q9 (vpX7_attributesFit z9 w0) y8_ y9_
            rcases h with ⟨c, h⟩ | ⟨c, h⟩
            · replace w := w.1 c
              rw [h.1, h.2]
              exact w
            · replace w := w.2 c
              obtain ⟨v9, e9, h⟩ := h
              replace w := w v9 e9 
              exact ih m h w
set_option maxRecDepth 100000 in
theorem vwX7_membersFit {S : MS} {x1 : Int32} {ro : Int32} {uo : MS} (h : vX7_membersFit S x1 ro uo) : wX7_membersFit S x1 (fun r u => r = ro ∧ u = uo) := by
  unfold vX7_membersFit at h
  unfold wX7_membersFit
  obtain ⟨p9, q9, z9, h⟩ := h
  refine ⟨_, vwX7_isThere z9, ?_⟩
  rintro p8 q8 ⟨d8, d9⟩ _ _
  subst d8
  subst d9
  replace h := h.2.2
  rcases h with ⟨c, h⟩ | ⟨c, h⟩
  · refine ⟨fun _ => ?_, fun c2 => absurd c c2⟩
    exact ⟨h.1.symm, h.2.symm⟩
  · refine ⟨fun c2 => absurd c2 c, fun _ => ?_⟩
    obtain ⟨g9, h⟩ := h
    refine ⟨g9, ?_⟩
    obtain ⟨v9, e9, h⟩ := h
    intro x9 d9 
    have c9 : v9 = x9 := e9.trans d9.symm
    subst c9
    rcases h with ⟨c, h⟩ | ⟨c, h⟩
    · refine ⟨fun _ => ?_, fun c2 => absurd c c2⟩
      obtain ⟨v9, e9, h⟩ := h
      intro x9 d9 _ _
      have c9 : v9 = x9 := e9.trans d9.symm
      subst c9
      replace h := h.2.2
      obtain ⟨n9, h⟩ := h
      exact ⟨n9, vw_X7_membersFit_L49 n9 h⟩
    · refine ⟨fun c2 => absurd c2 c, fun _ => ?_⟩
      obtain ⟨p9, q9, z9, h⟩ := h
      refine ⟨_, vwX7_breaks z9, ?_⟩
      rintro p8 q8 ⟨d8, d9⟩ _ _
      subst d8
      subst d9
      replace h := h.2.2
      exact ⟨h.1.symm, h.2.symm⟩
set_option maxRecDepth 100000 in
theorem vpX7_membersFit {S : MS} {x1 : Int32} {ro : Int32} {uo : MS} {P : Int32 → MS → Prop} (h : vX7_membersFit S x1 ro uo) (w : wX7_membersFit S x1 P) : P ro uo := by
  unfold vX7_membersFit at h
  unfold wX7_membersFit at w
  obtain ⟨p9, q9, z9, y10_, y11_, h⟩ := h
  obtain ⟨Q9, w0, w⟩ := w
  replace w := w p9 q9 (vpX7_isThere z9 w0) y10_ y11_
  rcases h with ⟨c, h⟩ | ⟨c, h⟩
  · replace w := w.1 c
    rw [h.1, h.2]
    exact w
  · replace w := w.2 c
    replace h := h.2
    replace w := w.2
    obtain ⟨v9, e9, h⟩ := h
    replace w := w v9 e9 
    rcases h with ⟨c, h⟩ | ⟨c, h⟩
    · replace w := w.1 c
      obtain ⟨v9, e9, y12_, y13_, h⟩ := h
      replace w := w v9 e9 y12_ y13_
      obtain ⟨n9, h⟩ := h
      obtain ⟨n8, w⟩ := w
      exact vp_X7_membersFit_L49 n9 n8 h w
    · replace w := w.2 c
      obtain ⟨p9, q9, z9, y14_, y15_, h⟩ := h
      obtain ⟨Q9, w0, w⟩ := w
      replace w := w p9 q9 (vpX7_breaks z9 w0) y14_ y15_
      rw [h.1, h.2]
      exact w
def vX7_fileAttributesFit (S : MS) (ro : Int32) (uo : MS) : Prop := (∃ S1 : MS, S1 = wI S 9 16 (qI S 9 15) ∧ qT S 9 = 46 ∧ wfC S1 ∧ (∃ (r3 : Int32) (S4 : MS), vX7_attributesFit S1 r3 S4 ∧ wfC S4 ∧ shy S1 S4 ∧ (ro = r3 ∧ uo = S4)))
set_option maxRecDepth 100000 in
theorem ruX7_fileAttributesFit {S : MS} {Q : Int32 → MS → Prop} (h : wX7_fileAttributesFit S Q) : wX7_fileAttributesFit S (fun r u => Q r u ∧ vX7_fileAttributesFit S r u) := by
  have i0 : Unit := ()
  have K : ∀ (i : Unit) (ro : Int32) (uo : MS), vX7_fileAttributesFit S ro uo → vX7_fileAttributesFit S ro uo := fun _ _ _ z => z
  unfold wX7_fileAttributesFit at h ⊢
  intro S1 eS1 y1_ y2_
  replace h := h S1 eS1 y1_ y2_
  replace K := fun i ro uo z => K i ro uo ⟨S1, eS1, y1_, y2_, z⟩
  obtain ⟨Q9, h0, h⟩ := h
  refine ⟨_, ruX7_attributesFit h0, ?_⟩
  intro r3 S4 q3_ y4_ y5_
  replace h := h r3 S4 q3_.1 y4_ y5_
  replace K := fun i ro uo z => K i ro uo ⟨r3, S4, q3_.2, y4_, y5_, z⟩
  exact ⟨h, K i0 _ _ ⟨rfl, rfl⟩⟩
set_option maxRecDepth 100000 in
theorem vwX7_fileAttributesFit {S : MS} {ro : Int32} {uo : MS} (h : vX7_fileAttributesFit S ro uo) : wX7_fileAttributesFit S (fun r u => r = ro ∧ u = uo) := by
  unfold vX7_fileAttributesFit at h
  unfold wX7_fileAttributesFit
  obtain ⟨v9, e9, h⟩ := h
  intro x9 d9 _ _
  have c9 : v9 = x9 := e9.trans d9.symm
  subst c9
  replace h := h.2.2
  obtain ⟨p9, q9, z9, h⟩ := h
  refine ⟨_, vwX7_attributesFit z9, ?_⟩
  rintro p8 q8 ⟨d8, d9⟩ _ _
  subst d8
  subst d9
  replace h := h.2.2
  exact ⟨h.1.symm, h.2.symm⟩
set_option maxRecDepth 100000 in
theorem vpX7_fileAttributesFit {S : MS} {ro : Int32} {uo : MS} {P : Int32 → MS → Prop} (h : vX7_fileAttributesFit S ro uo) (w : wX7_fileAttributesFit S P) : P ro uo := by
  unfold vX7_fileAttributesFit at h
  unfold wX7_fileAttributesFit at w
  obtain ⟨v9, e9, y1_, y2_, h⟩ := h
  replace w := w v9 e9 y1_ y2_
  obtain ⟨p9, q9, z9, y3_, y4_, h⟩ := h
  obtain ⟨Q9, w0, w⟩ := w
  replace w := w p9 q9 (vpX7_attributesFit z9 w0) y3_ y4_
  rw [h.1, h.2]
  exact w
def v_X7_entriesPoint_L2 (ro : Int32) (uo : MS) : Nat → MS → Int32 → Prop
  | 0, _, _ => False
  | n2 + 1, U2, v2_1 => (wfC U2 ∧ (((qI U2 9 5).toInt ≤ v2_1.toInt ∧ (ro = (1 : Int32) ∧ uo = U2)) ∨ (¬ (qI U2 9 5).toInt ≤ v2_1.toInt ∧ (∃ (r3 : Int32) (S4 : MS), vX7_entryPoints U2 v2_1 r3 S4 ∧ wfC S4 ∧ shy U2 S4 ∧ ((r3.toInt = 0 ∧ (d_X7_entryAt S4 v2_1 ∧ (∃ (r12 : Int32) (S13 : MS), vX7_breaks S4 (6 : Int32) (fX7_entryAt S4 v2_1) r12 S13 ∧ wfC S13 ∧ shy S4 S13 ∧ (ro = r12 ∧ uo = S13)))) ∨ (¬ r3.toInt = 0 ∧ (∃ a7 : Int32, a7 = (v2_1 + Int32.ofInt 1) ∧ ((v_X7_entriesPoint_L2 ro uo n2) S4 a7))))))))
def vX7_entriesPoint (S : MS) (ro : Int32) (uo : MS) : Prop := (∃ n, v_X7_entriesPoint_L2 ro uo n S 1)
set_option maxRecDepth 100000 in
theorem ru_X7_entriesPoint_L2 {ι : Type} {P Q : Int32 → MS → Prop} : ∀ (n : Nat) {U2 : MS} {v2_1 : Int32} (i0 : ι), (∀ (i : ι) (ro : Int32) (uo : MS), (∃ n8, v_X7_entriesPoint_L2 ro uo n8 U2 v2_1) → P ro uo) → w_X7_entriesPoint_L2 Q n U2 v2_1 → w_X7_entriesPoint_L2 (fun r u => Q r u ∧ P r u) n U2 v2_1 := by
  intro n
  induction n with
  | zero => intro U2 v2_1 i0 K h; unfold w_X7_entriesPoint_L2 at h; exact h.elim
  | succ n ih =>
    intro U2 v2_1 i0 K h
    unfold w_X7_entriesPoint_L2 at h ⊢
    replace K := fun (i : ι × Nat) ro uo (z : v_X7_entriesPoint_L2 ro uo (i.2 + 1) U2 v2_1) => K i.1 ro uo ⟨i.2 + 1, z⟩
    have i00 := i0
    replace i0 : ι × Nat := (i0, 0)
    intro y1_
    replace h := h y1_
    replace K := fun i ro uo z => K i ro uo ⟨y1_, z⟩
    refine ⟨fun c => ?_, fun c => ?_⟩
    · replace h := h.1 c
      replace K := fun i ro uo z => K i ro uo (Or.inl ⟨c, z⟩)
      exact ⟨h, K i0 _ _ ⟨rfl, rfl⟩⟩
    · replace h := h.2 c
      replace K := fun i ro uo z => K i ro uo (Or.inr ⟨c, z⟩)
      obtain ⟨Q9, h0, h⟩ := h
      refine ⟨_, ruX7_entryPoints h0, ?_⟩
      intro r3 S4 q2_ y3_ y4_
      replace h := h r3 S4 q2_.1 y3_ y4_
      replace K := fun i ro uo z => K i ro uo ⟨r3, S4, q2_.2, y3_, y4_, z⟩
      refine ⟨fun c => ?_, fun c => ?_⟩
      · replace h := h.1 c
        replace K := fun i ro uo z => K i ro uo (Or.inl ⟨c, z⟩)
        obtain ⟨g5_, h⟩ := h
        refine ⟨g5_, ?_⟩
        replace K := fun i ro uo z => K i ro uo ⟨g5_, z⟩
        obtain ⟨Q9, h0, h⟩ := h
        refine ⟨_, ruX7_breaks h0, ?_⟩
        intro r12 S13 q6_ y7_ y8_
        replace h := h r12 S13 q6_.1 y7_ y8_
        replace K := fun i ro uo z => K i ro uo ⟨r12, S13, q6_.2, y7_, y8_, z⟩
        exact ⟨h, K i0 _ _ ⟨rfl, rfl⟩⟩
      · replace h := h.2 c
        replace K := fun i ro uo z => K i ro uo (Or.inr ⟨c, z⟩)
        intro a7 ea7 
        replace h := h a7 ea7 
        replace K := fun i ro uo z => K i ro uo ⟨a7, ea7, z⟩
        exact ih i00 (fun i ro uo ⟨n8, z⟩ => K (i, n8) ro uo z) h
set_option maxRecDepth 100000 in
theorem ruX7_entriesPoint {S : MS} {Q : Int32 → MS → Prop} (h : wX7_entriesPoint S Q) : wX7_entriesPoint S (fun r u => Q r u ∧ vX7_entriesPoint S r u) := by
  have i0 : Unit := ()
  have K : ∀ (i : Unit) (ro : Int32) (uo : MS), vX7_entriesPoint S ro uo → vX7_entriesPoint S ro uo := fun _ _ _ z => z
  unfold wX7_entriesPoint at h ⊢
  obtain ⟨n9, h⟩ := h
  exact ⟨n9, ru_X7_entriesPoint_L2 n9 i0 K h⟩
set_option maxRecDepth 100000 in
theorem vw_X7_entriesPoint_L2 {ro : Int32} {uo : MS} : ∀ (n : Nat) {U2 : MS} {v2_1 : Int32}, v_X7_entriesPoint_L2 ro uo n U2 v2_1 → w_X7_entriesPoint_L2 (fun r u => r = ro ∧ u = uo) n U2 v2_1 := by
  intro n
  induction n with
  | zero => intro U2 v2_1 h; unfold v_X7_entriesPoint_L2 at h; exact h.elim
  | succ n ih =>
    intro U2 v2_1 h
    unfold v_X7_entriesPoint_L2 at h
    unfold w_X7_entriesPoint_L2
    intro _
    replace h := h.2
    rcases h with ⟨c, h⟩ | ⟨c, h⟩
    · refine ⟨fun _ => ?_, fun c2 => absurd c c2⟩
      exact ⟨h.1.symm, h.2.symm⟩
    · refine ⟨fun c2 => absurd c2 c, fun _ => ?_⟩
      obtain ⟨p9, q9, z9, h⟩ := h
      refine ⟨_, vwX7_entryPoints z9, ?_⟩
      rintro p8 q8 ⟨d8, d9⟩ _ _
      subst d8
      subst d9
      replace h := h.2.2
      rcases h with ⟨c, h⟩ | ⟨c, h⟩
      · refine ⟨fun _ => ?_, fun c2 => absurd c c2⟩
        obtain ⟨g9, h⟩ := h
        refine ⟨g9, ?_⟩
        obtain ⟨p9, q9, z9, h⟩ := h
        refine ⟨_, vwX7_breaks z9, ?_⟩
        rintro p8 q8 ⟨d8, d9⟩ _ _
        subst d8
        subst d9
        replace h := h.2.2
        exact ⟨h.1.symm, h.2.symm⟩
      · refine ⟨fun c2 => absurd c2 c, fun _ => ?_⟩
        obtain ⟨v9, e9, h⟩ := h
        intro x9 d9 
        have c9 : v9 = x9 := e9.trans d9.symm
        subst c9
        exact ih h
set_option maxRecDepth 100000 in
theorem vp_X7_entriesPoint_L2 {ro : Int32} {uo : MS} {P : Int32 → MS → Prop} : ∀ (n m : Nat) {U2 : MS} {v2_1 : Int32}, v_X7_entriesPoint_L2 ro uo n U2 v2_1 → w_X7_entriesPoint_L2 P m U2 v2_1 → P ro uo := by
  intro n
  induction n with
  | zero => intro m U2 v2_1 h; unfold v_X7_entriesPoint_L2 at h; exact h.elim
  | succ n ih =>
    intro m U2 v2_1 h w
    cases m with
    | zero => unfold w_X7_entriesPoint_L2 at w; exact w.elim
    | succ m =>
      unfold v_X7_entriesPoint_L2 at h
      unfold w_X7_entriesPoint_L2 at w
      obtain ⟨y1_, h⟩ := h
      replace w := w y1_
      rcases h with ⟨c, h⟩ | ⟨c, h⟩
      · replace w := w.1 c
        rw [h.1, h.2]
        exact w
      · replace w := w.2 c
        obtain ⟨p9, q9, z9, y2_, y3_, h⟩ := h
        obtain ⟨Q9, w0, w⟩ := w
        replace w := w p9 q9 (vpX7_entryPoints z9 w0) y2_ y3_
        rcases h with ⟨c, h⟩ | ⟨c, h⟩
        · replace w := w.1 c
          replace h := h.2
          replace w := w.2
          obtain ⟨p9, q9, z9, y4_, y5_, h⟩ := h
          obtain ⟨Q9, w0, w⟩ := w
          replace w := w p9 q9 (vpX7_breaks z9 w0) y4_ y5_
          rw [h.1, h.2]
          exact w
        · replace w := w.2 c
          obtain ⟨v9, e9, h⟩ := h
          replace w := w v9 e9 
          exact ih m h w
set_option maxRecDepth 100000 in
theorem vwX7_entriesPoint {S : MS} {ro : Int32} {uo : MS} (h : vX7_entriesPoint S ro uo) : wX7_entriesPoint S (fun r u => r = ro ∧ u = uo) := by
  unfold vX7_entriesPoint at h
  unfold wX7_entriesPoint
  obtain ⟨n9, h⟩ := h
  exact ⟨n9, vw_X7_entriesPoint_L2 n9 h⟩
set_option maxRecDepth 100000 in
theorem vpX7_entriesPoint {S : MS} {ro : Int32} {uo : MS} {P : Int32 → MS → Prop} (h : vX7_entriesPoint S ro uo) (w : wX7_entriesPoint S P) : P ro uo := by
  unfold vX7_entriesPoint at h
  unfold wX7_entriesPoint at w
  obtain ⟨n9, h⟩ := h
  obtain ⟨n8, w⟩ := w
  exact vp_X7_entriesPoint_L2 n9 n8 h w
def v_X7_namesHold_L2 (ro : Int32) (uo : MS) : Nat → MS → Int32 → Prop
  | 0, _, _ => False
  | n2 + 1, U2, v2_1 => (wfC U2 ∧ ((((qI U2 9 7) + (qI U2 9 8)).toInt ≤ v2_1.toInt ∧ (∃ (r4 : Int32) (S5 : MS), vX7_attributeNamesHold U2 (qI U2 9 16) r4 S5 ∧ wfC S5 ∧ shy U2 S5 ∧ (ro = r4 ∧ uo = S5))) ∨ (¬ ((qI U2 9 7) + (qI U2 9 8)).toInt ≤ v2_1.toInt ∧ (d_X7_memberPlace U2 v2_1 ∧ (∃ a10 : Int32, a10 = (fX7_memberPlace U2 v2_1) ∧ (∃ (r13 : Int32) (S14 : MS), vX7_isNameAt U2 (a10 + (2 : Int32)) r13 S14 ∧ wfC S14 ∧ shy U2 S14 ∧ ((r13.toInt = 0 ∧ (ro = (0 : Int32) ∧ uo = S14)) ∨ (¬ r13.toInt = 0 ∧ (∃ (r19 : Int32) (S20 : MS), vX7_isNameAt S14 (a10 + (4 : Int32)) r19 S20 ∧ wfC S20 ∧ shy S14 S20 ∧ ((r19.toInt = 0 ∧ (ro = (0 : Int32) ∧ uo = S20)) ∨ (¬ r19.toInt = 0 ∧ (∃ (r25 : Int32) (S26 : MS), vX7_attributeNamesHold S20 (a10 + (6 : Int32)) r25 S26 ∧ wfC S26 ∧ shy S20 S26 ∧ ((r25.toInt = 0 ∧ (ro = (0 : Int32) ∧ uo = S26)) ∨ (¬ r25.toInt = 0 ∧ (∃ a29 : Int32, a29 = (v2_1 + Int32.ofInt 1) ∧ ((v_X7_namesHold_L2 ro uo n2) S26 a29))))))))))))))))
def vX7_namesHold (S : MS) (ro : Int32) (uo : MS) : Prop := (∃ n, v_X7_namesHold_L2 ro uo n S 0)
set_option maxRecDepth 100000 in
theorem ru_X7_namesHold_L2 {ι : Type} {P Q : Int32 → MS → Prop} : ∀ (n : Nat) {U2 : MS} {v2_1 : Int32} (i0 : ι), (∀ (i : ι) (ro : Int32) (uo : MS), (∃ n8, v_X7_namesHold_L2 ro uo n8 U2 v2_1) → P ro uo) → w_X7_namesHold_L2 Q n U2 v2_1 → w_X7_namesHold_L2 (fun r u => Q r u ∧ P r u) n U2 v2_1 := by
  intro n
  induction n with
  | zero => intro U2 v2_1 i0 K h; unfold w_X7_namesHold_L2 at h; exact h.elim
  | succ n ih =>
    intro U2 v2_1 i0 K h
    unfold w_X7_namesHold_L2 at h ⊢
    replace K := fun (i : ι × Nat) ro uo (z : v_X7_namesHold_L2 ro uo (i.2 + 1) U2 v2_1) => K i.1 ro uo ⟨i.2 + 1, z⟩
    have i00 := i0
    replace i0 : ι × Nat := (i0, 0)
    intro y1_
    replace h := h y1_
    replace K := fun i ro uo z => K i ro uo ⟨y1_, z⟩
    refine ⟨fun c => ?_, fun c => ?_⟩
    · replace h := h.1 c
      replace K := fun i ro uo z => K i ro uo (Or.inl ⟨c, z⟩)
      obtain ⟨Q9, h0, h⟩ := h
      refine ⟨_, ruX7_attributeNamesHold h0, ?_⟩
      intro r4 S5 q2_ y3_ y4_
      replace h := h r4 S5 q2_.1 y3_ y4_
      replace K := fun i ro uo z => K i ro uo ⟨r4, S5, q2_.2, y3_, y4_, z⟩
      exact ⟨h, K i0 _ _ ⟨rfl, rfl⟩⟩
    · replace h := h.2 c
      replace K := fun i ro uo z => K i ro uo (Or.inr ⟨c, z⟩)
      obtain ⟨g5_, h⟩ := h
      refine ⟨g5_, ?_⟩
      replace K := fun i ro uo z => K i ro uo ⟨g5_, z⟩
      intro a10 ea10 
      replace h := h a10 ea10 
      replace K := fun i ro uo z => K i ro uo ⟨a10, ea10, z⟩
      obtain ⟨Q9, h0, h⟩ := h
      refine ⟨_, ruX7_isNameAt h0, ?_⟩
      intro r13 S14 q6_ y7_ y8_
      replace h := h r13 S14 q6_.1 y7_ y8_
      replace K := fun i ro uo z => K i ro uo ⟨r13, S14, q6_.2, y7_, y8_, z⟩
      refine ⟨fun c => ?_, fun c => ?_⟩
      · replace h := h.1 c
        replace K := fun i ro uo z => K i ro uo (Or.inl ⟨c, z⟩)
        exact ⟨h, K i0 _ _ ⟨rfl, rfl⟩⟩
      · replace h := h.2 c
        replace K := fun i ro uo z => K i ro uo (Or.inr ⟨c, z⟩)
        obtain ⟨Q9, h0, h⟩ := h
        refine ⟨_, ruX7_isNameAt h0, ?_⟩
        intro r19 S20 q9_ y10_ y11_
        replace h := h r19 S20 q9_.1 y10_ y11_
        replace K := fun i ro uo z => K i ro uo ⟨r19, S20, q9_.2, y10_, y11_, z⟩
        refine ⟨fun c => ?_, fun c => ?_⟩
        · replace h := h.1 c
          replace K := fun i ro uo z => K i ro uo (Or.inl ⟨c, z⟩)
          exact ⟨h, K i0 _ _ ⟨rfl, rfl⟩⟩
        · replace h := h.2 c
          replace K := fun i ro uo z => K i ro uo (Or.inr ⟨c, z⟩)
          obtain ⟨Q9, h0, h⟩ := h
          refine ⟨_, ruX7_attributeNamesHold h0, ?_⟩
          intro r25 S26 q12_ y13_ y14_
          replace h := h r25 S26 q12_.1 y13_ y14_
          replace K := fun i ro uo z => K i ro uo ⟨r25, S26, q12_.2, y13_, y14_, z⟩
          refine ⟨fun c => ?_, fun c => ?_⟩
          · replace h := h.1 c
            replace K := fun i ro uo z => K i ro uo (Or.inl ⟨c, z⟩)
            exact ⟨h, K i0 _ _ ⟨rfl, rfl⟩⟩
          · replace h := h.2 c
            replace K := fun i ro uo z => K i ro uo (Or.inr ⟨c, z⟩)
            intro a29 ea29 
            replace h := h a29 ea29 
            replace K := fun i ro uo z => K i ro uo ⟨a29, ea29, z⟩
            exact ih i00 (fun i ro uo ⟨n8, z⟩ => K (i, n8) ro uo z) h
set_option maxRecDepth 100000 in
theorem ruX7_namesHold {S : MS} {Q : Int32 → MS → Prop} (h : wX7_namesHold S Q) : wX7_namesHold S (fun r u => Q r u ∧ vX7_namesHold S r u) := by
  have i0 : Unit := ()
  have K : ∀ (i : Unit) (ro : Int32) (uo : MS), vX7_namesHold S ro uo → vX7_namesHold S ro uo := fun _ _ _ z => z
  unfold wX7_namesHold at h ⊢
  obtain ⟨n9, h⟩ := h
  exact ⟨n9, ru_X7_namesHold_L2 n9 i0 K h⟩
set_option maxRecDepth 100000 in
theorem vw_X7_namesHold_L2 {ro : Int32} {uo : MS} : ∀ (n : Nat) {U2 : MS} {v2_1 : Int32}, v_X7_namesHold_L2 ro uo n U2 v2_1 → w_X7_namesHold_L2 (fun r u => r = ro ∧ u = uo) n U2 v2_1 := by
  intro n
  induction n with
  | zero => intro U2 v2_1 h; unfold v_X7_namesHold_L2 at h; exact h.elim
  | succ n ih =>
    intro U2 v2_1 h
    unfold v_X7_namesHold_L2 at h
    unfold w_X7_namesHold_L2
    intro _
    replace h := h.2
    rcases h with ⟨c, h⟩ | ⟨c, h⟩
    · refine ⟨fun _ => ?_, fun c2 => absurd c c2⟩
      obtain ⟨p9, q9, z9, h⟩ := h
      refine ⟨_, vwX7_attributeNamesHold z9, ?_⟩
      rintro p8 q8 ⟨d8, d9⟩ _ _
      subst d8
      subst d9
      replace h := h.2.2
      exact ⟨h.1.symm, h.2.symm⟩
    · refine ⟨fun c2 => absurd c2 c, fun _ => ?_⟩
      obtain ⟨g9, h⟩ := h
      refine ⟨g9, ?_⟩
      obtain ⟨v9, e9, h⟩ := h
      intro x9 d9 
      have c9 : v9 = x9 := e9.trans d9.symm
      subst c9
      obtain ⟨p9, q9, z9, h⟩ := h
      refine ⟨_, vwX7_isNameAt z9, ?_⟩
      rintro p8 q8 ⟨d8, d9⟩ _ _
      subst d8
      subst d9
      replace h := h.2.2
      rcases h with ⟨c, h⟩ | ⟨c, h⟩
      · refine ⟨fun _ => ?_, fun c2 => absurd c c2⟩
        exact ⟨h.1.symm, h.2.symm⟩
      · refine ⟨fun c2 => absurd c2 c, fun _ => ?_⟩
        obtain ⟨p9, q9, z9, h⟩ := h
        refine ⟨_, vwX7_isNameAt z9, ?_⟩
        rintro p8 q8 ⟨d8, d9⟩ _ _
        subst d8
        subst d9
        replace h := h.2.2
        rcases h with ⟨c, h⟩ | ⟨c, h⟩
        · refine ⟨fun _ => ?_, fun c2 => absurd c c2⟩
          exact ⟨h.1.symm, h.2.symm⟩
        · refine ⟨fun c2 => absurd c2 c, fun _ => ?_⟩
          obtain ⟨p9, q9, z9, h⟩ := h
          refine ⟨_, vwX7_attributeNamesHold z9, ?_⟩
          rintro p8 q8 ⟨d8, d9⟩ _ _
          subst d8
          subst d9
          replace h := h.2.2
          rcases h with ⟨c, h⟩ | ⟨c, h⟩
          · refine ⟨fun _ => ?_, fun c2 => absurd c c2⟩
            exact ⟨h.1.symm, h.2.symm⟩
          · refine ⟨fun c2 => absurd c2 c, fun _ => ?_⟩
            obtain ⟨v9, e9, h⟩ := h
            intro x9 d9 
            have c9 : v9 = x9 := e9.trans d9.symm
            subst c9
            exact ih h
set_option maxRecDepth 100000 in
theorem vp_X7_namesHold_L2 {ro : Int32} {uo : MS} {P : Int32 → MS → Prop} : ∀ (n m : Nat) {U2 : MS} {v2_1 : Int32}, v_X7_namesHold_L2 ro uo n U2 v2_1 → w_X7_namesHold_L2 P m U2 v2_1 → P ro uo := by
  intro n
  induction n with
  | zero => intro m U2 v2_1 h; unfold v_X7_namesHold_L2 at h; exact h.elim
  | succ n ih =>
    intro m U2 v2_1 h w
    cases m with
    | zero => unfold w_X7_namesHold_L2 at w; exact w.elim
    | succ m =>
      unfold v_X7_namesHold_L2 at h
      unfold w_X7_namesHold_L2 at w
      obtain ⟨y1_, h⟩ := h
      replace w := w y1_
      rcases h with ⟨c, h⟩ | ⟨c, h⟩
      · replace w := w.1 c
        obtain ⟨p9, q9, z9, y2_, y3_, h⟩ := h
        obtain ⟨Q9, w0, w⟩ := w
        replace w := w p9 q9 (vpX7_attributeNamesHold z9 w0) y2_ y3_
        rw [h.1, h.2]
        exact w
      · replace w := w.2 c
        replace h := h.2
        replace w := w.2
        obtain ⟨v9, e9, h⟩ := h
        replace w := w v9 e9 
        obtain ⟨p9, q9, z9, y4_, y5_, h⟩ := h
        obtain ⟨Q9, w0, w⟩ := w
        replace w := w p9 q9 (vpX7_isNameAt z9 w0) y4_ y5_
        rcases h with ⟨c, h⟩ | ⟨c, h⟩
        · replace w := w.1 c
          rw [h.1, h.2]
          exact w
        · replace w := w.2 c
          obtain ⟨p9, q9, z9, y6_, y7_, h⟩ := h
          obtain ⟨Q9, w0, w⟩ := w
          replace w := w p9 q9 (vpX7_isNameAt z9 w0) y6_ y7_
          rcases h with ⟨c, h⟩ | ⟨c, h⟩
          · replace w := w.1 c
            rw [h.1, h.2]
            exact w
          · replace w := w.2 c
            obtain ⟨p9, q9, z9, y8_, y9_, h⟩ := h
            obtain ⟨Q9, w0, w⟩ := w
            replace w := w p9 q9 (vpX7_attributeNamesHold z9 w0) y8_ y9_
            rcases h with ⟨c, h⟩ | ⟨c, h⟩
            · replace w := w.1 c
              rw [h.1, h.2]
              exact w
            · replace w := w.2 c
              obtain ⟨v9, e9, h⟩ := h
              replace w := w v9 e9 
              exact ih m h w
set_option maxRecDepth 100000 in
theorem vwX7_namesHold {S : MS} {ro : Int32} {uo : MS} (h : vX7_namesHold S ro uo) : wX7_namesHold S (fun r u => r = ro ∧ u = uo) := by
  unfold vX7_namesHold at h
  unfold wX7_namesHold
  obtain ⟨n9, h⟩ := h
  exact ⟨n9, vw_X7_namesHold_L2 n9 h⟩
set_option maxRecDepth 100000 in
theorem vpX7_namesHold {S : MS} {ro : Int32} {uo : MS} {P : Int32 → MS → Prop} (h : vX7_namesHold S ro uo) (w : wX7_namesHold S P) : P ro uo := by
  unfold vX7_namesHold at h
  unfold wX7_namesHold at w
  obtain ⟨n9, h⟩ := h
  obtain ⟨n8, w⟩ := w
  exact vp_X7_namesHold_L2 n9 n8 h w
def v_X8_remove_J232 (uo : MS) (k138 : MS → Nat → Int32 → Int32 → Int32 → Int32 → Prop) (U232 : MS) (v232_0 : Nat) (v232_1 : Int32) (v232_2 : Int32) (v232_3 : Int32) (v232_4 : Int32) : Prop := (wfC U232 ∧ qT U232 v232_0 = 47 ∧ (∃ a28 : Int32, a28 = (v232_4 + Int32.ofInt 1) ∧ (k138 U232 v232_0 v232_1 v232_2 v232_3 a28)))
def v_X8_remove_L138 (uo : MS) : Nat → MS → Nat → Int32 → Int32 → Int32 → Int32 → Prop
  | 0, _, _, _, _, _, _ => False
  | n138 + 1, U138, v138_0, v138_1, v138_2, v138_3, v138_4 => (wfC U138 ∧ qT U138 v138_0 = 47 ∧ (((qI U138 v138_0 9).toInt ≤ v138_4.toInt ∧ (∃ S11 : MS, S11 = wI U138 v138_0 9 v138_3 ∧ qT U138 v138_0 = 47 ∧ wfC S11 ∧ (uo = S11))) ∨ (¬ (qI U138 v138_0 9).toInt ≤ v138_4.toInt ∧ ((qR U138 v138_0 5 = some (qO U138 v138_0 5)) ∧ (((0 : Int) ≤ v138_4.toInt ∧ v138_4.toInt < (qN U138 (qO U138 v138_0 5) : Int)) ∧ (d_X8_behindRemoved U138 (qI U138 (qO U138 v138_0 5) v138_4.toInt.toNat) v138_1 v138_2 ∧ (∃ a19 : Int32, a19 = (fX8_behindRemoved U138 (qI U138 (qO U138 v138_0 5) v138_4.toInt.toNat) v138_1 v138_2) ∧ ((qR U138 v138_0 6 = some (qO U138 v138_0 6)) ∧ (((0 : Int) ≤ v138_4.toInt ∧ v138_4.toInt < (qN U138 (qO U138 v138_0 6) : Int)) ∧ (d_X8_behindRemoved U138 (qI U138 (qO U138 v138_0 6) v138_4.toInt.toNat) v138_1 v138_2 ∧ (∃ a27 : Int32, a27 = (fX8_behindRemoved U138 (qI U138 (qO U138 v138_0 6) v138_4.toInt.toNat) v138_1 v138_2) ∧ ((a27.toInt ≤ a19.toInt ∧ (v_X8_remove_J232 uo (v_X8_remove_L138 uo n138) U138 v138_0 v138_1 v138_2 v138_3 v138_4)) ∨ (¬ a27.toInt ≤ a19.toInt ∧ ((qR U138 v138_0 5 = some (qO U138 v138_0 5)) ∧ (((0 : Int) ≤ v138_3.toInt ∧ v138_3.toInt < (qN U138 (qO U138 v138_0 5) : Int)) ∧ (∃ S33 : MS, S33 = wI U138 (qO U138 v138_0 5) v138_3.toInt.toNat a19 ∧ qT U138 (qO U138 v138_0 5) = 224 ∧ wfC S33 ∧ ((qR S33 v138_0 6 = some (qO S33 v138_0 6)) ∧ (((0 : Int) ≤ v138_3.toInt ∧ v138_3.toInt < (qN S33 (qO S33 v138_0 6) : Int)) ∧ (∃ S37 : MS, S37 = wI S33 (qO S33 v138_0 6) v138_3.toInt.toNat a27 ∧ qT S33 (qO S33 v138_0 6) = 225 ∧ wfC S37 ∧ ((qR S37 v138_0 7 = some (qO S37 v138_0 7)) ∧ ((qR S37 v138_0 7 = some (qO S37 v138_0 7)) ∧ (((0 : Int) ≤ v138_4.toInt ∧ v138_4.toInt < (qN S37 (qO S37 v138_0 7) : Int)) ∧ (d_X8_behindRemoved S37 (qI S37 (qO S37 v138_0 7) v138_4.toInt.toNat) v138_1 v138_2 ∧ (∃ a47 : Int32, a47 = (fX8_behindRemoved S37 (qI S37 (qO S37 v138_0 7) v138_4.toInt.toNat) v138_1 v138_2) ∧ (((0 : Int) ≤ v138_3.toInt ∧ v138_3.toInt < (qN S37 (qO S37 v138_0 7) : Int)) ∧ (∃ S49 : MS, S49 = wI S37 (qO S37 v138_0 7) v138_3.toInt.toNat a47 ∧ qT S37 (qO S37 v138_0 7) = 226 ∧ wfC S49 ∧ ((qR S49 v138_0 8 = some (qO S49 v138_0 8)) ∧ ((qR S49 v138_0 8 = some (qO S49 v138_0 8)) ∧ (((0 : Int) ≤ v138_4.toInt ∧ v138_4.toInt < (qN S49 (qO S49 v138_0 8) : Int)) ∧ (((0 : Int) ≤ v138_3.toInt ∧ v138_3.toInt < (qN S49 (qO S49 v138_0 8) : Int)) ∧ (∃ S57 : MS, S57 = wI S49 (qO S49 v138_0 8) v138_3.toInt.toNat (qI S49 (qO S49 v138_0 8) v138_4.toInt.toNat) ∧ qT S49 (qO S49 v138_0 8) = 227 ∧ wfC S57 ∧ (∃ a58 : Int32, a58 = (v138_3 + Int32.ofInt 1) ∧ (v_X8_remove_J232 uo (v_X8_remove_L138 uo n138) S57 v138_0 v138_1 v138_2 a58 v138_4)))))))))))))))))))))))))))))))))
def v_X8_remove_L95 (uo : MS) (k77 : MS → Nat → Int32 → Int32 → Int32 → Prop) : Nat → MS → Nat → Int32 → Int32 → Int32 → Int32 → Int32 → Prop
  | 0, _, _, _, _, _, _, _ => False
  | n95 + 1, U95, v95_0, v95_1, v95_2, v95_3, v95_4, v95_5 => (wfC U95 ∧ qT U95 v95_0 = 47 ∧ ((v95_4.toInt ≤ v95_5.toInt ∧ (∃ a64 : Int32, a64 = (v95_3 + Int32.ofInt 1) ∧ (k77 U95 v95_0 v95_1 v95_2 a64))) ∨ (¬ v95_4.toInt ≤ v95_5.toInt ∧ (d_X8_targetAt U95 v95_0 v95_3 v95_5 ∧ (∃ a68 : Int32, a68 = (fX8_targetAt U95 v95_0 v95_3 v95_5) ∧ (d_X8_behindRemoved U95 a68 v95_1 v95_2 ∧ (∃ a72 : Int32, a72 = (fX8_behindRemoved U95 a68 v95_1 v95_2) ∧ (qT U95 v95_0 = 47 ∧ (∃ (S74 : MS), vX8_setTarget U95 v95_0 v95_3 v95_5 a72 S74 ∧ wfC S74 ∧ shy U95 S74 ∧ (∃ a76 : Int32, a76 = (v95_5 + Int32.ofInt 1) ∧ ((v_X8_remove_L95 uo k77 n95) S74 v95_0 v95_1 v95_2 v95_3 v95_4 a76)))))))))))
def v_X8_remove_L77 (uo : MS) : Nat → MS → Nat → Int32 → Int32 → Int32 → Prop
  | 0, _, _, _, _, _ => False
  | n77 + 1, U77, v77_0, v77_1, v77_2, v77_3 => (wfC U77 ∧ qT U77 v77_0 = 47 ∧ (((qI U77 v77_0 2).toInt ≤ v77_3.toInt ∧ (∃ n, v_X8_remove_L138 uo n U77 v77_0 v77_1 v77_2 0 0)) ∨ (¬ (qI U77 v77_0 2).toInt ≤ v77_3.toInt ∧ (d_X8_targetCount U77 v77_0 v77_3 ∧ (∃ a62 : Int32, a62 = (fX8_targetCount U77 v77_0 v77_3) ∧ (∃ n, v_X8_remove_L95 uo (v_X8_remove_L77 uo n77) n U77 v77_0 v77_1 v77_2 v77_3 a62 0))))))
def v_X8_remove_L21 (uo : MS) : Nat → MS → Nat → Int32 → Int32 → Int32 → Prop
  | 0, _, _, _, _, _ => False
  | n21 + 1, U21, v21_0, v21_1, v21_2, v21_3 => (wfC U21 ∧ qT U21 v21_0 = 47 ∧ (((qI U21 v21_0 2).toInt ≤ (v21_3 + v21_2).toInt ∧ (∃ S8 : MS, S8 = wI U21 v21_0 2 ((qI U21 v21_0 2) - v21_2) ∧ qT U21 v21_0 = 47 ∧ wfC S8 ∧ (∃ n, v_X8_remove_L77 uo n S8 v21_0 v21_1 v21_2 0))) ∨ (¬ (qI U21 v21_0 2).toInt ≤ (v21_3 + v21_2).toInt ∧ ((qR U21 v21_0 0 = some (qO U21 v21_0 0)) ∧ ((qR U21 v21_0 0 = some (qO U21 v21_0 0)) ∧ (((0 : Int) ≤ (v21_3 + v21_2).toInt ∧ (v21_3 + v21_2).toInt < (qN U21 (qO U21 v21_0 0) : Int)) ∧ (((0 : Int) ≤ v21_3.toInt ∧ v21_3.toInt < (qN U21 (qO U21 v21_0 0) : Int)) ∧ (∃ S85 : MS, S85 = wI U21 (qO U21 v21_0 0) v21_3.toInt.toNat (qI U21 (qO U21 v21_0 0) (((v21_3 + v21_2).toInt).toNat)) ∧ qT U21 (qO U21 v21_0 0) = 222 ∧ wfC S85 ∧ ((qR S85 v21_0 1 = some (qO S85 v21_0 1)) ∧ ((qR S85 v21_0 1 = some (qO S85 v21_0 1)) ∧ (((0 : Int) ≤ (v21_3 + v21_2).toInt ∧ (v21_3 + v21_2).toInt < (qN S85 (qO S85 v21_0 1) : Int)) ∧ (((0 : Int) ≤ v21_3.toInt ∧ v21_3.toInt < (qN S85 (qO S85 v21_0 1) : Int)) ∧ (∃ S94 : MS, S94 = wJ S85 (qO S85 v21_0 1) v21_3.toInt.toNat (qJ S85 (qO S85 v21_0 1) (((v21_3 + v21_2).toInt).toNat)) ∧ qT S85 (qO S85 v21_0 1) = 406 ∧ wfC S94 ∧ (∃ a95 : Int32, a95 = (v21_3 + Int32.ofInt 1) ∧ ((v_X8_remove_L21 uo n21) S94 v21_0 v21_1 v21_2 a95)))))))))))))))
def vX8_remove (S : MS) (p0 : Nat) (x1 : Int32) (x2 : Int32) (uo : MS) : Prop := ((x1.toInt < 0 ∧ (uo = S)) ∨ (¬ x1.toInt < 0 ∧ ((x2.toInt ≤ 0 ∧ (uo = S)) ∨ (¬ x2.toInt ≤ 0 ∧ (((x1 + x2).toInt ≤ (qI S p0 2).toInt ∧ (∃ n, v_X8_remove_L21 uo n S p0 x1 x2 x1)) ∨ (¬ (x1 + x2).toInt ≤ (qI S p0 2).toInt ∧ (uo = S)))))))
set_option maxRecDepth 100000 in
theorem ru_X8_remove_J232 {ι : Type} {P Q : MS → Prop} {k138 k138' : MS → Nat → Int32 → Int32 → Int32 → Int32 → Prop} {k138v : ι → MS → MS → Nat → Int32 → Int32 → Int32 → Int32 → Prop} {U232 : MS} {v232_0 : Nat} {v232_1 : Int32} {v232_2 : Int32} {v232_3 : Int32} {v232_4 : Int32} (i0 : ι) (hk138 : ∀ (u : MS) (z0 : Nat) (z1 : Int32) (z2 : Int32) (z3 : Int32) (z4 : Int32), k138 u z0 z1 z2 z3 z4 → (∀ (i : ι) (uo : MS), k138v i uo u z0 z1 z2 z3 z4 → P uo) → k138' u z0 z1 z2 z3 z4) (K : ∀ (i : ι) (uo : MS), v_X8_remove_J232 uo (k138v i uo) U232 v232_0 v232_1 v232_2 v232_3 v232_4 → P uo) (h : w_X8_remove_J232 Q k138 U232 v232_0 v232_1 v232_2 v232_3 v232_4) : w_X8_remove_J232 (fun u => Q u ∧ P u) k138' U232 v232_0 v232_1 v232_2 v232_3 v232_4 := by
  unfold w_X8_remove_J232 at h ⊢
  intro y1_ y2_
  replace h := h y1_ y2_
  replace K := fun i uo z => K i uo ⟨y1_, y2_, z⟩
  intro a28 ea28 
  replace h := h a28 ea28 
  replace K := fun i uo z => K i uo ⟨a28, ea28, z⟩
  exact hk138 _ _ _ _ _ _ h K
set_option maxRecDepth 100000 in
theorem ru_X8_remove_L138 {ι : Type} {P Q : MS → Prop} : ∀ (n : Nat) {U138 : MS} {v138_0 : Nat} {v138_1 : Int32} {v138_2 : Int32} {v138_3 : Int32} {v138_4 : Int32} (i0 : ι), (∀ (i : ι) (uo : MS), (∃ n8, v_X8_remove_L138 uo n8 U138 v138_0 v138_1 v138_2 v138_3 v138_4) → P uo) → w_X8_remove_L138 Q n U138 v138_0 v138_1 v138_2 v138_3 v138_4 → w_X8_remove_L138 (fun u => Q u ∧ P u) n U138 v138_0 v138_1 v138_2 v138_3 v138_4 := by
  intro n
  induction n with
  | zero => intro U138 v138_0 v138_1 v138_2 v138_3 v138_4 i0 K h; unfold w_X8_remove_L138 at h; exact h.elim
  | succ n ih =>
    intro U138 v138_0 v138_1 v138_2 v138_3 v138_4 i0 K h
    unfold w_X8_remove_L138 at h ⊢
    replace K := fun (i : ι × Nat) uo (z : v_X8_remove_L138 uo (i.2 + 1) U138 v138_0 v138_1 v138_2 v138_3 v138_4) => K i.1 uo ⟨i.2 + 1, z⟩
    have i00 := i0
    replace i0 : ι × Nat := (i0, 0)
    intro y3_ y4_
    replace h := h y3_ y4_
    replace K := fun i uo z => K i uo ⟨y3_, y4_, z⟩
    refine ⟨fun c => ?_, fun c => ?_⟩
    · replace h := h.1 c
      replace K := fun i uo z => K i uo (Or.inl ⟨c, z⟩)
      intro S11 eS11 y5_ y6_
      replace h := h S11 eS11 y5_ y6_
      replace K := fun i uo z => K i uo ⟨S11, eS11, y5_, y6_, z⟩
      exact ⟨h, K i0 _ rfl⟩
    · replace h := h.2 c
      replace K := fun i uo z => K i uo (Or.inr ⟨c, z⟩)
      obtain ⟨g7_, h⟩ := h
      refine ⟨g7_, ?_⟩
      replace K := fun i uo z => K i uo ⟨g7_, z⟩
      obtain ⟨g8_, h⟩ := h
      refine ⟨g8_, ?_⟩
      replace K := fun i uo z => K i uo ⟨g8_, z⟩
      obtain ⟨g9_, h⟩ := h
      refine ⟨g9_, ?_⟩
      replace K := fun i uo z => K i uo ⟨g9_, z⟩
      intro a19 ea19 
      replace h := h a19 ea19 
      replace K := fun i uo z => K i uo ⟨a19, ea19, z⟩
      obtain ⟨g10_, h⟩ := h
      refine ⟨g10_, ?_⟩
      replace K := fun i uo z => K i uo ⟨g10_, z⟩
      obtain ⟨g11_, h⟩ := h
      refine ⟨g11_, ?_⟩
      replace K := fun i uo z => K i uo ⟨g11_, z⟩
      obtain ⟨g12_, h⟩ := h
      refine ⟨g12_, ?_⟩
      replace K := fun i uo z => K i uo ⟨g12_, z⟩
      intro a27 ea27 
      replace h := h a27 ea27 
      replace K := fun i uo z => K i uo ⟨a27, ea27, z⟩
      refine ⟨fun c => ?_, fun c => ?_⟩
      · replace h := h.1 c
        replace K := fun i uo z => K i uo (Or.inl ⟨c, z⟩)
        exact ru_X8_remove_J232 i0 (fun _ _ _ _ _ _ h K => ih i00 (fun i uo ⟨n8, z⟩ => K (i, n8) uo z) h) K h
      · replace h := h.2 c
        replace K := fun i uo z => K i uo (Or.inr ⟨c, z⟩)
        obtain ⟨g13_, h⟩ := h
        refine ⟨g13_, ?_⟩
        replace K := fun i uo z => K i uo ⟨g13_, z⟩
        obtain ⟨g14_, h⟩ := h
        refine ⟨g14_, ?_⟩
        replace K := fun i uo z => K i uo ⟨g14_, z⟩
        intro S33 eS33 y15_ y16_
        replace h := h S33 eS33 y15_ y16_
        replace K := fun i uo z => K i uo ⟨S33, eS33, y15_, y16_, z⟩
        obtain ⟨g17_, h⟩ := h
        refine ⟨g17_, ?_⟩
        replace K := fun i uo z => K i uo ⟨g17_, z⟩
        obtain ⟨g18_, h⟩ := h
        refine ⟨g18_, ?_⟩
        replace K := fun i uo z => K i uo ⟨g18_, z⟩
        intro S37 eS37 y19_ y20_
        replace h := h S37 eS37 y19_ y20_
        replace K := fun i uo z => K i uo ⟨S37, eS37, y19_, y20_, z⟩
        obtain ⟨g21_, h⟩ := h
        refine ⟨g21_, ?_⟩
        replace K := fun i uo z => K i uo ⟨g21_, z⟩
        obtain ⟨g22_, h⟩ := h
        refine ⟨g22_, ?_⟩
        replace K := fun i uo z => K i uo ⟨g22_, z⟩
        obtain ⟨g23_, h⟩ := h
        refine ⟨g23_, ?_⟩
        replace K := fun i uo z => K i uo ⟨g23_, z⟩
        obtain ⟨g24_, h⟩ := h
        refine ⟨g24_, ?_⟩
        replace K := fun i uo z => K i uo ⟨g24_, z⟩
        intro a47 ea47 
        replace h := h a47 ea47 
        replace K := fun i uo z => K i uo ⟨a47, ea47, z⟩
        obtain ⟨g25_, h⟩ := h
        refine ⟨g25_, ?_⟩
        replace K := fun i uo z => K i uo ⟨g25_, z⟩
        intro S49 eS49 y26_ y27_
        replace h := h S49 eS49 y26_ y27_
        replace K := fun i uo z => K i uo ⟨S49, eS49, y26_, y27_, z⟩
        obtain ⟨g28_, h⟩ := h
        refine ⟨g28_, ?_⟩
        replace K := fun i uo z => K i uo ⟨g28_, z⟩
        obtain ⟨g29_, h⟩ := h
        refine ⟨g29_, ?_⟩
        replace K := fun i uo z => K i uo ⟨g29_, z⟩
        obtain ⟨g30_, h⟩ := h
        refine ⟨g30_, ?_⟩
        replace K := fun i uo z => K i uo ⟨g30_, z⟩
        obtain ⟨g31_, h⟩ := h
        refine ⟨g31_, ?_⟩
        replace K := fun i uo z => K i uo ⟨g31_, z⟩
        intro S57 eS57 y32_ y33_
        replace h := h S57 eS57 y32_ y33_
        replace K := fun i uo z => K i uo ⟨S57, eS57, y32_, y33_, z⟩
        intro a58 ea58 
        replace h := h a58 ea58 
        replace K := fun i uo z => K i uo ⟨a58, ea58, z⟩
        exact ru_X8_remove_J232 i0 (fun _ _ _ _ _ _ h K => ih i00 (fun i uo ⟨n8, z⟩ => K (i, n8) uo z) h) K h
set_option maxRecDepth 100000 in
theorem ru_X8_remove_L95 {ι : Type} {P Q : MS → Prop} {k77 k77' : MS → Nat → Int32 → Int32 → Int32 → Prop} {k77v : ι → MS → MS → Nat → Int32 → Int32 → Int32 → Prop} : ∀ (n : Nat) {U95 : MS} {v95_0 : Nat} {v95_1 : Int32} {v95_2 : Int32} {v95_3 : Int32} {v95_4 : Int32} {v95_5 : Int32} (i0 : ι) (hk77 : ∀ (u : MS) (z0 : Nat) (z1 : Int32) (z2 : Int32) (z3 : Int32), k77 u z0 z1 z2 z3 → (∀ (i : ι) (uo : MS), k77v i uo u z0 z1 z2 z3 → P uo) → k77' u z0 z1 z2 z3), (∀ (i : ι) (uo : MS), (∃ n8, v_X8_remove_L95 uo (k77v i uo) n8 U95 v95_0 v95_1 v95_2 v95_3 v95_4 v95_5) → P uo) → w_X8_remove_L95 Q k77 n U95 v95_0 v95_1 v95_2 v95_3 v95_4 v95_5 → w_X8_remove_L95 (fun u => Q u ∧ P u) k77' n U95 v95_0 v95_1 v95_2 v95_3 v95_4 v95_5 := by
  intro n
  induction n with
  | zero => intro U95 v95_0 v95_1 v95_2 v95_3 v95_4 v95_5 i0 hk77 K h; unfold w_X8_remove_L95 at h; exact h.elim
  | succ n ih =>
    intro U95 v95_0 v95_1 v95_2 v95_3 v95_4 v95_5 i0 hk77 K h
    unfold w_X8_remove_L95 at h ⊢
    replace K := fun (i : ι × Nat) uo (z : v_X8_remove_L95 uo (k77v i.1 uo) (i.2 + 1) U95 v95_0 v95_1 v95_2 v95_3 v95_4 v95_5) => K i.1 uo ⟨i.2 + 1, z⟩
    have i00 := i0
    replace i0 : ι × Nat := (i0, 0)
    intro y34_ y35_
    replace h := h y34_ y35_
    replace K := fun i uo z => K i uo ⟨y34_, y35_, z⟩
    refine ⟨fun c => ?_, fun c => ?_⟩
    · replace h := h.1 c
      replace K := fun i uo z => K i uo (Or.inl ⟨c, z⟩)
      intro a64 ea64 
      replace h := h a64 ea64 
      replace K := fun i uo z => K i uo ⟨a64, ea64, z⟩
      exact hk77 _ _ _ _ _ h (fun i uo z => K (i, 0) uo z)
    · replace h := h.2 c
      replace K := fun i uo z => K i uo (Or.inr ⟨c, z⟩)
      obtain ⟨g36_, h⟩ := h
      refine ⟨g36_, ?_⟩
      replace K := fun i uo z => K i uo ⟨g36_, z⟩
      intro a68 ea68 
      replace h := h a68 ea68 
      replace K := fun i uo z => K i uo ⟨a68, ea68, z⟩
      obtain ⟨g37_, h⟩ := h
      refine ⟨g37_, ?_⟩
      replace K := fun i uo z => K i uo ⟨g37_, z⟩
      intro a72 ea72 
      replace h := h a72 ea72 
      replace K := fun i uo z => K i uo ⟨a72, ea72, z⟩
      intro y38_
      replace h := h y38_
      replace K := fun i uo z => K i uo ⟨y38_, z⟩
      obtain ⟨Q9, h0, h⟩ := h
      refine ⟨_, ruX8_setTarget h0, ?_⟩
      intro S74 q39_ y40_ y41_
      replace h := h S74 q39_.1 y40_ y41_
      replace K := fun i uo z => K i uo ⟨S74, q39_.2, y40_, y41_, z⟩
      intro a76 ea76 
      replace h := h a76 ea76 
      replace K := fun i uo z => K i uo ⟨a76, ea76, z⟩
      exact ih i00 hk77 (fun i uo ⟨n8, z⟩ => K (i, n8) uo z) h
set_option maxRecDepth 100000 in
theorem ru_X8_remove_L77 {ι : Type} {P Q : MS → Prop} : ∀ (n : Nat) {U77 : MS} {v77_0 : Nat} {v77_1 : Int32} {v77_2 : Int32} {v77_3 : Int32} (i0 : ι), (∀ (i : ι) (uo : MS), (∃ n8, v_X8_remove_L77 uo n8 U77 v77_0 v77_1 v77_2 v77_3) → P uo) → w_X8_remove_L77 Q n U77 v77_0 v77_1 v77_2 v77_3 → w_X8_remove_L77 (fun u => Q u ∧ P u) n U77 v77_0 v77_1 v77_2 v77_3 := by
  intro n
  induction n with
  | zero => intro U77 v77_0 v77_1 v77_2 v77_3 i0 K h; unfold w_X8_remove_L77 at h; exact h.elim
  | succ n ih =>
    intro U77 v77_0 v77_1 v77_2 v77_3 i0 K h
    unfold w_X8_remove_L77 at h ⊢
    replace K := fun (i : ι × Nat) uo (z : v_X8_remove_L77 uo (i.2 + 1) U77 v77_0 v77_1 v77_2 v77_3) => K i.1 uo ⟨i.2 + 1, z⟩
    have i00 := i0
    replace i0 : ι × Nat := (i0, 0)
    intro y42_ y43_
    replace h := h y42_ y43_
    replace K := fun i uo z => K i uo ⟨y42_, y43_, z⟩
    refine ⟨fun c => ?_, fun c => ?_⟩
    · replace h := h.1 c
      replace K := fun i uo z => K i uo (Or.inl ⟨c, z⟩)
      obtain ⟨n9, h⟩ := h
      exact ⟨n9, ru_X8_remove_L138 n9 i0 K h⟩
    · replace h := h.2 c
      replace K := fun i uo z => K i uo (Or.inr ⟨c, z⟩)
      obtain ⟨g44_, h⟩ := h
      refine ⟨g44_, ?_⟩
      replace K := fun i uo z => K i uo ⟨g44_, z⟩
      intro a62 ea62 
      replace h := h a62 ea62 
      replace K := fun i uo z => K i uo ⟨a62, ea62, z⟩
      obtain ⟨n9, h⟩ := h
      exact ⟨n9, ru_X8_remove_L95 n9 i0 (fun _ _ _ _ _ h K => ih i00 (fun i uo ⟨n8, z⟩ => K (i, n8) uo z) h) K h⟩
set_option maxRecDepth 100000 in
theorem ru_X8_remove_L21 {ι : Type} {P Q : MS → Prop} : ∀ (n : Nat) {U21 : MS} {v21_0 : Nat} {v21_1 : Int32} {v21_2 : Int32} {v21_3 : Int32} (i0 : ι), (∀ (i : ι) (uo : MS), (∃ n8, v_X8_remove_L21 uo n8 U21 v21_0 v21_1 v21_2 v21_3) → P uo) → w_X8_remove_L21 Q n U21 v21_0 v21_1 v21_2 v21_3 → w_X8_remove_L21 (fun u => Q u ∧ P u) n U21 v21_0 v21_1 v21_2 v21_3 := by
  intro n
  induction n with
  | zero => intro U21 v21_0 v21_1 v21_2 v21_3 i0 K h; unfold w_X8_remove_L21 at h; exact h.elim
  | succ n ih =>
    intro U21 v21_0 v21_1 v21_2 v21_3 i0 K h
    unfold w_X8_remove_L21 at h ⊢
    replace K := fun (i : ι × Nat) uo (z : v_X8_remove_L21 uo (i.2 + 1) U21 v21_0 v21_1 v21_2 v21_3) => K i.1 uo ⟨i.2 + 1, z⟩
    have i00 := i0
    replace i0 : ι × Nat := (i0, 0)
    intro y45_ y46_
    replace h := h y45_ y46_
    replace K := fun i uo z => K i uo ⟨y45_, y46_, z⟩
    refine ⟨fun c => ?_, fun c => ?_⟩
    · replace h := h.1 c
      replace K := fun i uo z => K i uo (Or.inl ⟨c, z⟩)
      intro S8 eS8 y47_ y48_
      replace h := h S8 eS8 y47_ y48_
      replace K := fun i uo z => K i uo ⟨S8, eS8, y47_, y48_, z⟩
      obtain ⟨n9, h⟩ := h
      exact ⟨n9, ru_X8_remove_L77 n9 i0 K h⟩
    · replace h := h.2 c
      replace K := fun i uo z => K i uo (Or.inr ⟨c, z⟩)
      obtain ⟨g49_, h⟩ := h
      refine ⟨g49_, ?_⟩
      replace K := fun i uo z => K i uo ⟨g49_, z⟩
      obtain ⟨g50_, h⟩ := h
      refine ⟨g50_, ?_⟩
      replace K := fun i uo z => K i uo ⟨g50_, z⟩
      obtain ⟨g51_, h⟩ := h
      refine ⟨g51_, ?_⟩
      replace K := fun i uo z => K i uo ⟨g51_, z⟩
      obtain ⟨g52_, h⟩ := h
      refine ⟨g52_, ?_⟩
      replace K := fun i uo z => K i uo ⟨g52_, z⟩
      intro S85 eS85 y53_ y54_
      replace h := h S85 eS85 y53_ y54_
      replace K := fun i uo z => K i uo ⟨S85, eS85, y53_, y54_, z⟩
      obtain ⟨g55_, h⟩ := h
      refine ⟨g55_, ?_⟩
      replace K := fun i uo z => K i uo ⟨g55_, z⟩
      obtain ⟨g56_, h⟩ := h
      refine ⟨g56_, ?_⟩
      replace K := fun i uo z => K i uo ⟨g56_, z⟩
      obtain ⟨g57_, h⟩ := h
      refine ⟨g57_, ?_⟩
      replace K := fun i uo z => K i uo ⟨g57_, z⟩
      obtain ⟨g58_, h⟩ := h
      refine ⟨g58_, ?_⟩
      replace K := fun i uo z => K i uo ⟨g58_, z⟩
      intro S94 eS94 y59_ y60_
      replace h := h S94 eS94 y59_ y60_
      replace K := fun i uo z => K i uo ⟨S94, eS94, y59_, y60_, z⟩
      intro a95 ea95 
      replace h := h a95 ea95 
      replace K := fun i uo z => K i uo ⟨a95, ea95, z⟩
      exact ih i00 (fun i uo ⟨n8, z⟩ => K (i, n8) uo z) h
set_option maxRecDepth 100000 in
theorem ruX8_remove {S : MS} {p0 : Nat} {x1 : Int32} {x2 : Int32} {Q : MS → Prop} (h : wX8_remove S p0 x1 x2 Q) : wX8_remove S p0 x1 x2 (fun u => Q u ∧ vX8_remove S p0 x1 x2 u) := by
  have i0 : Unit := ()
  have K : ∀ (i : Unit) (uo : MS), vX8_remove S p0 x1 x2 uo → vX8_remove S p0 x1 x2 uo := fun _ _ z => z
  unfold wX8_remove at h ⊢
  refine ⟨fun c => ?_, fun c => ?_⟩
  · replace h := h.1 c
    replace K := fun i uo z => K i uo (Or.inl ⟨c, z⟩)
    exact ⟨h, K i0 _ rfl⟩
  · replace h := h.2 c
    replace K := fun i uo z => K i uo (Or.inr ⟨c, z⟩)
    refine ⟨fun c => ?_, fun c => ?_⟩
    · replace h := h.1 c
      replace K := fun i uo z => K i uo (Or.inl ⟨c, z⟩)
      exact ⟨h, K i0 _ rfl⟩
    · replace h := h.2 c
      replace K := fun i uo z => K i uo (Or.inr ⟨c, z⟩)
      refine ⟨fun c => ?_, fun c => ?_⟩
      · replace h := h.1 c
        replace K := fun i uo z => K i uo (Or.inl ⟨c, z⟩)
        obtain ⟨n9, h⟩ := h
        exact ⟨n9, ru_X8_remove_L21 n9 i0 K h⟩
      · replace h := h.2 c
        replace K := fun i uo z => K i uo (Or.inr ⟨c, z⟩)
        exact ⟨h, K i0 _ rfl⟩
set_option maxRecDepth 100000 in
theorem vw_X8_remove_J232 {uo : MS} {k138 k138v : MS → Nat → Int32 → Int32 → Int32 → Int32 → Prop} {U232 : MS} {v232_0 : Nat} {v232_1 : Int32} {v232_2 : Int32} {v232_3 : Int32} {v232_4 : Int32} (hk138 : ∀ (u : MS) (z0 : Nat) (z1 : Int32) (z2 : Int32) (z3 : Int32) (z4 : Int32), k138v u z0 z1 z2 z3 z4 → k138 u z0 z1 z2 z3 z4) (h : v_X8_remove_J232 uo k138v U232 v232_0 v232_1 v232_2 v232_3 v232_4) : w_X8_remove_J232 (fun u => u = uo) k138 U232 v232_0 v232_1 v232_2 v232_3 v232_4 := by
  unfold v_X8_remove_J232 at h
  unfold w_X8_remove_J232
  intro _ _
  replace h := h.2.2
  obtain ⟨v9, e9, h⟩ := h
  intro x9 d9 
  have c9 : v9 = x9 := e9.trans d9.symm
  subst c9
  exact hk138 _ _ _ _ _ _ h
set_option maxRecDepth 100000 in
theorem vp_X8_remove_J232 {uo : MS} {P : MS → Prop} {k138 k138v : MS → Nat → Int32 → Int32 → Int32 → Int32 → Prop} {U232 : MS} {v232_0 : Nat} {v232_1 : Int32} {v232_2 : Int32} {v232_3 : Int32} {v232_4 : Int32} (hk138 : ∀ (u : MS) (z0 : Nat) (z1 : Int32) (z2 : Int32) (z3 : Int32) (z4 : Int32), k138v u z0 z1 z2 z3 z4 → k138 u z0 z1 z2 z3 z4 → P uo) (h : v_X8_remove_J232 uo k138v U232 v232_0 v232_1 v232_2 v232_3 v232_4) (w : w_X8_remove_J232 P k138 U232 v232_0 v232_1 v232_2 v232_3 v232_4) : P uo := by
  unfold v_X8_remove_J232 at h
  unfold w_X8_remove_J232 at w
  obtain ⟨y1_, y2_, h⟩ := h
  replace w := w y1_ y2_
  obtain ⟨v9, e9, h⟩ := h
  replace w := w v9 e9 
  exact hk138 _ _ _ _ _ _ h w
set_option maxRecDepth 100000 in
theorem vw_X8_remove_L138 {uo : MS} : ∀ (n : Nat) {U138 : MS} {v138_0 : Nat} {v138_1 : Int32} {v138_2 : Int32} {v138_3 : Int32} {v138_4 : Int32}, v_X8_remove_L138 uo n U138 v138_0 v138_1 v138_2 v138_3 v138_4 → w_X8_remove_L138 (fun u => u = uo) n U138 v138_0 v138_1 v138_2 v138_3 v138_4 := by
  intro n
  induction n with
  | zero => intro U138 v138_0 v138_1 v138_2 v138_3 v138_4 h; unfold v_X8_remove_L138 at h; exact h.elim
  | succ n ih =>
    intro U138 v138_0 v138_1 v138_2 v138_3 v138_4 h
    unfold v_X8_remove_L138 at h
    unfold w_X8_remove_L138
    intro _ _
    replace h := h.2.2
    rcases h with ⟨c, h⟩ | ⟨c, h⟩
    · refine ⟨fun _ => ?_, fun c2 => absurd c c2⟩
      obtain ⟨v9, e9, h⟩ := h
      intro x9 d9 _ _
      have c9 : v9 = x9 := e9.trans d9.symm
      subst c9
      replace h := h.2.2
      exact h.symm
    · refine ⟨fun c2 => absurd c2 c, fun _ => ?_⟩
      obtain ⟨g9, h⟩ := h
      refine ⟨g9, ?_⟩
      obtain ⟨g9, h⟩ := h
      refine ⟨g9, ?_⟩
      obtain ⟨g9, h⟩ := h
      refine ⟨g9, ?_⟩
      obtain ⟨v9, e9, h⟩ := h
      intro x9 d9 
      have c9 : v9 = x9 := e9.trans d9.symm
      subst c9
      obtain ⟨g9, h⟩ := h
      refine ⟨g9, ?_⟩
      obtain ⟨g9, h⟩ := h
      refine ⟨g9, ?_⟩
      obtain ⟨g9, h⟩ := h
      refine ⟨g9, ?_⟩
      obtain ⟨v9, e9, h⟩ := h
      intro x9 d9 
      have c9 : v9 = x9 := e9.trans d9.symm
      subst c9
      rcases h with ⟨c, h⟩ | ⟨c, h⟩
      · refine ⟨fun _ => ?_, fun c2 => absurd c c2⟩
        exact vw_X8_remove_J232 (fun _ _ _ _ _ _ h => ih h) h
      · refine ⟨fun c2 => absurd c2 c, fun _ => ?_⟩
        obtain ⟨g9, h⟩ := h
        refine ⟨g9, ?_⟩
        obtain ⟨g9, h⟩ := h
        refine ⟨g9, ?_⟩
        obtain ⟨v9, e9, h⟩ := h
        intro x9 d9 _ _
        have c9 : v9 = x9 := e9.trans d9.symm
        subst c9
        replace h := h.2.2
        obtain ⟨g9, h⟩ := h
        refine ⟨g9, ?_⟩
        obtain ⟨g9, h⟩ := h
        refine ⟨g9, ?_⟩
        obtain ⟨v9, e9, h⟩ := h
        intro x9 d9 _ _
        have c9 : v9 = x9 := e9.trans d9.symm
        subst c9
        replace h := h.2.2
        obtain ⟨g9, h⟩ := h
        refine ⟨g9, ?_⟩
        obtain ⟨g9, h⟩ := h
        refine ⟨g9, ?_⟩
        obtain ⟨g9, h⟩ := h
        refine ⟨g9, ?_⟩
        obtain ⟨g9, h⟩ := h
        refine ⟨g9, ?_⟩
        obtain ⟨v9, e9, h⟩ := h
        intro x9 d9 
        have c9 : v9 = x9 := e9.trans d9.symm
        subst c9
        obtain ⟨g9, h⟩ := h
        refine ⟨g9, ?_⟩
        obtain ⟨v9, e9, h⟩ := h
        intro x9 d9 _ _
        have c9 : v9 = x9 := e9.trans d9.symm
        subst c9
        replace h := h.2.2
        obtain ⟨g9, h⟩ := h
        refine ⟨g9, ?_⟩
        obtain ⟨g9, h⟩ := h
        refine ⟨g9, ?_⟩
        obtain ⟨g9, h⟩ := h
        refine ⟨g9, ?_⟩
        obtain ⟨g9, h⟩ := h
        refine ⟨g9, ?_⟩
        obtain ⟨v9, e9, h⟩ := h
        intro x9 d9 _ _
        have c9 : v9 = x9 := e9.trans d9.symm
        subst c9
        replace h := h.2.2
        obtain ⟨v9, e9, h⟩ := h
        intro x9 d9 
        have c9 : v9 = x9 := e9.trans d9.symm
        subst c9
        exact vw_X8_remove_J232 (fun _ _ _ _ _ _ h => ih h) h
set_option maxRecDepth 100000 in
theorem vp_X8_remove_L138 {uo : MS} {P : MS → Prop} : ∀ (n m : Nat) {U138 : MS} {v138_0 : Nat} {v138_1 : Int32} {v138_2 : Int32} {v138_3 : Int32} {v138_4 : Int32}, v_X8_remove_L138 uo n U138 v138_0 v138_1 v138_2 v138_3 v138_4 → w_X8_remove_L138 P m U138 v138_0 v138_1 v138_2 v138_3 v138_4 → P uo := by
  intro n
  induction n with
  | zero => intro m U138 v138_0 v138_1 v138_2 v138_3 v138_4 h; unfold v_X8_remove_L138 at h; exact h.elim
  | succ n ih =>
    intro m U138 v138_0 v138_1 v138_2 v138_3 v138_4 h w
    cases m with
    | zero => unfold w_X8_remove_L138 at w; exact w.elim
    | succ m =>
      unfold v_X8_remove_L138 at h
      unfold w_X8_remove_L138 at w
      obtain ⟨y3_, y4_, h⟩ := h
      replace w := w y3_ y4_
      rcases h with ⟨c, h⟩ | ⟨c, h⟩
      · replace w := w.1 c
        obtain ⟨v9, e9, y5_, y6_, h⟩ := h
        replace w := w v9 e9 y5_ y6_
        rw [h]
        exact w
      · replace w := w.2 c
        replace h := h.2
        replace w := w.2
        replace h := h.2
        replace w := w.2
        replace h := h.2
        replace w := w.2
        obtain ⟨v9, e9, h⟩ := h
        replace w := w v9 e9 
        replace h := h.2
        replace w := w.2
        replace h := h.2
        replace w := w.2
        replace h := h.2
        replace w := w.2
        obtain ⟨v9, e9, h⟩ := h
        replace w := w v9 e9 
        rcases h with ⟨c, h⟩ | ⟨c, h⟩
        · replace w := w.1 c
          exact vp_X8_remove_J232 (fun _ _ _ _ _ _ h w => ih m h w) h w
        · replace w := w.2 c
          replace h := h.2
          replace w := w.2
          replace h := h.2
          replace w := w.2
          obtain ⟨v9, e9, y7_, y8_, h⟩ := h
          replace w := w v9 e9 y7_ y8_
          replace h := h.2
          replace w := w.2
          replace h := h.2
          replace w := w.2
          obtain ⟨v9, e9, y9_, y10_, h⟩ := h
          replace w := w v9 e9 y9_ y10_
          replace h := h.2
          replace w := w.2
          replace h := h.2
          replace w := w.2
          replace h := h.2
          replace w := w.2
          replace h := h.2
          replace w := w.2
          obtain ⟨v9, e9, h⟩ := h
          replace w := w v9 e9 
          replace h := h.2
          replace w := w.2
          obtain ⟨v9, e9, y11_, y12_, h⟩ := h
          replace w := w v9 e9 y11_ y12_
          replace h := h.2
          replace w := w.2
          replace h := h.2
          replace w := w.2
          replace h := h.2
          replace w := w.2
          replace h := h.2
          replace w := w.2
          obtain ⟨v9, e9, y13_, y14_, h⟩ := h
          replace w := w v9 e9 y13_ y14_
          obtain ⟨v9, e9, h⟩ := h
          replace w := w v9 e9 
          exact vp_X8_remove_J232 (fun _ _ _ _ _ _ h w => ih m h w) h w
set_option maxRecDepth 100000 in
theorem vw_X8_remove_L95 {uo : MS} {k77 k77v : MS → Nat → Int32 → Int32 → Int32 → Prop} : ∀ (n : Nat) {U95 : MS} {v95_0 : Nat} {v95_1 : Int32} {v95_2 : Int32} {v95_3 : Int32} {v95_4 : Int32} {v95_5 : Int32} (hk77 : ∀ (u : MS) (z0 : Nat) (z1 : Int32) (z2 : Int32) (z3 : Int32), k77v u z0 z1 z2 z3 → k77 u z0 z1 z2 z3), v_X8_remove_L95 uo k77v n U95 v95_0 v95_1 v95_2 v95_3 v95_4 v95_5 → w_X8_remove_L95 (fun u => u = uo) k77 n U95 v95_0 v95_1 v95_2 v95_3 v95_4 v95_5 := by
  intro n
  induction n with
  | zero => intro U95 v95_0 v95_1 v95_2 v95_3 v95_4 v95_5 hk77 h; unfold v_X8_remove_L95 at h; exact h.elim
  | succ n ih =>
    intro U95 v95_0 v95_1 v95_2 v95_3 v95_4 v95_5 hk77 h
    unfold v_X8_remove_L95 at h
    unfold w_X8_remove_L95
    intro _ _
    replace h := h.2.2
    rcases h with ⟨c, h⟩ | ⟨c, h⟩
    · refine ⟨fun _ => ?_, fun c2 => absurd c c2⟩
      obtain ⟨v9, e9, h⟩ := h
      intro x9 d9 
      have c9 : v9 = x9 := e9.trans d9.symm
      subst c9
      exact hk77 _ _ _ _ _ h
    · refine ⟨fun c2 => absurd c2 c, fun _ => ?_⟩
      obtain ⟨g9, h⟩ := h
      refine ⟨g9, ?_⟩
      obtain ⟨v9, e9, h⟩ := h
      intro x9 d9 
      have c9 : v9 = x9 := e9.trans d9.symm
      subst c9
      obtain ⟨g9, h⟩ := h
      refine ⟨g9, ?_⟩
      obtain ⟨v9, e9, h⟩ := h
      intro x9 d9 
      have c9 : v9 = x9 := e9.trans d9.symm
      subst c9
      intro _
      replace h := h.2
      obtain ⟨q9, z9, h⟩ := h
      refine ⟨_, vwX8_setTarget z9, ?_⟩
      intro q8 d9 _ _
      subst d9
      replace h := h.2.2
      obtain ⟨v9, e9, h⟩ := h
      intro x9 d9 
      have c9 : v9 = x9 := e9.trans d9.symm
      subst c9
      exact ih hk77 h
set_option maxRecDepth 100000 in
theorem vp_X8_remove_L95 {uo : MS} {P : MS → Prop} {k77 k77v : MS → Nat → Int32 → Int32 → Int32 → Prop} : ∀ (n m : Nat) {U95 : MS} {v95_0 : Nat} {v95_1 : Int32} {v95_2 : Int32} {v95_3 : Int32} {v95_4 : Int32} {v95_5 : Int32} (hk77 : ∀ (u : MS) (z0 : Nat) (z1 : Int32) (z2 : Int32) (z3 : Int32), k77v u z0 z1 z2 z3 → k77 u z0 z1 z2 z3 → P uo), v_X8_remove_L95 uo k77v n U95 v95_0 v95_1 v95_2 v95_3 v95_4 v95_5 → w_X8_remove_L95 P k77 m U95 v95_0 v95_1 v95_2 v95_3 v95_4 v95_5 → P uo := by
  intro n
  induction n with
  | zero => intro m U95 v95_0 v95_1 v95_2 v95_3 v95_4 v95_5 hk77 h; unfold v_X8_remove_L95 at h; exact h.elim
  | succ n ih =>
    intro m U95 v95_0 v95_1 v95_2 v95_3 v95_4 v95_5 hk77 h w
    cases m with
    | zero => unfold w_X8_remove_L95 at w; exact w.elim
    | succ m =>
      unfold v_X8_remove_L95 at h
      unfold w_X8_remove_L95 at w
      obtain ⟨y15_, y16_, h⟩ := h
      replace w := w y15_ y16_
      rcases h with ⟨c, h⟩ | ⟨c, h⟩
      · replace w := w.1 c
        obtain ⟨v9, e9, h⟩ := h
        replace w := w v9 e9 
        exact hk77 _ _ _ _ _ h w
      · replace w := w.2 c
        replace h := h.2
        replace w := w.2
        obtain ⟨v9, e9, h⟩ := h
        replace w := w v9 e9 
        replace h := h.2
        replace w := w.2
        obtain ⟨v9, e9, h⟩ := h
        replace w := w v9 e9 
        obtain ⟨y17_, h⟩ := h
        replace w := w y17_
        obtain ⟨q9, z9, y18_, y19_, h⟩ := h
        obtain ⟨Q9, w0, w⟩ := w
        replace w := w q9 (vpX8_setTarget z9 w0) y18_ y19_
        obtain ⟨v9, e9, h⟩ := h
        replace w := w v9 e9 
        exact ih m hk77 h w
set_option maxRecDepth 100000 in
theorem vw_X8_remove_L77 {uo : MS} : ∀ (n : Nat) {U77 : MS} {v77_0 : Nat} {v77_1 : Int32} {v77_2 : Int32} {v77_3 : Int32}, v_X8_remove_L77 uo n U77 v77_0 v77_1 v77_2 v77_3 → w_X8_remove_L77 (fun u => u = uo) n U77 v77_0 v77_1 v77_2 v77_3 := by
  intro n
  induction n with
  | zero => intro U77 v77_0 v77_1 v77_2 v77_3 h; unfold v_X8_remove_L77 at h; exact h.elim
  | succ n ih =>
    intro U77 v77_0 v77_1 v77_2 v77_3 h
    unfold v_X8_remove_L77 at h
    unfold w_X8_remove_L77
    intro _ _
    replace h := h.2.2
    rcases h with ⟨c, h⟩ | ⟨c, h⟩
    · refine ⟨fun _ => ?_, fun c2 => absurd c c2⟩
      obtain ⟨n9, h⟩ := h
      exact ⟨n9, vw_X8_remove_L138 n9 h⟩
    · refine ⟨fun c2 => absurd c2 c, fun _ => ?_⟩
      obtain ⟨g9, h⟩ := h
      refine ⟨g9, ?_⟩
      obtain ⟨v9, e9, h⟩ := h
      intro x9 d9 
      have c9 : v9 = x9 := e9.trans d9.symm
      subst c9
      obtain ⟨n9, h⟩ := h
      exact ⟨n9, vw_X8_remove_L95 n9 (fun _ _ _ _ _ h => ih h) h⟩
set_option maxRecDepth 100000 in
theorem vp_X8_remove_L77 {uo : MS} {P : MS → Prop} : ∀ (n m : Nat) {U77 : MS} {v77_0 : Nat} {v77_1 : Int32} {v77_2 : Int32} {v77_3 : Int32}, v_X8_remove_L77 uo n U77 v77_0 v77_1 v77_2 v77_3 → w_X8_remove_L77 P m U77 v77_0 v77_1 v77_2 v77_3 → P uo := by
  intro n
  induction n with
  | zero => intro m U77 v77_0 v77_1 v77_2 v77_3 h; unfold v_X8_remove_L77 at h; exact h.elim
  | succ n ih =>
    intro m U77 v77_0 v77_1 v77_2 v77_3 h w
    cases m with
    | zero => unfold w_X8_remove_L77 at w; exact w.elim
    | succ m =>
      unfold v_X8_remove_L77 at h
      unfold w_X8_remove_L77 at w
      obtain ⟨y20_, y21_, h⟩ := h
      replace w := w y20_ y21_
      rcases h with ⟨c, h⟩ | ⟨c, h⟩
      · replace w := w.1 c
        obtain ⟨n9, h⟩ := h
        obtain ⟨n8, w⟩ := w
        exact vp_X8_remove_L138 n9 n8 h w
      · replace w := w.2 c
        replace h := h.2
        replace w := w.2
        obtain ⟨v9, e9, h⟩ := h
        replace w := w v9 e9 
        obtain ⟨n9, h⟩ := h
        obtain ⟨n8, w⟩ := w
        exact vp_X8_remove_L95 n9 n8 (fun _ _ _ _ _ h w => ih m h w) h w
set_option maxRecDepth 100000 in
theorem vw_X8_remove_L21 {uo : MS} : ∀ (n : Nat) {U21 : MS} {v21_0 : Nat} {v21_1 : Int32} {v21_2 : Int32} {v21_3 : Int32}, v_X8_remove_L21 uo n U21 v21_0 v21_1 v21_2 v21_3 → w_X8_remove_L21 (fun u => u = uo) n U21 v21_0 v21_1 v21_2 v21_3 := by
  intro n
  induction n with
  | zero => intro U21 v21_0 v21_1 v21_2 v21_3 h; unfold v_X8_remove_L21 at h; exact h.elim
  | succ n ih =>
    intro U21 v21_0 v21_1 v21_2 v21_3 h
    unfold v_X8_remove_L21 at h
    unfold w_X8_remove_L21
    intro _ _
    replace h := h.2.2
    rcases h with ⟨c, h⟩ | ⟨c, h⟩
    · refine ⟨fun _ => ?_, fun c2 => absurd c c2⟩
      obtain ⟨v9, e9, h⟩ := h
      intro x9 d9 _ _
      have c9 : v9 = x9 := e9.trans d9.symm
      subst c9
      replace h := h.2.2
      obtain ⟨n9, h⟩ := h
      exact ⟨n9, vw_X8_remove_L77 n9 h⟩
    · refine ⟨fun c2 => absurd c2 c, fun _ => ?_⟩
      obtain ⟨g9, h⟩ := h
      refine ⟨g9, ?_⟩
      obtain ⟨g9, h⟩ := h
      refine ⟨g9, ?_⟩
      obtain ⟨g9, h⟩ := h
      refine ⟨g9, ?_⟩
      obtain ⟨g9, h⟩ := h
      refine ⟨g9, ?_⟩
      obtain ⟨v9, e9, h⟩ := h
      intro x9 d9 _ _
      have c9 : v9 = x9 := e9.trans d9.symm
      subst c9
      replace h := h.2.2
      obtain ⟨g9, h⟩ := h
      refine ⟨g9, ?_⟩
      obtain ⟨g9, h⟩ := h
      refine ⟨g9, ?_⟩
      obtain ⟨g9, h⟩ := h
      refine ⟨g9, ?_⟩
      obtain ⟨g9, h⟩ := h
      refine ⟨g9, ?_⟩
      obtain ⟨v9, e9, h⟩ := h
      intro x9 d9 _ _
      have c9 : v9 = x9 := e9.trans d9.symm
      subst c9
      replace h := h.2.2
      obtain ⟨v9, e9, h⟩ := h
      intro x9 d9 
      have c9 : v9 = x9 := e9.trans d9.symm
      subst c9
      exact ih h
set_option maxRecDepth 100000 in
theorem vp_X8_remove_L21 {uo : MS} {P : MS → Prop} : ∀ (n m : Nat) {U21 : MS} {v21_0 : Nat} {v21_1 : Int32} {v21_2 : Int32} {v21_3 : Int32}, v_X8_remove_L21 uo n U21 v21_0 v21_1 v21_2 v21_3 → w_X8_remove_L21 P m U21 v21_0 v21_1 v21_2 v21_3 → P uo := by
  intro n
  induction n with
  | zero => intro m U21 v21_0 v21_1 v21_2 v21_3 h; unfold v_X8_remove_L21 at h; exact h.elim
  | succ n ih =>
    intro m U21 v21_0 v21_1 v21_2 v21_3 h w
    cases m with
    | zero => unfold w_X8_remove_L21 at w; exact w.elim
    | succ m =>
      unfold v_X8_remove_L21 at h
      unfold w_X8_remove_L21 at w
      obtain ⟨y22_, y23_, h⟩ := h
      replace w := w y22_ y23_
      rcases h with ⟨c, h⟩ | ⟨c, h⟩
      · replace w := w.1 c
        obtain ⟨v9, e9, y24_, y25_, h⟩ := h
        replace w := w v9 e9 y24_ y25_
        obtain ⟨n9, h⟩ := h
        obtain ⟨n8, w⟩ := w
        exact vp_X8_remove_L77 n9 n8 h w
      · replace w := w.2 c
        replace h := h.2
        replace w := w.2
        replace h := h.2
        replace w := w.2
        replace h := h.2
        replace w := w.2
        replace h := h.2
        replace w := w.2
        obtain ⟨v9, e9, y26_, y27_, h⟩ := h
        replace w := w v9 e9 y26_ y27_
        replace h := h.2
        replace w := w.2
        replace h := h.2
        replace w := w.2
        replace h := h.2
        replace w := w.2
        replace h := h.2
        replace w := w.2
        obtain ⟨v9, e9, y28_, y29_, h⟩ := h
        replace w := w v9 e9 y28_ y29_
        obtain ⟨v9, e9, h⟩ := h
        replace w := w v9 e9 
        exact ih m h w
set_option maxRecDepth 100000 in
theorem vwX8_remove {S : MS} {p0 : Nat} {x1 : Int32} {x2 : Int32} {uo : MS} (h : vX8_remove S p0 x1 x2 uo) : wX8_remove S p0 x1 x2 (fun u => u = uo) := by
  unfold vX8_remove at h
  unfold wX8_remove
  rcases h with ⟨c, h⟩ | ⟨c, h⟩
  · refine ⟨fun _ => ?_, fun c2 => absurd c c2⟩
    exact h.symm
  · refine ⟨fun c2 => absurd c2 c, fun _ => ?_⟩
    rcases h with ⟨c, h⟩ | ⟨c, h⟩
    · refine ⟨fun _ => ?_, fun c2 => absurd c c2⟩
      exact h.symm
    · refine ⟨fun c2 => absurd c2 c, fun _ => ?_⟩
      rcases h with ⟨c, h⟩ | ⟨c, h⟩
      · refine ⟨fun _ => ?_, fun c2 => absurd c c2⟩
        obtain ⟨n9, h⟩ := h
        exact ⟨n9, vw_X8_remove_L21 n9 h⟩
      · refine ⟨fun c2 => absurd c2 c, fun _ => ?_⟩
        exact h.symm
set_option maxRecDepth 100000 in
theorem vpX8_remove {S : MS} {p0 : Nat} {x1 : Int32} {x2 : Int32} {uo : MS} {P : MS → Prop} (h : vX8_remove S p0 x1 x2 uo) (w : wX8_remove S p0 x1 x2 P) : P uo := by
  unfold vX8_remove at h
  unfold wX8_remove at w
  rcases h with ⟨c, h⟩ | ⟨c, h⟩
  · replace w := w.1 c
    rw [h]
    exact w
  · replace w := w.2 c
    rcases h with ⟨c, h⟩ | ⟨c, h⟩
    · replace w := w.1 c
      rw [h]
      exact w
    · replace w := w.2 c
      rcases h with ⟨c, h⟩ | ⟨c, h⟩
      · replace w := w.1 c
        obtain ⟨n9, h⟩ := h
        obtain ⟨n8, w⟩ := w
        exact vp_X8_remove_L21 n9 n8 h w
      · replace w := w.2 c
        rw [h]
        exact w
