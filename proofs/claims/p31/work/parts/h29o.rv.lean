def v_X12_write_J73 (ro : Int32) (uo : MS) (U73 : MS) : Prop := (wfC U73 ∧ (ro = (qI U73 3 1) ∧ uo = U73))
def v_X12_write_L31 (ro : Int32) (uo : MS) : Nat → MS → Int32 → Nat → Int32 → Prop
  | 0, _, _, _, _ => False
  | n31 + 1, U31, v31_1, v31_2, v31_3 => (wfC U31 ∧ qT U31 v31_2 = 49 ∧ (((qI U31 v31_2 8).toInt ≤ v31_3.toInt ∧ (qT U31 3 = 40 ∧ (∃ (S14 : MS), vX11_finish U31 3 S14 ∧ wfC S14 ∧ shx U31 S14 ∧ (∃ S17 : MS, S17 = wI S14 0 17 v31_1 ∧ qT S14 0 = 51 ∧ wfC S17 ∧ (v_X12_write_J73 ro uo S17))))) ∨ (¬ (qI U31 v31_2 8).toInt ≤ v31_3.toInt ∧ (qT U31 v31_2 = 49 ∧ (∃ (b22 : Option Nat) (S20 : MS), vX10_rowAt U31 v31_2 v31_3 b22 S20 ∧ wfC S20 ∧ shy U31 S20 ∧ (∀ z, b22 = some z → qT S20 z = 47) ∧ (∃ (S24 : MS), vX11_addMethod S20 b22 S24 ∧ wfC S24 ∧ shx S20 S24 ∧ (∃ a27 : Int32, a27 = (v31_3 + Int32.ofInt 1) ∧ ((v_X12_write_L31 ro uo n31) S24 v31_1 v31_2 a27))))))))
def vX12_write (S : MS) (x1 : Int32) (ro : Int32) (uo : MS) : Prop := (∃ (b5 : Option Nat) (S3 : MS), vX12_soundUnitAt S x1 b5 S3 ∧ wfC S3 ∧ shy S S3 ∧ (∀ z, b5 = some z → qT S3 z = 49) ∧ ((b5 = none ∧ (ro = (-1 : Int32) ∧ uo = S3)) ∨ (¬ b5 = none ∧ ((x1.toInt = (qI S3 0 17).toInt ∧ (v_X12_write_J73 ro uo S3)) ∨ (¬ x1.toInt = (qI S3 0 17).toInt ∧ (qT S3 ((b5).getD 0) = 49 ∧ (∃ (S9 : MS), vX11_begin S3 ((b5).getD 0) (0 : Int32) S9 ∧ wfC S9 ∧ shx S3 S9 ∧ (∃ n, v_X12_write_L31 ro uo n S9 x1 ((b5).getD 0) 0))))))))
set_option maxRecDepth 100000 in
theorem ru_X12_write_J73 {ι : Type} {P Q : Int32 → MS → Prop} {U73 : MS} (i0 : ι) (K : ∀ (i : ι) (ro : Int32) (uo : MS), v_X12_write_J73 ro uo U73 → P ro uo) (h : w_X12_write_J73 Q U73) : w_X12_write_J73 (fun r u => Q r u ∧ P r u) U73 := by
  unfold w_X12_write_J73 at h ⊢
  intro y1_
  replace h := h y1_
  replace K := fun i ro uo z => K i ro uo ⟨y1_, z⟩
  exact ⟨h, K i0 _ _ ⟨rfl, rfl⟩⟩
set_option maxRecDepth 100000 in
theorem ru_X12_write_L31 {ι : Type} {P Q : Int32 → MS → Prop} : ∀ (n : Nat) {U31 : MS} {v31_1 : Int32} {v31_2 : Nat} {v31_3 : Int32} (i0 : ι), (∀ (i : ι) (ro : Int32) (uo : MS), (∃ n8, v_X12_write_L31 ro uo n8 U31 v31_1 v31_2 v31_3) → P ro uo) → w_X12_write_L31 Q n U31 v31_1 v31_2 v31_3 → w_X12_write_L31 (fun r u => Q r u ∧ P r u) n U31 v31_1 v31_2 v31_3 := by
  intro n
  induction n with
  | zero => intro U31 v31_1 v31_2 v31_3 i0 K h; unfold w_X12_write_L31 at h; exact h.elim
  | succ n ih =>
    intro U31 v31_1 v31_2 v31_3 i0 K h
    unfold w_X12_write_L31 at h ⊢
    replace K := fun (i : ι × Nat) ro uo (z : v_X12_write_L31 ro uo (i.2 + 1) U31 v31_1 v31_2 v31_3) => K i.1 ro uo ⟨i.2 + 1, z⟩
    have i00 := i0
    replace i0 : ι × Nat := (i0, 0)
    intro y2_ y3_
    replace h := h y2_ y3_
    replace K := fun i ro uo z => K i ro uo ⟨y2_, y3_, z⟩
    refine ⟨fun c => ?_, fun c => ?_⟩
    · replace h := h.1 c
      replace K := fun i ro uo z => K i ro uo (Or.inl ⟨c, z⟩)
      intro y4_
      replace h := h y4_
      replace K := fun i ro uo z => K i ro uo ⟨y4_, z⟩
      obtain ⟨Q9, h0, h⟩ := h
      refine ⟨_, ruX11_finish h0, ?_⟩
      intro S14 q5_ y6_ y7_
      replace h := h S14 q5_.1 y6_ y7_
      replace K := fun i ro uo z => K i ro uo ⟨S14, q5_.2, y6_, y7_, z⟩
      intro S17 eS17 y8_ y9_
      replace h := h S17 eS17 y8_ y9_
      replace K := fun i ro uo z => K i ro uo ⟨S17, eS17, y8_, y9_, z⟩
      exact ru_X12_write_J73 i0 K h
    · replace h := h.2 c
      replace K := fun i ro uo z => K i ro uo (Or.inr ⟨c, z⟩)
      intro y10_
      replace h := h y10_
      replace K := fun i ro uo z => K i ro uo ⟨y10_, z⟩
      obtain ⟨Q9, h0, h⟩ := h
      refine ⟨_, ruX10_rowAt h0, ?_⟩
      intro b22 S20 q11_ y12_ y13_ y14_
      replace h := h b22 S20 q11_.1 y12_ y13_ y14_
      replace K := fun i ro uo z => K i ro uo ⟨b22, S20, q11_.2, y12_, y13_, y14_, z⟩
      obtain ⟨Q9, h0, h⟩ := h
      refine ⟨_, ruX11_addMethod h0, ?_⟩
      intro S24 q15_ y16_ y17_
      replace h := h S24 q15_.1 y16_ y17_
      replace K := fun i ro uo z => K i ro uo ⟨S24, q15_.2, y16_, y17_, z⟩
      intro a27 ea27 
      replace h := h a27 ea27 
      replace K := fun i ro uo z => K i ro uo ⟨a27, ea27, z⟩
      exact ih i00 (fun i ro uo ⟨n8, z⟩ => K (i, n8) ro uo z) h
set_option maxRecDepth 100000 in
theorem ruX12_write {S : MS} {x1 : Int32} {Q : Int32 → MS → Prop} (h : wX12_write S x1 Q) : wX12_write S x1 (fun r u => Q r u ∧ vX12_write S x1 r u) := by
  have i0 : Unit := ()
  have K : ∀ (i : Unit) (ro : Int32) (uo : MS), vX12_write S x1 ro uo → vX12_write S x1 ro uo := fun _ _ _ z => z
  unfold wX12_write at h ⊢
  obtain ⟨Q9, h0, h⟩ := h
  refine ⟨_, ruX12_soundUnitAt h0, ?_⟩
  intro b5 S3 q18_ y19_ y20_ y21_
  replace h := h b5 S3 q18_.1 y19_ y20_ y21_
  replace K := fun i ro uo z => K i ro uo ⟨b5, S3, q18_.2, y19_, y20_, y21_, z⟩
  refine ⟨fun c => ?_, fun c => ?_⟩
  · replace h := h.1 c
    replace K := fun i ro uo z => K i ro uo (Or.inl ⟨c, z⟩)
    exact ⟨h, K i0 _ _ ⟨rfl, rfl⟩⟩
  · replace h := h.2 c
    replace K := fun i ro uo z => K i ro uo (Or.inr ⟨c, z⟩)
    refine ⟨fun c => ?_, fun c => ?_⟩
    · replace h := h.1 c
      replace K := fun i ro uo z => K i ro uo (Or.inl ⟨c, z⟩)
      exact ru_X12_write_J73 i0 K h
    · replace h := h.2 c
      replace K := fun i ro uo z => K i ro uo (Or.inr ⟨c, z⟩)
      intro y22_
      replace h := h y22_
      replace K := fun i ro uo z => K i ro uo ⟨y22_, z⟩
      obtain ⟨Q9, h0, h⟩ := h
      refine ⟨_, ruX11_begin h0, ?_⟩
      intro S9 q23_ y24_ y25_
      replace h := h S9 q23_.1 y24_ y25_
      replace K := fun i ro uo z => K i ro uo ⟨S9, q23_.2, y24_, y25_, z⟩
      obtain ⟨n9, h⟩ := h
      exact ⟨n9, ru_X12_write_L31 n9 i0 K h⟩
set_option maxRecDepth 100000 in
theorem vw_X12_write_J73 {ro : Int32} {uo : MS} {U73 : MS} (h : v_X12_write_J73 ro uo U73) : w_X12_write_J73 (fun r u => r = ro ∧ u = uo) U73 := by
  unfold v_X12_write_J73 at h
  unfold w_X12_write_J73
  intro _
  replace h := h.2
  exact ⟨h.1.symm, h.2.symm⟩
set_option maxRecDepth 100000 in
theorem vp_X12_write_J73 {ro : Int32} {uo : MS} {P : Int32 → MS → Prop} {U73 : MS} (h : v_X12_write_J73 ro uo U73) (w : w_X12_write_J73 P U73) : P ro uo := by
  unfold v_X12_write_J73 at h
  unfold w_X12_write_J73 at w
  obtain ⟨y1_, h⟩ := h
  replace w := w y1_
  rw [h.1, h.2]
  exact w
set_option maxRecDepth 100000 in
theorem vw_X12_write_L31 {ro : Int32} {uo : MS} : ∀ (n : Nat) {U31 : MS} {v31_1 : Int32} {v31_2 : Nat} {v31_3 : Int32}, v_X12_write_L31 ro uo n U31 v31_1 v31_2 v31_3 → w_X12_write_L31 (fun r u => r = ro ∧ u = uo) n U31 v31_1 v31_2 v31_3 := by
  intro n
  induction n with
  | zero => intro U31 v31_1 v31_2 v31_3 h; unfold v_X12_write_L31 at h; exact h.elim
  | succ n ih =>
    intro U31 v31_1 v31_2 v31_3 h
    unfold v_X12_write_L31 at h
    unfold w_X12_write_L31
    intro _ _
    replace h := h.2.2
    rcases h with ⟨c, h⟩ | ⟨c, h⟩
    · refine ⟨fun _ => ?_, fun c2 => absurd c c2⟩
      intro _
      replace h := h.2
      obtain ⟨q9, z9, h⟩ := h
      refine ⟨_, vwX11_finish z9, ?_⟩
      intro q8 d9 _ _
      subst d9
      replace h := h.2.2
      obtain ⟨v9, e9, h⟩ := h
      intro x9 d9 _ _
      have c9 : v9 = x9 := e9.trans d9.symm
      subst c9
      replace h := h.2.2
      exact vw_X12_write_J73 h
    · refine ⟨fun c2 => absurd c2 c, fun _ => ?_⟩
      intro _
      replace h := h.2
      obtain ⟨p9, q9, z9, h⟩ := h
      refine ⟨_, vwX10_rowAt z9, ?_⟩
      rintro p8 q8 ⟨d8, d9⟩ _ _ _
      subst d8
      subst d9
      replace h := h.2.2.2
      obtain ⟨q9, z9, h⟩ := h
      refine ⟨_, vwX11_addMethod z9, ?_⟩
      intro q8 d9 _ _
      subst d9
      replace h := h.2.2
      obtain ⟨v9, e9, h⟩ := h
      intro x9 d9 
      have c9 : v9 = x9 := e9.trans d9.symm
      subst c9
      exact ih h
set_option maxRecDepth 100000 in
theorem vp_X12_write_L31 {ro : Int32} {uo : MS} {P : Int32 → MS → Prop} : ∀ (n m : Nat) {U31 : MS} {v31_1 : Int32} {v31_2 : Nat} {v31_3 : Int32}, v_X12_write_L31 ro uo n U31 v31_1 v31_2 v31_3 → w_X12_write_L31 P m U31 v31_1 v31_2 v31_3 → P ro uo := by
  intro n
  induction n with
  | zero => intro m U31 v31_1 v31_2 v31_3 h; unfold v_X12_write_L31 at h; exact h.elim
  | succ n ih =>
    intro m U31 v31_1 v31_2 v31_3 h w
    cases m with
    | zero => unfold w_X12_write_L31 at w; exact w.elim
    | succ m =>
      unfold v_X12_write_L31 at h
      unfold w_X12_write_L31 at w
      obtain ⟨y2_, y3_, h⟩ := h
      replace w := w y2_ y3_
      rcases h with ⟨c, h⟩ | ⟨c, h⟩
      · replace w := w.1 c
        obtain ⟨y4_, h⟩ := h
        replace w := w y4_
        obtain ⟨q9, z9, y5_, y6_, h⟩ := h
        obtain ⟨Q9, w0, w⟩ := w
        replace w := w q9 (vpX11_finish z9 w0) y5_ y6_
        obtain ⟨v9, e9, y7_, y8_, h⟩ := h
        replace w := w v9 e9 y7_ y8_
        exact vp_X12_write_J73 h w
      · replace w := w.2 c
        obtain ⟨y9_, h⟩ := h
        replace w := w y9_
        obtain ⟨p9, q9, z9, y10_, y11_, y12_, h⟩ := h
        obtain ⟨Q9, w0, w⟩ := w
        replace w := w p9 q9 (vpX10_rowAt z9 w0) y10_ y11_ y12_
        obtain ⟨q9, z9, y13_, y14_, h⟩ := h
        obtain ⟨Q9, w0, w⟩ := w
        replace w := w q9 (vpX11_addMethod z9 w0) y13_ y14_
        obtain ⟨v9, e9, h⟩ := h
        replace w := w v9 e9 
        exact ih m h w
set_option maxRecDepth 100000 in
theorem vwX12_write {S : MS} {x1 : Int32} {ro : Int32} {uo : MS} (h : vX12_write S x1 ro uo) : wX12_write S x1 (fun r u => r = ro ∧ u = uo) := by
  unfold vX12_write at h
  unfold wX12_write
  obtain ⟨p9, q9, z9, h⟩ := h
  refine ⟨_, vwX12_soundUnitAt z9, ?_⟩
  rintro p8 q8 ⟨d8, d9⟩ _ _ _
  subst d8
  subst d9
  replace h := h.2.2.2
  rcases h with ⟨c, h⟩ | ⟨c, h⟩
  · refine ⟨fun _ => ?_, fun c2 => absurd c c2⟩
    exact ⟨h.1.symm, h.2.symm⟩
  · refine ⟨fun c2 => absurd c2 c, fun _ => ?_⟩
    rcases h with ⟨c, h⟩ | ⟨c, h⟩
    · refine ⟨fun _ => ?_, fun c2 => absurd c c2⟩
      exact vw_X12_write_J73 h
    · refine ⟨fun c2 => absurd c2 c, fun _ => ?_⟩
      intro _
      replace h := h.2
      obtain ⟨q9, z9, h⟩ := h
      refine ⟨_, vwX11_begin z9, ?_⟩
      intro q8 d9 _ _
      subst d9
      replace h := h.2.2
      obtain ⟨n9, h⟩ := h
      exact ⟨n9, vw_X12_write_L31 n9 h⟩
set_option maxRecDepth 100000 in
theorem vpX12_write {S : MS} {x1 : Int32} {ro : Int32} {uo : MS} {P : Int32 → MS → Prop} (h : vX12_write S x1 ro uo) (w : wX12_write S x1 P) : P ro uo := by
  unfold vX12_write at h
  unfold wX12_write at w
  obtain ⟨p9, q9, z9, y15_, y16_, y17_, h⟩ := h
  obtain ⟨Q9, w0, w⟩ := w
  replace w := w p9 q9 (vpX12_soundUnitAt z9 w0) y15_ y16_ y17_
  rcases h with ⟨c, h⟩ | ⟨c, h⟩
  · replace w := w.1 c
    rw [h.1, h.2]
    exact w
  · replace w := w.2 c
    rcases h with ⟨c, h⟩ | ⟨c, h⟩
    · replace w := w.1 c
      exact vp_X12_write_J73 h w
    · replace w := w.2 c
      obtain ⟨y18_, h⟩ := h
      replace w := w y18_
      obtain ⟨q9, z9, y19_, y20_, h⟩ := h
      obtain ⟨Q9, w0, w⟩ := w
      replace w := w q9 (vpX11_begin z9 w0) y19_ y20_
      obtain ⟨n9, h⟩ := h
      obtain ⟨n8, w⟩ := w
      exact vp_X12_write_L31 n9 n8 h w
def vX12_blocks (S : MS) (x1 : Int32) (x2 : Int32) (ro : Int32) (uo : MS) : Prop := (∃ (b5 : Option Nat) (S3 : MS), vX12_rowAt S x1 x2 b5 S3 ∧ wfC S3 ∧ shy S S3 ∧ (∀ z, b5 = some z → qT S3 z = 47) ∧ ((b5 = none ∧ (ro = (-1 : Int32) ∧ uo = S3)) ∨ (¬ b5 = none ∧ (∃ (S8 : MS), vX3_draw S3 (some ((b5).getD 0)) S8 ∧ wfC S8 ∧ shx S3 S8 ∧ (ro = (qI S8 52 1) ∧ uo = S8)))))
set_option maxRecDepth 100000 in
theorem ruX12_blocks {S : MS} {x1 : Int32} {x2 : Int32} {Q : Int32 → MS → Prop} (h : wX12_blocks S x1 x2 Q) : wX12_blocks S x1 x2 (fun r u => Q r u ∧ vX12_blocks S x1 x2 r u) := by
  have i0 : Unit := ()
  have K : ∀ (i : Unit) (ro : Int32) (uo : MS), vX12_blocks S x1 x2 ro uo → vX12_blocks S x1 x2 ro uo := fun _ _ _ z => z
  unfold wX12_blocks at h ⊢
  obtain ⟨Q9, h0, h⟩ := h
  refine ⟨_, ruX12_rowAt h0, ?_⟩
  intro b5 S3 q1_ y2_ y3_ y4_
  replace h := h b5 S3 q1_.1 y2_ y3_ y4_
  replace K := fun i ro uo z => K i ro uo ⟨b5, S3, q1_.2, y2_, y3_, y4_, z⟩
  refine ⟨fun c => ?_, fun c => ?_⟩
  · replace h := h.1 c
    replace K := fun i ro uo z => K i ro uo (Or.inl ⟨c, z⟩)
    exact ⟨h, K i0 _ _ ⟨rfl, rfl⟩⟩
  · replace h := h.2 c
    replace K := fun i ro uo z => K i ro uo (Or.inr ⟨c, z⟩)
    obtain ⟨Q9, h0, h⟩ := h
    refine ⟨_, ruX3_draw h0, ?_⟩
    intro S8 q5_ y6_ y7_
    replace h := h S8 q5_.1 y6_ y7_
    replace K := fun i ro uo z => K i ro uo ⟨S8, q5_.2, y6_, y7_, z⟩
    exact ⟨h, K i0 _ _ ⟨rfl, rfl⟩⟩
set_option maxRecDepth 100000 in
theorem vwX12_blocks {S : MS} {x1 : Int32} {x2 : Int32} {ro : Int32} {uo : MS} (h : vX12_blocks S x1 x2 ro uo) : wX12_blocks S x1 x2 (fun r u => r = ro ∧ u = uo) := by
  unfold vX12_blocks at h
  unfold wX12_blocks
  obtain ⟨p9, q9, z9, h⟩ := h
  refine ⟨_, vwX12_rowAt z9, ?_⟩
  rintro p8 q8 ⟨d8, d9⟩ _ _ _
  subst d8
  subst d9
  replace h := h.2.2.2
  rcases h with ⟨c, h⟩ | ⟨c, h⟩
  · refine ⟨fun _ => ?_, fun c2 => absurd c c2⟩
    exact ⟨h.1.symm, h.2.symm⟩
  · refine ⟨fun c2 => absurd c2 c, fun _ => ?_⟩
    obtain ⟨q9, z9, h⟩ := h
    refine ⟨_, vwX3_draw z9, ?_⟩
    intro q8 d9 _ _
    subst d9
    replace h := h.2.2
    exact ⟨h.1.symm, h.2.symm⟩
set_option maxRecDepth 100000 in
theorem vpX12_blocks {S : MS} {x1 : Int32} {x2 : Int32} {ro : Int32} {uo : MS} {P : Int32 → MS → Prop} (h : vX12_blocks S x1 x2 ro uo) (w : wX12_blocks S x1 x2 P) : P ro uo := by
  unfold vX12_blocks at h
  unfold wX12_blocks at w
  obtain ⟨p9, q9, z9, y1_, y2_, y3_, h⟩ := h
  obtain ⟨Q9, w0, w⟩ := w
  replace w := w p9 q9 (vpX12_rowAt z9 w0) y1_ y2_ y3_
  rcases h with ⟨c, h⟩ | ⟨c, h⟩
  · replace w := w.1 c
    rw [h.1, h.2]
    exact w
  · replace w := w.2 c
    obtain ⟨q9, z9, y4_, y5_, h⟩ := h
    obtain ⟨Q9, w0, w⟩ := w
    replace w := w q9 (vpX3_draw z9 w0) y4_ y5_
    rw [h.1, h.2]
    exact w
def vX12_block (S : MS) (x1 : Int32) (x2 : Int32) (x3 : Int32) (x4 : Int32) (ro : Int32) (uo : MS) : Prop := (∃ (b5 : Option Nat) (S3 : MS), vX12_rowAt S x1 x2 b5 S3 ∧ wfC S3 ∧ shy S S3 ∧ (∀ z, b5 = some z → qT S3 z = 47) ∧ ((b5 = none ∧ (ro = (-1 : Int32) ∧ uo = S3)) ∨ (¬ b5 = none ∧ (∃ (S8 : MS), vX3_draw S3 (some ((b5).getD 0)) S8 ∧ wfC S8 ∧ shx S3 S8 ∧ (d_X3_tell S8 x3 x4 ∧ (∃ a14 : Int32, a14 = (fX3_tell S8 x3 x4) ∧ (ro = a14 ∧ uo = S8)))))))
set_option maxRecDepth 100000 in
theorem ruX12_block {S : MS} {x1 : Int32} {x2 : Int32} {x3 : Int32} {x4 : Int32} {Q : Int32 → MS → Prop} (h : wX12_block S x1 x2 x3 x4 Q) : wX12_block S x1 x2 x3 x4 (fun r u => Q r u ∧ vX12_block S x1 x2 x3 x4 r u) := by
  have i0 : Unit := ()
  have K : ∀ (i : Unit) (ro : Int32) (uo : MS), vX12_block S x1 x2 x3 x4 ro uo → vX12_block S x1 x2 x3 x4 ro uo := fun _ _ _ z => z
  unfold wX12_block at h ⊢
  obtain ⟨Q9, h0, h⟩ := h
  refine ⟨_, ruX12_rowAt h0, ?_⟩
  intro b5 S3 q1_ y2_ y3_ y4_
  replace h := h b5 S3 q1_.1 y2_ y3_ y4_
  replace K := fun i ro uo z => K i ro uo ⟨b5, S3, q1_.2, y2_, y3_, y4_, z⟩
  refine ⟨fun c => ?_, fun c => ?_⟩
  · replace h := h.1 c
    replace K := fun i ro uo z => K i ro uo (Or.inl ⟨c, z⟩)
    exact ⟨h, K i0 _ _ ⟨rfl, rfl⟩⟩
  · replace h := h.2 c
    replace K := fun i ro uo z => K i ro uo (Or.inr ⟨c, z⟩)
    obtain ⟨Q9, h0, h⟩ := h
    refine ⟨_, ruX3_draw h0, ?_⟩
    intro S8 q5_ y6_ y7_
    replace h := h S8 q5_.1 y6_ y7_
    replace K := fun i ro uo z => K i ro uo ⟨S8, q5_.2, y6_, y7_, z⟩
    obtain ⟨g8_, h⟩ := h
    refine ⟨g8_, ?_⟩
    replace K := fun i ro uo z => K i ro uo ⟨g8_, z⟩
    intro a14 ea14 
    replace h := h a14 ea14 
    replace K := fun i ro uo z => K i ro uo ⟨a14, ea14, z⟩
    exact ⟨h, K i0 _ _ ⟨rfl, rfl⟩⟩
set_option maxRecDepth 100000 in
theorem vwX12_block {S : MS} {x1 : Int32} {x2 : Int32} {x3 : Int32} {x4 : Int32} {ro : Int32} {uo : MS} (h : vX12_block S x1 x2 x3 x4 ro uo) : wX12_block S x1 x2 x3 x4 (fun r u => r = ro ∧ u = uo) := by
  unfold vX12_block at h
  unfold wX12_block
  obtain ⟨p9, q9, z9, h⟩ := h
  refine ⟨_, vwX12_rowAt z9, ?_⟩
  rintro p8 q8 ⟨d8, d9⟩ _ _ _
  subst d8
  subst d9
  replace h := h.2.2.2
  rcases h with ⟨c, h⟩ | ⟨c, h⟩
  · refine ⟨fun _ => ?_, fun c2 => absurd c c2⟩
    exact ⟨h.1.symm, h.2.symm⟩
  · refine ⟨fun c2 => absurd c2 c, fun _ => ?_⟩
    obtain ⟨q9, z9, h⟩ := h
    refine ⟨_, vwX3_draw z9, ?_⟩
    intro q8 d9 _ _
    subst d9
    replace h := h.2.2
    obtain ⟨g9, h⟩ := h
    refine ⟨g9, ?_⟩
    obtain ⟨v9, e9, h⟩ := h
    intro x9 d9 
    have c9 : v9 = x9 := e9.trans d9.symm
    subst c9
    exact ⟨h.1.symm, h.2.symm⟩
set_option maxRecDepth 100000 in
theorem vpX12_block {S : MS} {x1 : Int32} {x2 : Int32} {x3 : Int32} {x4 : Int32} {ro : Int32} {uo : MS} {P : Int32 → MS → Prop} (h : vX12_block S x1 x2 x3 x4 ro uo) (w : wX12_block S x1 x2 x3 x4 P) : P ro uo := by
  unfold vX12_block at h
  unfold wX12_block at w
  obtain ⟨p9, q9, z9, y1_, y2_, y3_, h⟩ := h
  obtain ⟨Q9, w0, w⟩ := w
  replace w := w p9 q9 (vpX12_rowAt z9 w0) y1_ y2_ y3_
  rcases h with ⟨c, h⟩ | ⟨c, h⟩
  · replace w := w.1 c
    rw [h.1, h.2]
    exact w
  · replace w := w.2 c
    obtain ⟨q9, z9, y4_, y5_, h⟩ := h
    obtain ⟨Q9, w0, w⟩ := w
    replace w := w q9 (vpX3_draw z9 w0) y4_ y5_
    replace h := h.2
    replace w := w.2
    obtain ⟨v9, e9, h⟩ := h
    replace w := w v9 e9 
    rw [h.1, h.2]
    exact w
def vX12_edge (S : MS) (x1 : Int32) (x2 : Int32) (x3 : Int32) (x4 : Int32) (ro : Int32) (uo : MS) : Prop := (∃ (b5 : Option Nat) (S3 : MS), vX12_rowAt S x1 x2 b5 S3 ∧ wfC S3 ∧ shy S S3 ∧ (∀ z, b5 = some z → qT S3 z = 47) ∧ ((b5 = none ∧ (ro = (0 : Int32) ∧ uo = S3)) ∨ (¬ b5 = none ∧ (∃ (S8 : MS), vX3_draw S3 (some ((b5).getD 0)) S8 ∧ wfC S8 ∧ shx S3 S8 ∧ (∃ (r12 : Int32) (S13 : MS), vX3_hasEdge S8 x3 x4 r12 S13 ∧ wfC S13 ∧ shy S8 S13 ∧ (ro = r12 ∧ uo = S13))))))
set_option maxRecDepth 100000 in
theorem ruX12_edge {S : MS} {x1 : Int32} {x2 : Int32} {x3 : Int32} {x4 : Int32} {Q : Int32 → MS → Prop} (h : wX12_edge S x1 x2 x3 x4 Q) : wX12_edge S x1 x2 x3 x4 (fun r u => Q r u ∧ vX12_edge S x1 x2 x3 x4 r u) := by
  have i0 : Unit := ()
  have K : ∀ (i : Unit) (ro : Int32) (uo : MS), vX12_edge S x1 x2 x3 x4 ro uo → vX12_edge S x1 x2 x3 x4 ro uo := fun _ _ _ z => z
  unfold wX12_edge at h ⊢
  obtain ⟨Q9, h0, h⟩ := h
  refine ⟨_, ruX12_rowAt h0, ?_⟩
  intro b5 S3 q1_ y2_ y3_ y4_
  replace h := h b5 S3 q1_.1 y2_ y3_ y4_
  replace K := fun i ro uo z => K i ro uo ⟨b5, S3, q1_.2, y2_, y3_, y4_, z⟩
  refine ⟨fun c => ?_, fun c => ?_⟩
  · replace h := h.1 c
    replace K := fun i ro uo z => K i ro uo (Or.inl ⟨c, z⟩)
    exact ⟨h, K i0 _ _ ⟨rfl, rfl⟩⟩
  · replace h := h.2 c
    replace K := fun i ro uo z => K i ro uo (Or.inr ⟨c, z⟩)
    obtain ⟨Q9, h0, h⟩ := h
    refine ⟨_, ruX3_draw h0, ?_⟩
    intro S8 q5_ y6_ y7_
    replace h := h S8 q5_.1 y6_ y7_
    replace K := fun i ro uo z => K i ro uo ⟨S8, q5_.2, y6_, y7_, z⟩
    obtain ⟨Q9, h0, h⟩ := h
    refine ⟨_, ruX3_hasEdge h0, ?_⟩
    intro r12 S13 q8_ y9_ y10_
    replace h := h r12 S13 q8_.1 y9_ y10_
    replace K := fun i ro uo z => K i ro uo ⟨r12, S13, q8_.2, y9_, y10_, z⟩
    exact ⟨h, K i0 _ _ ⟨rfl, rfl⟩⟩
set_option maxRecDepth 100000 in
theorem vwX12_edge {S : MS} {x1 : Int32} {x2 : Int32} {x3 : Int32} {x4 : Int32} {ro : Int32} {uo : MS} (h : vX12_edge S x1 x2 x3 x4 ro uo) : wX12_edge S x1 x2 x3 x4 (fun r u => r = ro ∧ u = uo) := by
  unfold vX12_edge at h
  unfold wX12_edge
  obtain ⟨p9, q9, z9, h⟩ := h
  refine ⟨_, vwX12_rowAt z9, ?_⟩
  rintro p8 q8 ⟨d8, d9⟩ _ _ _
  subst d8
  subst d9
  replace h := h.2.2.2
  rcases h with ⟨c, h⟩ | ⟨c, h⟩
  · refine ⟨fun _ => ?_, fun c2 => absurd c c2⟩
    exact ⟨h.1.symm, h.2.symm⟩
  · refine ⟨fun c2 => absurd c2 c, fun _ => ?_⟩
    obtain ⟨q9, z9, h⟩ := h
    refine ⟨_, vwX3_draw z9, ?_⟩
    intro q8 d9 _ _
    subst d9
    replace h := h.2.2
    obtain ⟨p9, q9, z9, h⟩ := h
    refine ⟨_, vwX3_hasEdge z9, ?_⟩
    rintro p8 q8 ⟨d8, d9⟩ _ _
    subst d8
    subst d9
    replace h := h.2.2
    exact ⟨h.1.symm, h.2.symm⟩
set_option maxRecDepth 100000 in
theorem vpX12_edge {S : MS} {x1 : Int32} {x2 : Int32} {x3 : Int32} {x4 : Int32} {ro : Int32} {uo : MS} {P : Int32 → MS → Prop} (h : vX12_edge S x1 x2 x3 x4 ro uo) (w : wX12_edge S x1 x2 x3 x4 P) : P ro uo := by
  unfold vX12_edge at h
  unfold wX12_edge at w
  obtain ⟨p9, q9, z9, y1_, y2_, y3_, h⟩ := h
  obtain ⟨Q9, w0, w⟩ := w
  replace w := w p9 q9 (vpX12_rowAt z9 w0) y1_ y2_ y3_
  rcases h with ⟨c, h⟩ | ⟨c, h⟩
  · replace w := w.1 c
    rw [h.1, h.2]
    exact w
  · replace w := w.2 c
    obtain ⟨q9, z9, y4_, y5_, h⟩ := h
    obtain ⟨Q9, w0, w⟩ := w
    replace w := w q9 (vpX3_draw z9 w0) y4_ y5_
    obtain ⟨p9, q9, z9, y6_, y7_, h⟩ := h
    obtain ⟨Q9, w0, w⟩ := w
    replace w := w p9 q9 (vpX3_hasEdge z9 w0) y6_ y7_
    rw [h.1, h.2]
    exact w
def v_X12_countersOf_L4 (ro : Int32) (uo : MS) : Nat → MS → Nat → Int32 → Int32 → Prop
  | 0, _, _, _, _ => False
  | n4 + 1, U4, v4_1, v4_2, v4_3 => (wfC U4 ∧ qT U4 v4_1 = 49 ∧ (((qI U4 v4_1 8).toInt ≤ v4_3.toInt ∧ (ro = v4_2 ∧ uo = U4)) ∨ (¬ (qI U4 v4_1 8).toInt ≤ v4_3.toInt ∧ (qT U4 v4_1 = 49 ∧ (∃ (b6 : Option Nat) (S4 : MS), vX10_rowAt U4 v4_1 v4_3 b6 S4 ∧ wfC S4 ∧ shy U4 S4 ∧ (∀ z, b6 = some z → qT S4 z = 47) ∧ (∃ (S8 : MS), vX3_draw S4 b6 S8 ∧ wfC S8 ∧ shx S4 S8 ∧ (∃ (r12 : Int32) (S13 : MS), vX3_reachedCount S8 r12 S13 ∧ wfC S13 ∧ shy S8 S13 ∧ (∃ a16 : Int32, a16 = (v4_2 + r12) ∧ (∃ a17 : Int32, a17 = (v4_3 + Int32.ofInt 1) ∧ ((v_X12_countersOf_L4 ro uo n4) S13 v4_1 a16 a17))))))))))
def vX12_countersOf (S : MS) (p1 : Nat) (ro : Int32) (uo : MS) : Prop := (∃ n, v_X12_countersOf_L4 ro uo n S p1 0 0)
set_option maxRecDepth 100000 in
theorem ru_X12_countersOf_L4 {ι : Type} {P Q : Int32 → MS → Prop} : ∀ (n : Nat) {U4 : MS} {v4_1 : Nat} {v4_2 : Int32} {v4_3 : Int32} (i0 : ι), (∀ (i : ι) (ro : Int32) (uo : MS), (∃ n8, v_X12_countersOf_L4 ro uo n8 U4 v4_1 v4_2 v4_3) → P ro uo) → w_X12_countersOf_L4 Q n U4 v4_1 v4_2 v4_3 → w_X12_countersOf_L4 (fun r u => Q r u ∧ P r u) n U4 v4_1 v4_2 v4_3 := by
  intro n
  induction n with
  | zero => intro U4 v4_1 v4_2 v4_3 i0 K h; unfold w_X12_countersOf_L4 at h; exact h.elim
  | succ n ih =>
    intro U4 v4_1 v4_2 v4_3 i0 K h
    unfold w_X12_countersOf_L4 at h ⊢
    replace K := fun (i : ι × Nat) ro uo (z : v_X12_countersOf_L4 ro uo (i.2 + 1) U4 v4_1 v4_2 v4_3) => K i.1 ro uo ⟨i.2 + 1, z⟩
    have i00 := i0
    replace i0 : ι × Nat := (i0, 0)
    intro y1_ y2_
    replace h := h y1_ y2_
    replace K := fun i ro uo z => K i ro uo ⟨y1_, y2_, z⟩
    refine ⟨fun c => ?_, fun c => ?_⟩
    · replace h := h.1 c
      replace K := fun i ro uo z => K i ro uo (Or.inl ⟨c, z⟩)
      exact ⟨h, K i0 _ _ ⟨rfl, rfl⟩⟩
    · replace h := h.2 c
      replace K := fun i ro uo z => K i ro uo (Or.inr ⟨c, z⟩)
      intro y3_
      replace h := h y3_
      replace K := fun i ro uo z => K i ro uo ⟨y3_, z⟩
      obtain ⟨Q9, h0, h⟩ := h
      refine ⟨_, ruX10_rowAt h0, ?_⟩
      intro b6 S4 q4_ y5_ y6_ y7_
      replace h := h b6 S4 q4_.1 y5_ y6_ y7_
      replace K := fun i ro uo z => K i ro uo ⟨b6, S4, q4_.2, y5_, y6_, y7_, z⟩
      obtain ⟨Q9, h0, h⟩ := h
      refine ⟨_, ruX3_draw h0, ?_⟩
      intro S8 q8_ y9_ y10_
      replace h := h S8 q8_.1 y9_ y10_
      replace K := fun i ro uo z => K i ro uo ⟨S8, q8_.2, y9_, y10_, z⟩
      obtain ⟨Q9, h0, h⟩ := h
      refine ⟨_, ruX3_reachedCount h0, ?_⟩
      intro r12 S13 q11_ y12_ y13_
      replace h := h r12 S13 q11_.1 y12_ y13_
      replace K := fun i ro uo z => K i ro uo ⟨r12, S13, q11_.2, y12_, y13_, z⟩
      intro a16 ea16 
      replace h := h a16 ea16 
      replace K := fun i ro uo z => K i ro uo ⟨a16, ea16, z⟩
      intro a17 ea17 
      replace h := h a17 ea17 
      replace K := fun i ro uo z => K i ro uo ⟨a17, ea17, z⟩
      exact ih i00 (fun i ro uo ⟨n8, z⟩ => K (i, n8) ro uo z) h
set_option maxRecDepth 100000 in
theorem ruX12_countersOf {S : MS} {p1 : Nat} {Q : Int32 → MS → Prop} (h : wX12_countersOf S p1 Q) : wX12_countersOf S p1 (fun r u => Q r u ∧ vX12_countersOf S p1 r u) := by
  have i0 : Unit := ()
  have K : ∀ (i : Unit) (ro : Int32) (uo : MS), vX12_countersOf S p1 ro uo → vX12_countersOf S p1 ro uo := fun _ _ _ z => z
  unfold wX12_countersOf at h ⊢
  obtain ⟨n9, h⟩ := h
  exact ⟨n9, ru_X12_countersOf_L4 n9 i0 K h⟩
set_option maxRecDepth 100000 in
theorem vw_X12_countersOf_L4 {ro : Int32} {uo : MS} : ∀ (n : Nat) {U4 : MS} {v4_1 : Nat} {v4_2 : Int32} {v4_3 : Int32}, v_X12_countersOf_L4 ro uo n U4 v4_1 v4_2 v4_3 → w_X12_countersOf_L4 (fun r u => r = ro ∧ u = uo) n U4 v4_1 v4_2 v4_3 := by
  intro n
  induction n with
  | zero => intro U4 v4_1 v4_2 v4_3 h; unfold v_X12_countersOf_L4 at h; exact h.elim
  | succ n ih =>
    intro U4 v4_1 v4_2 v4_3 h
    unfold v_X12_countersOf_L4 at h
    unfold w_X12_countersOf_L4
    intro _ _
    replace h := h.2.2
    rcases h with ⟨c, h⟩ | ⟨c, h⟩
    · refine ⟨fun _ => ?_, fun c2 => absurd c c2⟩
      exact ⟨h.1.symm, h.2.symm⟩
    · refine ⟨fun c2 => absurd c2 c, fun _ => ?_⟩
      intro _
      replace h := h.2
      obtain ⟨p9, q9, z9, h⟩ := h
      refine ⟨_, vwX10_rowAt z9, ?_⟩
      rintro p8 q8 ⟨d8, d9⟩ _ _ _
      subst d8
      subst d9
      replace h := h.2.2.2
      obtain ⟨q9, z9, h⟩ := h
      refine ⟨_, vwX3_draw z9, ?_⟩
      intro q8 d9 _ _
      subst d9
      replace h := h.2.2
      obtain ⟨p9, q9, z9, h⟩ := h
      refine ⟨_, vwX3_reachedCount z9, ?_⟩
      rintro p8 q8 ⟨d8, d9⟩ _ _
      subst d8
      subst d9
      replace h := h.2.2
      obtain ⟨v9, e9, h⟩ := h
      intro x9 d9 
      have c9 : v9 = x9 := e9.trans d9.symm
      subst c9
      obtain ⟨v9, e9, h⟩ := h
      intro x9 d9 
      have c9 : v9 = x9 := e9.trans d9.symm
      subst c9
      exact ih h
set_option maxRecDepth 100000 in
theorem vp_X12_countersOf_L4 {ro : Int32} {uo : MS} {P : Int32 → MS → Prop} : ∀ (n m : Nat) {U4 : MS} {v4_1 : Nat} {v4_2 : Int32} {v4_3 : Int32}, v_X12_countersOf_L4 ro uo n U4 v4_1 v4_2 v4_3 → w_X12_countersOf_L4 P m U4 v4_1 v4_2 v4_3 → P ro uo := by
  intro n
  induction n with
  | zero => intro m U4 v4_1 v4_2 v4_3 h; unfold v_X12_countersOf_L4 at h; exact h.elim
  | succ n ih =>
    intro m U4 v4_1 v4_2 v4_3 h w
    cases m with
    | zero => unfold w_X12_countersOf_L4 at w; exact w.elim
    | succ m =>
      unfold v_X12_countersOf_L4 at h
      unfold w_X12_countersOf_L4 at w
      obtain ⟨y1_, y2_, h⟩ := h
      replace w := w y1_ y2_
      rcases h with ⟨c, h⟩ | ⟨c, h⟩
      · replace w := w.1 c
        rw [h.1, h.2]
        exact w
      · replace w := w.2 c
        obtain ⟨y3_, h⟩ := h
        replace w := w y3_
        obtain ⟨p9, q9, z9, y4_, y5_, y6_, h⟩ := h
        obtain ⟨Q9, w0, w⟩ := w
        replace w := w p9 q9 (vpX10_rowAt z9 w0) y4_ y5_ y6_
        obtain ⟨q9, z9, y7_, y8_, h⟩ := h
        obtain ⟨Q9, w0, w⟩ := w
        replace w := w q9 (vpX3_draw z9 w0) y7_ y8_
        obtain ⟨p9, q9, z9, y9_, y10_, h⟩ := h
        obtain ⟨Q9, w0, w⟩ := w
        replace w := w p9 q9 (vpX3_reachedCount z9 w0) y9_ y10_
        obtain ⟨v9, e9, h⟩ := h
        replace w := w v9 e9 
        obtain ⟨v9, e9, h⟩ := h
        replace w := w v9 e9 
        exact ih m h w
set_option maxRecDepth 100000 in
theorem vwX12_countersOf {S : MS} {p1 : Nat} {ro : Int32} {uo : MS} (h : vX12_countersOf S p1 ro uo) : wX12_countersOf S p1 (fun r u => r = ro ∧ u = uo) := by
  unfold vX12_countersOf at h
  unfold wX12_countersOf
  obtain ⟨n9, h⟩ := h
  exact ⟨n9, vw_X12_countersOf_L4 n9 h⟩
set_option maxRecDepth 100000 in
theorem vpX12_countersOf {S : MS} {p1 : Nat} {ro : Int32} {uo : MS} {P : Int32 → MS → Prop} (h : vX12_countersOf S p1 ro uo) (w : wX12_countersOf S p1 P) : P ro uo := by
  unfold vX12_countersOf at h
  unfold wX12_countersOf at w
  obtain ⟨n9, h⟩ := h
  obtain ⟨n8, w⟩ := w
  exact vp_X12_countersOf_L4 n9 n8 h w
def v_X1_firstFault_L131 (ro : Int32) (uo : MS) : Nat → MS → Int32 → Prop
  | 0, _, _ => False
  | n131 + 1, U131, v131_3 => (wfC U131 ∧ ((qR U131 16 9 = some (qO U131 16 9)) ∧ (((qI U131 (qO U131 16 9) 2).toInt ≤ v131_3.toInt ∧ (∃ (S29 : MS), vX1_keepTypes U131 S29 ∧ wfC S29 ∧ shx U131 S29 ∧ (ro = (-1 : Int32) ∧ uo = S29))) ∨ (¬ (qI U131 (qO U131 16 9) 2).toInt ≤ v131_3.toInt ∧ (d_X4_isWrong U131 17 v131_3 ∧ (((fX4_isWrong U131 17 v131_3).toInt = 0 ∧ (∃ (r37 : Int32) (S38 : MS), vX1_hasBadTypes U131 v131_3 r37 S38 ∧ wfC S38 ∧ shy U131 S38 ∧ ((r37.toInt = 0 ∧ (∃ a41 : Int32, a41 = (v131_3 + Int32.ofInt 1) ∧ ((v_X1_firstFault_L131 ro uo n131) S38 a41))) ∨ (¬ r37.toInt = 0 ∧ (ro = v131_3 ∧ uo = S38))))) ∨ (¬ (fX4_isWrong U131 17 v131_3).toInt = 0 ∧ (ro = v131_3 ∧ uo = U131))))))))
def v_X1_firstFault_J129 (ro : Int32) (uo : MS) (U129 : MS) : Prop := (wfC U129 ∧ (∃ n, v_X1_firstFault_L131 ro uo n U129 0))
def v_X1_firstFault_J117 (ro : Int32) (uo : MS) (k81 : MS → Int32 → Int32 → Prop) (U117 : MS) (v117_3 : Int32) (v117_4 : Int32) : Prop := (wfC U117 ∧ (∃ a53 : Int32, a53 = (v117_4 + Int32.ofInt 1) ∧ (k81 U117 v117_3 a53)))
def v_X1_firstFault_L81 (ro : Int32) (uo : MS) (k60 : MS → Int32 → Prop) : Nat → MS → Int32 → Int32 → Prop
  | 0, _, _, _ => False
  | n81 + 1, U81, v81_3, v81_4 => (wfC U81 ∧ ((qR U81 16 9 = some (qO U81 16 9)) ∧ (((qI U81 (qO U81 16 9) 2).toInt ≤ v81_4.toInt ∧ (∃ a48 : Int32, a48 = (v81_3 + Int32.ofInt 1) ∧ (k60 U81 a48))) ∨ (¬ (qI U81 (qO U81 16 9) 2).toInt ≤ v81_4.toInt ∧ (((0 : Int) ≤ v81_4.toInt ∧ v81_4.toInt < (qN U81 (qO U81 16 3) : Int)) ∧ (((qI U81 (qO U81 16 3) v81_4.toInt.toNat).toInt = 0 ∧ (v_X1_firstFault_J117 ro uo (v_X1_firstFault_L81 ro uo k60 n81) U81 v81_3 v81_4)) ∨ (¬ (qI U81 (qO U81 16 3) v81_4.toInt.toNat).toInt = 0 ∧ (((0 : Int) ≤ v81_4.toInt ∧ v81_4.toInt < (qN U81 (qO U81 16 3) : Int)) ∧ (∃ S57 : MS, S57 = wI U81 (qO U81 16 3) v81_4.toInt.toNat (vp_nar .boolean (0 : Int32)) ∧ qT U81 (qO U81 16 3) = 302 ∧ wfC S57 ∧ (∃ (S59 : MS), vX1_flowFrom S57 v81_4 S59 ∧ wfC S59 ∧ shy S57 S59 ∧ (v_X1_firstFault_J117 ro uo (v_X1_firstFault_L81 ro uo k60 n81) S59 v81_3 v81_4)))))))))))
def v_X1_firstFault_L60 (ro : Int32) (uo : MS) : Nat → MS → Int32 → Prop
  | 0, _, _ => False
  | n60 + 1, U60, v60_3 => (wfC U60 ∧ (((qI U60 16 7).toInt = 0 ∧ (v_X1_firstFault_J129 ro uo U60)) ∨ (¬ (qI U60 16 7).toInt = 0 ∧ ((1000000 ≤ v60_3.toInt ∧ (v_X1_firstFault_J129 ro uo U60)) ∨ (¬ 1000000 ≤ v60_3.toInt ∧ (∃ S44 : MS, S44 = wI U60 16 7 (0 : Int32) ∧ qT U60 16 = 41 ∧ wfC S44 ∧ (∃ n, v_X1_firstFault_L81 ro uo (v_X1_firstFault_L60 ro uo n60) n S44 v60_3 0)))))))
def vX1_firstFault (S : MS) (p1 : Nat) (p2 : Option Nat) (ro : Int32) (uo : MS) : Prop := ((p2 = none ∧ (ro = (-1 : Int32) ∧ uo = S)) ∨ (¬ p2 = none ∧ (∃ S2 : MS, S2 = wR S 16 8 (some p1) ∧ qT S 16 = 41 ∧ wfC S2 ∧ (∃ S3 : MS, S3 = wR S2 16 9 (some ((p2).getD 0)) ∧ qT S2 16 = 41 ∧ wfC S3 ∧ ((qR S3 16 8 = some (qO S3 16 8)) ∧ ((qR S3 16 9 = some (qO S3 16 9)) ∧ ((qR S3 16 9 = some (qO S3 16 9)) ∧ (qT S3 17 = 44 ∧ qT S3 (qO S3 16 8) = 49 ∧ qT S3 (qO S3 16 9) = 47 ∧ (∃ (S11 : MS), vX4_seek S3 17 (qO S3 16 8) (qO S3 16 9) (qI S3 (qO S3 16 9) 10) S11 ∧ wfC S11 ∧ shx S3 S11 ∧ ((qR S11 16 9 = some (qO S11 16 9)) ∧ (∃ (S17 : MS), vX1_makeRoom S11 (qI S11 (qO S11 16 9) 2) S17 ∧ wfC S17 ∧ shx S11 S17 ∧ (∃ (S21 : MS), vX1_beginBody S17 S21 ∧ wfC S21 ∧ shy S17 S21 ∧ (∃ S23 : MS, S23 = wI S21 16 7 (1 : Int32) ∧ qT S21 16 = 41 ∧ wfC S23 ∧ (∃ n, v_X1_firstFault_L60 ro uo n S23 0))))))))))))))
set_option maxRecDepth 100000 in
theorem ru_X1_firstFault_L131 {ι : Type} {P Q : Int32 → MS → Prop} : ∀ (n : Nat) {U131 : MS} {v131_3 : Int32} (i0 : ι), (∀ (i : ι) (ro : Int32) (uo : MS), (∃ n8, v_X1_firstFault_L131 ro uo n8 U131 v131_3) → P ro uo) → w_X1_firstFault_L131 Q n U131 v131_3 → w_X1_firstFault_L131 (fun r u => Q r u ∧ P r u) n U131 v131_3 := by
  intro n
  induction n with
  | zero => intro U131 v131_3 i0 K h; unfold w_X1_firstFault_L131 at h; exact h.elim
  | succ n ih =>
    intro U131 v131_3 i0 K h
    unfold w_X1_firstFault_L131 at h ⊢
    replace K := fun (i : ι × Nat) ro uo (z : v_X1_firstFault_L131 ro uo (i.2 + 1) U131 v131_3) => K i.1 ro uo ⟨i.2 + 1, z⟩
    have i00 := i0
    replace i0 : ι × Nat := (i0, 0)
    intro y1_
    replace h := h y1_
    replace K := fun i ro uo z => K i ro uo ⟨y1_, z⟩
    obtain ⟨g2_, h⟩ := h
    refine ⟨g2_, ?_⟩
    replace K := fun i ro uo z => K i ro uo ⟨g2_, z⟩
    refine ⟨fun c => ?_, fun c => ?_⟩
    · replace h := h.1 c
      replace K := fun i ro uo z => K i ro uo (Or.inl ⟨c, z⟩)
      obtain ⟨Q9, h0, h⟩ := h
      refine ⟨_, ruX1_keepTypes h0, ?_⟩
      intro S29 q3_ y4_ y5_
      replace h := h S29 q3_.1 y4_ y5_
      replace K := fun i ro uo z => K i ro uo ⟨S29, q3_.2, y4_, y5_, z⟩
      exact ⟨h, K i0 _ _ ⟨rfl, rfl⟩⟩
    · replace h := h.2 c
      replace K := fun i ro uo z => K i ro uo (Or.inr ⟨c, z⟩)
      obtain ⟨g6_, h⟩ := h
      refine ⟨g6_, ?_⟩
      replace K := fun i ro uo z => K i ro uo ⟨g6_, z⟩
      refine ⟨fun c => ?_, fun c => ?_⟩
      · replace h := h.1 c
        replace K := fun i ro uo z => K i ro uo (Or.inl ⟨c, z⟩)
        obtain ⟨Q9, h0, h⟩ := h
        refine ⟨_, ruX1_hasBadTypes h0, ?_⟩
        intro r37 S38 q7_ y8_ y9_
        replace h := h r37 S38 q7_.1 y8_ y9_
        replace K := fun i ro uo z => K i ro uo ⟨r37, S38, q7_.2, y8_, y9_, z⟩
        refine ⟨fun c => ?_, fun c => ?_⟩
        · replace h := h.1 c
          replace K := fun i ro uo z => K i ro uo (Or.inl ⟨c, z⟩)
          intro a41 ea41 
          replace h := h a41 ea41 
          replace K := fun i ro uo z => K i ro uo ⟨a41, ea41, z⟩
          exact ih i00 (fun i ro uo ⟨n8, z⟩ => K (i, n8) ro uo z) h
        · replace h := h.2 c
          replace K := fun i ro uo z => K i ro uo (Or.inr ⟨c, z⟩)
          exact ⟨h, K i0 _ _ ⟨rfl, rfl⟩⟩
      · replace h := h.2 c
        replace K := fun i ro uo z => K i ro uo (Or.inr ⟨c, z⟩)
        exact ⟨h, K i0 _ _ ⟨rfl, rfl⟩⟩
set_option maxRecDepth 100000 in
theorem ru_X1_firstFault_J129 {ι : Type} {P Q : Int32 → MS → Prop} {U129 : MS} (i0 : ι) (K : ∀ (i : ι) (ro : Int32) (uo : MS), v_X1_firstFault_J129 ro uo U129 → P ro uo) (h : w_X1_firstFault_J129 Q U129) : w_X1_firstFault_J129 (fun r u => Q r u ∧ P r u) U129 := by
  unfold w_X1_firstFault_J129 at h ⊢
  intro y10_
  replace h := h y10_
  replace K := fun i ro uo z => K i ro uo ⟨y10_, z⟩
  obtain ⟨n9, h⟩ := h
  exact ⟨n9, ru_X1_firstFault_L131 n9 i0 K h⟩
set_option maxRecDepth 100000 in
theorem ru_X1_firstFault_J117 {ι : Type} {P Q : Int32 → MS → Prop} {k81 k81' : MS → Int32 → Int32 → Prop} {k81v : ι → Int32 → MS → MS → Int32 → Int32 → Prop} {U117 : MS} {v117_3 : Int32} {v117_4 : Int32} (i0 : ι) (hk81 : ∀ (u : MS) (z0 : Int32) (z1 : Int32), k81 u z0 z1 → (∀ (i : ι) (ro : Int32) (uo : MS), k81v i ro uo u z0 z1 → P ro uo) → k81' u z0 z1) (K : ∀ (i : ι) (ro : Int32) (uo : MS), v_X1_firstFault_J117 ro uo (k81v i ro uo) U117 v117_3 v117_4 → P ro uo) (h : w_X1_firstFault_J117 Q k81 U117 v117_3 v117_4) : w_X1_firstFault_J117 (fun r u => Q r u ∧ P r u) k81' U117 v117_3 v117_4 := by
  unfold w_X1_firstFault_J117 at h ⊢
  intro y11_
  replace h := h y11_
  replace K := fun i ro uo z => K i ro uo ⟨y11_, z⟩
  intro a53 ea53 
  replace h := h a53 ea53 
  replace K := fun i ro uo z => K i ro uo ⟨a53, ea53, z⟩
  exact hk81 _ _ _ h K
set_option maxRecDepth 100000 in
theorem ru_X1_firstFault_L81 {ι : Type} {P Q : Int32 → MS → Prop} {k60 k60' : MS → Int32 → Prop} {k60v : ι → Int32 → MS → MS → Int32 → Prop} : ∀ (n : Nat) {U81 : MS} {v81_3 : Int32} {v81_4 : Int32} (i0 : ι) (hk60 : ∀ (u : MS) (z0 : Int32), k60 u z0 → (∀ (i : ι) (ro : Int32) (uo : MS), k60v i ro uo u z0 → P ro uo) → k60' u z0), (∀ (i : ι) (ro : Int32) (uo : MS), (∃ n8, v_X1_firstFault_L81 ro uo (k60v i ro uo) n8 U81 v81_3 v81_4) → P ro uo) → w_X1_firstFault_L81 Q k60 n U81 v81_3 v81_4 → w_X1_firstFault_L81 (fun r u => Q r u ∧ P r u) k60' n U81 v81_3 v81_4 := by
  intro n
  induction n with
  | zero => intro U81 v81_3 v81_4 i0 hk60 K h; unfold w_X1_firstFault_L81 at h; exact h.elim
  | succ n ih =>
    intro U81 v81_3 v81_4 i0 hk60 K h
    unfold w_X1_firstFault_L81 at h ⊢
    replace K := fun (i : ι × Nat) ro uo (z : v_X1_firstFault_L81 ro uo (k60v i.1 ro uo) (i.2 + 1) U81 v81_3 v81_4) => K i.1 ro uo ⟨i.2 + 1, z⟩
    have i00 := i0
    replace i0 : ι × Nat := (i0, 0)
    intro y12_
    replace h := h y12_
    replace K := fun i ro uo z => K i ro uo ⟨y12_, z⟩
    obtain ⟨g13_, h⟩ := h
    refine ⟨g13_, ?_⟩
    replace K := fun i ro uo z => K i ro uo ⟨g13_, z⟩
    refine ⟨fun c => ?_, fun c => ?_⟩
    · replace h := h.1 c
      replace K := fun i ro uo z => K i ro uo (Or.inl ⟨c, z⟩)
      intro a48 ea48 
      replace h := h a48 ea48 
      replace K := fun i ro uo z => K i ro uo ⟨a48, ea48, z⟩
      exact hk60 _ _ h (fun i ro uo z => K (i, 0) ro uo z)
    · replace h := h.2 c
      replace K := fun i ro uo z => K i ro uo (Or.inr ⟨c, z⟩)
      obtain ⟨g14_, h⟩ := h
      refine ⟨g14_, ?_⟩
      replace K := fun i ro uo z => K i ro uo ⟨g14_, z⟩
      refine ⟨fun c => ?_, fun c => ?_⟩
      · replace h := h.1 c
        replace K := fun i ro uo z => K i ro uo (Or.inl ⟨c, z⟩)
        exact ru_X1_firstFault_J117 i0 (fun _ _ _ h K => ih i00 hk60 (fun i ro uo ⟨n8, z⟩ => K (i, n8) ro uo z) h) K h
      · replace h := h.2 c
        replace K := fun i ro uo z => K i ro uo (Or.inr ⟨c, z⟩)
        obtain ⟨g15_, h⟩ := h
        refine ⟨g15_, ?_⟩
        replace K := fun i ro uo z => K i ro uo ⟨g15_, z⟩
        intro S57 eS57 y16_ y17_
        replace h := h S57 eS57 y16_ y17_
        replace K := fun i ro uo z => K i ro uo ⟨S57, eS57, y16_, y17_, z⟩
        obtain ⟨Q9, h0, h⟩ := h
        refine ⟨_, ruX1_flowFrom h0, ?_⟩
        intro S59 q18_ y19_ y20_
        replace h := h S59 q18_.1 y19_ y20_
        replace K := fun i ro uo z => K i ro uo ⟨S59, q18_.2, y19_, y20_, z⟩
        exact ru_X1_firstFault_J117 i0 (fun _ _ _ h K => ih i00 hk60 (fun i ro uo ⟨n8, z⟩ => K (i, n8) ro uo z) h) K h
set_option maxRecDepth 100000 in
theorem ru_X1_firstFault_L60 {ι : Type} {P Q : Int32 → MS → Prop} : ∀ (n : Nat) {U60 : MS} {v60_3 : Int32} (i0 : ι), (∀ (i : ι) (ro : Int32) (uo : MS), (∃ n8, v_X1_firstFault_L60 ro uo n8 U60 v60_3) → P ro uo) → w_X1_firstFault_L60 Q n U60 v60_3 → w_X1_firstFault_L60 (fun r u => Q r u ∧ P r u) n U60 v60_3 := by
  intro n
  induction n with
  | zero => intro U60 v60_3 i0 K h; unfold w_X1_firstFault_L60 at h; exact h.elim
  | succ n ih =>
    intro U60 v60_3 i0 K h
    unfold w_X1_firstFault_L60 at h ⊢
    replace K := fun (i : ι × Nat) ro uo (z : v_X1_firstFault_L60 ro uo (i.2 + 1) U60 v60_3) => K i.1 ro uo ⟨i.2 + 1, z⟩
    have i00 := i0
    replace i0 : ι × Nat := (i0, 0)
    intro y21_
    replace h := h y21_
    replace K := fun i ro uo z => K i ro uo ⟨y21_, z⟩
    refine ⟨fun c => ?_, fun c => ?_⟩
    · replace h := h.1 c
      replace K := fun i ro uo z => K i ro uo (Or.inl ⟨c, z⟩)
      exact ru_X1_firstFault_J129 i0 K h
    · replace h := h.2 c
      replace K := fun i ro uo z => K i ro uo (Or.inr ⟨c, z⟩)
      refine ⟨fun c => ?_, fun c => ?_⟩
      · replace h := h.1 c
        replace K := fun i ro uo z => K i ro uo (Or.inl ⟨c, z⟩)
        exact ru_X1_firstFault_J129 i0 K h
      · replace h := h.2 c
        replace K := fun i ro uo z => K i ro uo (Or.inr ⟨c, z⟩)
        intro S44 eS44 y22_ y23_
        replace h := h S44 eS44 y22_ y23_
        replace K := fun i ro uo z => K i ro uo ⟨S44, eS44, y22_, y23_, z⟩
        obtain ⟨n9, h⟩ := h
        exact ⟨n9, ru_X1_firstFault_L81 n9 i0 (fun _ _ h K => ih i00 (fun i ro uo ⟨n8, z⟩ => K (i, n8) ro uo z) h) K h⟩
set_option maxRecDepth 100000 in
theorem ruX1_firstFault {S : MS} {p1 : Nat} {p2 : Option Nat} {Q : Int32 → MS → Prop} (h : wX1_firstFault S p1 p2 Q) : wX1_firstFault S p1 p2 (fun r u => Q r u ∧ vX1_firstFault S p1 p2 r u) := by
  have i0 : Unit := ()
  have K : ∀ (i : Unit) (ro : Int32) (uo : MS), vX1_firstFault S p1 p2 ro uo → vX1_firstFault S p1 p2 ro uo := fun _ _ _ z => z
  unfold wX1_firstFault at h ⊢
  refine ⟨fun c => ?_, fun c => ?_⟩
  · replace h := h.1 c
    replace K := fun i ro uo z => K i ro uo (Or.inl ⟨c, z⟩)
    exact ⟨h, K i0 _ _ ⟨rfl, rfl⟩⟩
  · replace h := h.2 c
    replace K := fun i ro uo z => K i ro uo (Or.inr ⟨c, z⟩)
    intro S2 eS2 y24_ y25_
    replace h := h S2 eS2 y24_ y25_
    replace K := fun i ro uo z => K i ro uo ⟨S2, eS2, y24_, y25_, z⟩
    intro S3 eS3 y26_ y27_
    replace h := h S3 eS3 y26_ y27_
    replace K := fun i ro uo z => K i ro uo ⟨S3, eS3, y26_, y27_, z⟩
    obtain ⟨g28_, h⟩ := h
    refine ⟨g28_, ?_⟩
    replace K := fun i ro uo z => K i ro uo ⟨g28_, z⟩
    obtain ⟨g29_, h⟩ := h
    refine ⟨g29_, ?_⟩
    replace K := fun i ro uo z => K i ro uo ⟨g29_, z⟩
    obtain ⟨g30_, h⟩ := h
    refine ⟨g30_, ?_⟩
    replace K := fun i ro uo z => K i ro uo ⟨g30_, z⟩
    intro y31_ y32_ y33_
    replace h := h y31_ y32_ y33_
    replace K := fun i ro uo z => K i ro uo ⟨y31_, y32_, y33_, z⟩
    obtain ⟨Q9, h0, h⟩ := h
    refine ⟨_, ruX4_seek h0, ?_⟩
    intro S11 q34_ y35_ y36_
    replace h := h S11 q34_.1 y35_ y36_
    replace K := fun i ro uo z => K i ro uo ⟨S11, q34_.2, y35_, y36_, z⟩
    obtain ⟨g37_, h⟩ := h
    refine ⟨g37_, ?_⟩
    replace K := fun i ro uo z => K i ro uo ⟨g37_, z⟩
    obtain ⟨Q9, h0, h⟩ := h
    refine ⟨_, ruX1_makeRoom h0, ?_⟩
    intro S17 q38_ y39_ y40_
    replace h := h S17 q38_.1 y39_ y40_
    replace K := fun i ro uo z => K i ro uo ⟨S17, q38_.2, y39_, y40_, z⟩
    obtain ⟨Q9, h0, h⟩ := h
    refine ⟨_, ruX1_beginBody h0, ?_⟩
    intro S21 q41_ y42_ y43_
    replace h := h S21 q41_.1 y42_ y43_
    replace K := fun i ro uo z => K i ro uo ⟨S21, q41_.2, y42_, y43_, z⟩
    intro S23 eS23 y44_ y45_
    replace h := h S23 eS23 y44_ y45_
    replace K := fun i ro uo z => K i ro uo ⟨S23, eS23, y44_, y45_, z⟩
    obtain ⟨n9, h⟩ := h
    exact ⟨n9, ru_X1_firstFault_L60 n9 i0 K h⟩
set_option maxRecDepth 100000 in
theorem vw_X1_firstFault_L131 {ro : Int32} {uo : MS} : ∀ (n : Nat) {U131 : MS} {v131_3 : Int32}, v_X1_firstFault_L131 ro uo n U131 v131_3 → w_X1_firstFault_L131 (fun r u => r = ro ∧ u = uo) n U131 v131_3 := by
  intro n
  induction n with
  | zero => intro U131 v131_3 h; unfold v_X1_firstFault_L131 at h; exact h.elim
  | succ n ih =>
    intro U131 v131_3 h
    unfold v_X1_firstFault_L131 at h
    unfold w_X1_firstFault_L131
    intro _
    replace h := h.2
    obtain ⟨g9, h⟩ := h
    refine ⟨g9, ?_⟩
    rcases h with ⟨c, h⟩ | ⟨c, h⟩
    · refine ⟨fun _ => ?_, fun c2 => absurd c c2⟩
      obtain ⟨q9, z9, h⟩ := h
      refine ⟨_, vwX1_keepTypes z9, ?_⟩
      intro q8 d9 _ _
      subst d9
      replace h := h.2.2
      exact ⟨h.1.symm, h.2.symm⟩
    · refine ⟨fun c2 => absurd c2 c, fun _ => ?_⟩
      obtain ⟨g9, h⟩ := h
      refine ⟨g9, ?_⟩
      rcases h with ⟨c, h⟩ | ⟨c, h⟩
      · refine ⟨fun _ => ?_, fun c2 => absurd c c2⟩
        obtain ⟨p9, q9, z9, h⟩ := h
        refine ⟨_, vwX1_hasBadTypes z9, ?_⟩
        rintro p8 q8 ⟨d8, d9⟩ _ _
        subst d8
        subst d9
        replace h := h.2.2
        rcases h with ⟨c, h⟩ | ⟨c, h⟩
        · refine ⟨fun _ => ?_, fun c2 => absurd c c2⟩
          obtain ⟨v9, e9, h⟩ := h
          intro x9 d9 
          have c9 : v9 = x9 := e9.trans d9.symm
          subst c9
          exact ih h
        · refine ⟨fun c2 => absurd c2 c, fun _ => ?_⟩
          exact ⟨h.1.symm, h.2.symm⟩
      · refine ⟨fun c2 => absurd c2 c, fun _ => ?_⟩
        exact ⟨h.1.symm, h.2.symm⟩
set_option maxRecDepth 100000 in
theorem vp_X1_firstFault_L131 {ro : Int32} {uo : MS} {P : Int32 → MS → Prop} : ∀ (n m : Nat) {U131 : MS} {v131_3 : Int32}, v_X1_firstFault_L131 ro uo n U131 v131_3 → w_X1_firstFault_L131 P m U131 v131_3 → P ro uo := by
  intro n
  induction n with
  | zero => intro m U131 v131_3 h; unfold v_X1_firstFault_L131 at h; exact h.elim
  | succ n ih =>
    intro m U131 v131_3 h w
    cases m with
    | zero => unfold w_X1_firstFault_L131 at w; exact w.elim
    | succ m =>
      unfold v_X1_firstFault_L131 at h
      unfold w_X1_firstFault_L131 at w
      obtain ⟨y1_, h⟩ := h
      replace w := w y1_
      replace h := h.2
      replace w := w.2
      rcases h with ⟨c, h⟩ | ⟨c, h⟩
      · replace w := w.1 c
        obtain ⟨q9, z9, y2_, y3_, h⟩ := h
        obtain ⟨Q9, w0, w⟩ := w
        replace w := w q9 (vpX1_keepTypes z9 w0) y2_ y3_
        rw [h.1, h.2]
        exact w
      · replace w := w.2 c
        replace h := h.2
        replace w := w.2
        rcases h with ⟨c, h⟩ | ⟨c, h⟩
        · replace w := w.1 c
          obtain ⟨p9, q9, z9, y4_, y5_, h⟩ := h
          obtain ⟨Q9, w0, w⟩ := w
          replace w := w p9 q9 (vpX1_hasBadTypes z9 w0) y4_ y5_
          rcases h with ⟨c, h⟩ | ⟨c, h⟩
          · replace w := w.1 c
            obtain ⟨v9, e9, h⟩ := h
            replace w := w v9 e9 
            exact ih m h w
          · replace w := w.2 c
            rw [h.1, h.2]
            exact w
        · replace w := w.2 c
          rw [h.1, h.2]
          exact w
set_option maxRecDepth 100000 in
theorem vw_X1_firstFault_J129 {ro : Int32} {uo : MS} {U129 : MS} (h : v_X1_firstFault_J129 ro uo U129) : w_X1_firstFault_J129 (fun r u => r = ro ∧ u = uo) U129 := by
  unfold v_X1_firstFault_J129 at h
  unfold w_X1_firstFault_J129
  intro _
  replace h := h.2
  obtain ⟨n9, h⟩ := h
  exact ⟨n9, vw_X1_firstFault_L131 n9 h⟩
set_option maxRecDepth 100000 in
theorem vp_X1_firstFault_J129 {ro : Int32} {uo : MS} {P : Int32 → MS → Prop} {U129 : MS} (h : v_X1_firstFault_J129 ro uo U129) (w : w_X1_firstFault_J129 P U129) : P ro uo := by
  unfold v_X1_firstFault_J129 at h
  unfold w_X1_firstFault_J129 at w
  obtain ⟨y6_, h⟩ := h
  replace w := w y6_
  obtain ⟨n9, h⟩ := h
  obtain ⟨n8, w⟩ := w
  exact vp_X1_firstFault_L131 n9 n8 h w
set_option maxRecDepth 100000 in
theorem vw_X1_firstFault_J117 {ro : Int32} {uo : MS} {k81 k81v : MS → Int32 → Int32 → Prop} {U117 : MS} {v117_3 : Int32} {v117_4 : Int32} (hk81 : ∀ (u : MS) (z0 : Int32) (z1 : Int32), k81v u z0 z1 → k81 u z0 z1) (h : v_X1_firstFault_J117 ro uo k81v U117 v117_3 v117_4) : w_X1_firstFault_J117 (fun r u => r = ro ∧ u = uo) k81 U117 v117_3 v117_4 := by
  unfold v_X1_firstFault_J117 at h
  unfold w_X1_firstFault_J117
  intro _
  replace h := h.2
  obtain ⟨v9, e9, h⟩ := h
  intro x9 d9 
  have c9 : v9 = x9 := e9.trans d9.symm
  subst c9
  exact hk81 _ _ _ h
set_option maxRecDepth 100000 in
theorem vp_X1_firstFault_J117 {ro : Int32} {uo : MS} {P : Int32 → MS → Prop} {k81 k81v : MS → Int32 → Int32 → Prop} {U117 : MS} {v117_3 : Int32} {v117_4 : Int32} (hk81 : ∀ (u : MS) (z0 : Int32) (z1 : Int32), k81v u z0 z1 → k81 u z0 z1 → P ro uo) (h : v_X1_firstFault_J117 ro uo k81v U117 v117_3 v117_4) (w : w_X1_firstFault_J117 P k81 U117 v117_3 v117_4) : P ro uo := by
  unfold v_X1_firstFault_J117 at h
  unfold w_X1_firstFault_J117 at w
  obtain ⟨y7_, h⟩ := h
  replace w := w y7_
  obtain ⟨v9, e9, h⟩ := h
  replace w := w v9 e9 
  exact hk81 _ _ _ h w
set_option maxRecDepth 100000 in
theorem vw_X1_firstFault_L81 {ro : Int32} {uo : MS} {k60 k60v : MS → Int32 → Prop} : ∀ (n : Nat) {U81 : MS} {v81_3 : Int32} {v81_4 : Int32} (hk60 : ∀ (u : MS) (z0 : Int32), k60v u z0 → k60 u z0), v_X1_firstFault_L81 ro uo k60v n U81 v81_3 v81_4 → w_X1_firstFault_L81 (fun r u => r = ro ∧ u = uo) k60 n U81 v81_3 v81_4 := by
  intro n
  induction n with
  | zero => intro U81 v81_3 v81_4 hk60 h; unfold v_X1_firstFault_L81 at h; exact h.elim
  | succ n ih =>
    intro U81 v81_3 v81_4 hk60 h
    unfold v_X1_firstFault_L81 at h
    unfold w_X1_firstFault_L81
    intro _
    replace h := h.2
    obtain ⟨g9, h⟩ := h
    refine ⟨g9, ?_⟩
    rcases h with ⟨c, h⟩ | ⟨c, h⟩
    · refine ⟨fun _ => ?_, fun c2 => absurd c c2⟩
      obtain ⟨v9, e9, h⟩ := h
      intro x9 d9 
      have c9 : v9 = x9 := e9.trans d9.symm
      subst c9
      exact hk60 _ _ h
    · refine ⟨fun c2 => absurd c2 c, fun _ => ?_⟩
      obtain ⟨g9, h⟩ := h
      refine ⟨g9, ?_⟩
      rcases h with ⟨c, h⟩ | ⟨c, h⟩
      · refine ⟨fun _ => ?_, fun c2 => absurd c c2⟩
        exact vw_X1_firstFault_J117 (fun _ _ _ h => ih hk60 h) h
      · refine ⟨fun c2 => absurd c2 c, fun _ => ?_⟩
        obtain ⟨g9, h⟩ := h
        refine ⟨g9, ?_⟩
        obtain ⟨v9, e9, h⟩ := h
        intro x9 d9 _ _
        have c9 : v9 = x9 := e9.trans d9.symm
        subst c9
        replace h := h.2.2
        obtain ⟨q9, z9, h⟩ := h
        refine ⟨_, vwX1_flowFrom z9, ?_⟩
        intro q8 d9 _ _
        subst d9
        replace h := h.2.2
        exact vw_X1_firstFault_J117 (fun _ _ _ h => ih hk60 h) h
set_option maxRecDepth 100000 in
theorem vp_X1_firstFault_L81 {ro : Int32} {uo : MS} {P : Int32 → MS → Prop} {k60 k60v : MS → Int32 → Prop} : ∀ (n m : Nat) {U81 : MS} {v81_3 : Int32} {v81_4 : Int32} (hk60 : ∀ (u : MS) (z0 : Int32), k60v u z0 → k60 u z0 → P ro uo), v_X1_firstFault_L81 ro uo k60v n U81 v81_3 v81_4 → w_X1_firstFault_L81 P k60 m U81 v81_3 v81_4 → P ro uo := by
  intro n
  induction n with
  | zero => intro m U81 v81_3 v81_4 hk60 h; unfold v_X1_firstFault_L81 at h; exact h.elim
  | succ n ih =>
    intro m U81 v81_3 v81_4 hk60 h w
    cases m with
    | zero => unfold w_X1_firstFault_L81 at w; exact w.elim
    | succ m =>
      unfold v_X1_firstFault_L81 at h
      unfold w_X1_firstFault_L81 at w
      obtain ⟨y8_, h⟩ := h
      replace w := w y8_
      replace h := h.2
      replace w := w.2
      rcases h with ⟨c, h⟩ | ⟨c, h⟩
      · replace w := w.1 c
        obtain ⟨v9, e9, h⟩ := h
        replace w := w v9 e9 
        exact hk60 _ _ h w
      · replace w := w.2 c
        replace h := h.2
        replace w := w.2
        rcases h with ⟨c, h⟩ | ⟨c, h⟩
        · replace w := w.1 c
          exact vp_X1_firstFault_J117 (fun _ _ _ h w => ih m hk60 h w) h w
        · replace w := w.2 c
          replace h := h.2
          replace w := w.2
          obtain ⟨v9, e9, y9_, y10_, h⟩ := h
          replace w := w v9 e9 y9_ y10_
          obtain ⟨q9, z9, y11_, y12_, h⟩ := h
          obtain ⟨Q9, w0, w⟩ := w
          replace w := w q9 (vpX1_flowFrom z9 w0) y11_ y12_
          exact vp_X1_firstFault_J117 (fun _ _ _ h w => ih m hk60 h w) h w
set_option maxRecDepth 100000 in
theorem vw_X1_firstFault_L60 {ro : Int32} {uo : MS} : ∀ (n : Nat) {U60 : MS} {v60_3 : Int32}, v_X1_firstFault_L60 ro uo n U60 v60_3 → w_X1_firstFault_L60 (fun r u => r = ro ∧ u = uo) n U60 v60_3 := by
  intro n
  induction n with
  | zero => intro U60 v60_3 h; unfold v_X1_firstFault_L60 at h; exact h.elim
  | succ n ih =>
    intro U60 v60_3 h
    unfold v_X1_firstFault_L60 at h
    unfold w_X1_firstFault_L60
    intro _
    replace h := h.2
    rcases h with ⟨c, h⟩ | ⟨c, h⟩
    · refine ⟨fun _ => ?_, fun c2 => absurd c c2⟩
      exact vw_X1_firstFault_J129 h
    · refine ⟨fun c2 => absurd c2 c, fun _ => ?_⟩
      rcases h with ⟨c, h⟩ | ⟨c, h⟩
      · refine ⟨fun _ => ?_, fun c2 => absurd c c2⟩
        exact vw_X1_firstFault_J129 h
      · refine ⟨fun c2 => absurd c2 c, fun _ => ?_⟩
        obtain ⟨v9, e9, h⟩ := h
        intro x9 d9 _ _
        have c9 : v9 = x9 := e9.trans d9.symm
        subst c9
        replace h := h.2.2
        obtain ⟨n9, h⟩ := h
        exact ⟨n9, vw_X1_firstFault_L81 n9 (fun _ _ h => ih h) h⟩
set_option maxRecDepth 100000 in
theorem vp_X1_firstFault_L60 {ro : Int32} {uo : MS} {P : Int32 → MS → Prop} : ∀ (n m : Nat) {U60 : MS} {v60_3 : Int32}, v_X1_firstFault_L60 ro uo n U60 v60_3 → w_X1_firstFault_L60 P m U60 v60_3 → P ro uo := by
  intro n
  induction n with
  | zero => intro m U60 v60_3 h; unfold v_X1_firstFault_L60 at h; exact h.elim
  | succ n ih =>
    intro m U60 v60_3 h w
    cases m with
    | zero => unfold w_X1_firstFault_L60 at w; exact w.elim
    | succ m =>
      unfold v_X1_firstFault_L60 at h
      unfold w_X1_firstFault_L60 at w
      obtain ⟨y13_, h⟩ := h
      replace w := w y13_
      rcases h with ⟨c, h⟩ | ⟨c, h⟩
      · replace w := w.1 c
        exact vp_X1_firstFault_J129 h w
      · replace w := w.2 c
        rcases h with ⟨c, h⟩ | ⟨c, h⟩
        · replace w := w.1 c
          exact vp_X1_firstFault_J129 h w
        · replace w := w.2 c
          obtain ⟨v9, e9, y14_, y15_, h⟩ := h
          replace w := w v9 e9 y14_ y15_
          obtain ⟨n9, h⟩ := h
          obtain ⟨n8, w⟩ := w
          exact vp_X1_firstFault_L81 n9 n8 (fun _ _ h w => ih m h w) h w
set_option maxRecDepth 100000 in
theorem vwX1_firstFault {S : MS} {p1 : Nat} {p2 : Option Nat} {ro : Int32} {uo : MS} (h : vX1_firstFault S p1 p2 ro uo) : wX1_firstFault S p1 p2 (fun r u => r = ro ∧ u = uo) := by
  unfold vX1_firstFault at h
  unfold wX1_firstFault
  rcases h with ⟨c, h⟩ | ⟨c, h⟩
  · refine ⟨fun _ => ?_, fun c2 => absurd c c2⟩
    exact ⟨h.1.symm, h.2.symm⟩
  · refine ⟨fun c2 => absurd c2 c, fun _ => ?_⟩
    obtain ⟨v9, e9, h⟩ := h
    intro x9 d9 _ _
    have c9 : v9 = x9 := e9.trans d9.symm
    subst c9
    replace h := h.2.2
    obtain ⟨v9, e9, h⟩ := h
    intro x9 d9 _ _
    have c9 : v9 = x9 := e9.trans d9.symm
    subst c9
    replace h := h.2.2
    obtain ⟨g9, h⟩ := h
    refine ⟨g9, ?_⟩
    obtain ⟨g9, h⟩ := h
    refine ⟨g9, ?_⟩
    obtain ⟨g9, h⟩ := h
    refine ⟨g9, ?_⟩
    intro _ _ _
    replace h := h.2.2.2
    obtain ⟨q9, z9, h⟩ := h
    refine ⟨_, vwX4_seek z9, ?_⟩
    intro q8 d9 _ _
    subst d9
    replace h := h.2.2
    obtain ⟨g9, h⟩ := h
    refine ⟨g9, ?_⟩
    obtain ⟨q9, z9, h⟩ := h
    refine ⟨_, vwX1_makeRoom z9, ?_⟩
    intro q8 d9 _ _
    subst d9
    replace h := h.2.2
    obtain ⟨q9, z9, h⟩ := h
    refine ⟨_, vwX1_beginBody z9, ?_⟩
    intro q8 d9 _ _
    subst d9
    replace h := h.2.2
    obtain ⟨v9, e9, h⟩ := h
    intro x9 d9 _ _
    have c9 : v9 = x9 := e9.trans d9.symm
    subst c9
    replace h := h.2.2
    obtain ⟨n9, h⟩ := h
    exact ⟨n9, vw_X1_firstFault_L60 n9 h⟩
set_option maxRecDepth 100000 in
theorem vpX1_firstFault {S : MS} {p1 : Nat} {p2 : Option Nat} {ro : Int32} {uo : MS} {P : Int32 → MS → Prop} (h : vX1_firstFault S p1 p2 ro uo) (w : wX1_firstFault S p1 p2 P) : P ro uo := by
  unfold vX1_firstFault at h
  unfold wX1_firstFault at w
  rcases h with ⟨c, h⟩ | ⟨c, h⟩
  · replace w := w.1 c
    rw [h.1, h.2]
    exact w
  · replace w := w.2 c
    obtain ⟨v9, e9, y16_, y17_, h⟩ := h
    replace w := w v9 e9 y16_ y17_
    obtain ⟨v9, e9, y18_, y19_, h⟩ := h
    replace w := w v9 e9 y18_ y19_
    replace h := h.2
    replace w := w.2
    replace h := h.2
    replace w := w.2
    replace h := h.2
    replace w := w.2
    obtain ⟨y20_, y21_, y22_, h⟩ := h
    replace w := w y20_ y21_ y22_
    obtain ⟨q9, z9, y23_, y24_, h⟩ := h
    obtain ⟨Q9, w0, w⟩ := w
    replace w := w q9 (vpX4_seek z9 w0) y23_ y24_
    replace h := h.2
    replace w := w.2
    obtain ⟨q9, z9, y25_, y26_, h⟩ := h
    obtain ⟨Q9, w0, w⟩ := w
    replace w := w q9 (vpX1_makeRoom z9 w0) y25_ y26_
    obtain ⟨q9, z9, y27_, y28_, h⟩ := h
    obtain ⟨Q9, w0, w⟩ := w
    replace w := w q9 (vpX1_beginBody z9 w0) y27_ y28_
    obtain ⟨v9, e9, y29_, y30_, h⟩ := h
    replace w := w v9 e9 y29_ y30_
    obtain ⟨n9, h⟩ := h
    obtain ⟨n8, w⟩ := w
    exact vp_X1_firstFault_L60 n9 n8 h w
def v_X2_unitOf_L41 (ro : Option Nat) (uo : MS) : Nat → MS → Nat → Int32 → Prop
  | 0, _, _, _ => False
  | n41 + 1, U41, v41_2, v41_3 => (wfC U41 ∧ qT U41 v41_2 = 49 ∧ ((qR U41 v41_2 13 = some (qO U41 v41_2 13)) ∧ (((qN U41 (qO U41 v41_2 13) : Int) ≤ v41_3.toInt ∧ (ro = (some v41_2) ∧ uo = U41)) ∨ (¬ (qN U41 (qO U41 v41_2 13) : Int) ≤ v41_3.toInt ∧ ((qR U41 v41_2 13 = some (qO U41 v41_2 13)) ∧ (∃ (b38 : Nat) (S35 : MS), vX2_rowOf U41 v41_3 b38 S35 ∧ wfC S35 ∧ shx U41 S35 ∧ qT S35 b38 = 47 ∧ (((0 : Int) ≤ v41_3.toInt ∧ v41_3.toInt < (qN S35 (qO U41 v41_2 13) : Int)) ∧ (∃ S40 : MS, S40 = wR S35 (qO U41 v41_2 13) v41_3.toInt.toNat (some b38) ∧ qT S35 (qO U41 v41_2 13) = 6 ∧ wfC S40 ∧ ((qR S40 v41_2 13 = some (qO S40 v41_2 13)) ∧ (((0 : Int) ≤ v41_3.toInt ∧ v41_3.toInt < (qN S40 (qO S40 v41_2 13) : Int)) ∧ ((qR S40 (qO S40 v41_2 13) v41_3.toInt.toNat = some (qO S40 (qO S40 v41_2 13) v41_3.toInt.toNat)) ∧ (∃ S47 : MS, S47 = wI S40 v41_2 14 ((qI S40 v41_2 14) + (qI S40 (qO S40 (qO S40 v41_2 13) v41_3.toInt.toNat) 2)) ∧ qT S40 v41_2 = 49 ∧ wfC S47 ∧ (∃ a48 : Int32, a48 = (v41_3 + Int32.ofInt 1) ∧ ((v_X2_unitOf_L41 ro uo n41) S47 v41_2 a48))))))))))))))
def vX2_unitOf (S : MS) (p1 : Nat) (ro : Option Nat) (uo : MS) : Prop := (qT S p1 = 40 ∧ (∃ (r2 : Int32) (S3 : MS), vX7_isSound S p1 r2 S3 ∧ wfC S3 ∧ shy S S3 ∧ ((r2.toInt = 0 ∧ (ro = none ∧ uo = S3)) ∨ (¬ r2.toInt = 0 ∧ (∃ (r7 : Int32) (S8 : MS), vX2_limitsHold S3 r7 S8 ∧ wfC S8 ∧ shy S3 S8 ∧ ((r7.toInt = 0 ∧ (ro = none ∧ uo = S8)) ∨ (¬ r7.toInt = 0 ∧ (∃ (r12 : Int32) (S13 : MS), vX2_instructionsHold S8 r12 S13 ∧ wfC S13 ∧ shy S8 S13 ∧ ((r12.toInt = 0 ∧ (ro = none ∧ uo = S13)) ∨ (¬ r12.toInt = 0 ∧ (∃ (r17 : Int32) (S18 : MS), vX2_pointersHold S13 r17 S18 ∧ wfC S18 ∧ shy S13 S18 ∧ ((r17.toInt = 0 ∧ (ro = none ∧ uo = S18)) ∨ (¬ r17.toInt = 0 ∧ (∃ (b26 : Nat) (S23 : MS), vX2_build S18 b26 S23 ∧ wfC S23 ∧ shx S18 S23 ∧ qT S23 b26 = 49 ∧ (∃ n, v_X2_unitOf_L41 ro uo n S23 b26 0)))))))))))))))
set_option maxRecDepth 100000 in
theorem ru_X2_unitOf_L41 {ι : Type} {P Q : Option Nat → MS → Prop} : ∀ (n : Nat) {U41 : MS} {v41_2 : Nat} {v41_3 : Int32} (i0 : ι), (∀ (i : ι) (ro : Option Nat) (uo : MS), (∃ n8, v_X2_unitOf_L41 ro uo n8 U41 v41_2 v41_3) → P ro uo) → w_X2_unitOf_L41 Q n U41 v41_2 v41_3 → w_X2_unitOf_L41 (fun r u => Q r u ∧ P r u) n U41 v41_2 v41_3 := by
  intro n
  induction n with
  | zero => intro U41 v41_2 v41_3 i0 K h; unfold w_X2_unitOf_L41 at h; exact h.elim
  | succ n ih =>
    intro U41 v41_2 v41_3 i0 K h
    unfold w_X2_unitOf_L41 at h ⊢
    replace K := fun (i : ι × Nat) ro uo (z : v_X2_unitOf_L41 ro uo (i.2 + 1) U41 v41_2 v41_3) => K i.1 ro uo ⟨i.2 + 1, z⟩
    have i00 := i0
    replace i0 : ι × Nat := (i0, 0)
    intro y1_ y2_
    replace h := h y1_ y2_
    replace K := fun i ro uo z => K i ro uo ⟨y1_, y2_, z⟩
    obtain ⟨g3_, h⟩ := h
    refine ⟨g3_, ?_⟩
    replace K := fun i ro uo z => K i ro uo ⟨g3_, z⟩
    refine ⟨fun c => ?_, fun c => ?_⟩
    · replace h := h.1 c
      replace K := fun i ro uo z => K i ro uo (Or.inl ⟨c, z⟩)
      exact ⟨h, K i0 _ _ ⟨rfl, rfl⟩⟩
    · replace h := h.2 c
      replace K := fun i ro uo z => K i ro uo (Or.inr ⟨c, z⟩)
      obtain ⟨g4_, h⟩ := h
      refine ⟨g4_, ?_⟩
      replace K := fun i ro uo z => K i ro uo ⟨g4_, z⟩
      obtain ⟨Q9, h0, h⟩ := h
      refine ⟨_, ruX2_rowOf h0, ?_⟩
      intro b38 S35 q5_ y6_ y7_ y8_
      replace h := h b38 S35 q5_.1 y6_ y7_ y8_
      replace K := fun i ro uo z => K i ro uo ⟨b38, S35, q5_.2, y6_, y7_, y8_, z⟩
      obtain ⟨g9_, h⟩ := h
      refine ⟨g9_, ?_⟩
      replace K := fun i ro uo z => K i ro uo ⟨g9_, z⟩
      intro S40 eS40 y10_ y11_
      replace h := h S40 eS40 y10_ y11_
      replace K := fun i ro uo z => K i ro uo ⟨S40, eS40, y10_, y11_, z⟩
      obtain ⟨g12_, h⟩ := h
      refine ⟨g12_, ?_⟩
      replace K := fun i ro uo z => K i ro uo ⟨g12_, z⟩
      obtain ⟨g13_, h⟩ := h
      refine ⟨g13_, ?_⟩
      replace K := fun i ro uo z => K i ro uo ⟨g13_, z⟩
      obtain ⟨g14_, h⟩ := h
      refine ⟨g14_, ?_⟩
      replace K := fun i ro uo z => K i ro uo ⟨g14_, z⟩
      intro S47 eS47 y15_ y16_
      replace h := h S47 eS47 y15_ y16_
      replace K := fun i ro uo z => K i ro uo ⟨S47, eS47, y15_, y16_, z⟩
      intro a48 ea48 
      replace h := h a48 ea48 
      replace K := fun i ro uo z => K i ro uo ⟨a48, ea48, z⟩
      exact ih i00 (fun i ro uo ⟨n8, z⟩ => K (i, n8) ro uo z) h
set_option maxRecDepth 100000 in
theorem ruX2_unitOf {S : MS} {p1 : Nat} {Q : Option Nat → MS → Prop} (h : wX2_unitOf S p1 Q) : wX2_unitOf S p1 (fun r u => Q r u ∧ vX2_unitOf S p1 r u) := by
  have i0 : Unit := ()
  have K : ∀ (i : Unit) (ro : Option Nat) (uo : MS), vX2_unitOf S p1 ro uo → vX2_unitOf S p1 ro uo := fun _ _ _ z => z
  unfold wX2_unitOf at h ⊢
  intro y17_
  replace h := h y17_
  replace K := fun i ro uo z => K i ro uo ⟨y17_, z⟩
  obtain ⟨Q9, h0, h⟩ := h
  refine ⟨_, ruX7_isSound h0, ?_⟩
  intro r2 S3 q18_ y19_ y20_
  replace h := h r2 S3 q18_.1 y19_ y20_
  replace K := fun i ro uo z => K i ro uo ⟨r2, S3, q18_.2, y19_, y20_, z⟩
  refine ⟨fun c => ?_, fun c => ?_⟩
  · replace h := h.1 c
    replace K := fun i ro uo z => K i ro uo (Or.inl ⟨c, z⟩)
    exact ⟨h, K i0 _ _ ⟨rfl, rfl⟩⟩
  · replace h := h.2 c
    replace K := fun i ro uo z => K i ro uo (Or.inr ⟨c, z⟩)
    obtain ⟨Q9, h0, h⟩ := h
    refine ⟨_, ruX2_limitsHold h0, ?_⟩
    intro r7 S8 q21_ y22_ y23_
    replace h := h r7 S8 q21_.1 y22_ y23_
    replace K := fun i ro uo z => K i ro uo ⟨r7, S8, q21_.2, y22_, y23_, z⟩
    refine ⟨fun c => ?_, fun c => ?_⟩
    · replace h := h.1 c
      replace K := fun i ro uo z => K i ro uo (Or.inl ⟨c, z⟩)
      exact ⟨h, K i0 _ _ ⟨rfl, rfl⟩⟩
    · replace h := h.2 c
      replace K := fun i ro uo z => K i ro uo (Or.inr ⟨c, z⟩)
      obtain ⟨Q9, h0, h⟩ := h
      refine ⟨_, ruX2_instructionsHold h0, ?_⟩
      intro r12 S13 q24_ y25_ y26_
      replace h := h r12 S13 q24_.1 y25_ y26_
      replace K := fun i ro uo z => K i ro uo ⟨r12, S13, q24_.2, y25_, y26_, z⟩
      refine ⟨fun c => ?_, fun c => ?_⟩
      · replace h := h.1 c
        replace K := fun i ro uo z => K i ro uo (Or.inl ⟨c, z⟩)
        exact ⟨h, K i0 _ _ ⟨rfl, rfl⟩⟩
      · replace h := h.2 c
        replace K := fun i ro uo z => K i ro uo (Or.inr ⟨c, z⟩)
        obtain ⟨Q9, h0, h⟩ := h
        refine ⟨_, ruX2_pointersHold h0, ?_⟩
        intro r17 S18 q27_ y28_ y29_
        replace h := h r17 S18 q27_.1 y28_ y29_
        replace K := fun i ro uo z => K i ro uo ⟨r17, S18, q27_.2, y28_, y29_, z⟩
        refine ⟨fun c => ?_, fun c => ?_⟩
        · replace h := h.1 c
          replace K := fun i ro uo z => K i ro uo (Or.inl ⟨c, z⟩)
          exact ⟨h, K i0 _ _ ⟨rfl, rfl⟩⟩
        · replace h := h.2 c
          replace K := fun i ro uo z => K i ro uo (Or.inr ⟨c, z⟩)
          obtain ⟨Q9, h0, h⟩ := h
          refine ⟨_, ruX2_build h0, ?_⟩
          intro b26 S23 q30_ y31_ y32_ y33_
          replace h := h b26 S23 q30_.1 y31_ y32_ y33_
          replace K := fun i ro uo z => K i ro uo ⟨b26, S23, q30_.2, y31_, y32_, y33_, z⟩
          obtain ⟨n9, h⟩ := h
          exact ⟨n9, ru_X2_unitOf_L41 n9 i0 K h⟩
set_option maxRecDepth 100000 in
theorem vw_X2_unitOf_L41 {ro : Option Nat} {uo : MS} : ∀ (n : Nat) {U41 : MS} {v41_2 : Nat} {v41_3 : Int32}, v_X2_unitOf_L41 ro uo n U41 v41_2 v41_3 → w_X2_unitOf_L41 (fun r u => r = ro ∧ u = uo) n U41 v41_2 v41_3 := by
  intro n
  induction n with
  | zero => intro U41 v41_2 v41_3 h; unfold v_X2_unitOf_L41 at h; exact h.elim
  | succ n ih =>
    intro U41 v41_2 v41_3 h
    unfold v_X2_unitOf_L41 at h
    unfold w_X2_unitOf_L41
    intro _ _
    replace h := h.2.2
    obtain ⟨g9, h⟩ := h
    refine ⟨g9, ?_⟩
    rcases h with ⟨c, h⟩ | ⟨c, h⟩
    · refine ⟨fun _ => ?_, fun c2 => absurd c c2⟩
      exact ⟨h.1.symm, h.2.symm⟩
    · refine ⟨fun c2 => absurd c2 c, fun _ => ?_⟩
      obtain ⟨g9, h⟩ := h
      refine ⟨g9, ?_⟩
      obtain ⟨p9, q9, z9, h⟩ := h
      refine ⟨_, vwX2_rowOf z9, ?_⟩
      rintro p8 q8 ⟨d8, d9⟩ _ _ _
      subst d8
      subst d9
      replace h := h.2.2.2
      obtain ⟨g9, h⟩ := h
      refine ⟨g9, ?_⟩
      obtain ⟨v9, e9, h⟩ := h
      intro x9 d9 _ _
      have c9 : v9 = x9 := e9.trans d9.symm
      subst c9
      replace h := h.2.2
      obtain ⟨g9, h⟩ := h
      refine ⟨g9, ?_⟩
      obtain ⟨g9, h⟩ := h
      refine ⟨g9, ?_⟩
      obtain ⟨g9, h⟩ := h
      refine ⟨g9, ?_⟩
      obtain ⟨v9, e9, h⟩ := h
      intro x9 d9 _ _
      have c9 : v9 = x9 := e9.trans d9.symm
      subst c9
      replace h := h.2.2
      obtain ⟨v9, e9, h⟩ := h
      intro x9 d9 
      have c9 : v9 = x9 := e9.trans d9.symm
      subst c9
      exact ih h
set_option maxRecDepth 100000 in
theorem vp_X2_unitOf_L41 {ro : Option Nat} {uo : MS} {P : Option Nat → MS → Prop} : ∀ (n m : Nat) {U41 : MS} {v41_2 : Nat} {v41_3 : Int32}, v_X2_unitOf_L41 ro uo n U41 v41_2 v41_3 → w_X2_unitOf_L41 P m U41 v41_2 v41_3 → P ro uo := by
  intro n
  induction n with
  | zero => intro m U41 v41_2 v41_3 h; unfold v_X2_unitOf_L41 at h; exact h.elim
  | succ n ih =>
    intro m U41 v41_2 v41_3 h w
    cases m with
    | zero => unfold w_X2_unitOf_L41 at w; exact w.elim
    | succ m =>
      unfold v_X2_unitOf_L41 at h
      unfold w_X2_unitOf_L41 at w
      obtain ⟨y1_, y2_, h⟩ := h
      replace w := w y1_ y2_
      replace h := h.2
      replace w := w.2
      rcases h with ⟨c, h⟩ | ⟨c, h⟩
      · replace w := w.1 c
        rw [h.1, h.2]
        exact w
      · replace w := w.2 c
        replace h := h.2
        replace w := w.2
        obtain ⟨p9, q9, z9, y3_, y4_, y5_, h⟩ := h
        obtain ⟨Q9, w0, w⟩ := w
        replace w := w p9 q9 (vpX2_rowOf z9 w0) y3_ y4_ y5_
        replace h := h.2
        replace w := w.2
        obtain ⟨v9, e9, y6_, y7_, h⟩ := h
        replace w := w v9 e9 y6_ y7_
        replace h := h.2
        replace w := w.2
        replace h := h.2
        replace w := w.2
        replace h := h.2
        replace w := w.2
        obtain ⟨v9, e9, y8_, y9_, h⟩ := h
        replace w := w v9 e9 y8_ y9_
        obtain ⟨v9, e9, h⟩ := h
        replace w := w v9 e9 
        exact ih m h w
set_option maxRecDepth 100000 in
theorem vwX2_unitOf {S : MS} {p1 : Nat} {ro : Option Nat} {uo : MS} (h : vX2_unitOf S p1 ro uo) : wX2_unitOf S p1 (fun r u => r = ro ∧ u = uo) := by
  unfold vX2_unitOf at h
  unfold wX2_unitOf
  intro _
  replace h := h.2
  obtain ⟨p9, q9, z9, h⟩ := h
  refine ⟨_, vwX7_isSound z9, ?_⟩
  rintro p8 q8 ⟨d8, d9⟩ _ _
  subst d8
  subst d9
  replace h := h.2.2
  rcases h with ⟨c, h⟩ | ⟨c, h⟩
  · refine ⟨fun _ => ?_, fun c2 => absurd c c2⟩
    exact ⟨h.1.symm, h.2.symm⟩
  · refine ⟨fun c2 => absurd c2 c, fun _ => ?_⟩
    obtain ⟨p9, q9, z9, h⟩ := h
    refine ⟨_, vwX2_limitsHold z9, ?_⟩
    rintro p8 q8 ⟨d8, d9⟩ _ _
    subst d8
    subst d9
    replace h := h.2.2
    rcases h with ⟨c, h⟩ | ⟨c, h⟩
    · refine ⟨fun _ => ?_, fun c2 => absurd c c2⟩
      exact ⟨h.1.symm, h.2.symm⟩
    · refine ⟨fun c2 => absurd c2 c, fun _ => ?_⟩
      obtain ⟨p9, q9, z9, h⟩ := h
      refine ⟨_, vwX2_instructionsHold z9, ?_⟩
      rintro p8 q8 ⟨d8, d9⟩ _ _
      subst d8
      subst d9
      replace h := h.2.2
      rcases h with ⟨c, h⟩ | ⟨c, h⟩
      · refine ⟨fun _ => ?_, fun c2 => absurd c c2⟩
        exact ⟨h.1.symm, h.2.symm⟩
      · refine ⟨fun c2 => absurd c2 c, fun _ => ?_⟩
        obtain ⟨p9, q9, z9, h⟩ := h
        refine ⟨_, vwX2_pointersHold z9, ?_⟩
        rintro p8 q8 ⟨d8, d9⟩ _ _
        subst d8
        subst d9
        replace h := h.2.2
        rcases h with ⟨c, h⟩ | ⟨c, h⟩
        · refine ⟨fun _ => ?_, fun c2 => absurd c c2⟩
          exact ⟨h.1.symm, h.2.symm⟩
        · refine ⟨fun c2 => absurd c2 c, fun _ => ?_⟩
          obtain ⟨p9, q9, z9, h⟩ := h
          refine ⟨_, vwX2_build z9, ?_⟩
          rintro p8 q8 ⟨d8, d9⟩ _ _ _
          subst d8
          subst d9
          replace h := h.2.2.2
          obtain ⟨n9, h⟩ := h
          exact ⟨n9, vw_X2_unitOf_L41 n9 h⟩
set_option maxRecDepth 100000 in
theorem vpX2_unitOf {S : MS} {p1 : Nat} {ro : Option Nat} {uo : MS} {P : Option Nat → MS → Prop} (h : vX2_unitOf S p1 ro uo) (w : wX2_unitOf S p1 P) : P ro uo := by
  unfold vX2_unitOf at h
  unfold wX2_unitOf at w
  obtain ⟨y10_, h⟩ := h
  replace w := w y10_
  obtain ⟨p9, q9, z9, y11_, y12_, h⟩ := h
  obtain ⟨Q9, w0, w⟩ := w
  replace w := w p9 q9 (vpX7_isSound z9 w0) y11_ y12_
  rcases h with ⟨c, h⟩ | ⟨c, h⟩
  · replace w := w.1 c
    rw [h.1, h.2]
    exact w
  · replace w := w.2 c
    obtain ⟨p9, q9, z9, y13_, y14_, h⟩ := h
    obtain ⟨Q9, w0, w⟩ := w
    replace w := w p9 q9 (vpX2_limitsHold z9 w0) y13_ y14_
    rcases h with ⟨c, h⟩ | ⟨c, h⟩
    · replace w := w.1 c
      rw [h.1, h.2]
      exact w
    · replace w := w.2 c
      obtain ⟨p9, q9, z9, y15_, y16_, h⟩ := h
      obtain ⟨Q9, w0, w⟩ := w
      replace w := w p9 q9 (vpX2_instructionsHold z9 w0) y15_ y16_
      rcases h with ⟨c, h⟩ | ⟨c, h⟩
      · replace w := w.1 c
        rw [h.1, h.2]
        exact w
      · replace w := w.2 c
        obtain ⟨p9, q9, z9, y17_, y18_, h⟩ := h
        obtain ⟨Q9, w0, w⟩ := w
        replace w := w p9 q9 (vpX2_pointersHold z9 w0) y17_ y18_
        rcases h with ⟨c, h⟩ | ⟨c, h⟩
        · replace w := w.1 c
          rw [h.1, h.2]
          exact w
        · replace w := w.2 c
          obtain ⟨p9, q9, z9, y19_, y20_, y21_, h⟩ := h
          obtain ⟨Q9, w0, w⟩ := w
          replace w := w p9 q9 (vpX2_build z9 w0) y19_ y20_ y21_
          obtain ⟨n9, h⟩ := h
          obtain ⟨n8, w⟩ := w
          exact vp_X2_unitOf_L41 n9 n8 h w
def v_X5_useStage_J190 (uo : MS) (U190 : MS) (v190_1 : Int32) : Prop := (wfC U190 ∧ (∃ (S9 : MS), vX5_useElement U190 v190_1 S9 ∧ wfC S9 ∧ shy U190 S9 ∧ (uo = S9)))
def vX5_useStage (S : MS) (x1 : Int32) (uo : MS) : Prop := ((qR S 44 12 = some (qO S 44 12)) ∧ (d_X8_argAt S (qO S 44 12) (qI S 44 13) ∧ (∃ a6 : Int64, a6 = (fX8_argAt S (qO S 44 12) (qI S 44 13)) ∧ (∃ a7 : Int32, a7 = (a6.toInt32) ∧ ((x1.toInt = 46 ∧ (v_X5_useStage_J190 uo S x1)) ∨ (¬ x1.toInt = 46 ∧ ((x1.toInt = 79 ∧ (v_X5_useStage_J190 uo S x1)) ∨ (¬ x1.toInt = 79 ∧ ((x1.toInt = 178 ∧ ((qR S 44 0 = some (qO S 44 0)) ∧ (d_X10_kindOfField S (qO S 44 0) a7 ∧ (∃ a16 : Int32, a16 = (fX10_kindOfField S (qO S 44 0) a7) ∧ (d_X5_fieldAt S a7 ∧ (∃ a20 : Int64, a20 = (fX5_fieldAt S a7) ∧ (∃ (S22 : MS), vX5_push_ S a16 a20 S22 ∧ wfC S22 ∧ shy S S22 ∧ (∃ S25 : MS, S25 = wI S22 44 13 ((qI S22 44 13) + (1 : Int32)) ∧ qT S22 44 = 45 ∧ wfC S25 ∧ (uo = S25))))))))) ∨ (¬ x1.toInt = 178 ∧ ((x1.toInt = 179 ∧ ((qR S 44 0 = some (qO S 44 0)) ∧ (d_X10_kindOfField S (qO S 44 0) a7 ∧ (∃ a31 : Int32, a31 = (fX10_kindOfField S (qO S 44 0) a7) ∧ (∃ (r33 : Int64) (S34 : MS), vX5_pop_ S a31 r33 S34 ∧ wfC S34 ∧ shy S S34 ∧ (∃ (S37 : MS), vX5_setField S34 a7 r33 S37 ∧ wfC S37 ∧ shy S34 S37 ∧ (∃ S40 : MS, S40 = wI S37 44 13 ((qI S37 44 13) + (1 : Int32)) ∧ qT S37 44 = 45 ∧ wfC S40 ∧ (uo = S40)))))))) ∨ (¬ x1.toInt = 179 ∧ ((x1.toInt = 184 ∧ (∃ (S42 : MS), vX5_enter S a7 S42 ∧ wfC S42 ∧ shy S S42 ∧ (uo = S42))) ∨ (¬ x1.toInt = 184 ∧ ((x1.toInt = 188 ∧ (∃ (r45 : Int64) (S46 : MS), vX5_pop S r45 S46 ∧ wfC S46 ∧ shy S S46 ∧ (∃ (S49 : MS), vX5_makeArray S46 (r45.toInt32) S49 ∧ wfC S49 ∧ shx S46 S49 ∧ (uo = S49)))) ∨ (¬ x1.toInt = 188 ∧ ((x1.toInt = 190 ∧ (∃ (r53 : Int64) (S54 : MS), vX5_pop S r53 S54 ∧ wfC S54 ∧ shy S S54 ∧ (∃ (S57 : MS), vX5_tellLength S54 r53 S57 ∧ wfC S57 ∧ shy S54 S57 ∧ (uo = S57)))) ∨ (¬ x1.toInt = 190 ∧ ((x1.toInt = 191 ∧ (∃ (r60 : Int64) (S61 : MS), vX5_pop S r60 S61 ∧ wfC S61 ∧ shy S S61 ∧ (∃ (S64 : MS), vX5_throwIt S61 r60 S64 ∧ wfC S64 ∧ shy S61 S64 ∧ (uo = S64)))) ∨ (¬ x1.toInt = 191 ∧ (∃ S67 : MS, S67 = wI S 44 19 ((qI S 44 19) + (1 : Int32)) ∧ qT S 44 = 45 ∧ wfC S67 ∧ (∃ S69 : MS, S69 = wI S67 44 13 ((qI S67 44 13) + (1 : Int32)) ∧ qT S67 44 = 45 ∧ wfC S69 ∧ (uo = S69)))))))))))))))))))))))
set_option maxRecDepth 100000 in
theorem ru_X5_useStage_J190 {ι : Type} {P Q : MS → Prop} {U190 : MS} {v190_1 : Int32} (i0 : ι) (K : ∀ (i : ι) (uo : MS), v_X5_useStage_J190 uo U190 v190_1 → P uo) (h : w_X5_useStage_J190 Q U190 v190_1) : w_X5_useStage_J190 (fun u => Q u ∧ P u) U190 v190_1 := by
  unfold w_X5_useStage_J190 at h ⊢
  intro y1_
  replace h := h y1_
  replace K := fun i uo z => K i uo ⟨y1_, z⟩
  obtain ⟨Q9, h0, h⟩ := h
  refine ⟨_, ruX5_useElement h0, ?_⟩
  intro S9 q2_ y3_ y4_
  replace h := h S9 q2_.1 y3_ y4_
  replace K := fun i uo z => K i uo ⟨S9, q2_.2, y3_, y4_, z⟩
  exact ⟨h, K i0 _ rfl⟩
set_option maxRecDepth 100000 in
theorem ruX5_useStage {S : MS} {x1 : Int32} {Q : MS → Prop} (h : wX5_useStage S x1 Q) : wX5_useStage S x1 (fun u => Q u ∧ vX5_useStage S x1 u) := by
  have i0 : Unit := ()
  have K : ∀ (i : Unit) (uo : MS), vX5_useStage S x1 uo → vX5_useStage S x1 uo := fun _ _ z => z
  unfold wX5_useStage at h ⊢
  obtain ⟨g5_, h⟩ := h
  refine ⟨g5_, ?_⟩
  replace K := fun i uo z => K i uo ⟨g5_, z⟩
  obtain ⟨g6_, h⟩ := h
  refine ⟨g6_, ?_⟩
  replace K := fun i uo z => K i uo ⟨g6_, z⟩
  intro a6 ea6 
  replace h := h a6 ea6 
  replace K := fun i uo z => K i uo ⟨a6, ea6, z⟩
  intro a7 ea7 
  replace h := h a7 ea7 
  replace K := fun i uo z => K i uo ⟨a7, ea7, z⟩
  refine ⟨fun c => ?_, fun c => ?_⟩
  · replace h := h.1 c
    replace K := fun i uo z => K i uo (Or.inl ⟨c, z⟩)
    exact ru_X5_useStage_J190 i0 K h
  · replace h := h.2 c
    replace K := fun i uo z => K i uo (Or.inr ⟨c, z⟩)
    refine ⟨fun c => ?_, fun c => ?_⟩
    · replace h := h.1 c
      replace K := fun i uo z => K i uo (Or.inl ⟨c, z⟩)
      exact ru_X5_useStage_J190 i0 K h
    · replace h := h.2 c
      replace K := fun i uo z => K i uo (Or.inr ⟨c, z⟩)
      refine ⟨fun c => ?_, fun c => ?_⟩
      · replace h := h.1 c
        replace K := fun i uo z => K i uo (Or.inl ⟨c, z⟩)
        obtain ⟨g7_, h⟩ := h
        refine ⟨g7_, ?_⟩
        replace K := fun i uo z => K i uo ⟨g7_, z⟩
        obtain ⟨g8_, h⟩ := h
        refine ⟨g8_, ?_⟩
        replace K := fun i uo z => K i uo ⟨g8_, z⟩
        intro a16 ea16 
        replace h := h a16 ea16 
        replace K := fun i uo z => K i uo ⟨a16, ea16, z⟩
        obtain ⟨g9_, h⟩ := h
        refine ⟨g9_, ?_⟩
        replace K := fun i uo z => K i uo ⟨g9_, z⟩
        intro a20 ea20 
        replace h := h a20 ea20 
        replace K := fun i uo z => K i uo ⟨a20, ea20, z⟩
        obtain ⟨Q9, h0, h⟩ := h
        refine ⟨_, ruX5_push_ h0, ?_⟩
        intro S22 q10_ y11_ y12_
        replace h := h S22 q10_.1 y11_ y12_
        replace K := fun i uo z => K i uo ⟨S22, q10_.2, y11_, y12_, z⟩
        intro S25 eS25 y13_ y14_
        replace h := h S25 eS25 y13_ y14_
        replace K := fun i uo z => K i uo ⟨S25, eS25, y13_, y14_, z⟩
        exact ⟨h, K i0 _ rfl⟩
      · replace h := h.2 c
        replace K := fun i uo z => K i uo (Or.inr ⟨c, z⟩)
        refine ⟨fun c => ?_, fun c => ?_⟩
        · replace h := h.1 c
          replace K := fun i uo z => K i uo (Or.inl ⟨c, z⟩)
          obtain ⟨g15_, h⟩ := h
          refine ⟨g15_, ?_⟩
          replace K := fun i uo z => K i uo ⟨g15_, z⟩
          obtain ⟨g16_, h⟩ := h
          refine ⟨g16_, ?_⟩
          replace K := fun i uo z => K i uo ⟨g16_, z⟩
          intro a31 ea31 
          replace h := h a31 ea31 
          replace K := fun i uo z => K i uo ⟨a31, ea31, z⟩
          obtain ⟨Q9, h0, h⟩ := h
          refine ⟨_, ruX5_pop_ h0, ?_⟩
          intro r33 S34 q17_ y18_ y19_
          replace h := h r33 S34 q17_.1 y18_ y19_
          replace K := fun i uo z => K i uo ⟨r33, S34, q17_.2, y18_, y19_, z⟩
          obtain ⟨Q9, h0, h⟩ := h
          refine ⟨_, ruX5_setField h0, ?_⟩
          intro S37 q20_ y21_ y22_
          replace h := h S37 q20_.1 y21_ y22_
          replace K := fun i uo z => K i uo ⟨S37, q20_.2, y21_, y22_, z⟩
          intro S40 eS40 y23_ y24_
          replace h := h S40 eS40 y23_ y24_
          replace K := fun i uo z => K i uo ⟨S40, eS40, y23_, y24_, z⟩
          exact ⟨h, K i0 _ rfl⟩
        · replace h := h.2 c
          replace K := fun i uo z => K i uo (Or.inr ⟨c, z⟩)
          refine ⟨fun c => ?_, fun c => ?_⟩
          · replace h := h.1 c
            replace K := fun i uo z => K i uo (Or.inl ⟨c, z⟩)
            obtain ⟨Q9, h0, h⟩ := h
            refine ⟨_, ruX5_enter h0, ?_⟩
            intro S42 q25_ y26_ y27_
            replace h := h S42 q25_.1 y26_ y27_
            replace K := fun i uo z => K i uo ⟨S42, q25_.2, y26_, y27_, z⟩
            exact ⟨h, K i0 _ rfl⟩
          · replace h := h.2 c
            replace K := fun i uo z => K i uo (Or.inr ⟨c, z⟩)
            refine ⟨fun c => ?_, fun c => ?_⟩
            · replace h := h.1 c
              replace K := fun i uo z => K i uo (Or.inl ⟨c, z⟩)
              obtain ⟨Q9, h0, h⟩ := h
              refine ⟨_, ruX5_pop h0, ?_⟩
              intro r45 S46 q28_ y29_ y30_
              replace h := h r45 S46 q28_.1 y29_ y30_
              replace K := fun i uo z => K i uo ⟨r45, S46, q28_.2, y29_, y30_, z⟩
              obtain ⟨Q9, h0, h⟩ := h
              refine ⟨_, ruX5_makeArray h0, ?_⟩
              intro S49 q31_ y32_ y33_
              replace h := h S49 q31_.1 y32_ y33_
              replace K := fun i uo z => K i uo ⟨S49, q31_.2, y32_, y33_, z⟩
              exact ⟨h, K i0 _ rfl⟩
            · replace h := h.2 c
              replace K := fun i uo z => K i uo (Or.inr ⟨c, z⟩)
              refine ⟨fun c => ?_, fun c => ?_⟩
              · replace h := h.1 c
                replace K := fun i uo z => K i uo (Or.inl ⟨c, z⟩)
                obtain ⟨Q9, h0, h⟩ := h
                refine ⟨_, ruX5_pop h0, ?_⟩
                intro r53 S54 q34_ y35_ y36_
                replace h := h r53 S54 q34_.1 y35_ y36_
                replace K := fun i uo z => K i uo ⟨r53, S54, q34_.2, y35_, y36_, z⟩
                obtain ⟨Q9, h0, h⟩ := h
                refine ⟨_, ruX5_tellLength h0, ?_⟩
                intro S57 q37_ y38_ y39_
                replace h := h S57 q37_.1 y38_ y39_
                replace K := fun i uo z => K i uo ⟨S57, q37_.2, y38_, y39_, z⟩
                exact ⟨h, K i0 _ rfl⟩
              · replace h := h.2 c
                replace K := fun i uo z => K i uo (Or.inr ⟨c, z⟩)
                refine ⟨fun c => ?_, fun c => ?_⟩
                · replace h := h.1 c
                  replace K := fun i uo z => K i uo (Or.inl ⟨c, z⟩)
                  obtain ⟨Q9, h0, h⟩ := h
                  refine ⟨_, ruX5_pop h0, ?_⟩
                  intro r60 S61 q40_ y41_ y42_
                  replace h := h r60 S61 q40_.1 y41_ y42_
                  replace K := fun i uo z => K i uo ⟨r60, S61, q40_.2, y41_, y42_, z⟩
                  obtain ⟨Q9, h0, h⟩ := h
                  refine ⟨_, ruX5_throwIt h0, ?_⟩
                  intro S64 q43_ y44_ y45_
                  replace h := h S64 q43_.1 y44_ y45_
                  replace K := fun i uo z => K i uo ⟨S64, q43_.2, y44_, y45_, z⟩
                  exact ⟨h, K i0 _ rfl⟩
                · replace h := h.2 c
                  replace K := fun i uo z => K i uo (Or.inr ⟨c, z⟩)
                  intro S67 eS67 y46_ y47_
                  replace h := h S67 eS67 y46_ y47_
                  replace K := fun i uo z => K i uo ⟨S67, eS67, y46_, y47_, z⟩
                  intro S69 eS69 y48_ y49_
                  replace h := h S69 eS69 y48_ y49_
                  replace K := fun i uo z => K i uo ⟨S69, eS69, y48_, y49_, z⟩
                  exact ⟨h, K i0 _ rfl⟩
set_option maxRecDepth 100000 in
theorem vw_X5_useStage_J190 {uo : MS} {U190 : MS} {v190_1 : Int32} (h : v_X5_useStage_J190 uo U190 v190_1) : w_X5_useStage_J190 (fun u => u = uo) U190 v190_1 := by
  unfold v_X5_useStage_J190 at h
  unfold w_X5_useStage_J190
  intro _
  replace h := h.2
  obtain ⟨q9, z9, h⟩ := h
  refine ⟨_, vwX5_useElement z9, ?_⟩
  intro q8 d9 _ _
  subst d9
  replace h := h.2.2
  exact h.symm
set_option maxRecDepth 100000 in
theorem vp_X5_useStage_J190 {uo : MS} {P : MS → Prop} {U190 : MS} {v190_1 : Int32} (h : v_X5_useStage_J190 uo U190 v190_1) (w : w_X5_useStage_J190 P U190 v190_1) : P uo := by
  unfold v_X5_useStage_J190 at h
  unfold w_X5_useStage_J190 at w
  obtain ⟨y1_, h⟩ := h
  replace w := w y1_
  obtain ⟨q9, z9, y2_, y3_, h⟩ := h
  obtain ⟨Q9, w0, w⟩ := w
  replace w := w q9 (vpX5_useElement z9 w0) y2_ y3_
  rw [h]
  exact w
set_option maxRecDepth 100000 in
theorem vwX5_useStage {S : MS} {x1 : Int32} {uo : MS} (h : vX5_useStage S x1 uo) : wX5_useStage S x1 (fun u => u = uo) := by
  unfold vX5_useStage at h
  unfold wX5_useStage
  obtain ⟨g9, h⟩ := h
  refine ⟨g9, ?_⟩
  obtain ⟨g9, h⟩ := h
  refine ⟨g9, ?_⟩
  obtain ⟨v9, e9, h⟩ := h
  intro x9 d9 
  have c9 : v9 = x9 := e9.trans d9.symm
  subst c9
  obtain ⟨v9, e9, h⟩ := h
  intro x9 d9 
  have c9 : v9 = x9 := e9.trans d9.symm
  subst c9
  rcases h with ⟨c, h⟩ | ⟨c, h⟩
  · refine ⟨fun _ => ?_, fun c2 => absurd c c2⟩
    exact vw_X5_useStage_J190 h
  · refine ⟨fun c2 => absurd c2 c, fun _ => ?_⟩
    rcases h with ⟨c, h⟩ | ⟨c, h⟩
    · refine ⟨fun _ => ?_, fun c2 => absurd c c2⟩
      exact vw_X5_useStage_J190 h
    · refine ⟨fun c2 => absurd c2 c, fun _ => ?_⟩
      rcases h with ⟨c, h⟩ | ⟨c, h⟩
      · refine ⟨fun _ => ?_, fun c2 => absurd c c2⟩
        obtain ⟨g9, h⟩ := h
        refine ⟨g9, ?_⟩
        obtain ⟨g9, h⟩ := h
        refine ⟨g9, ?_⟩
        obtain ⟨v9, e9, h⟩ := h
        intro x9 d9 
        have c9 : v9 = x9 := e9.trans d9.symm
        subst c9
        obtain ⟨g9, h⟩ := h
        refine ⟨g9, ?_⟩
        obtain ⟨v9, e9, h⟩ := h
        intro x9 d9 
        have c9 : v9 = x9 := e9.trans d9.symm
        subst c9
        obtain ⟨q9, z9, h⟩ := h
        refine ⟨_, vwX5_push_ z9, ?_⟩
        intro q8 d9 _ _
        subst d9
        replace h := h.2.2
        obtain ⟨v9, e9, h⟩ := h
        intro x9 d9 _ _
        have c9 : v9 = x9 := e9.trans d9.symm
        subst c9
        replace h := h.2.2
        exact h.symm
      · refine ⟨fun c2 => absurd c2 c, fun _ => ?_⟩
        rcases h with ⟨c, h⟩ | ⟨c, h⟩
        · refine ⟨fun _ => ?_, fun c2 => absurd c c2⟩
          obtain ⟨g9, h⟩ := h
          refine ⟨g9, ?_⟩
          obtain ⟨g9, h⟩ := h
          refine ⟨g9, ?_⟩
          obtain ⟨v9, e9, h⟩ := h
          intro x9 d9 
          have c9 : v9 = x9 := e9.trans d9.symm
          subst c9
          obtain ⟨p9, q9, z9, h⟩ := h
          refine ⟨_, vwX5_pop_ z9, ?_⟩
          rintro p8 q8 ⟨d8, d9⟩ _ _
          subst d8
          subst d9
          replace h := h.2.2
          obtain ⟨q9, z9, h⟩ := h
          refine ⟨_, vwX5_setField z9, ?_⟩
          intro q8 d9 _ _
          subst d9
          replace h := h.2.2
          obtain ⟨v9, e9, h⟩ := h
          intro x9 d9 _ _
          have c9 : v9 = x9 := e9.trans d9.symm
          subst c9
          replace h := h.2.2
          exact h.symm
        · refine ⟨fun c2 => absurd c2 c, fun _ => ?_⟩
          rcases h with ⟨c, h⟩ | ⟨c, h⟩
          · refine ⟨fun _ => ?_, fun c2 => absurd c c2⟩
            obtain ⟨q9, z9, h⟩ := h
            refine ⟨_, vwX5_enter z9, ?_⟩
            intro q8 d9 _ _
            subst d9
            replace h := h.2.2
            exact h.symm
          · refine ⟨fun c2 => absurd c2 c, fun _ => ?_⟩
            rcases h with ⟨c, h⟩ | ⟨c, h⟩
            · refine ⟨fun _ => ?_, fun c2 => absurd c c2⟩
              obtain ⟨p9, q9, z9, h⟩ := h
              refine ⟨_, vwX5_pop z9, ?_⟩
              rintro p8 q8 ⟨d8, d9⟩ _ _
              subst d8
              subst d9
              replace h := h.2.2
              obtain ⟨q9, z9, h⟩ := h
              refine ⟨_, vwX5_makeArray z9, ?_⟩
              intro q8 d9 _ _
              subst d9
              replace h := h.2.2
              exact h.symm
            · refine ⟨fun c2 => absurd c2 c, fun _ => ?_⟩
              rcases h with ⟨c, h⟩ | ⟨c, h⟩
              · refine ⟨fun _ => ?_, fun c2 => absurd c c2⟩
                obtain ⟨p9, q9, z9, h⟩ := h
                refine ⟨_, vwX5_pop z9, ?_⟩
                rintro p8 q8 ⟨d8, d9⟩ _ _
                subst d8
                subst d9
                replace h := h.2.2
                obtain ⟨q9, z9, h⟩ := h
                refine ⟨_, vwX5_tellLength z9, ?_⟩
                intro q8 d9 _ _
                subst d9
                replace h := h.2.2
                exact h.symm
              · refine ⟨fun c2 => absurd c2 c, fun _ => ?_⟩
                rcases h with ⟨c, h⟩ | ⟨c, h⟩
                · refine ⟨fun _ => ?_, fun c2 => absurd c c2⟩
                  obtain ⟨p9, q9, z9, h⟩ := h
                  refine ⟨_, vwX5_pop z9, ?_⟩
                  rintro p8 q8 ⟨d8, d9⟩ _ _
                  subst d8
                  subst d9
                  replace h := h.2.2
                  obtain ⟨q9, z9, h⟩ := h
                  refine ⟨_, vwX5_throwIt z9, ?_⟩
                  intro q8 d9 _ _
                  subst d9
                  replace h := h.2.2
                  exact h.symm
                · refine ⟨fun c2 => absurd c2 c, fun _ => ?_⟩
                  obtain ⟨v9, e9, h⟩ := h
                  intro x9 d9 _ _
                  have c9 : v9 = x9 := e9.trans d9.symm
                  subst c9
                  replace h := h.2.2
                  obtain ⟨v9, e9, h⟩ := h
                  intro x9 d9 _ _
                  have c9 : v9 = x9 := e9.trans d9.symm
                  subst c9
                  replace h := h.2.2
                  exact h.symm
set_option maxRecDepth 100000 in
theorem vpX5_useStage {S : MS} {x1 : Int32} {uo : MS} {P : MS → Prop} (h : vX5_useStage S x1 uo) (w : wX5_useStage S x1 P) : P uo := by
  unfold vX5_useStage at h
  unfold wX5_useStage at w
  replace h := h.2
  replace w := w.2
  replace h := h.2
  replace w := w.2
  obtain ⟨v9, e9, h⟩ := h
  replace w := w v9 e9 
  obtain ⟨v9, e9, h⟩ := h
  replace w := w v9 e9 
  rcases h with ⟨c, h⟩ | ⟨c, h⟩
  · replace w := w.1 c
    exact vp_X5_useStage_J190 h w
  · replace w := w.2 c
    rcases h with ⟨c, h⟩ | ⟨c, h⟩
    · replace w := w.1 c
      exact vp_X5_useStage_J190 h w
    · replace w := w.2 c
      rcases h with ⟨c, h⟩ | ⟨c, h⟩
      · replace w := w.1 c
        replace h := h.2
        replace w := w.2
        replace h := h.2
        replace w := w.2
        obtain ⟨v9, e9, h⟩ := h
        replace w := w v9 e9 
        replace h := h.2
        replace w := w.2
        obtain ⟨v9, e9, h⟩ := h
        replace w := w v9 e9 
        obtain ⟨q9, z9, y4_, y5_, h⟩ := h
        obtain ⟨Q9, w0, w⟩ := w
        replace w := w q9 (vpX5_push_ z9 w0) y4_ y5_
        obtain ⟨v9, e9, y6_, y7_, h⟩ := h
        replace w := w v9 e9 y6_ y7_
        rw [h]
        exact w
      · replace w := w.2 c
        rcases h with ⟨c, h⟩ | ⟨c, h⟩
        · replace w := w.1 c
          replace h := h.2
          replace w := w.2
          replace h := h.2
          replace w := w.2
          obtain ⟨v9, e9, h⟩ := h
          replace w := w v9 e9 
          obtain ⟨p9, q9, z9, y8_, y9_, h⟩ := h
          obtain ⟨Q9, w0, w⟩ := w
          replace w := w p9 q9 (vpX5_pop_ z9 w0) y8_ y9_
          obtain ⟨q9, z9, y10_, y11_, h⟩ := h
          obtain ⟨Q9, w0, w⟩ := w
          replace w := w q9 (vpX5_setField z9 w0) y10_ y11_
          obtain ⟨v9, e9, y12_, y13_, h⟩ := h
          replace w := w v9 e9 y12_ y13_
          rw [h]
          exact w
        · replace w := w.2 c
          rcases h with ⟨c, h⟩ | ⟨c, h⟩
          · replace w := w.1 c
            obtain ⟨q9, z9, y14_, y15_, h⟩ := h
            obtain ⟨Q9, w0, w⟩ := w
            replace w := w q9 (vpX5_enter z9 w0) y14_ y15_
            rw [h]
            exact w
          · replace w := w.2 c
            rcases h with ⟨c, h⟩ | ⟨c, h⟩
            · replace w := w.1 c
              obtain ⟨p9, q9, z9, y16_, y17_, h⟩ := h
              obtain ⟨Q9, w0, w⟩ := w
              replace w := w p9 q9 (vpX5_pop z9 w0) y16_ y17_
              obtain ⟨q9, z9, y18_, y19_, h⟩ := h
              obtain ⟨Q9, w0, w⟩ := w
              replace w := w q9 (vpX5_makeArray z9 w0) y18_ y19_
              rw [h]
              exact w
            · replace w := w.2 c
              rcases h with ⟨c, h⟩ | ⟨c, h⟩
              · replace w := w.1 c
                obtain ⟨p9, q9, z9, y20_, y21_, h⟩ := h
                obtain ⟨Q9, w0, w⟩ := w
                replace w := w p9 q9 (vpX5_pop z9 w0) y20_ y21_
                obtain ⟨q9, z9, y22_, y23_, h⟩ := h
                obtain ⟨Q9, w0, w⟩ := w
                replace w := w q9 (vpX5_tellLength z9 w0) y22_ y23_
                rw [h]
                exact w
              · replace w := w.2 c
                rcases h with ⟨c, h⟩ | ⟨c, h⟩
                · replace w := w.1 c
                  obtain ⟨p9, q9, z9, y24_, y25_, h⟩ := h
                  obtain ⟨Q9, w0, w⟩ := w
                  replace w := w p9 q9 (vpX5_pop z9 w0) y24_ y25_
                  obtain ⟨q9, z9, y26_, y27_, h⟩ := h
                  obtain ⟨Q9, w0, w⟩ := w
                  replace w := w q9 (vpX5_throwIt z9 w0) y26_ y27_
                  rw [h]
                  exact w
                · replace w := w.2 c
                  obtain ⟨v9, e9, y28_, y29_, h⟩ := h
                  replace w := w v9 e9 y28_ y29_
                  obtain ⟨v9, e9, y30_, y31_, h⟩ := h
                  replace w := w v9 e9 y30_ y31_
                  rw [h]
                  exact w
def v_X9_goThrough_J98 (ro : Int32) (uo : MS) (k10 : MS → Int32 → Int32 → Int32 → Int32 → Int32 → Prop) (U98 : MS) (v98_1 : Int32) (v98_2 : Int32) (v98_3 : Int32) (v98_4 : Int32) (v98_5 : Int32) : Prop := (wfC U98 ∧ (v98_2 = 0 ∨ v98_2 = 1) ∧ (v98_3 = 0 ∨ v98_3 = 1) ∧ (∃ a8 : Int32, a8 = (v98_5 + Int32.ofInt 1) ∧ (k10 U98 v98_1 v98_2 v98_3 v98_4 a8)))
def v_X9_goThrough_J68 (ro : Int32) (uo : MS) (k10 : MS → Int32 → Int32 → Int32 → Int32 → Int32 → Prop) (U68 : MS) (v68_1 : Int32) (v68_2 : Int32) (v68_4 : Int32) (v68_5 : Int32) : Prop := (wfC U68 ∧ (v68_2 = 0 ∨ v68_2 = 1) ∧ (∃ (r5 : Int32) (S6 : MS), vX9_isDone U68 v68_1 v68_4 r5 S6 ∧ wfC S6 ∧ shy U68 S6 ∧ ((r5.toInt = 0 ∧ (∃ a10 : Int32, a10 = (v68_4 + Int32.ofInt 1) ∧ (v_X9_goThrough_J98 ro uo k10 S6 v68_1 v68_2 r5 a10 v68_5))) ∨ (¬ r5.toInt = 0 ∧ (((0 : Int) ≤ v68_1.toInt ∧ v68_1.toInt < 12) ∧ (((0 : Int) ≤ v68_1.toInt ∧ v68_1.toInt < 12) ∧ (∃ S15 : MS, S15 = wI S6 75 v68_1.toInt.toNat ((qI S6 75 v68_1.toInt.toNat) + (1 : Int32)) ∧ qT S6 75 = 228 ∧ wfC S15 ∧ (v_X9_goThrough_J98 ro uo k10 S15 v68_1 1 r5 v68_4 v68_5))))))))
def v_X9_goThrough_J49 (ro : Int32) (uo : MS) (k10 : MS → Int32 → Int32 → Int32 → Int32 → Int32 → Prop) (U49 : MS) (v49_1 : Int32) (v49_2 : Int32) (v49_3 : Int32) (v49_4 : Int32) (v49_5 : Int32) : Prop := (wfC U49 ∧ (v49_2 = 0 ∨ v49_2 = 1) ∧ (v49_3 = 0 ∨ v49_3 = 1) ∧ ((v49_3.toInt = 0 ∧ (v_X9_goThrough_J68 ro uo k10 U49 v49_1 v49_2 v49_4 v49_5)) ∨ (¬ v49_3.toInt = 0 ∧ ((v49_1.toInt < 5 ∧ (v_X9_goThrough_J68 ro uo k10 U49 v49_1 v49_2 v49_4 v49_5)) ∨ (¬ v49_1.toInt < 5 ∧ ((10 < v49_1.toInt ∧ (v_X9_goThrough_J68 ro uo k10 U49 v49_1 v49_2 v49_4 v49_5)) ∨ (¬ 10 < v49_1.toInt ∧ (∃ (S20 : MS), vX9_findMarked U49 S20 ∧ wfC S20 ∧ shy U49 S20 ∧ (v_X9_goThrough_J68 ro uo k10 S20 v49_1 v49_2 v49_4 v49_5)))))))))
def v_X9_goThrough_J45 (ro : Int32) (uo : MS) (k10 : MS → Int32 → Int32 → Int32 → Int32 → Int32 → Prop) (U45 : MS) (v45_1 : Int32) (v45_2 : Int32) (v45_3 : Int32) (v45_4 : Int32) (v45_5 : Int32) : Prop := (wfC U45 ∧ (v45_2 = 0 ∨ v45_2 = 1) ∧ (v45_3 = 0 ∨ v45_3 = 1) ∧ (∃ (S24 : MS), vX9_findLive U45 S24 ∧ wfC S24 ∧ shy U45 S24 ∧ (v_X9_goThrough_J49 ro uo k10 S24 v45_1 v45_2 v45_3 v45_4 v45_5)))
def v_X9_goThrough_L10 (ro : Int32) (uo : MS) : Nat → MS → Int32 → Int32 → Int32 → Int32 → Int32 → Prop
  | 0, _, _, _, _, _, _ => False
  | n10 + 1, U10, v10_1, v10_2, v10_3, v10_4, v10_5 => (wfC U10 ∧ (v10_2 = 0 ∨ v10_2 = 1) ∧ (v10_3 = 0 ∨ v10_3 = 1) ∧ (((qI U10 (qO U10 66 0) 2).toInt ≤ v10_4.toInt ∧ (ro = v10_2 ∧ uo = U10)) ∨ (¬ (qI U10 (qO U10 66 0) 2).toInt ≤ v10_4.toInt ∧ ((1000000 ≤ v10_5.toInt ∧ (ro = v10_2 ∧ uo = U10)) ∨ (¬ 1000000 ≤ v10_5.toInt ∧ ((v10_3.toInt = 0 ∧ (v_X9_goThrough_J49 ro uo (v_X9_goThrough_L10 ro uo n10) U10 v10_1 v10_2 v10_3 v10_4 v10_5)) ∨ (¬ v10_3.toInt = 0 ∧ ((v10_1.toInt = 10 ∧ (v_X9_goThrough_J45 ro uo (v_X9_goThrough_L10 ro uo n10) U10 v10_1 v10_2 v10_3 v10_4 v10_5)) ∨ (¬ v10_1.toInt = 10 ∧ ((v10_1.toInt = 11 ∧ (v_X9_goThrough_J45 ro uo (v_X9_goThrough_L10 ro uo n10) U10 v10_1 v10_2 v10_3 v10_4 v10_5)) ∨ (¬ v10_1.toInt = 11 ∧ (v_X9_goThrough_J49 ro uo (v_X9_goThrough_L10 ro uo n10) U10 v10_1 v10_2 v10_3 v10_4 v10_5))))))))))))
def vX9_goThrough (S : MS) (x1 : Int32) (ro : Int32) (uo : MS) : Prop := (∃ n, v_X9_goThrough_L10 ro uo n S x1 0 1 0 0)
set_option maxRecDepth 100000 in
theorem ru_X9_goThrough_J98 {ι : Type} {P Q : Int32 → MS → Prop} {k10 k10' : MS → Int32 → Int32 → Int32 → Int32 → Int32 → Prop} {k10v : ι → Int32 → MS → MS → Int32 → Int32 → Int32 → Int32 → Int32 → Prop} {U98 : MS} {v98_1 : Int32} {v98_2 : Int32} {v98_3 : Int32} {v98_4 : Int32} {v98_5 : Int32} (i0 : ι) (hk10 : ∀ (u : MS) (z0 : Int32) (z1 : Int32) (z2 : Int32) (z3 : Int32) (z4 : Int32), k10 u z0 z1 z2 z3 z4 → (∀ (i : ι) (ro : Int32) (uo : MS), k10v i ro uo u z0 z1 z2 z3 z4 → P ro uo) → k10' u z0 z1 z2 z3 z4) (K : ∀ (i : ι) (ro : Int32) (uo : MS), v_X9_goThrough_J98 ro uo (k10v i ro uo) U98 v98_1 v98_2 v98_3 v98_4 v98_5 → P ro uo) (h : w_X9_goThrough_J98 Q k10 U98 v98_1 v98_2 v98_3 v98_4 v98_5) : w_X9_goThrough_J98 (fun r u => Q r u ∧ P r u) k10' U98 v98_1 v98_2 v98_3 v98_4 v98_5 := by
  unfold w_X9_goThrough_J98 at h ⊢
  intro y1_ y2_ y3_
  replace h := h y1_ y2_ y3_
  replace K := fun i ro uo z => K i ro uo ⟨y1_, y2_, y3_, z⟩
  intro a8 ea8 
  replace h := h a8 ea8 
  replace K := fun i ro uo z => K i ro uo ⟨a8, ea8, z⟩
  exact hk10 _ _ _ _ _ _ h K
set_option maxRecDepth 100000 in
theorem ru_X9_goThrough_J68 {ι : Type} {P Q : Int32 → MS → Prop} {k10 k10' : MS → Int32 → Int32 → Int32 → Int32 → Int32 → Prop} {k10v : ι → Int32 → MS → MS → Int32 → Int32 → Int32 → Int32 → Int32 → Prop} {U68 : MS} {v68_1 : Int32} {v68_2 : Int32} {v68_4 : Int32} {v68_5 : Int32} (i0 : ι) (hk10 : ∀ (u : MS) (z0 : Int32) (z1 : Int32) (z2 : Int32) (z3 : Int32) (z4 : Int32), k10 u z0 z1 z2 z3 z4 → (∀ (i : ι) (ro : Int32) (uo : MS), k10v i ro uo u z0 z1 z2 z3 z4 → P ro uo) → k10' u z0 z1 z2 z3 z4) (K : ∀ (i : ι) (ro : Int32) (uo : MS), v_X9_goThrough_J68 ro uo (k10v i ro uo) U68 v68_1 v68_2 v68_4 v68_5 → P ro uo) (h : w_X9_goThrough_J68 Q k10 U68 v68_1 v68_2 v68_4 v68_5) : w_X9_goThrough_J68 (fun r u => Q r u ∧ P r u) k10' U68 v68_1 v68_2 v68_4 v68_5 := by
  unfold w_X9_goThrough_J68 at h ⊢
  intro y4_ y5_
  replace h := h y4_ y5_
  replace K := fun i ro uo z => K i ro uo ⟨y4_, y5_, z⟩
  obtain ⟨Q9, h0, h⟩ := h
  refine ⟨_, ruX9_isDone h0, ?_⟩
  intro r5 S6 q6_ y7_ y8_
  replace h := h r5 S6 q6_.1 y7_ y8_
  replace K := fun i ro uo z => K i ro uo ⟨r5, S6, q6_.2, y7_, y8_, z⟩
  refine ⟨fun c => ?_, fun c => ?_⟩
  · replace h := h.1 c
    replace K := fun i ro uo z => K i ro uo (Or.inl ⟨c, z⟩)
    intro a10 ea10 
    replace h := h a10 ea10 
    replace K := fun i ro uo z => K i ro uo ⟨a10, ea10, z⟩
    exact ru_X9_goThrough_J98 i0 hk10 K h
  · replace h := h.2 c
    replace K := fun i ro uo z => K i ro uo (Or.inr ⟨c, z⟩)
    obtain ⟨g9_, h⟩ := h
    refine ⟨g9_, ?_⟩
    replace K := fun i ro uo z => K i ro uo ⟨g9_, z⟩
    obtain ⟨g10_, h⟩ := h
    refine ⟨g10_, ?_⟩
    replace K := fun i ro uo z => K i ro uo ⟨g10_, z⟩
    intro S15 eS15 y11_ y12_
    replace h := h S15 eS15 y11_ y12_
    replace K := fun i ro uo z => K i ro uo ⟨S15, eS15, y11_, y12_, z⟩
    exact ru_X9_goThrough_J98 i0 hk10 K h
set_option maxRecDepth 100000 in
theorem ru_X9_goThrough_J49 {ι : Type} {P Q : Int32 → MS → Prop} {k10 k10' : MS → Int32 → Int32 → Int32 → Int32 → Int32 → Prop} {k10v : ι → Int32 → MS → MS → Int32 → Int32 → Int32 → Int32 → Int32 → Prop} {U49 : MS} {v49_1 : Int32} {v49_2 : Int32} {v49_3 : Int32} {v49_4 : Int32} {v49_5 : Int32} (i0 : ι) (hk10 : ∀ (u : MS) (z0 : Int32) (z1 : Int32) (z2 : Int32) (z3 : Int32) (z4 : Int32), k10 u z0 z1 z2 z3 z4 → (∀ (i : ι) (ro : Int32) (uo : MS), k10v i ro uo u z0 z1 z2 z3 z4 → P ro uo) → k10' u z0 z1 z2 z3 z4) (K : ∀ (i : ι) (ro : Int32) (uo : MS), v_X9_goThrough_J49 ro uo (k10v i ro uo) U49 v49_1 v49_2 v49_3 v49_4 v49_5 → P ro uo) (h : w_X9_goThrough_J49 Q k10 U49 v49_1 v49_2 v49_3 v49_4 v49_5) : w_X9_goThrough_J49 (fun r u => Q r u ∧ P r u) k10' U49 v49_1 v49_2 v49_3 v49_4 v49_5 := by
  unfold w_X9_goThrough_J49 at h ⊢
  intro y13_ y14_ y15_
  replace h := h y13_ y14_ y15_
  replace K := fun i ro uo z => K i ro uo ⟨y13_, y14_, y15_, z⟩
  refine ⟨fun c => ?_, fun c => ?_⟩
  · replace h := h.1 c
    replace K := fun i ro uo z => K i ro uo (Or.inl ⟨c, z⟩)
    exact ru_X9_goThrough_J68 i0 hk10 K h
  · replace h := h.2 c
    replace K := fun i ro uo z => K i ro uo (Or.inr ⟨c, z⟩)
    refine ⟨fun c => ?_, fun c => ?_⟩
    · replace h := h.1 c
      replace K := fun i ro uo z => K i ro uo (Or.inl ⟨c, z⟩)
      exact ru_X9_goThrough_J68 i0 hk10 K h
    · replace h := h.2 c
      replace K := fun i ro uo z => K i ro uo (Or.inr ⟨c, z⟩)
      refine ⟨fun c => ?_, fun c => ?_⟩
      · replace h := h.1 c
        replace K := fun i ro uo z => K i ro uo (Or.inl ⟨c, z⟩)
        exact ru_X9_goThrough_J68 i0 hk10 K h
      · replace h := h.2 c
        replace K := fun i ro uo z => K i ro uo (Or.inr ⟨c, z⟩)
        obtain ⟨Q9, h0, h⟩ := h
        refine ⟨_, ruX9_findMarked h0, ?_⟩
        intro S20 q16_ y17_ y18_
        replace h := h S20 q16_.1 y17_ y18_
        replace K := fun i ro uo z => K i ro uo ⟨S20, q16_.2, y17_, y18_, z⟩
        exact ru_X9_goThrough_J68 i0 hk10 K h
set_option maxRecDepth 100000 in
theorem ru_X9_goThrough_J45 {ι : Type} {P Q : Int32 → MS → Prop} {k10 k10' : MS → Int32 → Int32 → Int32 → Int32 → Int32 → Prop} {k10v : ι → Int32 → MS → MS → Int32 → Int32 → Int32 → Int32 → Int32 → Prop} {U45 : MS} {v45_1 : Int32} {v45_2 : Int32} {v45_3 : Int32} {v45_4 : Int32} {v45_5 : Int32} (i0 : ι) (hk10 : ∀ (u : MS) (z0 : Int32) (z1 : Int32) (z2 : Int32) (z3 : Int32) (z4 : Int32), k10 u z0 z1 z2 z3 z4 → (∀ (i : ι) (ro : Int32) (uo : MS), k10v i ro uo u z0 z1 z2 z3 z4 → P ro uo) → k10' u z0 z1 z2 z3 z4) (K : ∀ (i : ι) (ro : Int32) (uo : MS), v_X9_goThrough_J45 ro uo (k10v i ro uo) U45 v45_1 v45_2 v45_3 v45_4 v45_5 → P ro uo) (h : w_X9_goThrough_J45 Q k10 U45 v45_1 v45_2 v45_3 v45_4 v45_5) : w_X9_goThrough_J45 (fun r u => Q r u ∧ P r u) k10' U45 v45_1 v45_2 v45_3 v45_4 v45_5 := by
  unfold w_X9_goThrough_J45 at h ⊢
  intro y19_ y20_ y21_
  replace h := h y19_ y20_ y21_
  replace K := fun i ro uo z => K i ro uo ⟨y19_, y20_, y21_, z⟩
  obtain ⟨Q9, h0, h⟩ := h
  refine ⟨_, ruX9_findLive h0, ?_⟩
  intro S24 q22_ y23_ y24_
  replace h := h S24 q22_.1 y23_ y24_
  replace K := fun i ro uo z => K i ro uo ⟨S24, q22_.2, y23_, y24_, z⟩
  exact ru_X9_goThrough_J49 i0 hk10 K h
set_option maxRecDepth 100000 in
theorem ru_X9_goThrough_L10 {ι : Type} {P Q : Int32 → MS → Prop} : ∀ (n : Nat) {U10 : MS} {v10_1 : Int32} {v10_2 : Int32} {v10_3 : Int32} {v10_4 : Int32} {v10_5 : Int32} (i0 : ι), (∀ (i : ι) (ro : Int32) (uo : MS), (∃ n8, v_X9_goThrough_L10 ro uo n8 U10 v10_1 v10_2 v10_3 v10_4 v10_5) → P ro uo) → w_X9_goThrough_L10 Q n U10 v10_1 v10_2 v10_3 v10_4 v10_5 → w_X9_goThrough_L10 (fun r u => Q r u ∧ P r u) n U10 v10_1 v10_2 v10_3 v10_4 v10_5 := by
  intro n
  induction n with
  | zero => intro U10 v10_1 v10_2 v10_3 v10_4 v10_5 i0 K h; unfold w_X9_goThrough_L10 at h; exact h.elim
  | succ n ih =>
    intro U10 v10_1 v10_2 v10_3 v10_4 v10_5 i0 K h
    unfold w_X9_goThrough_L10 at h ⊢
    replace K := fun (i : ι × Nat) ro uo (z : v_X9_goThrough_L10 ro uo (i.2 + 1) U10 v10_1 v10_2 v10_3 v10_4 v10_5) => K i.1 ro uo ⟨i.2 + 1, z⟩
    have i00 := i0
    replace i0 : ι × Nat := (i0, 0)
    intro y25_ y26_ y27_
    replace h := h y25_ y26_ y27_
    replace K := fun i ro uo z => K i ro uo ⟨y25_, y26_, y27_, z⟩
    refine ⟨fun c => ?_, fun c => ?_⟩
    · replace h := h.1 c
      replace K := fun i ro uo z => K i ro uo (Or.inl ⟨c, z⟩)
      exact ⟨h, K i0 _ _ ⟨rfl, rfl⟩⟩
    · replace h := h.2 c
      replace K := fun i ro uo z => K i ro uo (Or.inr ⟨c, z⟩)
      refine ⟨fun c => ?_, fun c => ?_⟩
      · replace h := h.1 c
        replace K := fun i ro uo z => K i ro uo (Or.inl ⟨c, z⟩)
        exact ⟨h, K i0 _ _ ⟨rfl, rfl⟩⟩
      · replace h := h.2 c
        replace K := fun i ro uo z => K i ro uo (Or.inr ⟨c, z⟩)
        refine ⟨fun c => ?_, fun c => ?_⟩
        · replace h := h.1 c
          replace K := fun i ro uo z => K i ro uo (Or.inl ⟨c, z⟩)
          exact ru_X9_goThrough_J49 i0 (fun _ _ _ _ _ _ h K => ih i00 (fun i ro uo ⟨n8, z⟩ => K (i, n8) ro uo z) h) K h
        · replace h := h.2 c
          replace K := fun i ro uo z => K i ro uo (Or.inr ⟨c, z⟩)
          refine ⟨fun c => ?_, fun c => ?_⟩
          · replace h := h.1 c
            replace K := fun i ro uo z => K i ro uo (Or.inl ⟨c, z⟩)
            exact ru_X9_goThrough_J45 i0 (fun _ _ _ _ _ _ h K => ih i00 (fun i ro uo ⟨n8, z⟩ => K (i, n8) ro uo z) h) K h
          · replace h := h.2 c
            replace K := fun i ro uo z => K i ro uo (Or.inr ⟨c, z⟩)
            refine ⟨fun c => ?_, fun c => ?_⟩
            · replace h := h.1 c
              replace K := fun i ro uo z => K i ro uo (Or.inl ⟨c, z⟩)
              exact ru_X9_goThrough_J45 i0 (fun _ _ _ _ _ _ h K => ih i00 (fun i ro uo ⟨n8, z⟩ => K (i, n8) ro uo z) h) K h
            · replace h := h.2 c
              replace K := fun i ro uo z => K i ro uo (Or.inr ⟨c, z⟩)
              exact ru_X9_goThrough_J49 i0 (fun _ _ _ _ _ _ h K => ih i00 (fun i ro uo ⟨n8, z⟩ => K (i, n8) ro uo z) h) K h
set_option maxRecDepth 100000 in
theorem ruX9_goThrough {S : MS} {x1 : Int32} {Q : Int32 → MS → Prop} (h : wX9_goThrough S x1 Q) : wX9_goThrough S x1 (fun r u => Q r u ∧ vX9_goThrough S x1 r u) := by
  have i0 : Unit := ()
  have K : ∀ (i : Unit) (ro : Int32) (uo : MS), vX9_goThrough S x1 ro uo → vX9_goThrough S x1 ro uo := fun _ _ _ z => z
  unfold wX9_goThrough at h ⊢
  obtain ⟨n9, h⟩ := h
  exact ⟨n9, ru_X9_goThrough_L10 n9 i0 K h⟩
set_option maxRecDepth 100000 in
theorem vw_X9_goThrough_J98 {ro : Int32} {uo : MS} {k10 k10v : MS → Int32 → Int32 → Int32 → Int32 → Int32 → Prop} {U98 : MS} {v98_1 : Int32} {v98_2 : Int32} {v98_3 : Int32} {v98_4 : Int32} {v98_5 : Int32} (hk10 : ∀ (u : MS) (z0 : Int32) (z1 : Int32) (z2 : Int32) (z3 : Int32) (z4 : Int32), k10v u z0 z1 z2 z3 z4 → k10 u z0 z1 z2 z3 z4) (h : v_X9_goThrough_J98 ro uo k10v U98 v98_1 v98_2 v98_3 v98_4 v98_5) : w_X9_goThrough_J98 (fun r u => r = ro ∧ u = uo) k10 U98 v98_1 v98_2 v98_3 v98_4 v98_5 := by
  unfold v_X9_goThrough_J98 at h
  unfold w_X9_goThrough_J98
  intro _ _ _
  replace h := h.2.2.2
  obtain ⟨v9, e9, h⟩ := h
  intro x9 d9 
  have c9 : v9 = x9 := e9.trans d9.symm
  subst c9
  exact hk10 _ _ _ _ _ _ h
set_option maxRecDepth 100000 in
theorem vp_X9_goThrough_J98 {ro : Int32} {uo : MS} {P : Int32 → MS → Prop} {k10 k10v : MS → Int32 → Int32 → Int32 → Int32 → Int32 → Prop} {U98 : MS} {v98_1 : Int32} {v98_2 : Int32} {v98_3 : Int32} {v98_4 : Int32} {v98_5 : Int32} (hk10 : ∀ (u : MS) (z0 : Int32) (z1 : Int32) (z2 : Int32) (z3 : Int32) (z4 : Int32), k10v u z0 z1 z2 z3 z4 → k10 u z0 z1 z2 z3 z4 → P ro uo) (h : v_X9_goThrough_J98 ro uo k10v U98 v98_1 v98_2 v98_3 v98_4 v98_5) (w : w_X9_goThrough_J98 P k10 U98 v98_1 v98_2 v98_3 v98_4 v98_5) : P ro uo := by
  unfold v_X9_goThrough_J98 at h
  unfold w_X9_goThrough_J98 at w
  obtain ⟨y1_, y2_, y3_, h⟩ := h
  replace w := w y1_ y2_ y3_
  obtain ⟨v9, e9, h⟩ := h
  replace w := w v9 e9 
  exact hk10 _ _ _ _ _ _ h w
set_option maxRecDepth 100000 in
theorem vw_X9_goThrough_J68 {ro : Int32} {uo : MS} {k10 k10v : MS → Int32 → Int32 → Int32 → Int32 → Int32 → Prop} {U68 : MS} {v68_1 : Int32} {v68_2 : Int32} {v68_4 : Int32} {v68_5 : Int32} (hk10 : ∀ (u : MS) (z0 : Int32) (z1 : Int32) (z2 : Int32) (z3 : Int32) (z4 : Int32), k10v u z0 z1 z2 z3 z4 → k10 u z0 z1 z2 z3 z4) (h : v_X9_goThrough_J68 ro uo k10v U68 v68_1 v68_2 v68_4 v68_5) : w_X9_goThrough_J68 (fun r u => r = ro ∧ u = uo) k10 U68 v68_1 v68_2 v68_4 v68_5 := by
  unfold v_X9_goThrough_J68 at h
  unfold w_X9_goThrough_J68
  intro _ _
  replace h := h.2.2
  obtain ⟨p9, q9, z9, h⟩ := h
  refine ⟨_, vwX9_isDone z9, ?_⟩
  rintro p8 q8 ⟨d8, d9⟩ _ _
  subst d8
  subst d9
  replace h := h.2.2
  rcases h with ⟨c, h⟩ | ⟨c, h⟩
  · refine ⟨fun _ => ?_, fun c2 => absurd c c2⟩
    obtain ⟨v9, e9, h⟩ := h
    intro x9 d9 
    have c9 : v9 = x9 := e9.trans d9.symm
    subst c9
    exact vw_X9_goThrough_J98 hk10 h
  · refine ⟨fun c2 => absurd c2 c, fun _ => ?_⟩
    obtain ⟨g9, h⟩ := h
    refine ⟨g9, ?_⟩
    obtain ⟨g9, h⟩ := h
    refine ⟨g9, ?_⟩
    obtain ⟨v9, e9, h⟩ := h
    intro x9 d9 _ _
    have c9 : v9 = x9 := e9.trans d9.symm
    subst c9
    replace h := h.2.2
    exact vw_X9_goThrough_J98 hk10 h
set_option maxRecDepth 100000 in
theorem vp_X9_goThrough_J68 {ro : Int32} {uo : MS} {P : Int32 → MS → Prop} {k10 k10v : MS → Int32 → Int32 → Int32 → Int32 → Int32 → Prop} {U68 : MS} {v68_1 : Int32} {v68_2 : Int32} {v68_4 : Int32} {v68_5 : Int32} (hk10 : ∀ (u : MS) (z0 : Int32) (z1 : Int32) (z2 : Int32) (z3 : Int32) (z4 : Int32), k10v u z0 z1 z2 z3 z4 → k10 u z0 z1 z2 z3 z4 → P ro uo) (h : v_X9_goThrough_J68 ro uo k10v U68 v68_1 v68_2 v68_4 v68_5) (w : w_X9_goThrough_J68 P k10 U68 v68_1 v68_2 v68_4 v68_5) : P ro uo := by
  unfold v_X9_goThrough_J68 at h
  unfold w_X9_goThrough_J68 at w
  obtain ⟨y4_, y5_, h⟩ := h
  replace w := w y4_ y5_
  obtain ⟨p9, q9, z9, y6_, y7_, h⟩ := h
  obtain ⟨Q9, w0, w⟩ := w
  replace w := w p9 q9 (vpX9_isDone z9 w0) y6_ y7_
  rcases h with ⟨c, h⟩ | ⟨c, h⟩
  · replace w := w.1 c
    obtain ⟨v9, e9, h⟩ := h
    replace w := w v9 e9 
    exact vp_X9_goThrough_J98 hk10 h w
  · replace w := w.2 c
    replace h := h.2
    replace w := w.2
    replace h := h.2
    replace w := w.2
    obtain ⟨v9, e9, y8_, y9_, h⟩ := h
    replace w := w v9 e9 y8_ y9_
    exact vp_X9_goThrough_J98 hk10 h w
set_option maxRecDepth 100000 in
theorem vw_X9_goThrough_J49 {ro : Int32} {uo : MS} {k10 k10v : MS → Int32 → Int32 → Int32 → Int32 → Int32 → Prop} {U49 : MS} {v49_1 : Int32} {v49_2 : Int32} {v49_3 : Int32} {v49_4 : Int32} {v49_5 : Int32} (hk10 : ∀ (u : MS) (z0 : Int32) (z1 : Int32) (z2 : Int32) (z3 : Int32) (z4 : Int32), k10v u z0 z1 z2 z3 z4 → k10 u z0 z1 z2 z3 z4) (h : v_X9_goThrough_J49 ro uo k10v U49 v49_1 v49_2 v49_3 v49_4 v49_5) : w_X9_goThrough_J49 (fun r u => r = ro ∧ u = uo) k10 U49 v49_1 v49_2 v49_3 v49_4 v49_5 := by
  unfold v_X9_goThrough_J49 at h
  unfold w_X9_goThrough_J49
  intro _ _ _
  replace h := h.2.2.2
  rcases h with ⟨c, h⟩ | ⟨c, h⟩
  · refine ⟨fun _ => ?_, fun c2 => absurd c c2⟩
    exact vw_X9_goThrough_J68 hk10 h
  · refine ⟨fun c2 => absurd c2 c, fun _ => ?_⟩
    rcases h with ⟨c, h⟩ | ⟨c, h⟩
    · refine ⟨fun _ => ?_, fun c2 => absurd c c2⟩
      exact vw_X9_goThrough_J68 hk10 h
    · refine ⟨fun c2 => absurd c2 c, fun _ => ?_⟩
      rcases h with ⟨c, h⟩ | ⟨c, h⟩
      · refine ⟨fun _ => ?_, fun c2 => absurd c c2⟩
        exact vw_X9_goThrough_J68 hk10 h
      · refine ⟨fun c2 => absurd c2 c, fun _ => ?_⟩
        obtain ⟨q9, z9, h⟩ := h
        refine ⟨_, vwX9_findMarked z9, ?_⟩
        intro q8 d9 _ _
        subst d9
        replace h := h.2.2
        exact vw_X9_goThrough_J68 hk10 h
set_option maxRecDepth 100000 in
theorem vp_X9_goThrough_J49 {ro : Int32} {uo : MS} {P : Int32 → MS → Prop} {k10 k10v : MS → Int32 → Int32 → Int32 → Int32 → Int32 → Prop} {U49 : MS} {v49_1 : Int32} {v49_2 : Int32} {v49_3 : Int32} {v49_4 : Int32} {v49_5 : Int32} (hk10 : ∀ (u : MS) (z0 : Int32) (z1 : Int32) (z2 : Int32) (z3 : Int32) (z4 : Int32), k10v u z0 z1 z2 z3 z4 → k10 u z0 z1 z2 z3 z4 → P ro uo) (h : v_X9_goThrough_J49 ro uo k10v U49 v49_1 v49_2 v49_3 v49_4 v49_5) (w : w_X9_goThrough_J49 P k10 U49 v49_1 v49_2 v49_3 v49_4 v49_5) : P ro uo := by
  unfold v_X9_goThrough_J49 at h
  unfold w_X9_goThrough_J49 at w
  obtain ⟨y10_, y11_, y12_, h⟩ := h
  replace w := w y10_ y11_ y12_
  rcases h with ⟨c, h⟩ | ⟨c, h⟩
  · replace w := w.1 c
    exact vp_X9_goThrough_J68 hk10 h w
  · replace w := w.2 c
    rcases h with ⟨c, h⟩ | ⟨c, h⟩
    · replace w := w.1 c
      exact vp_X9_goThrough_J68 hk10 h w
    · replace w := w.2 c
      rcases h with ⟨c, h⟩ | ⟨c, h⟩
      · replace w := w.1 c
        exact vp_X9_goThrough_J68 hk10 h w
      · replace w := w.2 c
        obtain ⟨q9, z9, y13_, y14_, h⟩ := h
        obtain ⟨Q9, w0, w⟩ := w
        replace w := w q9 (vpX9_findMarked z9 w0) y13_ y14_
        exact vp_X9_goThrough_J68 hk10 h w
set_option maxRecDepth 100000 in
theorem vw_X9_goThrough_J45 {ro : Int32} {uo : MS} {k10 k10v : MS → Int32 → Int32 → Int32 → Int32 → Int32 → Prop} {U45 : MS} {v45_1 : Int32} {v45_2 : Int32} {v45_3 : Int32} {v45_4 : Int32} {v45_5 : Int32} (hk10 : ∀ (u : MS) (z0 : Int32) (z1 : Int32) (z2 : Int32) (z3 : Int32) (z4 : Int32), k10v u z0 z1 z2 z3 z4 → k10 u z0 z1 z2 z3 z4) (h : v_X9_goThrough_J45 ro uo k10v U45 v45_1 v45_2 v45_3 v45_4 v45_5) : w_X9_goThrough_J45 (fun r u => r = ro ∧ u = uo) k10 U45 v45_1 v45_2 v45_3 v45_4 v45_5 := by
  unfold v_X9_goThrough_J45 at h
  unfold w_X9_goThrough_J45
  intro _ _ _
  replace h := h.2.2.2
  obtain ⟨q9, z9, h⟩ := h
  refine ⟨_, vwX9_findLive z9, ?_⟩
  intro q8 d9 _ _
  subst d9
  replace h := h.2.2
  exact vw_X9_goThrough_J49 hk10 h
set_option maxRecDepth 100000 in
theorem vp_X9_goThrough_J45 {ro : Int32} {uo : MS} {P : Int32 → MS → Prop} {k10 k10v : MS → Int32 → Int32 → Int32 → Int32 → Int32 → Prop} {U45 : MS} {v45_1 : Int32} {v45_2 : Int32} {v45_3 : Int32} {v45_4 : Int32} {v45_5 : Int32} (hk10 : ∀ (u : MS) (z0 : Int32) (z1 : Int32) (z2 : Int32) (z3 : Int32) (z4 : Int32), k10v u z0 z1 z2 z3 z4 → k10 u z0 z1 z2 z3 z4 → P ro uo) (h : v_X9_goThrough_J45 ro uo k10v U45 v45_1 v45_2 v45_3 v45_4 v45_5) (w : w_X9_goThrough_J45 P k10 U45 v45_1 v45_2 v45_3 v45_4 v45_5) : P ro uo := by
  unfold v_X9_goThrough_J45 at h
  unfold w_X9_goThrough_J45 at w
  obtain ⟨y15_, y16_, y17_, h⟩ := h
  replace w := w y15_ y16_ y17_
  obtain ⟨q9, z9, y18_, y19_, h⟩ := h
  obtain ⟨Q9, w0, w⟩ := w
  replace w := w q9 (vpX9_findLive z9 w0) y18_ y19_
  exact vp_X9_goThrough_J49 hk10 h w
set_option maxRecDepth 100000 in
theorem vw_X9_goThrough_L10 {ro : Int32} {uo : MS} : ∀ (n : Nat) {U10 : MS} {v10_1 : Int32} {v10_2 : Int32} {v10_3 : Int32} {v10_4 : Int32} {v10_5 : Int32}, v_X9_goThrough_L10 ro uo n U10 v10_1 v10_2 v10_3 v10_4 v10_5 → w_X9_goThrough_L10 (fun r u => r = ro ∧ u = uo) n U10 v10_1 v10_2 v10_3 v10_4 v10_5 := by
  intro n
  induction n with
  | zero => intro U10 v10_1 v10_2 v10_3 v10_4 v10_5 h; unfold v_X9_goThrough_L10 at h; exact h.elim
  | succ n ih =>
    intro U10 v10_1 v10_2 v10_3 v10_4 v10_5 h
    unfold v_X9_goThrough_L10 at h
    unfold w_X9_goThrough_L10
    intro _ _ _
    replace h := h.2.2.2
    rcases h with ⟨c, h⟩ | ⟨c, h⟩
    · refine ⟨fun _ => ?_, fun c2 => absurd c c2⟩
      exact ⟨h.1.symm, h.2.symm⟩
    · refine ⟨fun c2 => absurd c2 c, fun _ => ?_⟩
      rcases h with ⟨c, h⟩ | ⟨c, h⟩
      · refine ⟨fun _ => ?_, fun c2 => absurd c c2⟩
        exact ⟨h.1.symm, h.2.symm⟩
      · refine ⟨fun c2 => absurd c2 c, fun _ => ?_⟩
        rcases h with ⟨c, h⟩ | ⟨c, h⟩
        · refine ⟨fun _ => ?_, fun c2 => absurd c c2⟩
          exact vw_X9_goThrough_J49 (fun _ _ _ _ _ _ h => ih h) h
        · refine ⟨fun c2 => absurd c2 c, fun _ => ?_⟩
          rcases h with ⟨c, h⟩ | ⟨c, h⟩
          · refine ⟨fun _ => ?_, fun c2 => absurd c c2⟩
            exact vw_X9_goThrough_J45 (fun _ _ _ _ _ _ h => ih h) h
          · refine ⟨fun c2 => absurd c2 c, fun _ => ?_⟩
            rcases h with ⟨c, h⟩ | ⟨c, h⟩
            · refine ⟨fun _ => ?_, fun c2 => absurd c c2⟩
              exact vw_X9_goThrough_J45 (fun _ _ _ _ _ _ h => ih h) h
            · refine ⟨fun c2 => absurd c2 c, fun _ => ?_⟩
              exact vw_X9_goThrough_J49 (fun _ _ _ _ _ _ h => ih h) h
set_option maxRecDepth 100000 in
theorem vp_X9_goThrough_L10 {ro : Int32} {uo : MS} {P : Int32 → MS → Prop} : ∀ (n m : Nat) {U10 : MS} {v10_1 : Int32} {v10_2 : Int32} {v10_3 : Int32} {v10_4 : Int32} {v10_5 : Int32}, v_X9_goThrough_L10 ro uo n U10 v10_1 v10_2 v10_3 v10_4 v10_5 → w_X9_goThrough_L10 P m U10 v10_1 v10_2 v10_3 v10_4 v10_5 → P ro uo := by
  intro n
  induction n with
  | zero => intro m U10 v10_1 v10_2 v10_3 v10_4 v10_5 h; unfold v_X9_goThrough_L10 at h; exact h.elim
  | succ n ih =>
    intro m U10 v10_1 v10_2 v10_3 v10_4 v10_5 h w
    cases m with
    | zero => unfold w_X9_goThrough_L10 at w; exact w.elim
    | succ m =>
      unfold v_X9_goThrough_L10 at h
      unfold w_X9_goThrough_L10 at w
      obtain ⟨y20_, y21_, y22_, h⟩ := h
      replace w := w y20_ y21_ y22_
      rcases h with ⟨c, h⟩ | ⟨c, h⟩
      · replace w := w.1 c
        rw [h.1, h.2]
        exact w
      · replace w := w.2 c
        rcases h with ⟨c, h⟩ | ⟨c, h⟩
        · replace w := w.1 c
          rw [h.1, h.2]
          exact w
        · replace w := w.2 c
          rcases h with ⟨c, h⟩ | ⟨c, h⟩
          · replace w := w.1 c
            exact vp_X9_goThrough_J49 (fun _ _ _ _ _ _ h w => ih m h w) h w
          · replace w := w.2 c
            rcases h with ⟨c, h⟩ | ⟨c, h⟩
            · replace w := w.1 c
              exact vp_X9_goThrough_J45 (fun _ _ _ _ _ _ h w => ih m h w) h w
            · replace w := w.2 c
              rcases h with ⟨c, h⟩ | ⟨c, h⟩
              · replace w := w.1 c
                exact vp_X9_goThrough_J45 (fun _ _ _ _ _ _ h w => ih m h w) h w
              · replace w := w.2 c
                exact vp_X9_goThrough_J49 (fun _ _ _ _ _ _ h w => ih m h w) h w
set_option maxRecDepth 100000 in
theorem vwX9_goThrough {S : MS} {x1 : Int32} {ro : Int32} {uo : MS} (h : vX9_goThrough S x1 ro uo) : wX9_goThrough S x1 (fun r u => r = ro ∧ u = uo) := by
  unfold vX9_goThrough at h
  unfold wX9_goThrough
  obtain ⟨n9, h⟩ := h
  exact ⟨n9, vw_X9_goThrough_L10 n9 h⟩
set_option maxRecDepth 100000 in
theorem vpX9_goThrough {S : MS} {x1 : Int32} {ro : Int32} {uo : MS} {P : Int32 → MS → Prop} (h : vX9_goThrough S x1 ro uo) (w : wX9_goThrough S x1 P) : P ro uo := by
  unfold vX9_goThrough at h
  unfold wX9_goThrough at w
  obtain ⟨n9, h⟩ := h
  obtain ⟨n8, w⟩ := w
  exact vp_X9_goThrough_L10 n9 n8 h w
def vX12_file (S : MS) (ro : Int32) (uo : MS) : Prop := (((qI S 0 11).toInt < 12 ∧ (qT S 1 = 40 ∧ (∃ (b7 : Option Nat) (S4 : MS), vX2_unitOf S 1 b7 S4 ∧ wfC S4 ∧ shx S S4 ∧ (∀ z, b7 = some z → qT S4 z = 49) ∧ ((b7 = none ∧ (∃ S9 : MS, S9 = wI S4 1 1 (0 : Int32) ∧ qT S4 1 = 40 ∧ wfC S9 ∧ (∃ S10 : MS, S10 = wI S9 0 13 (qI S9 9 2) ∧ qT S9 0 = 51 ∧ wfC S10 ∧ (∃ S11 : MS, S11 = wI S10 0 14 (qI S10 9 3) ∧ qT S10 0 = 51 ∧ wfC S11 ∧ (∃ (r13 : Int32) (S14 : MS), vX12_keep S11 none (-1 : Int32) r13 S14 ∧ wfC S14 ∧ shy S11 S14 ∧ (ro = r13 ∧ uo = S14)))))) ∨ (¬ b7 = none ∧ (∃ S16 : MS, S16 = wI S4 1 1 (0 : Int32) ∧ qT S4 1 = 40 ∧ wfC S16 ∧ (∃ S17 : MS, S17 = wI S16 0 13 (qI S16 9 2) ∧ qT S16 0 = 51 ∧ wfC S17 ∧ (∃ S18 : MS, S18 = wI S17 0 14 (qI S17 9 3) ∧ qT S17 0 = 51 ∧ wfC S18 ∧ (∃ (r20 : Int32) (S21 : MS), vX12_keep S18 (some ((b7).getD 0)) (-1 : Int32) r20 S21 ∧ wfC S21 ∧ shy S18 S21 ∧ (ro = r20 ∧ uo = S21)))))))))) ∨ (¬ (qI S 0 11).toInt < 12 ∧ (ro = (-2 : Int32) ∧ uo = S)))
set_option maxRecDepth 100000 in
theorem ruX12_file {S : MS} {Q : Int32 → MS → Prop} (h : wX12_file S Q) : wX12_file S (fun r u => Q r u ∧ vX12_file S r u) := by
  have i0 : Unit := ()
  have K : ∀ (i : Unit) (ro : Int32) (uo : MS), vX12_file S ro uo → vX12_file S ro uo := fun _ _ _ z => z
  unfold wX12_file at h ⊢
  refine ⟨fun c => ?_, fun c => ?_⟩
  · replace h := h.1 c
    replace K := fun i ro uo z => K i ro uo (Or.inl ⟨c, z⟩)
    intro y1_
    replace h := h y1_
    replace K := fun i ro uo z => K i ro uo ⟨y1_, z⟩
    obtain ⟨Q9, h0, h⟩ := h
    refine ⟨_, ruX2_unitOf h0, ?_⟩
    intro b7 S4 q2_ y3_ y4_ y5_
    replace h := h b7 S4 q2_.1 y3_ y4_ y5_
    replace K := fun i ro uo z => K i ro uo ⟨b7, S4, q2_.2, y3_, y4_, y5_, z⟩
    refine ⟨fun c => ?_, fun c => ?_⟩
    · replace h := h.1 c
      replace K := fun i ro uo z => K i ro uo (Or.inl ⟨c, z⟩)
      intro S9 eS9 y6_ y7_
      replace h := h S9 eS9 y6_ y7_
      replace K := fun i ro uo z => K i ro uo ⟨S9, eS9, y6_, y7_, z⟩
      intro S10 eS10 y8_ y9_
      replace h := h S10 eS10 y8_ y9_
      replace K := fun i ro uo z => K i ro uo ⟨S10, eS10, y8_, y9_, z⟩
      intro S11 eS11 y10_ y11_
      replace h := h S11 eS11 y10_ y11_
      replace K := fun i ro uo z => K i ro uo ⟨S11, eS11, y10_, y11_, z⟩
      obtain ⟨Q9, h0, h⟩ := h
      refine ⟨_, ruX12_keep h0, ?_⟩
      intro r13 S14 q12_ y13_ y14_
      replace h := h r13 S14 q12_.1 y13_ y14_
      replace K := fun i ro uo z => K i ro uo ⟨r13, S14, q12_.2, y13_, y14_, z⟩
      exact ⟨h, K i0 _ _ ⟨rfl, rfl⟩⟩
    · replace h := h.2 c
      replace K := fun i ro uo z => K i ro uo (Or.inr ⟨c, z⟩)
      intro S16 eS16 y15_ y16_
      replace h := h S16 eS16 y15_ y16_
      replace K := fun i ro uo z => K i ro uo ⟨S16, eS16, y15_, y16_, z⟩
      intro S17 eS17 y17_ y18_
      replace h := h S17 eS17 y17_ y18_
      replace K := fun i ro uo z => K i ro uo ⟨S17, eS17, y17_, y18_, z⟩
      intro S18 eS18 y19_ y20_
      replace h := h S18 eS18 y19_ y20_
      replace K := fun i ro uo z => K i ro uo ⟨S18, eS18, y19_, y20_, z⟩
      obtain ⟨Q9, h0, h⟩ := h
      refine ⟨_, ruX12_keep h0, ?_⟩
      intro r20 S21 q21_ y22_ y23_
      replace h := h r20 S21 q21_.1 y22_ y23_
      replace K := fun i ro uo z => K i ro uo ⟨r20, S21, q21_.2, y22_, y23_, z⟩
      exact ⟨h, K i0 _ _ ⟨rfl, rfl⟩⟩
  · replace h := h.2 c
    replace K := fun i ro uo z => K i ro uo (Or.inr ⟨c, z⟩)
    exact ⟨h, K i0 _ _ ⟨rfl, rfl⟩⟩
set_option maxRecDepth 100000 in
theorem vwX12_file {S : MS} {ro : Int32} {uo : MS} (h : vX12_file S ro uo) : wX12_file S (fun r u => r = ro ∧ u = uo) := by
  unfold vX12_file at h
  unfold wX12_file
  rcases h with ⟨c, h⟩ | ⟨c, h⟩
  · refine ⟨fun _ => ?_, fun c2 => absurd c c2⟩
    intro _
    replace h := h.2
    obtain ⟨p9, q9, z9, h⟩ := h
    refine ⟨_, vwX2_unitOf z9, ?_⟩
    rintro p8 q8 ⟨d8, d9⟩ _ _ _
    subst d8
    subst d9
    replace h := h.2.2.2
    rcases h with ⟨c, h⟩ | ⟨c, h⟩
    · refine ⟨fun _ => ?_, fun c2 => absurd c c2⟩
      obtain ⟨v9, e9, h⟩ := h
      intro x9 d9 _ _
      have c9 : v9 = x9 := e9.trans d9.symm
      subst c9
      replace h := h.2.2
      obtain ⟨v9, e9, h⟩ := h
      intro x9 d9 _ _
      have c9 : v9 = x9 := e9.trans d9.symm
      subst c9
      replace h := h.2.2
      obtain ⟨v9, e9, h⟩ := h
      intro x9 d9 _ _
      have c9 : v9 = x9 := e9.trans d9.symm
      subst c9
      replace h := h.2.2
      obtain ⟨p9, q9, z9, h⟩ := h
      refine ⟨_, vwX12_keep z9, ?_⟩
      rintro p8 q8 ⟨d8, d9⟩ _ _
      subst d8
      subst d9
      replace h := h.2.2
      exact ⟨h.1.symm, h.2.symm⟩
    · refine ⟨fun c2 => absurd c2 c, fun _ => ?_⟩
      obtain ⟨v9, e9, h⟩ := h
      intro x9 d9 _ _
      have c9 : v9 = x9 := e9.trans d9.symm
      subst c9
      replace h := h.2.2
      obtain ⟨v9, e9, h⟩ := h
      intro x9 d9 _ _
      have c9 : v9 = x9 := e9.trans d9.symm
      subst c9
      replace h := h.2.2
      obtain ⟨v9, e9, h⟩ := h
      intro x9 d9 _ _
      have c9 : v9 = x9 := e9.trans d9.symm
      subst c9
      replace h := h.2.2
      obtain ⟨p9, q9, z9, h⟩ := h
      refine ⟨_, vwX12_keep z9, ?_⟩
      rintro p8 q8 ⟨d8, d9⟩ _ _
      subst d8
      subst d9
      replace h := h.2.2
      exact ⟨h.1.symm, h.2.symm⟩
  · refine ⟨fun c2 => absurd c2 c, fun _ => ?_⟩
    exact ⟨h.1.symm, h.2.symm⟩
set_option maxRecDepth 100000 in
theorem vpX12_file {S : MS} {ro : Int32} {uo : MS} {P : Int32 → MS → Prop} (h : vX12_file S ro uo) (w : wX12_file S P) : P ro uo := by
  unfold vX12_file at h
  unfold wX12_file at w
  rcases h with ⟨c, h⟩ | ⟨c, h⟩
  · replace w := w.1 c
    obtain ⟨y1_, h⟩ := h
    replace w := w y1_
    obtain ⟨p9, q9, z9, y2_, y3_, y4_, h⟩ := h
    obtain ⟨Q9, w0, w⟩ := w
    replace w := w p9 q9 (vpX2_unitOf z9 w0) y2_ y3_ y4_
    rcases h with ⟨c, h⟩ | ⟨c, h⟩
    · replace w := w.1 c
      obtain ⟨v9, e9, y5_, y6_, h⟩ := h
      replace w := w v9 e9 y5_ y6_
      obtain ⟨v9, e9, y7_, y8_, h⟩ := h
      replace w := w v9 e9 y7_ y8_
      obtain ⟨v9, e9, y9_, y10_, h⟩ := h
      replace w := w v9 e9 y9_ y10_
      obtain ⟨p9, q9, z9, y11_, y12_, h⟩ := h
      obtain ⟨Q9, w0, w⟩ := w
      replace w := w p9 q9 (vpX12_keep z9 w0) y11_ y12_
      rw [h.1, h.2]
      exact w
    · replace w := w.2 c
      obtain ⟨v9, e9, y13_, y14_, h⟩ := h
      replace w := w v9 e9 y13_ y14_
      obtain ⟨v9, e9, y15_, y16_, h⟩ := h
      replace w := w v9 e9 y15_ y16_
      obtain ⟨v9, e9, y17_, y18_, h⟩ := h
      replace w := w v9 e9 y17_ y18_
      obtain ⟨p9, q9, z9, y19_, y20_, h⟩ := h
      obtain ⟨Q9, w0, w⟩ := w
      replace w := w p9 q9 (vpX12_keep z9 w0) y19_ y20_
      rw [h.1, h.2]
      exact w
  · replace w := w.2 c
    rw [h.1, h.2]
    exact w
def v_X12_verify_J85 (ro : Int32) (uo : MS) (U85 : MS) (v85_2 : Nat) : Prop := (wfC U85 ∧ qT U85 v85_2 = 49 ∧ (∃ S10 : MS, S10 = wI U85 v85_2 15 (1 : Int32) ∧ qT U85 v85_2 = 49 ∧ wfC S10 ∧ (∃ S11 : MS, S11 = wI S10 0 15 (qI S10 v85_2 16) ∧ qT S10 0 = 51 ∧ wfC S11 ∧ (∃ S12 : MS, S12 = wI S11 0 16 (qI S11 v85_2 17) ∧ qT S11 0 = 51 ∧ wfC S12 ∧ ((0 ≤ (qI S12 0 15).toInt ∧ (ro = (1 : Int32) ∧ uo = S12)) ∨ (¬ 0 ≤ (qI S12 0 15).toInt ∧ (ro = (0 : Int32) ∧ uo = S12)))))))
def v_X12_verify_J76 (ro : Int32) (uo : MS) (k24 : MS → Nat → Int32 → Prop) (U76 : MS) (t76_0 : Int32) (t76_1 : Nat) (v76_2 : Nat) (v76_3 : Int32) : Prop := (wfC U76 ∧ qT U76 t76_1 = 49 ∧ qT U76 v76_2 = 49 ∧ (∃ S28 : MS, S28 = wI U76 t76_1 16 t76_0 ∧ qT U76 t76_1 = 49 ∧ wfC S28 ∧ (∃ a29 : Int32, a29 = (v76_3 + Int32.ofInt 1) ∧ (k24 S28 v76_2 a29))))
def v_X12_verify_L24 (ro : Int32) (uo : MS) : Nat → MS → Nat → Int32 → Prop
  | 0, _, _, _ => False
  | n24 + 1, U24, v24_2, v24_3 => (wfC U24 ∧ qT U24 v24_2 = 49 ∧ (((qI U24 v24_2 15).toInt = 0 ∧ ((0 ≤ (qI U24 v24_2 16).toInt ∧ (v_X12_verify_J85 ro uo U24 v24_2)) ∨ (¬ 0 ≤ (qI U24 v24_2 16).toInt ∧ (((qI U24 v24_2 8).toInt ≤ v24_3.toInt ∧ (v_X12_verify_J85 ro uo U24 v24_2)) ∨ (¬ (qI U24 v24_2 8).toInt ≤ v24_3.toInt ∧ (qT U24 v24_2 = 49 ∧ (∃ (b21 : Option Nat) (S19 : MS), vX10_rowAt U24 v24_2 v24_3 b21 S19 ∧ wfC S19 ∧ shy U24 S19 ∧ (∀ z, b21 = some z → qT S19 z = 47) ∧ (qT S19 v24_2 = 49 ∧ (∃ (r23 : Int32) (S24 : MS), vX1_firstFault S19 v24_2 b21 r23 S24 ∧ wfC S24 ∧ shx S19 S24 ∧ (∃ S27 : MS, S27 = wI S24 v24_2 17 r23 ∧ qT S24 v24_2 = 49 ∧ wfC S27 ∧ ((0 ≤ (qI S27 v24_2 17).toInt ∧ (v_X12_verify_J76 ro uo (v_X12_verify_L24 ro uo n24) S27 v24_3 v24_2 v24_2 v24_3)) ∨ (¬ 0 ≤ (qI S27 v24_2 17).toInt ∧ (v_X12_verify_J76 ro uo (v_X12_verify_L24 ro uo n24) S27 (-1) v24_2 v24_2 v24_3))))))))))))) ∨ (¬ (qI U24 v24_2 15).toInt = 0 ∧ (v_X12_verify_J85 ro uo U24 v24_2))))
def vX12_verify (S : MS) (x1 : Int32) (ro : Int32) (uo : MS) : Prop := (∃ S1 : MS, S1 = wI S 0 15 (-1 : Int32) ∧ qT S 0 = 51 ∧ wfC S1 ∧ (∃ S2 : MS, S2 = wI S1 0 16 (-1 : Int32) ∧ qT S1 0 = 51 ∧ wfC S2 ∧ (∃ (b7 : Option Nat) (S5 : MS), vX12_unitAt S2 x1 b7 S5 ∧ wfC S5 ∧ shy S2 S5 ∧ (∀ z, b7 = some z → qT S5 z = 49) ∧ ((b7 = none ∧ (ro = (-1 : Int32) ∧ uo = S5)) ∨ (¬ b7 = none ∧ (∃ n, v_X12_verify_L24 ro uo n S5 ((b7).getD 0) 0))))))
set_option maxRecDepth 100000 in
theorem ru_X12_verify_J85 {ι : Type} {P Q : Int32 → MS → Prop} {U85 : MS} {v85_2 : Nat} (i0 : ι) (K : ∀ (i : ι) (ro : Int32) (uo : MS), v_X12_verify_J85 ro uo U85 v85_2 → P ro uo) (h : w_X12_verify_J85 Q U85 v85_2) : w_X12_verify_J85 (fun r u => Q r u ∧ P r u) U85 v85_2 := by
  unfold w_X12_verify_J85 at h ⊢
  intro y1_ y2_
  replace h := h y1_ y2_
  replace K := fun i ro uo z => K i ro uo ⟨y1_, y2_, z⟩
  intro S10 eS10 y3_ y4_
  replace h := h S10 eS10 y3_ y4_
  replace K := fun i ro uo z => K i ro uo ⟨S10, eS10, y3_, y4_, z⟩
  intro S11 eS11 y5_ y6_
  replace h := h S11 eS11 y5_ y6_
  replace K := fun i ro uo z => K i ro uo ⟨S11, eS11, y5_, y6_, z⟩
  intro S12 eS12 y7_ y8_
  replace h := h S12 eS12 y7_ y8_
  replace K := fun i ro uo z => K i ro uo ⟨S12, eS12, y7_, y8_, z⟩
  refine ⟨fun c => ?_, fun c => ?_⟩
  · replace h := h.1 c
    replace K := fun i ro uo z => K i ro uo (Or.inl ⟨c, z⟩)
    exact ⟨h, K i0 _ _ ⟨rfl, rfl⟩⟩
  · replace h := h.2 c
    replace K := fun i ro uo z => K i ro uo (Or.inr ⟨c, z⟩)
    exact ⟨h, K i0 _ _ ⟨rfl, rfl⟩⟩
set_option maxRecDepth 100000 in
theorem ru_X12_verify_J76 {ι : Type} {P Q : Int32 → MS → Prop} {k24 k24' : MS → Nat → Int32 → Prop} {k24v : ι → Int32 → MS → MS → Nat → Int32 → Prop} {U76 : MS} {t76_0 : Int32} {t76_1 : Nat} {v76_2 : Nat} {v76_3 : Int32} (i0 : ι) (hk24 : ∀ (u : MS) (z0 : Nat) (z1 : Int32), k24 u z0 z1 → (∀ (i : ι) (ro : Int32) (uo : MS), k24v i ro uo u z0 z1 → P ro uo) → k24' u z0 z1) (K : ∀ (i : ι) (ro : Int32) (uo : MS), v_X12_verify_J76 ro uo (k24v i ro uo) U76 t76_0 t76_1 v76_2 v76_3 → P ro uo) (h : w_X12_verify_J76 Q k24 U76 t76_0 t76_1 v76_2 v76_3) : w_X12_verify_J76 (fun r u => Q r u ∧ P r u) k24' U76 t76_0 t76_1 v76_2 v76_3 := by
  unfold w_X12_verify_J76 at h ⊢
  intro y9_ y10_ y11_
  replace h := h y9_ y10_ y11_
  replace K := fun i ro uo z => K i ro uo ⟨y9_, y10_, y11_, z⟩
  intro S28 eS28 y12_ y13_
  replace h := h S28 eS28 y12_ y13_
  replace K := fun i ro uo z => K i ro uo ⟨S28, eS28, y12_, y13_, z⟩
  intro a29 ea29 
  replace h := h a29 ea29 
  replace K := fun i ro uo z => K i ro uo ⟨a29, ea29, z⟩
  exact hk24 _ _ _ h K
set_option maxRecDepth 100000 in
theorem ru_X12_verify_L24 {ι : Type} {P Q : Int32 → MS → Prop} : ∀ (n : Nat) {U24 : MS} {v24_2 : Nat} {v24_3 : Int32} (i0 : ι), (∀ (i : ι) (ro : Int32) (uo : MS), (∃ n8, v_X12_verify_L24 ro uo n8 U24 v24_2 v24_3) → P ro uo) → w_X12_verify_L24 Q n U24 v24_2 v24_3 → w_X12_verify_L24 (fun r u => Q r u ∧ P r u) n U24 v24_2 v24_3 := by
  intro n
  induction n with
  | zero => intro U24 v24_2 v24_3 i0 K h; unfold w_X12_verify_L24 at h; exact h.elim
  | succ n ih =>
    intro U24 v24_2 v24_3 i0 K h
    unfold w_X12_verify_L24 at h ⊢
    replace K := fun (i : ι × Nat) ro uo (z : v_X12_verify_L24 ro uo (i.2 + 1) U24 v24_2 v24_3) => K i.1 ro uo ⟨i.2 + 1, z⟩
    have i00 := i0
    replace i0 : ι × Nat := (i0, 0)
    intro y14_ y15_
    replace h := h y14_ y15_
    replace K := fun i ro uo z => K i ro uo ⟨y14_, y15_, z⟩
    refine ⟨fun c => ?_, fun c => ?_⟩
    · replace h := h.1 c
      replace K := fun i ro uo z => K i ro uo (Or.inl ⟨c, z⟩)
      refine ⟨fun c => ?_, fun c => ?_⟩
      · replace h := h.1 c
        replace K := fun i ro uo z => K i ro uo (Or.inl ⟨c, z⟩)
        exact ru_X12_verify_J85 i0 K h
      · replace h := h.2 c
        replace K := fun i ro uo z => K i ro uo (Or.inr ⟨c, z⟩)
        refine ⟨fun c => ?_, fun c => ?_⟩
        · replace h := h.1 c
          replace K := fun i ro uo z => K i ro uo (Or.inl ⟨c, z⟩)
          exact ru_X12_verify_J85 i0 K h
        · replace h := h.2 c
          replace K := fun i ro uo z => K i ro uo (Or.inr ⟨c, z⟩)
          intro y16_
          replace h := h y16_
          replace K := fun i ro uo z => K i ro uo ⟨y16_, z⟩
          obtain ⟨Q9, h0, h⟩ := h
          refine ⟨_, ruX10_rowAt h0, ?_⟩
          intro b21 S19 q17_ y18_ y19_ y20_
          replace h := h b21 S19 q17_.1 y18_ y19_ y20_
          replace K := fun i ro uo z => K i ro uo ⟨b21, S19, q17_.2, y18_, y19_, y20_, z⟩
          intro y21_
          replace h := h y21_
          replace K := fun i ro uo z => K i ro uo ⟨y21_, z⟩
          obtain ⟨Q9, h0, h⟩ := h
          refine ⟨_, ruX1_firstFault h0, ?_⟩
          intro r23 S24 q22_ y23_ y24_
          replace h := h r23 S24 q22_.1 y23_ y24_
          replace K := fun i ro uo z => K i ro uo ⟨r23, S24, q22_.2, y23_, y24_, z⟩
          intro S27 eS27 y25_ y26_
          replace h := h S27 eS27 y25_ y26_
          replace K := fun i ro uo z => K i ro uo ⟨S27, eS27, y25_, y26_, z⟩
          refine ⟨fun c => ?_, fun c => ?_⟩
          · replace h := h.1 c
            replace K := fun i ro uo z => K i ro uo (Or.inl ⟨c, z⟩)
            exact ru_X12_verify_J76 i0 (fun _ _ _ h K => ih i00 (fun i ro uo ⟨n8, z⟩ => K (i, n8) ro uo z) h) K h
          · replace h := h.2 c
            replace K := fun i ro uo z => K i ro uo (Or.inr ⟨c, z⟩)
            exact ru_X12_verify_J76 i0 (fun _ _ _ h K => ih i00 (fun i ro uo ⟨n8, z⟩ => K (i, n8) ro uo z) h) K h
    · replace h := h.2 c
      replace K := fun i ro uo z => K i ro uo (Or.inr ⟨c, z⟩)
      exact ru_X12_verify_J85 i0 K h
set_option maxRecDepth 100000 in
theorem ruX12_verify {S : MS} {x1 : Int32} {Q : Int32 → MS → Prop} (h : wX12_verify S x1 Q) : wX12_verify S x1 (fun r u => Q r u ∧ vX12_verify S x1 r u) := by
  have i0 : Unit := ()
  have K : ∀ (i : Unit) (ro : Int32) (uo : MS), vX12_verify S x1 ro uo → vX12_verify S x1 ro uo := fun _ _ _ z => z
  unfold wX12_verify at h ⊢
  intro S1 eS1 y27_ y28_
  replace h := h S1 eS1 y27_ y28_
  replace K := fun i ro uo z => K i ro uo ⟨S1, eS1, y27_, y28_, z⟩
  intro S2 eS2 y29_ y30_
  replace h := h S2 eS2 y29_ y30_
  replace K := fun i ro uo z => K i ro uo ⟨S2, eS2, y29_, y30_, z⟩
  obtain ⟨Q9, h0, h⟩ := h
  refine ⟨_, ruX12_unitAt h0, ?_⟩
  intro b7 S5 q31_ y32_ y33_ y34_
  replace h := h b7 S5 q31_.1 y32_ y33_ y34_
  replace K := fun i ro uo z => K i ro uo ⟨b7, S5, q31_.2, y32_, y33_, y34_, z⟩
  refine ⟨fun c => ?_, fun c => ?_⟩
  · replace h := h.1 c
    replace K := fun i ro uo z => K i ro uo (Or.inl ⟨c, z⟩)
    exact ⟨h, K i0 _ _ ⟨rfl, rfl⟩⟩
  · replace h := h.2 c
    replace K := fun i ro uo z => K i ro uo (Or.inr ⟨c, z⟩)
    obtain ⟨n9, h⟩ := h
    exact ⟨n9, ru_X12_verify_L24 n9 i0 K h⟩
set_option maxRecDepth 100000 in
theorem vw_X12_verify_J85 {ro : Int32} {uo : MS} {U85 : MS} {v85_2 : Nat} (h : v_X12_verify_J85 ro uo U85 v85_2) : w_X12_verify_J85 (fun r u => r = ro ∧ u = uo) U85 v85_2 := by
  unfold v_X12_verify_J85 at h
  unfold w_X12_verify_J85
  intro _ _
  replace h := h.2.2
  obtain ⟨v9, e9, h⟩ := h
  intro x9 d9 _ _
  have c9 : v9 = x9 := e9.trans d9.symm
  subst c9
  replace h := h.2.2
  obtain ⟨v9, e9, h⟩ := h
  intro x9 d9 _ _
  have c9 : v9 = x9 := e9.trans d9.symm
  subst c9
  replace h := h.2.2
  obtain ⟨v9, e9, h⟩ := h
  intro x9 d9 _ _
  have c9 : v9 = x9 := e9.trans d9.symm
  subst c9
  replace h := h.2.2
  rcases h with ⟨c, h⟩ | ⟨c, h⟩
  · refine ⟨fun _ => ?_, fun c2 => absurd c c2⟩
    exact ⟨h.1.symm, h.2.symm⟩
  · refine ⟨fun c2 => absurd c2 c, fun _ => ?_⟩
    exact ⟨h.1.symm, h.2.symm⟩
set_option maxRecDepth 100000 in
theorem vp_X12_verify_J85 {ro : Int32} {uo : MS} {P : Int32 → MS → Prop} {U85 : MS} {v85_2 : Nat} (h : v_X12_verify_J85 ro uo U85 v85_2) (w : w_X12_verify_J85 P U85 v85_2) : P ro uo := by
  unfold v_X12_verify_J85 at h
  unfold w_X12_verify_J85 at w
  obtain ⟨y1_, y2_, h⟩ := h
  replace w := w y1_ y2_
  obtain ⟨v9, e9, y3_, y4_, h⟩ := h
  replace w := w v9 e9 y3_ y4_
  obtain ⟨v9, e9, y5_, y6_, h⟩ := h
  replace w := w v9 e9 y5_ y6_
  obtain ⟨v9, e9, y7_, y8_, h⟩ := h
  replace w := w v9 e9 y7_ y8_
  rcases h with ⟨c, h⟩ | ⟨c, h⟩
  · replace w := w.1 c
    rw [h.1, h.2]
    exact w
  · replace w := w.2 c
    rw [h.1, h.2]
    exact w
set_option maxRecDepth 100000 in
theorem vw_X12_verify_J76 {ro : Int32} {uo : MS} {k24 k24v : MS → Nat → Int32 → Prop} {U76 : MS} {t76_0 : Int32} {t76_1 : Nat} {v76_2 : Nat} {v76_3 : Int32} (hk24 : ∀ (u : MS) (z0 : Nat) (z1 : Int32), k24v u z0 z1 → k24 u z0 z1) (h : v_X12_verify_J76 ro uo k24v U76 t76_0 t76_1 v76_2 v76_3) : w_X12_verify_J76 (fun r u => r = ro ∧ u = uo) k24 U76 t76_0 t76_1 v76_2 v76_3 := by
  unfold v_X12_verify_J76 at h
  unfold w_X12_verify_J76
  intro _ _ _
  replace h := h.2.2.2
  obtain ⟨v9, e9, h⟩ := h
  intro x9 d9 _ _
  have c9 : v9 = x9 := e9.trans d9.symm
  subst c9
  replace h := h.2.2
  obtain ⟨v9, e9, h⟩ := h
  intro x9 d9 
  have c9 : v9 = x9 := e9.trans d9.symm
  subst c9
  exact hk24 _ _ _ h
set_option maxRecDepth 100000 in
theorem vp_X12_verify_J76 {ro : Int32} {uo : MS} {P : Int32 → MS → Prop} {k24 k24v : MS → Nat → Int32 → Prop} {U76 : MS} {t76_0 : Int32} {t76_1 : Nat} {v76_2 : Nat} {v76_3 : Int32} (hk24 : ∀ (u : MS) (z0 : Nat) (z1 : Int32), k24v u z0 z1 → k24 u z0 z1 → P ro uo) (h : v_X12_verify_J76 ro uo k24v U76 t76_0 t76_1 v76_2 v76_3) (w : w_X12_verify_J76 P k24 U76 t76_0 t76_1 v76_2 v76_3) : P ro uo := by
  unfold v_X12_verify_J76 at h
  unfold w_X12_verify_J76 at w
  obtain ⟨y9_, y10_, y11_, h⟩ := h
  replace w := w y9_ y10_ y11_
  obtain ⟨v9, e9, y12_, y13_, h⟩ := h
  replace w := w v9 e9 y12_ y13_
  obtain ⟨v9, e9, h⟩ := h
  replace w := w v9 e9 
  exact hk24 _ _ _ h w
set_option maxRecDepth 100000 in
theorem vw_X12_verify_L24 {ro : Int32} {uo : MS} : ∀ (n : Nat) {U24 : MS} {v24_2 : Nat} {v24_3 : Int32}, v_X12_verify_L24 ro uo n U24 v24_2 v24_3 → w_X12_verify_L24 (fun r u => r = ro ∧ u = uo) n U24 v24_2 v24_3 := by
  intro n
  induction n with
  | zero => intro U24 v24_2 v24_3 h; unfold v_X12_verify_L24 at h; exact h.elim
  | succ n ih =>
    intro U24 v24_2 v24_3 h
    unfold v_X12_verify_L24 at h
    unfold w_X12_verify_L24
    intro _ _
    replace h := h.2.2
    rcases h with ⟨c, h⟩ | ⟨c, h⟩
    · refine ⟨fun _ => ?_, fun c2 => absurd c c2⟩
      rcases h with ⟨c, h⟩ | ⟨c, h⟩
      · refine ⟨fun _ => ?_, fun c2 => absurd c c2⟩
        exact vw_X12_verify_J85 h
      · refine ⟨fun c2 => absurd c2 c, fun _ => ?_⟩
        rcases h with ⟨c, h⟩ | ⟨c, h⟩
        · refine ⟨fun _ => ?_, fun c2 => absurd c c2⟩
          exact vw_X12_verify_J85 h
        · refine ⟨fun c2 => absurd c2 c, fun _ => ?_⟩
          intro _
          replace h := h.2
          obtain ⟨p9, q9, z9, h⟩ := h
          refine ⟨_, vwX10_rowAt z9, ?_⟩
          rintro p8 q8 ⟨d8, d9⟩ _ _ _
          subst d8
          subst d9
          replace h := h.2.2.2
          intro _
          replace h := h.2
          obtain ⟨p9, q9, z9, h⟩ := h
          refine ⟨_, vwX1_firstFault z9, ?_⟩
          rintro p8 q8 ⟨d8, d9⟩ _ _
          subst d8
          subst d9
          replace h := h.2.2
          obtain ⟨v9, e9, h⟩ := h
          intro x9 d9 _ _
          have c9 : v9 = x9 := e9.trans d9.symm
          subst c9
          replace h := h.2.2
          rcases h with ⟨c, h⟩ | ⟨c, h⟩
          · refine ⟨fun _ => ?_, fun c2 => absurd c c2⟩
            exact vw_X12_verify_J76 (fun _ _ _ h => ih h) h
          · refine ⟨fun c2 => absurd c2 c, fun _ => ?_⟩
            exact vw_X12_verify_J76 (fun _ _ _ h => ih h) h
    · refine ⟨fun c2 => absurd c2 c, fun _ => ?_⟩
      exact vw_X12_verify_J85 h
set_option maxRecDepth 100000 in
theorem vp_X12_verify_L24 {ro : Int32} {uo : MS} {P : Int32 → MS → Prop} : ∀ (n m : Nat) {U24 : MS} {v24_2 : Nat} {v24_3 : Int32}, v_X12_verify_L24 ro uo n U24 v24_2 v24_3 → w_X12_verify_L24 P m U24 v24_2 v24_3 → P ro uo := by
  intro n
  induction n with
  | zero => intro m U24 v24_2 v24_3 h; unfold v_X12_verify_L24 at h; exact h.elim
  | succ n ih =>
    intro m U24 v24_2 v24_3 h w
    cases m with
    | zero => unfold w_X12_verify_L24 at w; exact w.elim
    | succ m =>
      unfold v_X12_verify_L24 at h
      unfold w_X12_verify_L24 at w
      obtain ⟨y14_, y15_, h⟩ := h
      replace w := w y14_ y15_
      rcases h with ⟨c, h⟩ | ⟨c, h⟩
      · replace w := w.1 c
        rcases h with ⟨c, h⟩ | ⟨c, h⟩
        · replace w := w.1 c
          exact vp_X12_verify_J85 h w
        · replace w := w.2 c
          rcases h with ⟨c, h⟩ | ⟨c, h⟩
          · replace w := w.1 c
            exact vp_X12_verify_J85 h w
          · replace w := w.2 c
            obtain ⟨y16_, h⟩ := h
            replace w := w y16_
            obtain ⟨p9, q9, z9, y17_, y18_, y19_, h⟩ := h
            obtain ⟨Q9, w0, w⟩ := w
            replace w := w p9 q9 (vpX10_rowAt z9 w0) y17_ y18_ y19_
            obtain ⟨y20_, h⟩ := h
            replace w := w y20_
            obtain ⟨p9, q9, z9, y21_, y22_, h⟩ := h
            obtain ⟨Q9, w0, w⟩ := w
            replace w := w p9 q9 (vpX1_firstFault z9 w0) y21_ y22_
            obtain ⟨v9, e9, y23_, y24_, h⟩ := h
            replace w := w v9 e9 y23_ y24_
            rcases h with ⟨c, h⟩ | ⟨c, h⟩
            · replace w := w.1 c
              exact vp_X12_verify_J76 (fun _ _ _ h w => ih m h w) h w
            · replace w := w.2 c
              exact vp_X12_verify_J76 (fun _ _ _ h w => ih m h w) h w
      · replace w := w.2 c
        exact vp_X12_verify_J85 h w
set_option maxRecDepth 100000 in
theorem vwX12_verify {S : MS} {x1 : Int32} {ro : Int32} {uo : MS} (h : vX12_verify S x1 ro uo) : wX12_verify S x1 (fun r u => r = ro ∧ u = uo) := by
  unfold vX12_verify at h
  unfold wX12_verify
  obtain ⟨v9, e9, h⟩ := h
  intro x9 d9 _ _
  have c9 : v9 = x9 := e9.trans d9.symm
  subst c9
  replace h := h.2.2
  obtain ⟨v9, e9, h⟩ := h
  intro x9 d9 _ _
  have c9 : v9 = x9 := e9.trans d9.symm
  subst c9
  replace h := h.2.2
  obtain ⟨p9, q9, z9, h⟩ := h
  refine ⟨_, vwX12_unitAt z9, ?_⟩
  rintro p8 q8 ⟨d8, d9⟩ _ _ _
  subst d8
  subst d9
  replace h := h.2.2.2
  rcases h with ⟨c, h⟩ | ⟨c, h⟩
  · refine ⟨fun _ => ?_, fun c2 => absurd c c2⟩
    exact ⟨h.1.symm, h.2.symm⟩
  · refine ⟨fun c2 => absurd c2 c, fun _ => ?_⟩
    obtain ⟨n9, h⟩ := h
    exact ⟨n9, vw_X12_verify_L24 n9 h⟩
set_option maxRecDepth 100000 in
theorem vpX12_verify {S : MS} {x1 : Int32} {ro : Int32} {uo : MS} {P : Int32 → MS → Prop} (h : vX12_verify S x1 ro uo) (w : wX12_verify S x1 P) : P ro uo := by
  unfold vX12_verify at h
  unfold wX12_verify at w
  obtain ⟨v9, e9, y25_, y26_, h⟩ := h
  replace w := w v9 e9 y25_ y26_
  obtain ⟨v9, e9, y27_, y28_, h⟩ := h
  replace w := w v9 e9 y27_ y28_
  obtain ⟨p9, q9, z9, y29_, y30_, y31_, h⟩ := h
  obtain ⟨Q9, w0, w⟩ := w
  replace w := w p9 q9 (vpX12_unitAt z9 w0) y29_ y30_ y31_
  rcases h with ⟨c, h⟩ | ⟨c, h⟩
  · replace w := w.1 c
    rw [h.1, h.2]
    exact w
  · replace w := w.2 c
    obtain ⟨n9, h⟩ := h
    obtain ⟨n8, w⟩ := w
    exact vp_X12_verify_L24 n9 n8 h w
def v_X12_count_L81 (ro : Int32) (uo : MS) : Nat → MS → Nat → Int32 → Int32 → Prop
  | 0, _, _, _, _ => False
  | n81 + 1, U81, v81_2, v81_4, v81_5 => (wfC U81 ∧ qT U81 v81_2 = 49 ∧ (((qI U81 v81_2 8).toInt ≤ v81_5.toInt ∧ (d_X11_fits U81 ∧ (((fX11_fits U81).toInt = 0 ∧ (ro = (-3 : Int32) ∧ uo = U81)) ∨ (¬ (fX11_fits U81).toInt = 0 ∧ (qT U81 5 = 40 ∧ (∃ (S29 : MS), vX11_finish U81 5 S29 ∧ wfC S29 ∧ shx U81 S29 ∧ (qT S29 5 = 40 ∧ (∃ (b37 : Option Nat) (S34 : MS), vX2_unitOf S29 5 b37 S34 ∧ wfC S34 ∧ shx S29 S34 ∧ (∀ z, b37 = some z → qT S34 z = 49) ∧ (∃ (r39 : Int32) (S40 : MS), vX12_keep S34 b37 (-3 : Int32) r39 S40 ∧ wfC S40 ∧ shy S34 S40 ∧ (ro = r39 ∧ uo = S40)))))))))) ∨ (¬ (qI U81 v81_2 8).toInt ≤ v81_5.toInt ∧ (qT U81 v81_2 = 49 ∧ (∃ (b46 : Option Nat) (S44 : MS), vX10_rowAt U81 v81_2 v81_5 b46 S44 ∧ wfC S44 ∧ shy U81 S44 ∧ (∀ z, b46 = some z → qT S44 z = 47) ∧ ((b46 = none ∧ (∃ (S49 : MS), vX3_draw S44 none S49 ∧ wfC S49 ∧ shx S44 S49 ∧ False)) ∨ (¬ b46 = none ∧ (∃ (S53 : MS), vX3_draw S44 (some ((b46).getD 0)) S53 ∧ wfC S53 ∧ shx S44 S53 ∧ (qT S53 ((b46).getD 0) = 47 ∧ (∃ (S57 : MS), vX9_putCounters S53 ((b46).getD 0) v81_4 S57 ∧ wfC S57 ∧ shx S53 S57 ∧ (∃ (r61 : Int32) (S62 : MS), vX3_reachedCount S57 r61 S62 ∧ wfC S62 ∧ shy S57 S62 ∧ (∃ a65 : Int32, a65 = (v81_4 + r61) ∧ (∃ (S68 : MS), vX11_addMethod S62 (some (qO S62 66 0)) S68 ∧ wfC S68 ∧ shx S62 S68 ∧ (∃ a71 : Int32, a71 = (v81_5 + Int32.ofInt 1) ∧ ((v_X12_count_L81 ro uo n81) S68 v81_2 a65 a71)))))))))))))))
def vX12_count (S : MS) (x1 : Int32) (ro : Int32) (uo : MS) : Prop := (∃ (b5 : Option Nat) (S3 : MS), vX12_soundUnitAt S x1 b5 S3 ∧ wfC S3 ∧ shy S S3 ∧ (∀ z, b5 = some z → qT S3 z = 49) ∧ ((b5 = none ∧ (ro = (-1 : Int32) ∧ uo = S3)) ∨ (¬ b5 = none ∧ ((12 ≤ (qI S3 0 11).toInt ∧ (ro = (-2 : Int32) ∧ uo = S3)) ∨ (¬ 12 ≤ (qI S3 0 11).toInt ∧ (((qI S3 0 12).toInt < 16 ∧ (∃ S10 : MS, S10 = wI S3 0 12 ((qI S3 0 12) + (1 : Int32)) ∧ qT S3 0 = 51 ∧ wfC S10 ∧ (qT S10 ((b5).getD 0) = 49 ∧ (∃ (r12 : Int32) (S13 : MS), vX12_countersOf S10 ((b5).getD 0) r12 S13 ∧ wfC S13 ∧ shx S10 S13 ∧ ((((qI S13 ((b5).getD 0) 4) + r12).toInt ≤ 24 ∧ (qT S13 ((b5).getD 0) = 49 ∧ (∃ (S19 : MS), vX11_begin S13 ((b5).getD 0) r12 S19 ∧ wfC S19 ∧ shx S13 S19 ∧ (∃ a22 : Int32, a22 = (qI S19 ((b5).getD 0) 4) ∧ (∃ n, v_X12_count_L81 ro uo n S19 ((b5).getD 0) a22 0))))) ∨ (¬ ((qI S13 ((b5).getD 0) 4) + r12).toInt ≤ 24 ∧ (ro = (-3 : Int32) ∧ uo = S13))))))) ∨ (¬ (qI S3 0 12).toInt < 16 ∧ (ro = (-2 : Int32) ∧ uo = S3))))))))
set_option maxRecDepth 100000 in
theorem ru_X12_count_L81 {ι : Type} {P Q : Int32 → MS → Prop} : ∀ (n : Nat) {U81 : MS} {v81_2 : Nat} {v81_4 : Int32} {v81_5 : Int32} (i0 : ι), (∀ (i : ι) (ro : Int32) (uo : MS), (∃ n8, v_X12_count_L81 ro uo n8 U81 v81_2 v81_4 v81_5) → P ro uo) → w_X12_count_L81 Q n U81 v81_2 v81_4 v81_5 → w_X12_count_L81 (fun r u => Q r u ∧ P r u) n U81 v81_2 v81_4 v81_5 := by
  intro n
  induction n with
  | zero => intro U81 v81_2 v81_4 v81_5 i0 K h; unfold w_X12_count_L81 at h; exact h.elim
  | succ n ih =>
    intro U81 v81_2 v81_4 v81_5 i0 K h
    unfold w_X12_count_L81 at h ⊢
    replace K := fun (i : ι × Nat) ro uo (z : v_X12_count_L81 ro uo (i.2 + 1) U81 v81_2 v81_4 v81_5) => K i.1 ro uo ⟨i.2 + 1, z⟩
    have i00 := i0
    replace i0 : ι × Nat := (i0, 0)
    intro y1_ y2_
    replace h := h y1_ y2_
    replace K := fun i ro uo z => K i ro uo ⟨y1_, y2_, z⟩
    refine ⟨fun c => ?_, fun c => ?_⟩
    · replace h := h.1 c
      replace K := fun i ro uo z => K i ro uo (Or.inl ⟨c, z⟩)
      obtain ⟨g3_, h⟩ := h
      refine ⟨g3_, ?_⟩
      replace K := fun i ro uo z => K i ro uo ⟨g3_, z⟩
      refine ⟨fun c => ?_, fun c => ?_⟩
      · replace h := h.1 c
        replace K := fun i ro uo z => K i ro uo (Or.inl ⟨c, z⟩)
        exact ⟨h, K i0 _ _ ⟨rfl, rfl⟩⟩
      · replace h := h.2 c
        replace K := fun i ro uo z => K i ro uo (Or.inr ⟨c, z⟩)
        intro y4_
        replace h := h y4_
        replace K := fun i ro uo z => K i ro uo ⟨y4_, z⟩
        obtain ⟨Q9, h0, h⟩ := h
        refine ⟨_, ruX11_finish h0, ?_⟩
        intro S29 q5_ y6_ y7_
        replace h := h S29 q5_.1 y6_ y7_
        replace K := fun i ro uo z => K i ro uo ⟨S29, q5_.2, y6_, y7_, z⟩
        intro y8_
        replace h := h y8_
        replace K := fun i ro uo z => K i ro uo ⟨y8_, z⟩
        obtain ⟨Q9, h0, h⟩ := h
        refine ⟨_, ruX2_unitOf h0, ?_⟩
        intro b37 S34 q9_ y10_ y11_ y12_
        replace h := h b37 S34 q9_.1 y10_ y11_ y12_
        replace K := fun i ro uo z => K i ro uo ⟨b37, S34, q9_.2, y10_, y11_, y12_, z⟩
        obtain ⟨Q9, h0, h⟩ := h
        refine ⟨_, ruX12_keep h0, ?_⟩
        intro r39 S40 q13_ y14_ y15_
        replace h := h r39 S40 q13_.1 y14_ y15_
        replace K := fun i ro uo z => K i ro uo ⟨r39, S40, q13_.2, y14_, y15_, z⟩
        exact ⟨h, K i0 _ _ ⟨rfl, rfl⟩⟩
    · replace h := h.2 c
      replace K := fun i ro uo z => K i ro uo (Or.inr ⟨c, z⟩)
      intro y16_
      replace h := h y16_
      replace K := fun i ro uo z => K i ro uo ⟨y16_, z⟩
      obtain ⟨Q9, h0, h⟩ := h
      refine ⟨_, ruX10_rowAt h0, ?_⟩
      intro b46 S44 q17_ y18_ y19_ y20_
      replace h := h b46 S44 q17_.1 y18_ y19_ y20_
      replace K := fun i ro uo z => K i ro uo ⟨b46, S44, q17_.2, y18_, y19_, y20_, z⟩
      refine ⟨fun c => ?_, fun c => ?_⟩
      · replace h := h.1 c
        replace K := fun i ro uo z => K i ro uo (Or.inl ⟨c, z⟩)
        obtain ⟨Q9, h0, h⟩ := h
        refine ⟨_, ruX3_draw h0, ?_⟩
        intro S49 q21_ y22_ y23_
        replace h := h S49 q21_.1 y22_ y23_
        replace K := fun i ro uo z => K i ro uo ⟨S49, q21_.2, y22_, y23_, z⟩
        exact h.elim
      · replace h := h.2 c
        replace K := fun i ro uo z => K i ro uo (Or.inr ⟨c, z⟩)
        obtain ⟨Q9, h0, h⟩ := h
        refine ⟨_, ruX3_draw h0, ?_⟩
        intro S53 q24_ y25_ y26_
        replace h := h S53 q24_.1 y25_ y26_
        replace K := fun i ro uo z => K i ro uo ⟨S53, q24_.2, y25_, y26_, z⟩
        intro y27_
        replace h := h y27_
        replace K := fun i ro uo z => K i ro uo ⟨y27_, z⟩
        obtain ⟨Q9, h0, h⟩ := h
        refine ⟨_, ruX9_putCounters h0, ?_⟩
        intro S57 q28_ y29_ y30_
        replace h := h S57 q28_.1 y29_ y30_
        replace K := fun i ro uo z => K i ro uo ⟨S57, q28_.2, y29_, y30_, z⟩
        obtain ⟨Q9, h0, h⟩ := h
        refine ⟨_, ruX3_reachedCount h0, ?_⟩
        intro r61 S62 q31_ y32_ y33_
        replace h := h r61 S62 q31_.1 y32_ y33_
        replace K := fun i ro uo z => K i ro uo ⟨r61, S62, q31_.2, y32_, y33_, z⟩
        intro a65 ea65 
        replace h := h a65 ea65 
        replace K := fun i ro uo z => K i ro uo ⟨a65, ea65, z⟩
        obtain ⟨Q9, h0, h⟩ := h
        refine ⟨_, ruX11_addMethod h0, ?_⟩
        intro S68 q34_ y35_ y36_
        replace h := h S68 q34_.1 y35_ y36_
        replace K := fun i ro uo z => K i ro uo ⟨S68, q34_.2, y35_, y36_, z⟩
        intro a71 ea71 
        replace h := h a71 ea71 
        replace K := fun i ro uo z => K i ro uo ⟨a71, ea71, z⟩
        exact ih i00 (fun i ro uo ⟨n8, z⟩ => K (i, n8) ro uo z) h
set_option maxRecDepth 100000 in
theorem ruX12_count {S : MS} {x1 : Int32} {Q : Int32 → MS → Prop} (h : wX12_count S x1 Q) : wX12_count S x1 (fun r u => Q r u ∧ vX12_count S x1 r u) := by
  have i0 : Unit := ()
  have K : ∀ (i : Unit) (ro : Int32) (uo : MS), vX12_count S x1 ro uo → vX12_count S x1 ro uo := fun _ _ _ z => z
  unfold wX12_count at h ⊢
  obtain ⟨Q9, h0, h⟩ := h
  refine ⟨_, ruX12_soundUnitAt h0, ?_⟩
  intro b5 S3 q37_ y38_ y39_ y40_
  replace h := h b5 S3 q37_.1 y38_ y39_ y40_
  replace K := fun i ro uo z => K i ro uo ⟨b5, S3, q37_.2, y38_, y39_, y40_, z⟩
  refine ⟨fun c => ?_, fun c => ?_⟩
  · replace h := h.1 c
    replace K := fun i ro uo z => K i ro uo (Or.inl ⟨c, z⟩)
    exact ⟨h, K i0 _ _ ⟨rfl, rfl⟩⟩
  · replace h := h.2 c
    replace K := fun i ro uo z => K i ro uo (Or.inr ⟨c, z⟩)
    refine ⟨fun c => ?_, fun c => ?_⟩
    · replace h := h.1 c
      replace K := fun i ro uo z => K i ro uo (Or.inl ⟨c, z⟩)
      exact ⟨h, K i0 _ _ ⟨rfl, rfl⟩⟩
    · replace h := h.2 c
      replace K := fun i ro uo z => K i ro uo (Or.inr ⟨c, z⟩)
      refine ⟨fun c => ?_, fun c => ?_⟩
      · replace h := h.1 c
        replace K := fun i ro uo z => K i ro uo (Or.inl ⟨c, z⟩)
        intro S10 eS10 y41_ y42_
        replace h := h S10 eS10 y41_ y42_
        replace K := fun i ro uo z => K i ro uo ⟨S10, eS10, y41_, y42_, z⟩
        intro y43_
        replace h := h y43_
        replace K := fun i ro uo z => K i ro uo ⟨y43_, z⟩
        obtain ⟨Q9, h0, h⟩ := h
        refine ⟨_, ruX12_countersOf h0, ?_⟩
        intro r12 S13 q44_ y45_ y46_
        replace h := h r12 S13 q44_.1 y45_ y46_
        replace K := fun i ro uo z => K i ro uo ⟨r12, S13, q44_.2, y45_, y46_, z⟩
        refine ⟨fun c => ?_, fun c => ?_⟩
        · replace h := h.1 c
          replace K := fun i ro uo z => K i ro uo (Or.inl ⟨c, z⟩)
          intro y47_
          replace h := h y47_
          replace K := fun i ro uo z => K i ro uo ⟨y47_, z⟩
          obtain ⟨Q9, h0, h⟩ := h
          refine ⟨_, ruX11_begin h0, ?_⟩
          intro S19 q48_ y49_ y50_
          replace h := h S19 q48_.1 y49_ y50_
          replace K := fun i ro uo z => K i ro uo ⟨S19, q48_.2, y49_, y50_, z⟩
          intro a22 ea22 
          replace h := h a22 ea22 
          replace K := fun i ro uo z => K i ro uo ⟨a22, ea22, z⟩
          obtain ⟨n9, h⟩ := h
          exact ⟨n9, ru_X12_count_L81 n9 i0 K h⟩
        · replace h := h.2 c
          replace K := fun i ro uo z => K i ro uo (Or.inr ⟨c, z⟩)
          exact ⟨h, K i0 _ _ ⟨rfl, rfl⟩⟩
      · replace h := h.2 c
        replace K := fun i ro uo z => K i ro uo (Or.inr ⟨c, z⟩)
        exact ⟨h, K i0 _ _ ⟨rfl, rfl⟩⟩
set_option maxRecDepth 100000 in
theorem vw_X12_count_L81 {ro : Int32} {uo : MS} : ∀ (n : Nat) {U81 : MS} {v81_2 : Nat} {v81_4 : Int32} {v81_5 : Int32}, v_X12_count_L81 ro uo n U81 v81_2 v81_4 v81_5 → w_X12_count_L81 (fun r u => r = ro ∧ u = uo) n U81 v81_2 v81_4 v81_5 := by
  intro n
  induction n with
  | zero => intro U81 v81_2 v81_4 v81_5 h; unfold v_X12_count_L81 at h; exact h.elim
  | succ n ih =>
    intro U81 v81_2 v81_4 v81_5 h
    unfold v_X12_count_L81 at h
    unfold w_X12_count_L81
    intro _ _
    replace h := h.2.2
    rcases h with ⟨c, h⟩ | ⟨c, h⟩
    · refine ⟨fun _ => ?_, fun c2 => absurd c c2⟩
      obtain ⟨g9, h⟩ := h
      refine ⟨g9, ?_⟩
      rcases h with ⟨c, h⟩ | ⟨c, h⟩
      · refine ⟨fun _ => ?_, fun c2 => absurd c c2⟩
        exact ⟨h.1.symm, h.2.symm⟩
      · refine ⟨fun c2 => absurd c2 c, fun _ => ?_⟩
        intro _
        replace h := h.2
        obtain ⟨q9, z9, h⟩ := h
        refine ⟨_, vwX11_finish z9, ?_⟩
        intro q8 d9 _ _
        subst d9
        replace h := h.2.2
        intro _
        replace h := h.2
        obtain ⟨p9, q9, z9, h⟩ := h
        refine ⟨_, vwX2_unitOf z9, ?_⟩
        rintro p8 q8 ⟨d8, d9⟩ _ _ _
        subst d8
        subst d9
        replace h := h.2.2.2
        obtain ⟨p9, q9, z9, h⟩ := h
        refine ⟨_, vwX12_keep z9, ?_⟩
        rintro p8 q8 ⟨d8, d9⟩ _ _
        subst d8
        subst d9
        replace h := h.2.2
        exact ⟨h.1.symm, h.2.symm⟩
    · refine ⟨fun c2 => absurd c2 c, fun _ => ?_⟩
      intro _
      replace h := h.2
      obtain ⟨p9, q9, z9, h⟩ := h
      refine ⟨_, vwX10_rowAt z9, ?_⟩
      rintro p8 q8 ⟨d8, d9⟩ _ _ _
      subst d8
      subst d9
      replace h := h.2.2.2
      rcases h with ⟨c, h⟩ | ⟨c, h⟩
      · refine ⟨fun _ => ?_, fun c2 => absurd c c2⟩
        obtain ⟨q9, z9, h⟩ := h
        refine ⟨_, vwX3_draw z9, ?_⟩
        intro q8 d9 _ _
        subst d9
        replace h := h.2.2
        exact h.elim
      · refine ⟨fun c2 => absurd c2 c, fun _ => ?_⟩
        obtain ⟨q9, z9, h⟩ := h
        refine ⟨_, vwX3_draw z9, ?_⟩
        intro q8 d9 _ _
        subst d9
        replace h := h.2.2
        intro _
        replace h := h.2
        obtain ⟨q9, z9, h⟩ := h
        refine ⟨_, vwX9_putCounters z9, ?_⟩
        intro q8 d9 _ _
        subst d9
        replace h := h.2.2
        obtain ⟨p9, q9, z9, h⟩ := h
        refine ⟨_, vwX3_reachedCount z9, ?_⟩
        rintro p8 q8 ⟨d8, d9⟩ _ _
        subst d8
        subst d9
        replace h := h.2.2
        obtain ⟨v9, e9, h⟩ := h
        intro x9 d9 
        have c9 : v9 = x9 := e9.trans d9.symm
        subst c9
        obtain ⟨q9, z9, h⟩ := h
        refine ⟨_, vwX11_addMethod z9, ?_⟩
        intro q8 d9 _ _
        subst d9
        replace h := h.2.2
        obtain ⟨v9, e9, h⟩ := h
        intro x9 d9 
        have c9 : v9 = x9 := e9.trans d9.symm
        subst c9
        exact ih h
set_option maxRecDepth 100000 in
theorem vp_X12_count_L81 {ro : Int32} {uo : MS} {P : Int32 → MS → Prop} : ∀ (n m : Nat) {U81 : MS} {v81_2 : Nat} {v81_4 : Int32} {v81_5 : Int32}, v_X12_count_L81 ro uo n U81 v81_2 v81_4 v81_5 → w_X12_count_L81 P m U81 v81_2 v81_4 v81_5 → P ro uo := by
  intro n
  induction n with
  | zero => intro m U81 v81_2 v81_4 v81_5 h; unfold v_X12_count_L81 at h; exact h.elim
  | succ n ih =>
    intro m U81 v81_2 v81_4 v81_5 h w
    cases m with
    | zero => unfold w_X12_count_L81 at w; exact w.elim
    | succ m =>
      unfold v_X12_count_L81 at h
      unfold w_X12_count_L81 at w
      obtain ⟨y1_, y2_, h⟩ := h
      replace w := w y1_ y2_
      rcases h with ⟨c, h⟩ | ⟨c, h⟩
      · replace w := w.1 c
        replace h := h.2
        replace w := w.2
        rcases h with ⟨c, h⟩ | ⟨c, h⟩
        · replace w := w.1 c
          rw [h.1, h.2]
          exact w
        · replace w := w.2 c
          obtain ⟨y3_, h⟩ := h
          replace w := w y3_
          obtain ⟨q9, z9, y4_, y5_, h⟩ := h
          obtain ⟨Q9, w0, w⟩ := w
          replace w := w q9 (vpX11_finish z9 w0) y4_ y5_
          obtain ⟨y6_, h⟩ := h
          replace w := w y6_
          obtain ⟨p9, q9, z9, y7_, y8_, y9_, h⟩ := h
          obtain ⟨Q9, w0, w⟩ := w
          replace w := w p9 q9 (vpX2_unitOf z9 w0) y7_ y8_ y9_
          obtain ⟨p9, q9, z9, y10_, y11_, h⟩ := h
          obtain ⟨Q9, w0, w⟩ := w
          replace w := w p9 q9 (vpX12_keep z9 w0) y10_ y11_
          rw [h.1, h.2]
          exact w
      · replace w := w.2 c
        obtain ⟨y12_, h⟩ := h
        replace w := w y12_
        obtain ⟨p9, q9, z9, y13_, y14_, y15_, h⟩ := h
        obtain ⟨Q9, w0, w⟩ := w
        replace w := w p9 q9 (vpX10_rowAt z9 w0) y13_ y14_ y15_
        rcases h with ⟨c, h⟩ | ⟨c, h⟩
        · replace w := w.1 c
          obtain ⟨q9, z9, y16_, y17_, h⟩ := h
          obtain ⟨Q9, w0, w⟩ := w
          replace w := w q9 (vpX3_draw z9 w0) y16_ y17_
          exact h.elim
        · replace w := w.2 c
          obtain ⟨q9, z9, y18_, y19_, h⟩ := h
          obtain ⟨Q9, w0, w⟩ := w
          replace w := w q9 (vpX3_draw z9 w0) y18_ y19_
          obtain ⟨y20_, h⟩ := h
          replace w := w y20_
          obtain ⟨q9, z9, y21_, y22_, h⟩ := h
          obtain ⟨Q9, w0, w⟩ := w
          replace w := w q9 (vpX9_putCounters z9 w0) y21_ y22_
          obtain ⟨p9, q9, z9, y23_, y24_, h⟩ := h
          obtain ⟨Q9, w0, w⟩ := w
          replace w := w p9 q9 (vpX3_reachedCount z9 w0) y23_ y24_
          obtain ⟨v9, e9, h⟩ := h
          replace w := w v9 e9 
          obtain ⟨q9, z9, y25_, y26_, h⟩ := h
          obtain ⟨Q9, w0, w⟩ := w
          replace w := w q9 (vpX11_addMethod z9 w0) y25_ y26_
          obtain ⟨v9, e9, h⟩ := h
          replace w := w v9 e9 
          exact ih m h w
set_option maxRecDepth 100000 in
theorem vwX12_count {S : MS} {x1 : Int32} {ro : Int32} {uo : MS} (h : vX12_count S x1 ro uo) : wX12_count S x1 (fun r u => r = ro ∧ u = uo) := by
  unfold vX12_count at h
  unfold wX12_count
  obtain ⟨p9, q9, z9, h⟩ := h
  refine ⟨_, vwX12_soundUnitAt z9, ?_⟩
  rintro p8 q8 ⟨d8, d9⟩ _ _ _
  subst d8
  subst d9
  replace h := h.2.2.2
  rcases h with ⟨c, h⟩ | ⟨c, h⟩
  · refine ⟨fun _ => ?_, fun c2 => absurd c c2⟩
    exact ⟨h.1.symm, h.2.symm⟩
  · refine ⟨fun c2 => absurd c2 c, fun _ => ?_⟩
    rcases h with ⟨c, h⟩ | ⟨c, h⟩
    · refine ⟨fun _ => ?_, fun c2 => absurd c c2⟩
      exact ⟨h.1.symm, h.2.symm⟩
    · refine ⟨fun c2 => absurd c2 c, fun _ => ?_⟩
      rcases h with ⟨c, h⟩ | ⟨c, h⟩
      · refine ⟨fun _ => ?_, fun c2 => absurd c c2⟩
        obtain ⟨v9, e9, h⟩ := h
        intro x9 d9 _ _
        have c9 : v9 = x9 := e9.trans d9.symm
        subst c9
        replace h := h.2.2
        intro _
        replace h := h.2
        obtain ⟨p9, q9, z9, h⟩ := h
        refine ⟨_, vwX12_countersOf z9, ?_⟩
        rintro p8 q8 ⟨d8, d9⟩ _ _
        subst d8
        subst d9
        replace h := h.2.2
        rcases h with ⟨c, h⟩ | ⟨c, h⟩
        · refine ⟨fun _ => ?_, fun c2 => absurd c c2⟩
          intro _
          replace h := h.2
          obtain ⟨q9, z9, h⟩ := h
          refine ⟨_, vwX11_begin z9, ?_⟩
          intro q8 d9 _ _
          subst d9
          replace h := h.2.2
          obtain ⟨v9, e9, h⟩ := h
          intro x9 d9 
          have c9 : v9 = x9 := e9.trans d9.symm
          subst c9
          obtain ⟨n9, h⟩ := h
          exact ⟨n9, vw_X12_count_L81 n9 h⟩
        · refine ⟨fun c2 => absurd c2 c, fun _ => ?_⟩
          exact ⟨h.1.symm, h.2.symm⟩
      · refine ⟨fun c2 => absurd c2 c, fun _ => ?_⟩
        exact ⟨h.1.symm, h.2.symm⟩
set_option maxRecDepth 100000 in
theorem vpX12_count {S : MS} {x1 : Int32} {ro : Int32} {uo : MS} {P : Int32 → MS → Prop} (h : vX12_count S x1 ro uo) (w : wX12_count S x1 P) : P ro uo := by
  unfold vX12_count at h
  unfold wX12_count at w
  obtain ⟨p9, q9, z9, y27_, y28_, y29_, h⟩ := h
  obtain ⟨Q9, w0, w⟩ := w
  replace w := w p9 q9 (vpX12_soundUnitAt z9 w0) y27_ y28_ y29_
  rcases h with ⟨c, h⟩ | ⟨c, h⟩
  · replace w := w.1 c
    rw [h.1, h.2]
    exact w
  · replace w := w.2 c
    rcases h with ⟨c, h⟩ | ⟨c, h⟩
    · replace w := w.1 c
      rw [h.1, h.2]
      exact w
    · replace w := w.2 c
      rcases h with ⟨c, h⟩ | ⟨c, h⟩
      · replace w := w.1 c
        obtain ⟨v9, e9, y30_, y31_, h⟩ := h
        replace w := w v9 e9 y30_ y31_
        obtain ⟨y32_, h⟩ := h
        replace w := w y32_
        obtain ⟨p9, q9, z9, y33_, y34_, h⟩ := h
        obtain ⟨Q9, w0, w⟩ := w
        replace w := w p9 q9 (vpX12_countersOf z9 w0) y33_ y34_
        rcases h with ⟨c, h⟩ | ⟨c, h⟩
        · replace w := w.1 c
          obtain ⟨y35_, h⟩ := h
          replace w := w y35_
          obtain ⟨q9, z9, y36_, y37_, h⟩ := h
          obtain ⟨Q9, w0, w⟩ := w
          replace w := w q9 (vpX11_begin z9 w0) y36_ y37_
          obtain ⟨v9, e9, h⟩ := h
          replace w := w v9 e9 
          obtain ⟨n9, h⟩ := h
          obtain ⟨n8, w⟩ := w
          exact vp_X12_count_L81 n9 n8 h w
        · replace w := w.2 c
          rw [h.1, h.2]
          exact w
      · replace w := w.2 c
        rw [h.1, h.2]
        exact w
