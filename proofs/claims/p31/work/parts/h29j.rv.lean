def v_X11_textEntry_L18 (ro : Int32) (uo : MS) : Nat → MS → Nat → Int32 → Prop
  | 0, _, _, _ => False
  | n18 + 1, U18, v18_1, v18_2 => (wfC U18 ∧ qT U18 v18_1 = 12 ∧ (((Int32.ofNat (qN U18 (v18_1 + 1))).toInt ≤ v18_2.toInt ∧ (∃ (r13 : Int32) (S14 : MS), vX11_entryOfWanted U18 r13 S14 ∧ wfC S14 ∧ shx U18 S14 ∧ (ro = r13 ∧ uo = S14))) ∨ (¬ (Int32.ofNat (qN U18 (v18_1 + 1))).toInt ≤ v18_2.toInt ∧ (((0 : Int) ≤ v18_2.toInt ∧ v18_2.toInt < (qN U18 (v18_1 + 1) : Int)) ∧ (qT U18 30 = 40 ∧ (∃ (S20 : MS), vX0_put U18 30 (cAt U18 v18_1 v18_2) S20 ∧ wfC S20 ∧ shx U18 S20 ∧ (∃ a23 : Int32, a23 = (v18_2 + Int32.ofInt 1) ∧ ((v_X11_textEntry_L18 ro uo n18) S20 v18_1 a23))))))))
def vX11_textEntry (S : MS) (p1 : Nat) (ro : Int32) (uo : MS) : Prop := (∃ (S2 : MS), vX11_want S (1 : Int32) S2 ∧ wfC S2 ∧ shx S S2 ∧ (qT S2 30 = 40 ∧ (∃ (S7 : MS), vX0_put2 S2 30 (Int32.ofNat (qN S2 (p1 + 1))) S7 ∧ wfC S7 ∧ shx S2 S7 ∧ (∃ n, v_X11_textEntry_L18 ro uo n S7 p1 0))))
set_option maxRecDepth 100000 in
theorem ru_X11_textEntry_L18 {ι : Type} {P Q : Int32 → MS → Prop} : ∀ (n : Nat) {U18 : MS} {v18_1 : Nat} {v18_2 : Int32} (i0 : ι), (∀ (i : ι) (ro : Int32) (uo : MS), (∃ n8, v_X11_textEntry_L18 ro uo n8 U18 v18_1 v18_2) → P ro uo) → w_X11_textEntry_L18 Q n U18 v18_1 v18_2 → w_X11_textEntry_L18 (fun r u => Q r u ∧ P r u) n U18 v18_1 v18_2 := by
  intro n
  induction n with
  | zero => intro U18 v18_1 v18_2 i0 K h; unfold w_X11_textEntry_L18 at h; exact h.elim
  | succ n ih =>
    intro U18 v18_1 v18_2 i0 K h
    unfold w_X11_textEntry_L18 at h ⊢
    replace K := fun (i : ι × Nat) ro uo (z : v_X11_textEntry_L18 ro uo (i.2 + 1) U18 v18_1 v18_2) => K i.1 ro uo ⟨i.2 + 1, z⟩
    have i00 := i0
    replace i0 : ι × Nat := (i0, 0)
    intro y1_ y2_
    replace h := h y1_ y2_
    replace K := fun i ro uo z => K i ro uo ⟨y1_, y2_, z⟩
    refine ⟨fun c => ?_, fun c => ?_⟩
    · replace h := h.1 c
      replace K := fun i ro uo z => K i ro uo (Or.inl ⟨c, z⟩)
      obtain ⟨Q9, h0, h⟩ := h
      refine ⟨_, ruX11_entryOfWanted h0, ?_⟩
      intro r13 S14 q3_ y4_ y5_
      replace h := h r13 S14 q3_.1 y4_ y5_
      replace K := fun i ro uo z => K i ro uo ⟨r13, S14, q3_.2, y4_, y5_, z⟩
      exact ⟨h, K i0 _ _ ⟨rfl, rfl⟩⟩
    · replace h := h.2 c
      replace K := fun i ro uo z => K i ro uo (Or.inr ⟨c, z⟩)
      obtain ⟨g6_, h⟩ := h
      refine ⟨g6_, ?_⟩
      replace K := fun i ro uo z => K i ro uo ⟨g6_, z⟩
      intro y7_
      replace h := h y7_
      replace K := fun i ro uo z => K i ro uo ⟨y7_, z⟩
      obtain ⟨Q9, h0, h⟩ := h
      refine ⟨_, ruX0_put h0, ?_⟩
      intro S20 q8_ y9_ y10_
      replace h := h S20 q8_.1 y9_ y10_
      replace K := fun i ro uo z => K i ro uo ⟨S20, q8_.2, y9_, y10_, z⟩
      intro a23 ea23 
      replace h := h a23 ea23 
      replace K := fun i ro uo z => K i ro uo ⟨a23, ea23, z⟩
      exact ih i00 (fun i ro uo ⟨n8, z⟩ => K (i, n8) ro uo z) h
set_option maxRecDepth 100000 in
theorem ruX11_textEntry {S : MS} {p1 : Nat} {Q : Int32 → MS → Prop} (h : wX11_textEntry S p1 Q) : wX11_textEntry S p1 (fun r u => Q r u ∧ vX11_textEntry S p1 r u) := by
  have i0 : Unit := ()
  have K : ∀ (i : Unit) (ro : Int32) (uo : MS), vX11_textEntry S p1 ro uo → vX11_textEntry S p1 ro uo := fun _ _ _ z => z
  unfold wX11_textEntry at h ⊢
  obtain ⟨Q9, h0, h⟩ := h
  refine ⟨_, ruX11_want h0, ?_⟩
  intro S2 q11_ y12_ y13_
  replace h := h S2 q11_.1 y12_ y13_
  replace K := fun i ro uo z => K i ro uo ⟨S2, q11_.2, y12_, y13_, z⟩
  intro y14_
  replace h := h y14_
  replace K := fun i ro uo z => K i ro uo ⟨y14_, z⟩
  obtain ⟨Q9, h0, h⟩ := h
  refine ⟨_, ruX0_put2 h0, ?_⟩
  intro S7 q15_ y16_ y17_
  replace h := h S7 q15_.1 y16_ y17_
  replace K := fun i ro uo z => K i ro uo ⟨S7, q15_.2, y16_, y17_, z⟩
  obtain ⟨n9, h⟩ := h
  exact ⟨n9, ru_X11_textEntry_L18 n9 i0 K h⟩
set_option maxRecDepth 100000 in
theorem vw_X11_textEntry_L18 {ro : Int32} {uo : MS} : ∀ (n : Nat) {U18 : MS} {v18_1 : Nat} {v18_2 : Int32}, v_X11_textEntry_L18 ro uo n U18 v18_1 v18_2 → w_X11_textEntry_L18 (fun r u => r = ro ∧ u = uo) n U18 v18_1 v18_2 := by
  intro n
  induction n with
  | zero => intro U18 v18_1 v18_2 h; unfold v_X11_textEntry_L18 at h; exact h.elim
  | succ n ih =>
    intro U18 v18_1 v18_2 h
    unfold v_X11_textEntry_L18 at h
    unfold w_X11_textEntry_L18
    intro _ _
    replace h := h.2.2
    rcases h with ⟨c, h⟩ | ⟨c, h⟩
    · refine ⟨fun _ => ?_, fun c2 => absurd c c2⟩
      obtain ⟨p9, q9, z9, h⟩ := h
      refine ⟨_, vwX11_entryOfWanted z9, ?_⟩
      rintro p8 q8 ⟨d8, d9⟩ _ _
      subst d8
      subst d9
      replace h := h.2.2
      exact ⟨h.1.symm, h.2.symm⟩
    · refine ⟨fun c2 => absurd c2 c, fun _ => ?_⟩
      obtain ⟨g9, h⟩ := h
      refine ⟨g9, ?_⟩
      intro _
      replace h := h.2
      obtain ⟨q9, z9, h⟩ := h
      refine ⟨_, vwX0_put z9, ?_⟩
      intro q8 d9 _ _
      subst d9
      replace h := h.2.2
      obtain ⟨v9, e9, h⟩ := h
      intro x9 d9 
      have c9 : v9 = x9 := e9.trans d9.symm
      subst c9
      exact ih h
set_option maxRecDepth 100000 in
theorem vp_X11_textEntry_L18 {ro : Int32} {uo : MS} {P : Int32 → MS → Prop} : ∀ (n m : Nat) {U18 : MS} {v18_1 : Nat} {v18_2 : Int32}, v_X11_textEntry_L18 ro uo n U18 v18_1 v18_2 → w_X11_textEntry_L18 P m U18 v18_1 v18_2 → P ro uo := by
  intro n
  induction n with
  | zero => intro m U18 v18_1 v18_2 h; unfold v_X11_textEntry_L18 at h; exact h.elim
  | succ n ih =>
    intro m U18 v18_1 v18_2 h w
    cases m with
    | zero => unfold w_X11_textEntry_L18 at w; exact w.elim
    | succ m =>
      unfold v_X11_textEntry_L18 at h
      unfold w_X11_textEntry_L18 at w
      obtain ⟨y1_, y2_, h⟩ := h
      replace w := w y1_ y2_
      rcases h with ⟨c, h⟩ | ⟨c, h⟩
      · replace w := w.1 c
        obtain ⟨p9, q9, z9, y3_, y4_, h⟩ := h
        obtain ⟨Q9, w0, w⟩ := w
        replace w := w p9 q9 (vpX11_entryOfWanted z9 w0) y3_ y4_
        rw [h.1, h.2]
        exact w
      · replace w := w.2 c
        replace h := h.2
        replace w := w.2
        obtain ⟨y5_, h⟩ := h
        replace w := w y5_
        obtain ⟨q9, z9, y6_, y7_, h⟩ := h
        obtain ⟨Q9, w0, w⟩ := w
        replace w := w q9 (vpX0_put z9 w0) y6_ y7_
        obtain ⟨v9, e9, h⟩ := h
        replace w := w v9 e9 
        exact ih m h w
set_option maxRecDepth 100000 in
theorem vwX11_textEntry {S : MS} {p1 : Nat} {ro : Int32} {uo : MS} (h : vX11_textEntry S p1 ro uo) : wX11_textEntry S p1 (fun r u => r = ro ∧ u = uo) := by
  unfold vX11_textEntry at h
  unfold wX11_textEntry
  obtain ⟨q9, z9, h⟩ := h
  refine ⟨_, vwX11_want z9, ?_⟩
  intro q8 d9 _ _
  subst d9
  replace h := h.2.2
  intro _
  replace h := h.2
  obtain ⟨q9, z9, h⟩ := h
  refine ⟨_, vwX0_put2 z9, ?_⟩
  intro q8 d9 _ _
  subst d9
  replace h := h.2.2
  obtain ⟨n9, h⟩ := h
  exact ⟨n9, vw_X11_textEntry_L18 n9 h⟩
set_option maxRecDepth 100000 in
theorem vpX11_textEntry {S : MS} {p1 : Nat} {ro : Int32} {uo : MS} {P : Int32 → MS → Prop} (h : vX11_textEntry S p1 ro uo) (w : wX11_textEntry S p1 P) : P ro uo := by
  unfold vX11_textEntry at h
  unfold wX11_textEntry at w
  obtain ⟨q9, z9, y8_, y9_, h⟩ := h
  obtain ⟨Q9, w0, w⟩ := w
  replace w := w q9 (vpX11_want z9 w0) y8_ y9_
  obtain ⟨y10_, h⟩ := h
  replace w := w y10_
  obtain ⟨q9, z9, y11_, y12_, h⟩ := h
  obtain ⟨Q9, w0, w⟩ := w
  replace w := w q9 (vpX0_put2 z9 w0) y11_ y12_
  obtain ⟨n9, h⟩ := h
  obtain ⟨n8, w⟩ := w
  exact vp_X11_textEntry_L18 n9 n8 h w
def v_X11_nameEntry_L26 (ro : Int32) (uo : MS) : Nat → MS → Int32 → Int32 → Int32 → Prop
  | 0, _, _, _, _ => False
  | n26 + 1, U26, v26_1, v26_2, v26_3 => (wfC U26 ∧ ((((3 : Int32) + v26_2).toInt ≤ v26_3.toInt ∧ (∃ (r21 : Int32) (S22 : MS), vX11_entryOfWanted U26 r21 S22 ∧ wfC S22 ∧ shx U26 S22 ∧ (ro = r21 ∧ uo = S22))) ∨ (¬ ((3 : Int32) + v26_2).toInt ≤ v26_3.toInt ∧ (d_X11_unitByte U26 (v26_1 + v26_3) ∧ (∃ a29 : Int32, a29 = (fX11_unitByte U26 (v26_1 + v26_3)) ∧ (qT U26 30 = 40 ∧ (∃ (S31 : MS), vX0_put U26 30 a29 S31 ∧ wfC S31 ∧ shx U26 S31 ∧ (∃ a34 : Int32, a34 = (v26_3 + Int32.ofInt 1) ∧ ((v_X11_nameEntry_L26 ro uo n26) S31 v26_1 v26_2 a34)))))))))
def vX11_nameEntry (S : MS) (x1 : Int32) (ro : Int32) (uo : MS) : Prop := (∃ (S2 : MS), vX11_want S (1 : Int32) S2 ∧ wfC S2 ∧ shx S S2 ∧ (d_X11_unitByte S2 (x1 + (1 : Int32)) ∧ (∃ a9 : Int32, a9 = (fX11_unitByte S2 (x1 + (1 : Int32))) ∧ (d_X11_unitByte S2 (x1 + (2 : Int32)) ∧ (∃ a15 : Int32, a15 = (fX11_unitByte S2 (x1 + (2 : Int32))) ∧ (∃ a17 : Int32, a17 = ((a9 <<< ((8 : Int32) &&& 31)) ||| a15) ∧ (∃ n, v_X11_nameEntry_L26 ro uo n S2 x1 a17 1)))))))
set_option maxRecDepth 100000 in
theorem ru_X11_nameEntry_L26 {ι : Type} {P Q : Int32 → MS → Prop} : ∀ (n : Nat) {U26 : MS} {v26_1 : Int32} {v26_2 : Int32} {v26_3 : Int32} (i0 : ι), (∀ (i : ι) (ro : Int32) (uo : MS), (∃ n8, v_X11_nameEntry_L26 ro uo n8 U26 v26_1 v26_2 v26_3) → P ro uo) → w_X11_nameEntry_L26 Q n U26 v26_1 v26_2 v26_3 → w_X11_nameEntry_L26 (fun r u => Q r u ∧ P r u) n U26 v26_1 v26_2 v26_3 := by
  intro n
  induction n with
  | zero => intro U26 v26_1 v26_2 v26_3 i0 K h; unfold w_X11_nameEntry_L26 at h; exact h.elim
  | succ n ih =>
    intro U26 v26_1 v26_2 v26_3 i0 K h
    unfold w_X11_nameEntry_L26 at h ⊢
    replace K := fun (i : ι × Nat) ro uo (z : v_X11_nameEntry_L26 ro uo (i.2 + 1) U26 v26_1 v26_2 v26_3) => K i.1 ro uo ⟨i.2 + 1, z⟩
    have i00 := i0
    replace i0 : ι × Nat := (i0, 0)
    intro y1_
    replace h := h y1_
    replace K := fun i ro uo z => K i ro uo ⟨y1_, z⟩
    refine ⟨fun c => ?_, fun c => ?_⟩
    · replace h := h.1 c
      replace K := fun i ro uo z => K i ro uo (Or.inl ⟨c, z⟩)
      obtain ⟨Q9, h0, h⟩ := h
      refine ⟨_, ruX11_entryOfWanted h0, ?_⟩
      intro r21 S22 q2_ y3_ y4_
      replace h := h r21 S22 q2_.1 y3_ y4_
      replace K := fun i ro uo z => K i ro uo ⟨r21, S22, q2_.2, y3_, y4_, z⟩
      exact ⟨h, K i0 _ _ ⟨rfl, rfl⟩⟩
    · replace h := h.2 c
      replace K := fun i ro uo z => K i ro uo (Or.inr ⟨c, z⟩)
      obtain ⟨g5_, h⟩ := h
      refine ⟨g5_, ?_⟩
      replace K := fun i ro uo z => K i ro uo ⟨g5_, z⟩
      intro a29 ea29 
      replace h := h a29 ea29 
      replace K := fun i ro uo z => K i ro uo ⟨a29, ea29, z⟩
      intro y6_
      replace h := h y6_
      replace K := fun i ro uo z => K i ro uo ⟨y6_, z⟩
      obtain ⟨Q9, h0, h⟩ := h
      refine ⟨_, ruX0_put h0, ?_⟩
      intro S31 q7_ y8_ y9_
      replace h := h S31 q7_.1 y8_ y9_
      replace K := fun i ro uo z => K i ro uo ⟨S31, q7_.2, y8_, y9_, z⟩
      intro a34 ea34 
      replace h := h a34 ea34 
      replace K := fun i ro uo z => K i ro uo ⟨a34, ea34, z⟩
      exact ih i00 (fun i ro uo ⟨n8, z⟩ => K (i, n8) ro uo z) h
set_option maxRecDepth 100000 in
theorem ruX11_nameEntry {S : MS} {x1 : Int32} {Q : Int32 → MS → Prop} (h : wX11_nameEntry S x1 Q) : wX11_nameEntry S x1 (fun r u => Q r u ∧ vX11_nameEntry S x1 r u) := by
  have i0 : Unit := ()
  have K : ∀ (i : Unit) (ro : Int32) (uo : MS), vX11_nameEntry S x1 ro uo → vX11_nameEntry S x1 ro uo := fun _ _ _ z => z
  unfold wX11_nameEntry at h ⊢
  obtain ⟨Q9, h0, h⟩ := h
  refine ⟨_, ruX11_want h0, ?_⟩
  intro S2 q10_ y11_ y12_
  replace h := h S2 q10_.1 y11_ y12_
  replace K := fun i ro uo z => K i ro uo ⟨S2, q10_.2, y11_, y12_, z⟩
  obtain ⟨g13_, h⟩ := h
  refine ⟨g13_, ?_⟩
  replace K := fun i ro uo z => K i ro uo ⟨g13_, z⟩
  intro a9 ea9 
  replace h := h a9 ea9 
  replace K := fun i ro uo z => K i ro uo ⟨a9, ea9, z⟩
  obtain ⟨g14_, h⟩ := h
  refine ⟨g14_, ?_⟩
  replace K := fun i ro uo z => K i ro uo ⟨g14_, z⟩
  intro a15 ea15 
  replace h := h a15 ea15 
  replace K := fun i ro uo z => K i ro uo ⟨a15, ea15, z⟩
  intro a17 ea17 
  replace h := h a17 ea17 
  replace K := fun i ro uo z => K i ro uo ⟨a17, ea17, z⟩
  obtain ⟨n9, h⟩ := h
  exact ⟨n9, ru_X11_nameEntry_L26 n9 i0 K h⟩
set_option maxRecDepth 100000 in
theorem vw_X11_nameEntry_L26 {ro : Int32} {uo : MS} : ∀ (n : Nat) {U26 : MS} {v26_1 : Int32} {v26_2 : Int32} {v26_3 : Int32}, v_X11_nameEntry_L26 ro uo n U26 v26_1 v26_2 v26_3 → w_X11_nameEntry_L26 (fun r u => r = ro ∧ u = uo) n U26 v26_1 v26_2 v26_3 := by
  intro n
  induction n with
  | zero => intro U26 v26_1 v26_2 v26_3 h; unfold v_X11_nameEntry_L26 at h; exact h.elim
  | succ n ih =>
    intro U26 v26_1 v26_2 v26_3 h
    unfold v_X11_nameEntry_L26 at h
    unfold w_X11_nameEntry_L26
    intro _
    replace h := h.2
    rcases h with ⟨c, h⟩ | ⟨c, h⟩
    · refine ⟨fun _ => ?_, fun c2 => absurd c c2⟩
      obtain ⟨p9, q9, z9, h⟩ := h
      refine ⟨_, vwX11_entryOfWanted z9, ?_⟩
      rintro p8 q8 ⟨d8, d9⟩ _ _
      subst d8
      subst d9
      replace h := h.2.2
      exact ⟨h.1.symm, h.2.symm⟩
    · refine ⟨fun c2 => absurd c2 c, fun _ => ?_⟩
      obtain ⟨g9, h⟩ := h
      refine ⟨g9, ?_⟩
      obtain ⟨v9, e9, h⟩ := h
      intro x9 d9 
      have c9 : v9 = x9 := e9.trans d9.symm
      subst c9
      intro _
      replace h := h.2
      obtain ⟨q9, z9, h⟩ := h
      refine ⟨_, vwX0_put z9, ?_⟩
      intro q8 d9 _ _
      subst d9
      replace h := h.2.2
      obtain ⟨v9, e9, h⟩ := h
      intro x9 d9 
      have c9 : v9 = x9 := e9.trans d9.symm
      subst c9
      exact ih h
set_option maxRecDepth 100000 in
theorem vp_X11_nameEntry_L26 {ro : Int32} {uo : MS} {P : Int32 → MS → Prop} : ∀ (n m : Nat) {U26 : MS} {v26_1 : Int32} {v26_2 : Int32} {v26_3 : Int32}, v_X11_nameEntry_L26 ro uo n U26 v26_1 v26_2 v26_3 → w_X11_nameEntry_L26 P m U26 v26_1 v26_2 v26_3 → P ro uo := by
  intro n
  induction n with
  | zero => intro m U26 v26_1 v26_2 v26_3 h; unfold v_X11_nameEntry_L26 at h; exact h.elim
  | succ n ih =>
    intro m U26 v26_1 v26_2 v26_3 h w
    cases m with
    | zero => unfold w_X11_nameEntry_L26 at w; exact w.elim
    | succ m =>
      unfold v_X11_nameEntry_L26 at h
      unfold w_X11_nameEntry_L26 at w
      obtain ⟨y1_, h⟩ := h
      replace w := w y1_
      rcases h with ⟨c, h⟩ | ⟨c, h⟩
      · replace w := w.1 c
        obtain ⟨p9, q9, z9, y2_, y3_, h⟩ := h
        obtain ⟨Q9, w0, w⟩ := w
        replace w := w p9 q9 (vpX11_entryOfWanted z9 w0) y2_ y3_
        rw [h.1, h.2]
        exact w
      · replace w := w.2 c
        replace h := h.2
        replace w := w.2
        obtain ⟨v9, e9, h⟩ := h
        replace w := w v9 e9 
        obtain ⟨y4_, h⟩ := h
        replace w := w y4_
        obtain ⟨q9, z9, y5_, y6_, h⟩ := h
        obtain ⟨Q9, w0, w⟩ := w
        replace w := w q9 (vpX0_put z9 w0) y5_ y6_
        obtain ⟨v9, e9, h⟩ := h
        replace w := w v9 e9 
        exact ih m h w
set_option maxRecDepth 100000 in
theorem vwX11_nameEntry {S : MS} {x1 : Int32} {ro : Int32} {uo : MS} (h : vX11_nameEntry S x1 ro uo) : wX11_nameEntry S x1 (fun r u => r = ro ∧ u = uo) := by
  unfold vX11_nameEntry at h
  unfold wX11_nameEntry
  obtain ⟨q9, z9, h⟩ := h
  refine ⟨_, vwX11_want z9, ?_⟩
  intro q8 d9 _ _
  subst d9
  replace h := h.2.2
  obtain ⟨g9, h⟩ := h
  refine ⟨g9, ?_⟩
  obtain ⟨v9, e9, h⟩ := h
  intro x9 d9 
  have c9 : v9 = x9 := e9.trans d9.symm
  subst c9
  obtain ⟨g9, h⟩ := h
  refine ⟨g9, ?_⟩
  obtain ⟨v9, e9, h⟩ := h
  intro x9 d9 
  have c9 : v9 = x9 := e9.trans d9.symm
  subst c9
  obtain ⟨v9, e9, h⟩ := h
  intro x9 d9 
  have c9 : v9 = x9 := e9.trans d9.symm
  subst c9
  obtain ⟨n9, h⟩ := h
  exact ⟨n9, vw_X11_nameEntry_L26 n9 h⟩
set_option maxRecDepth 100000 in
theorem vpX11_nameEntry {S : MS} {x1 : Int32} {ro : Int32} {uo : MS} {P : Int32 → MS → Prop} (h : vX11_nameEntry S x1 ro uo) (w : wX11_nameEntry S x1 P) : P ro uo := by
  unfold vX11_nameEntry at h
  unfold wX11_nameEntry at w
  obtain ⟨q9, z9, y7_, y8_, h⟩ := h
  obtain ⟨Q9, w0, w⟩ := w
  replace w := w q9 (vpX11_want z9 w0) y7_ y8_
  replace h := h.2
  replace w := w.2
  obtain ⟨v9, e9, h⟩ := h
  replace w := w v9 e9 
  replace h := h.2
  replace w := w.2
  obtain ⟨v9, e9, h⟩ := h
  replace w := w v9 e9 
  obtain ⟨v9, e9, h⟩ := h
  replace w := w v9 e9 
  obtain ⟨n9, h⟩ := h
  obtain ⟨n8, w⟩ := w
  exact vp_X11_nameEntry_L26 n9 n8 h w
def vX11_pointerEntry (S : MS) (x1 : Int32) (x2 : Int32) (ro : Int32) (uo : MS) : Prop := (∃ (S2 : MS), vX11_want S x1 S2 ∧ wfC S2 ∧ shx S S2 ∧ (qT S2 30 = 40 ∧ (∃ (S6 : MS), vX0_put2 S2 30 x2 S6 ∧ wfC S6 ∧ shx S2 S6 ∧ (∃ (r10 : Int32) (S11 : MS), vX11_entryOfWanted S6 r10 S11 ∧ wfC S11 ∧ shx S6 S11 ∧ (ro = r10 ∧ uo = S11)))))
set_option maxRecDepth 100000 in
theorem ruX11_pointerEntry {S : MS} {x1 : Int32} {x2 : Int32} {Q : Int32 → MS → Prop} (h : wX11_pointerEntry S x1 x2 Q) : wX11_pointerEntry S x1 x2 (fun r u => Q r u ∧ vX11_pointerEntry S x1 x2 r u) := by
  have i0 : Unit := ()
  have K : ∀ (i : Unit) (ro : Int32) (uo : MS), vX11_pointerEntry S x1 x2 ro uo → vX11_pointerEntry S x1 x2 ro uo := fun _ _ _ z => z
  unfold wX11_pointerEntry at h ⊢
  obtain ⟨Q9, h0, h⟩ := h
  refine ⟨_, ruX11_want h0, ?_⟩
  intro S2 q1_ y2_ y3_
  replace h := h S2 q1_.1 y2_ y3_
  replace K := fun i ro uo z => K i ro uo ⟨S2, q1_.2, y2_, y3_, z⟩
  intro y4_
  replace h := h y4_
  replace K := fun i ro uo z => K i ro uo ⟨y4_, z⟩
  obtain ⟨Q9, h0, h⟩ := h
  refine ⟨_, ruX0_put2 h0, ?_⟩
  intro S6 q5_ y6_ y7_
  replace h := h S6 q5_.1 y6_ y7_
  replace K := fun i ro uo z => K i ro uo ⟨S6, q5_.2, y6_, y7_, z⟩
  obtain ⟨Q9, h0, h⟩ := h
  refine ⟨_, ruX11_entryOfWanted h0, ?_⟩
  intro r10 S11 q8_ y9_ y10_
  replace h := h r10 S11 q8_.1 y9_ y10_
  replace K := fun i ro uo z => K i ro uo ⟨r10, S11, q8_.2, y9_, y10_, z⟩
  exact ⟨h, K i0 _ _ ⟨rfl, rfl⟩⟩
set_option maxRecDepth 100000 in
theorem vwX11_pointerEntry {S : MS} {x1 : Int32} {x2 : Int32} {ro : Int32} {uo : MS} (h : vX11_pointerEntry S x1 x2 ro uo) : wX11_pointerEntry S x1 x2 (fun r u => r = ro ∧ u = uo) := by
  unfold vX11_pointerEntry at h
  unfold wX11_pointerEntry
  obtain ⟨q9, z9, h⟩ := h
  refine ⟨_, vwX11_want z9, ?_⟩
  intro q8 d9 _ _
  subst d9
  replace h := h.2.2
  intro _
  replace h := h.2
  obtain ⟨q9, z9, h⟩ := h
  refine ⟨_, vwX0_put2 z9, ?_⟩
  intro q8 d9 _ _
  subst d9
  replace h := h.2.2
  obtain ⟨p9, q9, z9, h⟩ := h
  refine ⟨_, vwX11_entryOfWanted z9, ?_⟩
  rintro p8 q8 ⟨d8, d9⟩ _ _
  subst d8
  subst d9
  replace h := h.2.2
  exact ⟨h.1.symm, h.2.symm⟩
set_option maxRecDepth 100000 in
theorem vpX11_pointerEntry {S : MS} {x1 : Int32} {x2 : Int32} {ro : Int32} {uo : MS} {P : Int32 → MS → Prop} (h : vX11_pointerEntry S x1 x2 ro uo) (w : wX11_pointerEntry S x1 x2 P) : P ro uo := by
  unfold vX11_pointerEntry at h
  unfold wX11_pointerEntry at w
  obtain ⟨q9, z9, y1_, y2_, h⟩ := h
  obtain ⟨Q9, w0, w⟩ := w
  replace w := w q9 (vpX11_want z9 w0) y1_ y2_
  obtain ⟨y3_, h⟩ := h
  replace w := w y3_
  obtain ⟨q9, z9, y4_, y5_, h⟩ := h
  obtain ⟨Q9, w0, w⟩ := w
  replace w := w q9 (vpX0_put2 z9 w0) y4_ y5_
  obtain ⟨p9, q9, z9, y6_, y7_, h⟩ := h
  obtain ⟨Q9, w0, w⟩ := w
  replace w := w p9 q9 (vpX11_entryOfWanted z9 w0) y6_ y7_
  rw [h.1, h.2]
  exact w
def vX11_pointersEntry (S : MS) (x1 : Int32) (x2 : Int32) (x3 : Int32) (ro : Int32) (uo : MS) : Prop := (∃ (S2 : MS), vX11_want S x1 S2 ∧ wfC S2 ∧ shx S S2 ∧ (qT S2 30 = 40 ∧ (∃ (S6 : MS), vX0_put2 S2 30 x2 S6 ∧ wfC S6 ∧ shx S2 S6 ∧ (qT S6 30 = 40 ∧ (∃ (S10 : MS), vX0_put2 S6 30 x3 S10 ∧ wfC S10 ∧ shx S6 S10 ∧ (∃ (r14 : Int32) (S15 : MS), vX11_entryOfWanted S10 r14 S15 ∧ wfC S15 ∧ shx S10 S15 ∧ (ro = r14 ∧ uo = S15)))))))
set_option maxRecDepth 100000 in
theorem ruX11_pointersEntry {S : MS} {x1 : Int32} {x2 : Int32} {x3 : Int32} {Q : Int32 → MS → Prop} (h : wX11_pointersEntry S x1 x2 x3 Q) : wX11_pointersEntry S x1 x2 x3 (fun r u => Q r u ∧ vX11_pointersEntry S x1 x2 x3 r u) := by
  have i0 : Unit := ()
  have K : ∀ (i : Unit) (ro : Int32) (uo : MS), vX11_pointersEntry S x1 x2 x3 ro uo → vX11_pointersEntry S x1 x2 x3 ro uo := fun _ _ _ z => z
  unfold wX11_pointersEntry at h ⊢
  obtain ⟨Q9, h0, h⟩ := h
  refine ⟨_, ruX11_want h0, ?_⟩
  intro S2 q1_ y2_ y3_
  replace h := h S2 q1_.1 y2_ y3_
  replace K := fun i ro uo z => K i ro uo ⟨S2, q1_.2, y2_, y3_, z⟩
  intro y4_
  replace h := h y4_
  replace K := fun i ro uo z => K i ro uo ⟨y4_, z⟩
  obtain ⟨Q9, h0, h⟩ := h
  refine ⟨_, ruX0_put2 h0, ?_⟩
  intro S6 q5_ y6_ y7_
  replace h := h S6 q5_.1 y6_ y7_
  replace K := fun i ro uo z => K i ro uo ⟨S6, q5_.2, y6_, y7_, z⟩
  intro y8_
  replace h := h y8_
  replace K := fun i ro uo z => K i ro uo ⟨y8_, z⟩
  obtain ⟨Q9, h0, h⟩ := h
  refine ⟨_, ruX0_put2 h0, ?_⟩
  intro S10 q9_ y10_ y11_
  replace h := h S10 q9_.1 y10_ y11_
  replace K := fun i ro uo z => K i ro uo ⟨S10, q9_.2, y10_, y11_, z⟩
  obtain ⟨Q9, h0, h⟩ := h
  refine ⟨_, ruX11_entryOfWanted h0, ?_⟩
  intro r14 S15 q12_ y13_ y14_
  replace h := h r14 S15 q12_.1 y13_ y14_
  replace K := fun i ro uo z => K i ro uo ⟨r14, S15, q12_.2, y13_, y14_, z⟩
  exact ⟨h, K i0 _ _ ⟨rfl, rfl⟩⟩
set_option maxRecDepth 100000 in
theorem vwX11_pointersEntry {S : MS} {x1 : Int32} {x2 : Int32} {x3 : Int32} {ro : Int32} {uo : MS} (h : vX11_pointersEntry S x1 x2 x3 ro uo) : wX11_pointersEntry S x1 x2 x3 (fun r u => r = ro ∧ u = uo) := by
  unfold vX11_pointersEntry at h
  unfold wX11_pointersEntry
  obtain ⟨q9, z9, h⟩ := h
  refine ⟨_, vwX11_want z9, ?_⟩
  intro q8 d9 _ _
  subst d9
  replace h := h.2.2
  intro _
  replace h := h.2
  obtain ⟨q9, z9, h⟩ := h
  refine ⟨_, vwX0_put2 z9, ?_⟩
  intro q8 d9 _ _
  subst d9
  replace h := h.2.2
  intro _
  replace h := h.2
  obtain ⟨q9, z9, h⟩ := h
  refine ⟨_, vwX0_put2 z9, ?_⟩
  intro q8 d9 _ _
  subst d9
  replace h := h.2.2
  obtain ⟨p9, q9, z9, h⟩ := h
  refine ⟨_, vwX11_entryOfWanted z9, ?_⟩
  rintro p8 q8 ⟨d8, d9⟩ _ _
  subst d8
  subst d9
  replace h := h.2.2
  exact ⟨h.1.symm, h.2.symm⟩
set_option maxRecDepth 100000 in
theorem vpX11_pointersEntry {S : MS} {x1 : Int32} {x2 : Int32} {x3 : Int32} {ro : Int32} {uo : MS} {P : Int32 → MS → Prop} (h : vX11_pointersEntry S x1 x2 x3 ro uo) (w : wX11_pointersEntry S x1 x2 x3 P) : P ro uo := by
  unfold vX11_pointersEntry at h
  unfold wX11_pointersEntry at w
  obtain ⟨q9, z9, y1_, y2_, h⟩ := h
  obtain ⟨Q9, w0, w⟩ := w
  replace w := w q9 (vpX11_want z9 w0) y1_ y2_
  obtain ⟨y3_, h⟩ := h
  replace w := w y3_
  obtain ⟨q9, z9, y4_, y5_, h⟩ := h
  obtain ⟨Q9, w0, w⟩ := w
  replace w := w q9 (vpX0_put2 z9 w0) y4_ y5_
  obtain ⟨y6_, h⟩ := h
  replace w := w y6_
  obtain ⟨q9, z9, y7_, y8_, h⟩ := h
  obtain ⟨Q9, w0, w⟩ := w
  replace w := w q9 (vpX0_put2 z9 w0) y7_ y8_
  obtain ⟨p9, q9, z9, y9_, y10_, h⟩ := h
  obtain ⟨Q9, w0, w⟩ := w
  replace w := w p9 q9 (vpX11_entryOfWanted z9 w0) y9_ y10_
  rw [h.1, h.2]
  exact w
def vX11_intEntry (S : MS) (x1 : Int32) (ro : Int32) (uo : MS) : Prop := (∃ (S2 : MS), vX11_want S (3 : Int32) S2 ∧ wfC S2 ∧ shx S S2 ∧ (qT S2 30 = 40 ∧ (∃ (S6 : MS), vX0_put4 S2 30 x1 S6 ∧ wfC S6 ∧ shx S2 S6 ∧ (∃ (r10 : Int32) (S11 : MS), vX11_entryOfWanted S6 r10 S11 ∧ wfC S11 ∧ shx S6 S11 ∧ (ro = r10 ∧ uo = S11)))))
set_option maxRecDepth 100000 in
theorem ruX11_intEntry {S : MS} {x1 : Int32} {Q : Int32 → MS → Prop} (h : wX11_intEntry S x1 Q) : wX11_intEntry S x1 (fun r u => Q r u ∧ vX11_intEntry S x1 r u) := by
  have i0 : Unit := ()
  have K : ∀ (i : Unit) (ro : Int32) (uo : MS), vX11_intEntry S x1 ro uo → vX11_intEntry S x1 ro uo := fun _ _ _ z => z
  unfold wX11_intEntry at h ⊢
  obtain ⟨Q9, h0, h⟩ := h
  refine ⟨_, ruX11_want h0, ?_⟩
  intro S2 q1_ y2_ y3_
  replace h := h S2 q1_.1 y2_ y3_
  replace K := fun i ro uo z => K i ro uo ⟨S2, q1_.2, y2_, y3_, z⟩
  intro y4_
  replace h := h y4_
  replace K := fun i ro uo z => K i ro uo ⟨y4_, z⟩
  obtain ⟨Q9, h0, h⟩ := h
  refine ⟨_, ruX0_put4 h0, ?_⟩
  intro S6 q5_ y6_ y7_
  replace h := h S6 q5_.1 y6_ y7_
  replace K := fun i ro uo z => K i ro uo ⟨S6, q5_.2, y6_, y7_, z⟩
  obtain ⟨Q9, h0, h⟩ := h
  refine ⟨_, ruX11_entryOfWanted h0, ?_⟩
  intro r10 S11 q8_ y9_ y10_
  replace h := h r10 S11 q8_.1 y9_ y10_
  replace K := fun i ro uo z => K i ro uo ⟨r10, S11, q8_.2, y9_, y10_, z⟩
  exact ⟨h, K i0 _ _ ⟨rfl, rfl⟩⟩
set_option maxRecDepth 100000 in
theorem vwX11_intEntry {S : MS} {x1 : Int32} {ro : Int32} {uo : MS} (h : vX11_intEntry S x1 ro uo) : wX11_intEntry S x1 (fun r u => r = ro ∧ u = uo) := by
  unfold vX11_intEntry at h
  unfold wX11_intEntry
  obtain ⟨q9, z9, h⟩ := h
  refine ⟨_, vwX11_want z9, ?_⟩
  intro q8 d9 _ _
  subst d9
  replace h := h.2.2
  intro _
  replace h := h.2
  obtain ⟨q9, z9, h⟩ := h
  refine ⟨_, vwX0_put4 z9, ?_⟩
  intro q8 d9 _ _
  subst d9
  replace h := h.2.2
  obtain ⟨p9, q9, z9, h⟩ := h
  refine ⟨_, vwX11_entryOfWanted z9, ?_⟩
  rintro p8 q8 ⟨d8, d9⟩ _ _
  subst d8
  subst d9
  replace h := h.2.2
  exact ⟨h.1.symm, h.2.symm⟩
set_option maxRecDepth 100000 in
theorem vpX11_intEntry {S : MS} {x1 : Int32} {ro : Int32} {uo : MS} {P : Int32 → MS → Prop} (h : vX11_intEntry S x1 ro uo) (w : wX11_intEntry S x1 P) : P ro uo := by
  unfold vX11_intEntry at h
  unfold wX11_intEntry at w
  obtain ⟨q9, z9, y1_, y2_, h⟩ := h
  obtain ⟨Q9, w0, w⟩ := w
  replace w := w q9 (vpX11_want z9 w0) y1_ y2_
  obtain ⟨y3_, h⟩ := h
  replace w := w y3_
  obtain ⟨q9, z9, y4_, y5_, h⟩ := h
  obtain ⟨Q9, w0, w⟩ := w
  replace w := w q9 (vpX0_put4 z9 w0) y4_ y5_
  obtain ⟨p9, q9, z9, y6_, y7_, h⟩ := h
  obtain ⟨Q9, w0, w⟩ := w
  replace w := w p9 q9 (vpX11_entryOfWanted z9 w0) y6_ y7_
  rw [h.1, h.2]
  exact w
def vX11_longEntry (S : MS) (y1 : Int64) (ro : Int32) (uo : MS) : Prop := (∃ (S2 : MS), vX11_want S (5 : Int32) S2 ∧ wfC S2 ∧ shx S S2 ∧ (qT S2 30 = 40 ∧ (∃ (S6 : MS), vX0_put4 S2 30 ((y1 >>> ((32 : Int32).toInt64 &&& 63)).toInt32) S6 ∧ wfC S6 ∧ shx S2 S6 ∧ (qT S6 30 = 40 ∧ (∃ (S10 : MS), vX0_put4 S6 30 (y1.toInt32) S10 ∧ wfC S10 ∧ shx S6 S10 ∧ (∃ (r14 : Int32) (S15 : MS), vX11_entryOfWanted S10 r14 S15 ∧ wfC S15 ∧ shx S10 S15 ∧ (ro = r14 ∧ uo = S15)))))))
set_option maxRecDepth 100000 in
theorem ruX11_longEntry {S : MS} {y1 : Int64} {Q : Int32 → MS → Prop} (h : wX11_longEntry S y1 Q) : wX11_longEntry S y1 (fun r u => Q r u ∧ vX11_longEntry S y1 r u) := by
  have i0 : Unit := ()
  have K : ∀ (i : Unit) (ro : Int32) (uo : MS), vX11_longEntry S y1 ro uo → vX11_longEntry S y1 ro uo := fun _ _ _ z => z
  unfold wX11_longEntry at h ⊢
  obtain ⟨Q9, h0, h⟩ := h
  refine ⟨_, ruX11_want h0, ?_⟩
  intro S2 q1_ y2_ y3_
  replace h := h S2 q1_.1 y2_ y3_
  replace K := fun i ro uo z => K i ro uo ⟨S2, q1_.2, y2_, y3_, z⟩
  intro y4_
  replace h := h y4_
  replace K := fun i ro uo z => K i ro uo ⟨y4_, z⟩
  obtain ⟨Q9, h0, h⟩ := h
  refine ⟨_, ruX0_put4 h0, ?_⟩
  intro S6 q5_ y6_ y7_
  replace h := h S6 q5_.1 y6_ y7_
  replace K := fun i ro uo z => K i ro uo ⟨S6, q5_.2, y6_, y7_, z⟩
  intro y8_
  replace h := h y8_
  replace K := fun i ro uo z => K i ro uo ⟨y8_, z⟩
  obtain ⟨Q9, h0, h⟩ := h
  refine ⟨_, ruX0_put4 h0, ?_⟩
  intro S10 q9_ y10_ y11_
  replace h := h S10 q9_.1 y10_ y11_
  replace K := fun i ro uo z => K i ro uo ⟨S10, q9_.2, y10_, y11_, z⟩
  obtain ⟨Q9, h0, h⟩ := h
  refine ⟨_, ruX11_entryOfWanted h0, ?_⟩
  intro r14 S15 q12_ y13_ y14_
  replace h := h r14 S15 q12_.1 y13_ y14_
  replace K := fun i ro uo z => K i ro uo ⟨r14, S15, q12_.2, y13_, y14_, z⟩
  exact ⟨h, K i0 _ _ ⟨rfl, rfl⟩⟩
set_option maxRecDepth 100000 in
theorem vwX11_longEntry {S : MS} {y1 : Int64} {ro : Int32} {uo : MS} (h : vX11_longEntry S y1 ro uo) : wX11_longEntry S y1 (fun r u => r = ro ∧ u = uo) := by
  unfold vX11_longEntry at h
  unfold wX11_longEntry
  obtain ⟨q9, z9, h⟩ := h
  refine ⟨_, vwX11_want z9, ?_⟩
  intro q8 d9 _ _
  subst d9
  replace h := h.2.2
  intro _
  replace h := h.2
  obtain ⟨q9, z9, h⟩ := h
  refine ⟨_, vwX0_put4 z9, ?_⟩
  intro q8 d9 _ _
  subst d9
  replace h := h.2.2
  intro _
  replace h := h.2
  obtain ⟨q9, z9, h⟩ := h
  refine ⟨_, vwX0_put4 z9, ?_⟩
  intro q8 d9 _ _
  subst d9
  replace h := h.2.2
  obtain ⟨p9, q9, z9, h⟩ := h
  refine ⟨_, vwX11_entryOfWanted z9, ?_⟩
  rintro p8 q8 ⟨d8, d9⟩ _ _
  subst d8
  subst d9
  replace h := h.2.2
  exact ⟨h.1.symm, h.2.symm⟩
set_option maxRecDepth 100000 in
theorem vpX11_longEntry {S : MS} {y1 : Int64} {ro : Int32} {uo : MS} {P : Int32 → MS → Prop} (h : vX11_longEntry S y1 ro uo) (w : wX11_longEntry S y1 P) : P ro uo := by
  unfold vX11_longEntry at h
  unfold wX11_longEntry at w
  obtain ⟨q9, z9, y1_, y2_, h⟩ := h
  obtain ⟨Q9, w0, w⟩ := w
  replace w := w q9 (vpX11_want z9 w0) y1_ y2_
  obtain ⟨y3_, h⟩ := h
  replace w := w y3_
  obtain ⟨q9, z9, y4_, y5_, h⟩ := h
  obtain ⟨Q9, w0, w⟩ := w
  replace w := w q9 (vpX0_put4 z9 w0) y4_ y5_
  obtain ⟨y6_, h⟩ := h
  replace w := w y6_
  obtain ⟨q9, z9, y7_, y8_, h⟩ := h
  obtain ⟨Q9, w0, w⟩ := w
  replace w := w q9 (vpX0_put4 z9 w0) y7_ y8_
  obtain ⟨p9, q9, z9, y9_, y10_, h⟩ := h
  obtain ⟨Q9, w0, w⟩ := w
  replace w := w p9 q9 (vpX11_entryOfWanted z9 w0) y9_ y10_
  rw [h.1, h.2]
  exact w
def v_X11_counterEntry_J52 (ro : Int32) (uo : MS) (U52 : MS) (v52_1 : Int32) : Prop := (wfC U52 ∧ (qT U52 30 = 40 ∧ (∃ (S16 : MS), vX0_put U52 30 ((48 : Int32) + (v52_1 - v52_1 / (10 : Int32) * (10 : Int32))) S16 ∧ wfC S16 ∧ shx U52 S16 ∧ (∃ (r20 : Int32) (S21 : MS), vX11_entryOfWanted S16 r20 S21 ∧ wfC S21 ∧ shx S16 S21 ∧ (ro = r20 ∧ uo = S21)))))
def v_X11_counterEntry_J20 (ro : Int32) (uo : MS) (U20 : MS) (t20_0 : Int32) (v20_1 : Int32) : Prop := (wfC U20 ∧ (qT U20 30 = 40 ∧ (∃ (S6 : MS), vX0_put2 U20 30 t20_0 S6 ∧ wfC S6 ∧ shx U20 S6 ∧ (qT S6 30 = 40 ∧ (∃ (S10 : MS), vX0_put S6 30 (99 : Int32) S10 ∧ wfC S10 ∧ shx S6 S10 ∧ ((v20_1.toInt < 10 ∧ (v_X11_counterEntry_J52 ro uo S10 v20_1)) ∨ (¬ v20_1.toInt < 10 ∧ (qT S10 30 = 40 ∧ (∃ (S28 : MS), vX0_put S10 30 ((48 : Int32) + (v20_1 / (10 : Int32))) S28 ∧ wfC S28 ∧ shx S10 S28 ∧ (v_X11_counterEntry_J52 ro uo S28 v20_1))))))))))
def vX11_counterEntry (S : MS) (x1 : Int32) (ro : Int32) (uo : MS) : Prop := (∃ (S2 : MS), vX11_want S (1 : Int32) S2 ∧ wfC S2 ∧ shx S S2 ∧ ((10 ≤ x1.toInt ∧ (v_X11_counterEntry_J20 ro uo S2 3 x1)) ∨ (¬ 10 ≤ x1.toInt ∧ (v_X11_counterEntry_J20 ro uo S2 2 x1))))
set_option maxRecDepth 100000 in
theorem ru_X11_counterEntry_J52 {ι : Type} {P Q : Int32 → MS → Prop} {U52 : MS} {v52_1 : Int32} (i0 : ι) (K : ∀ (i : ι) (ro : Int32) (uo : MS), v_X11_counterEntry_J52 ro uo U52 v52_1 → P ro uo) (h : w_X11_counterEntry_J52 Q U52 v52_1) : w_X11_counterEntry_J52 (fun r u => Q r u ∧ P r u) U52 v52_1 := by
  unfold w_X11_counterEntry_J52 at h ⊢
  intro y1_
  replace h := h y1_
  replace K := fun i ro uo z => K i ro uo ⟨y1_, z⟩
  intro y2_
  replace h := h y2_
  replace K := fun i ro uo z => K i ro uo ⟨y2_, z⟩
  obtain ⟨Q9, h0, h⟩ := h
  refine ⟨_, ruX0_put h0, ?_⟩
  intro S16 q3_ y4_ y5_
  replace h := h S16 q3_.1 y4_ y5_
  replace K := fun i ro uo z => K i ro uo ⟨S16, q3_.2, y4_, y5_, z⟩
  obtain ⟨Q9, h0, h⟩ := h
  refine ⟨_, ruX11_entryOfWanted h0, ?_⟩
  intro r20 S21 q6_ y7_ y8_
  replace h := h r20 S21 q6_.1 y7_ y8_
  replace K := fun i ro uo z => K i ro uo ⟨r20, S21, q6_.2, y7_, y8_, z⟩
  exact ⟨h, K i0 _ _ ⟨rfl, rfl⟩⟩
set_option maxRecDepth 100000 in
theorem ru_X11_counterEntry_J20 {ι : Type} {P Q : Int32 → MS → Prop} {U20 : MS} {t20_0 : Int32} {v20_1 : Int32} (i0 : ι) (K : ∀ (i : ι) (ro : Int32) (uo : MS), v_X11_counterEntry_J20 ro uo U20 t20_0 v20_1 → P ro uo) (h : w_X11_counterEntry_J20 Q U20 t20_0 v20_1) : w_X11_counterEntry_J20 (fun r u => Q r u ∧ P r u) U20 t20_0 v20_1 := by
  unfold w_X11_counterEntry_J20 at h ⊢
  intro y9_
  replace h := h y9_
  replace K := fun i ro uo z => K i ro uo ⟨y9_, z⟩
  intro y10_
  replace h := h y10_
  replace K := fun i ro uo z => K i ro uo ⟨y10_, z⟩
  obtain ⟨Q9, h0, h⟩ := h
  refine ⟨_, ruX0_put2 h0, ?_⟩
  intro S6 q11_ y12_ y13_
  replace h := h S6 q11_.1 y12_ y13_
  replace K := fun i ro uo z => K i ro uo ⟨S6, q11_.2, y12_, y13_, z⟩
  intro y14_
  replace h := h y14_
  replace K := fun i ro uo z => K i ro uo ⟨y14_, z⟩
  obtain ⟨Q9, h0, h⟩ := h
  refine ⟨_, ruX0_put h0, ?_⟩
  intro S10 q15_ y16_ y17_
  replace h := h S10 q15_.1 y16_ y17_
  replace K := fun i ro uo z => K i ro uo ⟨S10, q15_.2, y16_, y17_, z⟩
  refine ⟨fun c => ?_, fun c => ?_⟩
  · replace h := h.1 c
    replace K := fun i ro uo z => K i ro uo (Or.inl ⟨c, z⟩)
    exact ru_X11_counterEntry_J52 i0 K h
  · replace h := h.2 c
    replace K := fun i ro uo z => K i ro uo (Or.inr ⟨c, z⟩)
    intro y18_
    replace h := h y18_
    replace K := fun i ro uo z => K i ro uo ⟨y18_, z⟩
    obtain ⟨Q9, h0, h⟩ := h
    refine ⟨_, ruX0_put h0, ?_⟩
    intro S28 q19_ y20_ y21_
    replace h := h S28 q19_.1 y20_ y21_
    replace K := fun i ro uo z => K i ro uo ⟨S28, q19_.2, y20_, y21_, z⟩
    exact ru_X11_counterEntry_J52 i0 K h
set_option maxRecDepth 100000 in
theorem ruX11_counterEntry {S : MS} {x1 : Int32} {Q : Int32 → MS → Prop} (h : wX11_counterEntry S x1 Q) : wX11_counterEntry S x1 (fun r u => Q r u ∧ vX11_counterEntry S x1 r u) := by
  have i0 : Unit := ()
  have K : ∀ (i : Unit) (ro : Int32) (uo : MS), vX11_counterEntry S x1 ro uo → vX11_counterEntry S x1 ro uo := fun _ _ _ z => z
  unfold wX11_counterEntry at h ⊢
  obtain ⟨Q9, h0, h⟩ := h
  refine ⟨_, ruX11_want h0, ?_⟩
  intro S2 q22_ y23_ y24_
  replace h := h S2 q22_.1 y23_ y24_
  replace K := fun i ro uo z => K i ro uo ⟨S2, q22_.2, y23_, y24_, z⟩
  refine ⟨fun c => ?_, fun c => ?_⟩
  · replace h := h.1 c
    replace K := fun i ro uo z => K i ro uo (Or.inl ⟨c, z⟩)
    exact ru_X11_counterEntry_J20 i0 K h
  · replace h := h.2 c
    replace K := fun i ro uo z => K i ro uo (Or.inr ⟨c, z⟩)
    exact ru_X11_counterEntry_J20 i0 K h
set_option maxRecDepth 100000 in
theorem vw_X11_counterEntry_J52 {ro : Int32} {uo : MS} {U52 : MS} {v52_1 : Int32} (h : v_X11_counterEntry_J52 ro uo U52 v52_1) : w_X11_counterEntry_J52 (fun r u => r = ro ∧ u = uo) U52 v52_1 := by
  unfold v_X11_counterEntry_J52 at h
  unfold w_X11_counterEntry_J52
  intro _
  replace h := h.2
  intro _
  replace h := h.2
  obtain ⟨q9, z9, h⟩ := h
  refine ⟨_, vwX0_put z9, ?_⟩
  intro q8 d9 _ _
  subst d9
  replace h := h.2.2
  obtain ⟨p9, q9, z9, h⟩ := h
  refine ⟨_, vwX11_entryOfWanted z9, ?_⟩
  rintro p8 q8 ⟨d8, d9⟩ _ _
  subst d8
  subst d9
  replace h := h.2.2
  exact ⟨h.1.symm, h.2.symm⟩
set_option maxRecDepth 100000 in
theorem vp_X11_counterEntry_J52 {ro : Int32} {uo : MS} {P : Int32 → MS → Prop} {U52 : MS} {v52_1 : Int32} (h : v_X11_counterEntry_J52 ro uo U52 v52_1) (w : w_X11_counterEntry_J52 P U52 v52_1) : P ro uo := by
  unfold v_X11_counterEntry_J52 at h
  unfold w_X11_counterEntry_J52 at w
  obtain ⟨y1_, h⟩ := h
  replace w := w y1_
  obtain ⟨y2_, h⟩ := h
  replace w := w y2_
  obtain ⟨q9, z9, y3_, y4_, h⟩ := h
  obtain ⟨Q9, w0, w⟩ := w
  replace w := w q9 (vpX0_put z9 w0) y3_ y4_
  obtain ⟨p9, q9, z9, y5_, y6_, h⟩ := h
  obtain ⟨Q9, w0, w⟩ := w
  replace w := w p9 q9 (vpX11_entryOfWanted z9 w0) y5_ y6_
  rw [h.1, h.2]
  exact w
set_option maxRecDepth 100000 in
theorem vw_X11_counterEntry_J20 {ro : Int32} {uo : MS} {U20 : MS} {t20_0 : Int32} {v20_1 : Int32} (h : v_X11_counterEntry_J20 ro uo U20 t20_0 v20_1) : w_X11_counterEntry_J20 (fun r u => r = ro ∧ u = uo) U20 t20_0 v20_1 := by
  unfold v_X11_counterEntry_J20 at h
  unfold w_X11_counterEntry_J20
  intro _
  replace h := h.2
  intro _
  replace h := h.2
  obtain ⟨q9, z9, h⟩ := h
  refine ⟨_, vwX0_put2 z9, ?_⟩
  intro q8 d9 _ _
  subst d9
  replace h := h.2.2
  intro _
  replace h := h.2
  obtain ⟨q9, z9, h⟩ := h
  refine ⟨_, vwX0_put z9, ?_⟩
  intro q8 d9 _ _
  subst d9
  replace h := h.2.2
  rcases h with ⟨c, h⟩ | ⟨c, h⟩
  · refine ⟨fun _ => ?_, fun c2 => absurd c c2⟩
    exact vw_X11_counterEntry_J52 h
  · refine ⟨fun c2 => absurd c2 c, fun _ => ?_⟩
    intro _
    replace h := h.2
    obtain ⟨q9, z9, h⟩ := h
    refine ⟨_, vwX0_put z9, ?_⟩
    intro q8 d9 _ _
    subst d9
    replace h := h.2.2
    exact vw_X11_counterEntry_J52 h
set_option maxRecDepth 100000 in
theorem vp_X11_counterEntry_J20 {ro : Int32} {uo : MS} {P : Int32 → MS → Prop} {U20 : MS} {t20_0 : Int32} {v20_1 : Int32} (h : v_X11_counterEntry_J20 ro uo U20 t20_0 v20_1) (w : w_X11_counterEntry_J20 P U20 t20_0 v20_1) : P ro uo := by
  unfold v_X11_counterEntry_J20 at h
  unfold w_X11_counterEntry_J20 at w
  obtain ⟨y7_, h⟩ := h
  replace w := w y7_
  obtain ⟨y8_, h⟩ := h
  replace w := w y8_
  obtain ⟨q9, z9, y9_, y10_, h⟩ := h
  obtain ⟨Q9, w0, w⟩ := w
  replace w := w q9 (vpX0_put2 z9 w0) y9_ y10_
  obtain ⟨y11_, h⟩ := h
  replace w := w y11_
  obtain ⟨q9, z9, y12_, y13_, h⟩ := h
  obtain ⟨Q9, w0, w⟩ := w
  replace w := w q9 (vpX0_put z9 w0) y12_ y13_
  rcases h with ⟨c, h⟩ | ⟨c, h⟩
  · replace w := w.1 c
    exact vp_X11_counterEntry_J52 h w
  · replace w := w.2 c
    obtain ⟨y14_, h⟩ := h
    replace w := w y14_
    obtain ⟨q9, z9, y15_, y16_, h⟩ := h
    obtain ⟨Q9, w0, w⟩ := w
    replace w := w q9 (vpX0_put z9 w0) y15_ y16_
    exact vp_X11_counterEntry_J52 h w
set_option maxRecDepth 100000 in
theorem vwX11_counterEntry {S : MS} {x1 : Int32} {ro : Int32} {uo : MS} (h : vX11_counterEntry S x1 ro uo) : wX11_counterEntry S x1 (fun r u => r = ro ∧ u = uo) := by
  unfold vX11_counterEntry at h
  unfold wX11_counterEntry
  obtain ⟨q9, z9, h⟩ := h
  refine ⟨_, vwX11_want z9, ?_⟩
  intro q8 d9 _ _
  subst d9
  replace h := h.2.2
  rcases h with ⟨c, h⟩ | ⟨c, h⟩
  · refine ⟨fun _ => ?_, fun c2 => absurd c c2⟩
    exact vw_X11_counterEntry_J20 h
  · refine ⟨fun c2 => absurd c2 c, fun _ => ?_⟩
    exact vw_X11_counterEntry_J20 h
set_option maxRecDepth 100000 in
theorem vpX11_counterEntry {S : MS} {x1 : Int32} {ro : Int32} {uo : MS} {P : Int32 → MS → Prop} (h : vX11_counterEntry S x1 ro uo) (w : wX11_counterEntry S x1 P) : P ro uo := by
  unfold vX11_counterEntry at h
  unfold wX11_counterEntry at w
  obtain ⟨q9, z9, y17_, y18_, h⟩ := h
  obtain ⟨Q9, w0, w⟩ := w
  replace w := w q9 (vpX11_want z9 w0) y17_ y18_
  rcases h with ⟨c, h⟩ | ⟨c, h⟩
  · replace w := w.1 c
    exact vp_X11_counterEntry_J20 h w
  · replace w := w.2 c
    exact vp_X11_counterEntry_J20 h w
def v_X11_fieldEntryOf_J60 (ro : Int32) (uo : MS) (U60 : MS) (v60_1 : Int32) : Prop := (wfC U60 ∧ (((0 : Int) ≤ v60_1.toInt ∧ v60_1.toInt < 24) ∧ (ro = (qI U60 36 v60_1.toInt.toNat) ∧ uo = U60)))
def vX11_fieldEntryOf (S : MS) (x1 : Int32) (ro : Int32) (uo : MS) : Prop := ((x1.toInt < 0 ∧ (ro = (0 : Int32) ∧ uo = S)) ∨ (¬ x1.toInt < 0 ∧ ((x1.toInt < 24 ∧ (((0 : Int) ≤ x1.toInt ∧ x1.toInt < 24) ∧ (((qI S 36 x1.toInt.toNat).toInt = 0 ∧ (((0 : Int) ≤ x1.toInt ∧ x1.toInt < 24) ∧ (((0 : Int) ≤ x1.toInt ∧ x1.toInt < 24) ∧ (∃ (r13 : Int32) (S14 : MS), vX11_pointersEntry S (12 : Int32) (qI S 34 x1.toInt.toNat) (qI S 35 x1.toInt.toNat) r13 S14 ∧ wfC S14 ∧ shx S S14 ∧ (∃ (r18 : Int32) (S19 : MS), vX11_pointersEntry S14 (9 : Int32) (qI S14 25 9) r13 r18 S19 ∧ wfC S19 ∧ shx S14 S19 ∧ (((0 : Int) ≤ x1.toInt ∧ x1.toInt < 24) ∧ (∃ S23 : MS, S23 = wI S19 36 x1.toInt.toNat r18 ∧ qT S19 36 = 242 ∧ wfC S23 ∧ (v_X11_fieldEntryOf_J60 ro uo S23 x1)))))))) ∨ (¬ (qI S 36 x1.toInt.toNat).toInt = 0 ∧ (v_X11_fieldEntryOf_J60 ro uo S x1))))) ∨ (¬ x1.toInt < 24 ∧ (ro = (0 : Int32) ∧ uo = S)))))
set_option maxRecDepth 100000 in
theorem ru_X11_fieldEntryOf_J60 {ι : Type} {P Q : Int32 → MS → Prop} {U60 : MS} {v60_1 : Int32} (i0 : ι) (K : ∀ (i : ι) (ro : Int32) (uo : MS), v_X11_fieldEntryOf_J60 ro uo U60 v60_1 → P ro uo) (h : w_X11_fieldEntryOf_J60 Q U60 v60_1) : w_X11_fieldEntryOf_J60 (fun r u => Q r u ∧ P r u) U60 v60_1 := by
  unfold w_X11_fieldEntryOf_J60 at h ⊢
  intro y1_
  replace h := h y1_
  replace K := fun i ro uo z => K i ro uo ⟨y1_, z⟩
  obtain ⟨g2_, h⟩ := h
  refine ⟨g2_, ?_⟩
  replace K := fun i ro uo z => K i ro uo ⟨g2_, z⟩
  exact ⟨h, K i0 _ _ ⟨rfl, rfl⟩⟩
set_option maxRecDepth 100000 in
theorem ruX11_fieldEntryOf {S : MS} {x1 : Int32} {Q : Int32 → MS → Prop} (h : wX11_fieldEntryOf S x1 Q) : wX11_fieldEntryOf S x1 (fun r u => Q r u ∧ vX11_fieldEntryOf S x1 r u) := by
  have i0 : Unit := ()
  have K : ∀ (i : Unit) (ro : Int32) (uo : MS), vX11_fieldEntryOf S x1 ro uo → vX11_fieldEntryOf S x1 ro uo := fun _ _ _ z => z
  unfold wX11_fieldEntryOf at h ⊢
  refine ⟨fun c => ?_, fun c => ?_⟩
  · replace h := h.1 c
    replace K := fun i ro uo z => K i ro uo (Or.inl ⟨c, z⟩)
    exact ⟨h, K i0 _ _ ⟨rfl, rfl⟩⟩
  · replace h := h.2 c
    replace K := fun i ro uo z => K i ro uo (Or.inr ⟨c, z⟩)
    refine ⟨fun c => ?_, fun c => ?_⟩
    · replace h := h.1 c
      replace K := fun i ro uo z => K i ro uo (Or.inl ⟨c, z⟩)
      obtain ⟨g3_, h⟩ := h
      refine ⟨g3_, ?_⟩
      replace K := fun i ro uo z => K i ro uo ⟨g3_, z⟩
      refine ⟨fun c => ?_, fun c => ?_⟩
      · replace h := h.1 c
        replace K := fun i ro uo z => K i ro uo (Or.inl ⟨c, z⟩)
        obtain ⟨g4_, h⟩ := h
        refine ⟨g4_, ?_⟩
        replace K := fun i ro uo z => K i ro uo ⟨g4_, z⟩
        obtain ⟨g5_, h⟩ := h
        refine ⟨g5_, ?_⟩
        replace K := fun i ro uo z => K i ro uo ⟨g5_, z⟩
        obtain ⟨Q9, h0, h⟩ := h
        refine ⟨_, ruX11_pointersEntry h0, ?_⟩
        intro r13 S14 q6_ y7_ y8_
        replace h := h r13 S14 q6_.1 y7_ y8_
        replace K := fun i ro uo z => K i ro uo ⟨r13, S14, q6_.2, y7_, y8_, z⟩
        obtain ⟨Q9, h0, h⟩ := h
        refine ⟨_, ruX11_pointersEntry h0, ?_⟩
        intro r18 S19 q9_ y10_ y11_
        replace h := h r18 S19 q9_.1 y10_ y11_
        replace K := fun i ro uo z => K i ro uo ⟨r18, S19, q9_.2, y10_, y11_, z⟩
        obtain ⟨g12_, h⟩ := h
        refine ⟨g12_, ?_⟩
        replace K := fun i ro uo z => K i ro uo ⟨g12_, z⟩
        intro S23 eS23 y13_ y14_
        replace h := h S23 eS23 y13_ y14_
        replace K := fun i ro uo z => K i ro uo ⟨S23, eS23, y13_, y14_, z⟩
        exact ru_X11_fieldEntryOf_J60 i0 K h
      · replace h := h.2 c
        replace K := fun i ro uo z => K i ro uo (Or.inr ⟨c, z⟩)
        exact ru_X11_fieldEntryOf_J60 i0 K h
    · replace h := h.2 c
      replace K := fun i ro uo z => K i ro uo (Or.inr ⟨c, z⟩)
      exact ⟨h, K i0 _ _ ⟨rfl, rfl⟩⟩
set_option maxRecDepth 100000 in
theorem vw_X11_fieldEntryOf_J60 {ro : Int32} {uo : MS} {U60 : MS} {v60_1 : Int32} (h : v_X11_fieldEntryOf_J60 ro uo U60 v60_1) : w_X11_fieldEntryOf_J60 (fun r u => r = ro ∧ u = uo) U60 v60_1 := by
  unfold v_X11_fieldEntryOf_J60 at h
  unfold w_X11_fieldEntryOf_J60
  intro _
  replace h := h.2
  obtain ⟨g9, h⟩ := h
  refine ⟨g9, ?_⟩
  exact ⟨h.1.symm, h.2.symm⟩
set_option maxRecDepth 100000 in
theorem vp_X11_fieldEntryOf_J60 {ro : Int32} {uo : MS} {P : Int32 → MS → Prop} {U60 : MS} {v60_1 : Int32} (h : v_X11_fieldEntryOf_J60 ro uo U60 v60_1) (w : w_X11_fieldEntryOf_J60 P U60 v60_1) : P ro uo := by
  unfold v_X11_fieldEntryOf_J60 at h
  unfold w_X11_fieldEntryOf_J60 at w
  obtain ⟨y1_, h⟩ := h
  replace w := w y1_
  replace h := h.2
  replace w := w.2
  rw [h.1, h.2]
  exact w
set_option maxRecDepth 100000 in
theorem vwX11_fieldEntryOf {S : MS} {x1 : Int32} {ro : Int32} {uo : MS} (h : vX11_fieldEntryOf S x1 ro uo) : wX11_fieldEntryOf S x1 (fun r u => r = ro ∧ u = uo) := by
  unfold vX11_fieldEntryOf at h
  unfold wX11_fieldEntryOf
  rcases h with ⟨c, h⟩ | ⟨c, h⟩
  · refine ⟨fun _ => ?_, fun c2 => absurd c c2⟩
    exact ⟨h.1.symm, h.2.symm⟩
  · refine ⟨fun c2 => absurd c2 c, fun _ => ?_⟩
    rcases h with ⟨c, h⟩ | ⟨c, h⟩
    · refine ⟨fun _ => ?_, fun c2 => absurd c c2⟩
      obtain ⟨g9, h⟩ := h
      refine ⟨g9, ?_⟩
      rcases h with ⟨c, h⟩ | ⟨c, h⟩
      · refine ⟨fun _ => ?_, fun c2 => absurd c c2⟩
        obtain ⟨g9, h⟩ := h
        refine ⟨g9, ?_⟩
        obtain ⟨g9, h⟩ := h
        refine ⟨g9, ?_⟩
        obtain ⟨p9, q9, z9, h⟩ := h
        refine ⟨_, vwX11_pointersEntry z9, ?_⟩
        rintro p8 q8 ⟨d8, d9⟩ _ _
        subst d8
        subst d9
        replace h := h.2.2
        obtain ⟨p9, q9, z9, h⟩ := h
        refine ⟨_, vwX11_pointersEntry z9, ?_⟩
        rintro p8 q8 ⟨d8, d9⟩ _ _
        subst d8
        subst d9
        replace h := h.2.2
        obtain ⟨g9, h⟩ := h
        refine ⟨g9, ?_⟩
        obtain ⟨v9, e9, h⟩ := h
        intro x9 d9 _ _
        have c9 : v9 = x9 := e9.trans d9.symm
        subst c9
        replace h := h.2.2
        exact vw_X11_fieldEntryOf_J60 h
      · refine ⟨fun c2 => absurd c2 c, fun _ => ?_⟩
        exact vw_X11_fieldEntryOf_J60 h
    · refine ⟨fun c2 => absurd c2 c, fun _ => ?_⟩
      exact ⟨h.1.symm, h.2.symm⟩
set_option maxRecDepth 100000 in
theorem vpX11_fieldEntryOf {S : MS} {x1 : Int32} {ro : Int32} {uo : MS} {P : Int32 → MS → Prop} (h : vX11_fieldEntryOf S x1 ro uo) (w : wX11_fieldEntryOf S x1 P) : P ro uo := by
  unfold vX11_fieldEntryOf at h
  unfold wX11_fieldEntryOf at w
  rcases h with ⟨c, h⟩ | ⟨c, h⟩
  · replace w := w.1 c
    rw [h.1, h.2]
    exact w
  · replace w := w.2 c
    rcases h with ⟨c, h⟩ | ⟨c, h⟩
    · replace w := w.1 c
      replace h := h.2
      replace w := w.2
      rcases h with ⟨c, h⟩ | ⟨c, h⟩
      · replace w := w.1 c
        replace h := h.2
        replace w := w.2
        replace h := h.2
        replace w := w.2
        obtain ⟨p9, q9, z9, y2_, y3_, h⟩ := h
        obtain ⟨Q9, w0, w⟩ := w
        replace w := w p9 q9 (vpX11_pointersEntry z9 w0) y2_ y3_
        obtain ⟨p9, q9, z9, y4_, y5_, h⟩ := h
        obtain ⟨Q9, w0, w⟩ := w
        replace w := w p9 q9 (vpX11_pointersEntry z9 w0) y4_ y5_
        replace h := h.2
        replace w := w.2
        obtain ⟨v9, e9, y6_, y7_, h⟩ := h
        replace w := w v9 e9 y6_ y7_
        exact vp_X11_fieldEntryOf_J60 h w
      · replace w := w.2 c
        exact vp_X11_fieldEntryOf_J60 h w
    · replace w := w.2 c
      rw [h.1, h.2]
      exact w
def v_X11_methodEntryOf_J88 (ro : Int32) (uo : MS) (U88 : MS) (v88_1 : Int32) : Prop := (wfC U88 ∧ (((0 : Int) ≤ v88_1.toInt ∧ v88_1.toInt < 24) ∧ (ro = (qI U88 37 v88_1.toInt.toNat) ∧ uo = U88)))
def vX11_methodEntryOf (S : MS) (x1 : Int32) (ro : Int32) (uo : MS) : Prop := ((x1.toInt < 0 ∧ (ro = (0 : Int32) ∧ uo = S)) ∨ (¬ x1.toInt < 0 ∧ ((24 ≤ x1.toInt ∧ (ro = (0 : Int32) ∧ uo = S)) ∨ (¬ 24 ≤ x1.toInt ∧ ((qR S 25 7 = some (qO S 25 7)) ∧ ((qR S (qO S 25 7) 9 = some (qO S (qO S 25 7) 9)) ∧ ((x1.toInt < (qN S (qO S (qO S 25 7) 9) : Int) ∧ (((0 : Int) ≤ x1.toInt ∧ x1.toInt < 24) ∧ (((qI S 37 x1.toInt.toNat).toInt = 0 ∧ ((qR S 25 7 = some (qO S 25 7)) ∧ ((qR S (qO S 25 7) 9 = some (qO S (qO S 25 7) 9)) ∧ (((0 : Int) ≤ x1.toInt ∧ x1.toInt < (qN S (qO S (qO S 25 7) 9) : Int)) ∧ (∃ (r21 : Int32) (S22 : MS), vX11_nameEntry S (qI S (qO S (qO S 25 7) 9) x1.toInt.toNat) r21 S22 ∧ wfC S22 ∧ shx S S22 ∧ ((qR S22 25 7 = some (qO S22 25 7)) ∧ ((qR S22 (qO S22 25 7) 10 = some (qO S22 (qO S22 25 7) 10)) ∧ (((0 : Int) ≤ x1.toInt ∧ x1.toInt < (qN S22 (qO S22 (qO S22 25 7) 10) : Int)) ∧ (∃ (r32 : Int32) (S33 : MS), vX11_nameEntry S22 (qI S22 (qO S22 (qO S22 25 7) 10) x1.toInt.toNat) r32 S33 ∧ wfC S33 ∧ shx S22 S33 ∧ (∃ (r37 : Int32) (S38 : MS), vX11_pointersEntry S33 (12 : Int32) r21 r32 r37 S38 ∧ wfC S38 ∧ shx S33 S38 ∧ (∃ (r42 : Int32) (S43 : MS), vX11_pointersEntry S38 (10 : Int32) (qI S38 25 9) r37 r42 S43 ∧ wfC S43 ∧ shx S38 S43 ∧ (((0 : Int) ≤ x1.toInt ∧ x1.toInt < 24) ∧ (∃ S47 : MS, S47 = wI S43 37 x1.toInt.toNat r42 ∧ qT S43 37 = 243 ∧ wfC S47 ∧ (v_X11_methodEntryOf_J88 ro uo S47 x1)))))))))))))) ∨ (¬ (qI S 37 x1.toInt.toNat).toInt = 0 ∧ (v_X11_methodEntryOf_J88 ro uo S x1))))) ∨ (¬ x1.toInt < (qN S (qO S (qO S 25 7) 9) : Int) ∧ (ro = (0 : Int32) ∧ uo = S)))))))))
set_option maxRecDepth 100000 in
theorem ru_X11_methodEntryOf_J88 {ι : Type} {P Q : Int32 → MS → Prop} {U88 : MS} {v88_1 : Int32} (i0 : ι) (K : ∀ (i : ι) (ro : Int32) (uo : MS), v_X11_methodEntryOf_J88 ro uo U88 v88_1 → P ro uo) (h : w_X11_methodEntryOf_J88 Q U88 v88_1) : w_X11_methodEntryOf_J88 (fun r u => Q r u ∧ P r u) U88 v88_1 := by
  unfold w_X11_methodEntryOf_J88 at h ⊢
  intro y1_
  replace h := h y1_
  replace K := fun i ro uo z => K i ro uo ⟨y1_, z⟩
  obtain ⟨g2_, h⟩ := h
  refine ⟨g2_, ?_⟩
  replace K := fun i ro uo z => K i ro uo ⟨g2_, z⟩
  exact ⟨h, K i0 _ _ ⟨rfl, rfl⟩⟩
set_option maxRecDepth 100000 in
theorem ruX11_methodEntryOf {S : MS} {x1 : Int32} {Q : Int32 → MS → Prop} (h : wX11_methodEntryOf S x1 Q) : wX11_methodEntryOf S x1 (fun r u => Q r u ∧ vX11_methodEntryOf S x1 r u) := by
  have i0 : Unit := ()
  have K : ∀ (i : Unit) (ro : Int32) (uo : MS), vX11_methodEntryOf S x1 ro uo → vX11_methodEntryOf S x1 ro uo := fun _ _ _ z => z
  unfold wX11_methodEntryOf at h ⊢
  refine ⟨fun c => ?_, fun c => ?_⟩
  · replace h := h.1 c
    replace K := fun i ro uo z => K i ro uo (Or.inl ⟨c, z⟩)
    exact ⟨h, K i0 _ _ ⟨rfl, rfl⟩⟩
  · replace h := h.2 c
    replace K := fun i ro uo z => K i ro uo (Or.inr ⟨c, z⟩)
    refine ⟨fun c => ?_, fun c => ?_⟩
    · replace h := h.1 c
      replace K := fun i ro uo z => K i ro uo (Or.inl ⟨c, z⟩)
      exact ⟨h, K i0 _ _ ⟨rfl, rfl⟩⟩
    · replace h := h.2 c
      replace K := fun i ro uo z => K i ro uo (Or.inr ⟨c, z⟩)
      obtain ⟨g3_, h⟩ := h
      refine ⟨g3_, ?_⟩
      replace K := fun i ro uo z => K i ro uo ⟨g3_, z⟩
      obtain ⟨g4_, h⟩ := h
      refine ⟨g4_, ?_⟩
      replace K := fun i ro uo z => K i ro uo ⟨g4_, z⟩
      refine ⟨fun c => ?_, fun c => ?_⟩
      · replace h := h.1 c
        replace K := fun i ro uo z => K i ro uo (Or.inl ⟨c, z⟩)
        obtain ⟨g5_, h⟩ := h
        refine ⟨g5_, ?_⟩
        replace K := fun i ro uo z => K i ro uo ⟨g5_, z⟩
        refine ⟨fun c => ?_, fun c => ?_⟩
        · replace h := h.1 c
          replace K := fun i ro uo z => K i ro uo (Or.inl ⟨c, z⟩)
          obtain ⟨g6_, h⟩ := h
          refine ⟨g6_, ?_⟩
          replace K := fun i ro uo z => K i ro uo ⟨g6_, z⟩
          obtain ⟨g7_, h⟩ := h
          refine ⟨g7_, ?_⟩
          replace K := fun i ro uo z => K i ro uo ⟨g7_, z⟩
          obtain ⟨g8_, h⟩ := h
          refine ⟨g8_, ?_⟩
          replace K := fun i ro uo z => K i ro uo ⟨g8_, z⟩
          obtain ⟨Q9, h0, h⟩ := h
          refine ⟨_, ruX11_nameEntry h0, ?_⟩
          intro r21 S22 q9_ y10_ y11_
          replace h := h r21 S22 q9_.1 y10_ y11_
          replace K := fun i ro uo z => K i ro uo ⟨r21, S22, q9_.2, y10_, y11_, z⟩
          obtain ⟨g12_, h⟩ := h
          refine ⟨g12_, ?_⟩
          replace K := fun i ro uo z => K i ro uo ⟨g12_, z⟩
          obtain ⟨g13_, h⟩ := h
          refine ⟨g13_, ?_⟩
          replace K := fun i ro uo z => K i ro uo ⟨g13_, z⟩
          obtain ⟨g14_, h⟩ := h
          refine ⟨g14_, ?_⟩
          replace K := fun i ro uo z => K i ro uo ⟨g14_, z⟩
          obtain ⟨Q9, h0, h⟩ := h
          refine ⟨_, ruX11_nameEntry h0, ?_⟩
          intro r32 S33 q15_ y16_ y17_
          replace h := h r32 S33 q15_.1 y16_ y17_
          replace K := fun i ro uo z => K i ro uo ⟨r32, S33, q15_.2, y16_, y17_, z⟩
          obtain ⟨Q9, h0, h⟩ := h
          refine ⟨_, ruX11_pointersEntry h0, ?_⟩
          intro r37 S38 q18_ y19_ y20_
          replace h := h r37 S38 q18_.1 y19_ y20_
          replace K := fun i ro uo z => K i ro uo ⟨r37, S38, q18_.2, y19_, y20_, z⟩
          obtain ⟨Q9, h0, h⟩ := h
          refine ⟨_, ruX11_pointersEntry h0, ?_⟩
          intro r42 S43 q21_ y22_ y23_
          replace h := h r42 S43 q21_.1 y22_ y23_
          replace K := fun i ro uo z => K i ro uo ⟨r42, S43, q21_.2, y22_, y23_, z⟩
          obtain ⟨g24_, h⟩ := h
          refine ⟨g24_, ?_⟩
          replace K := fun i ro uo z => K i ro uo ⟨g24_, z⟩
          intro S47 eS47 y25_ y26_
          replace h := h S47 eS47 y25_ y26_
          replace K := fun i ro uo z => K i ro uo ⟨S47, eS47, y25_, y26_, z⟩
          exact ru_X11_methodEntryOf_J88 i0 K h
        · replace h := h.2 c
          replace K := fun i ro uo z => K i ro uo (Or.inr ⟨c, z⟩)
          exact ru_X11_methodEntryOf_J88 i0 K h
      · replace h := h.2 c
        replace K := fun i ro uo z => K i ro uo (Or.inr ⟨c, z⟩)
        exact ⟨h, K i0 _ _ ⟨rfl, rfl⟩⟩
set_option maxRecDepth 100000 in
theorem vw_X11_methodEntryOf_J88 {ro : Int32} {uo : MS} {U88 : MS} {v88_1 : Int32} (h : v_X11_methodEntryOf_J88 ro uo U88 v88_1) : w_X11_methodEntryOf_J88 (fun r u => r = ro ∧ u = uo) U88 v88_1 := by
  unfold v_X11_methodEntryOf_J88 at h
  unfold w_X11_methodEntryOf_J88
  intro _
  replace h := h.2
  obtain ⟨g9, h⟩ := h
  refine ⟨g9, ?_⟩
  exact ⟨h.1.symm, h.2.symm⟩
set_option maxRecDepth 100000 in
theorem vp_X11_methodEntryOf_J88 {ro : Int32} {uo : MS} {P : Int32 → MS → Prop} {U88 : MS} {v88_1 : Int32} (h : v_X11_methodEntryOf_J88 ro uo U88 v88_1) (w : w_X11_methodEntryOf_J88 P U88 v88_1) : P ro uo := by
  unfold v_X11_methodEntryOf_J88 at h
  unfold w_X11_methodEntryOf_J88 at w
  obtain ⟨y1_, h⟩ := h
  replace w := w y1_
  replace h := h.2
  replace w := w.2
  rw [h.1, h.2]
  exact w
set_option maxRecDepth 100000 in
theorem vwX11_methodEntryOf {S : MS} {x1 : Int32} {ro : Int32} {uo : MS} (h : vX11_methodEntryOf S x1 ro uo) : wX11_methodEntryOf S x1 (fun r u => r = ro ∧ u = uo) := by
  unfold vX11_methodEntryOf at h
  unfold wX11_methodEntryOf
  rcases h with ⟨c, h⟩ | ⟨c, h⟩
  · refine ⟨fun _ => ?_, fun c2 => absurd c c2⟩
    exact ⟨h.1.symm, h.2.symm⟩
  · refine ⟨fun c2 => absurd c2 c, fun _ => ?_⟩
    rcases h with ⟨c, h⟩ | ⟨c, h⟩
    · refine ⟨fun _ => ?_, fun c2 => absurd c c2⟩
      exact ⟨h.1.symm, h.2.symm⟩
    · refine ⟨fun c2 => absurd c2 c, fun _ => ?_⟩
      obtain ⟨g9, h⟩ := h
      refine ⟨g9, ?_⟩
      obtain ⟨g9, h⟩ := h
      refine ⟨g9, ?_⟩
      rcases h with ⟨c, h⟩ | ⟨c, h⟩
      · refine ⟨fun _ => ?_, fun c2 => absurd c c2⟩
        obtain ⟨g9, h⟩ := h
        refine ⟨g9, ?_⟩
        rcases h with ⟨c, h⟩ | ⟨c, h⟩
        · refine ⟨fun _ => ?_, fun c2 => absurd c c2⟩
          obtain ⟨g9, h⟩ := h
          refine ⟨g9, ?_⟩
          obtain ⟨g9, h⟩ := h
          refine ⟨g9, ?_⟩
          obtain ⟨g9, h⟩ := h
          refine ⟨g9, ?_⟩
          obtain ⟨p9, q9, z9, h⟩ := h
          refine ⟨_, vwX11_nameEntry z9, ?_⟩
          rintro p8 q8 ⟨d8, d9⟩ _ _
          subst d8
          subst d9
          replace h := h.2.2
          obtain ⟨g9, h⟩ := h
          refine ⟨g9, ?_⟩
          obtain ⟨g9, h⟩ := h
          refine ⟨g9, ?_⟩
          obtain ⟨g9, h⟩ := h
          refine ⟨g9, ?_⟩
          obtain ⟨p9, q9, z9, h⟩ := h
          refine ⟨_, vwX11_nameEntry z9, ?_⟩
          rintro p8 q8 ⟨d8, d9⟩ _ _
          subst d8
          subst d9
          replace h := h.2.2
          obtain ⟨p9, q9, z9, h⟩ := h
          refine ⟨_, vwX11_pointersEntry z9, ?_⟩
          rintro p8 q8 ⟨d8, d9⟩ _ _
          subst d8
          subst d9
          replace h := h.2.2
          obtain ⟨p9, q9, z9, h⟩ := h
          refine ⟨_, vwX11_pointersEntry z9, ?_⟩
          rintro p8 q8 ⟨d8, d9⟩ _ _
          subst d8
          subst d9
          replace h := h.2.2
          obtain ⟨g9, h⟩ := h
          refine ⟨g9, ?_⟩
          obtain ⟨v9, e9, h⟩ := h
          intro x9 d9 _ _
          have c9 : v9 = x9 := e9.trans d9.symm
          subst c9
          replace h := h.2.2
          exact vw_X11_methodEntryOf_J88 h
        · refine ⟨fun c2 => absurd c2 c, fun _ => ?_⟩
          exact vw_X11_methodEntryOf_J88 h
      · refine ⟨fun c2 => absurd c2 c, fun _ => ?_⟩
        exact ⟨h.1.symm, h.2.symm⟩
set_option maxRecDepth 100000 in
theorem vpX11_methodEntryOf {S : MS} {x1 : Int32} {ro : Int32} {uo : MS} {P : Int32 → MS → Prop} (h : vX11_methodEntryOf S x1 ro uo) (w : wX11_methodEntryOf S x1 P) : P ro uo := by
  unfold vX11_methodEntryOf at h
  unfold wX11_methodEntryOf at w
  rcases h with ⟨c, h⟩ | ⟨c, h⟩
  · replace w := w.1 c
    rw [h.1, h.2]
    exact w
  · replace w := w.2 c
    rcases h with ⟨c, h⟩ | ⟨c, h⟩
    · replace w := w.1 c
      rw [h.1, h.2]
      exact w
    · replace w := w.2 c
      replace h := h.2
      replace w := w.2
      replace h := h.2
      replace w := w.2
      rcases h with ⟨c, h⟩ | ⟨c, h⟩
      · replace w := w.1 c
        replace h := h.2
        replace w := w.2
        rcases h with ⟨c, h⟩ | ⟨c, h⟩
        · replace w := w.1 c
          replace h := h.2
          replace w := w.2
          replace h := h.2
          replace w := w.2
          replace h := h.2
          replace w := w.2
          obtain ⟨p9, q9, z9, y2_, y3_, h⟩ := h
          obtain ⟨Q9, w0, w⟩ := w
          replace w := w p9 q9 (vpX11_nameEntry z9 w0) y2_ y3_
          replace h := h.2
          replace w := w.2
          replace h := h.2
          replace w := w.2
          replace h := h.2
          replace w := w.2
          obtain ⟨p9, q9, z9, y4_, y5_, h⟩ := h
          obtain ⟨Q9, w0, w⟩ := w
          replace w := w p9 q9 (vpX11_nameEntry z9 w0) y4_ y5_
          obtain ⟨p9, q9, z9, y6_, y7_, h⟩ := h
          obtain ⟨Q9, w0, w⟩ := w
          replace w := w p9 q9 (vpX11_pointersEntry z9 w0) y6_ y7_
          obtain ⟨p9, q9, z9, y8_, y9_, h⟩ := h
          obtain ⟨Q9, w0, w⟩ := w
          replace w := w p9 q9 (vpX11_pointersEntry z9 w0) y8_ y9_
          replace h := h.2
          replace w := w.2
          obtain ⟨v9, e9, y10_, y11_, h⟩ := h
          replace w := w v9 e9 y10_ y11_
          exact vp_X11_methodEntryOf_J88 h w
        · replace w := w.2 c
          exact vp_X11_methodEntryOf_J88 h w
      · replace w := w.2 c
        rw [h.1, h.2]
        exact w
def vX11_classOf (S : MS) (x1 : Int32) (ro : Int32) (uo : MS) : Prop := ((x1.toInt = (-1) ∧ (ro = (0 : Int32) ∧ uo = S)) ∨ (¬ x1.toInt = (-1) ∧ (d_X6_errorName S x1 ∧ (qT S (fX6_errorName S x1) = 12 ∧ (∃ (r6 : Int32) (S7 : MS), vX11_textEntry S (fX6_errorName S x1) r6 S7 ∧ wfC S7 ∧ shx S S7 ∧ (∃ (r11 : Int32) (S12 : MS), vX11_pointerEntry S7 (7 : Int32) r6 r11 S12 ∧ wfC S12 ∧ shx S7 S12 ∧ (ro = r11 ∧ uo = S12)))))))
set_option maxRecDepth 100000 in
theorem ruX11_classOf {S : MS} {x1 : Int32} {Q : Int32 → MS → Prop} (h : wX11_classOf S x1 Q) : wX11_classOf S x1 (fun r u => Q r u ∧ vX11_classOf S x1 r u) := by
  have i0 : Unit := ()
  have K : ∀ (i : Unit) (ro : Int32) (uo : MS), vX11_classOf S x1 ro uo → vX11_classOf S x1 ro uo := fun _ _ _ z => z
  unfold wX11_classOf at h ⊢
  refine ⟨fun c => ?_, fun c => ?_⟩
  · replace h := h.1 c
    replace K := fun i ro uo z => K i ro uo (Or.inl ⟨c, z⟩)
    exact ⟨h, K i0 _ _ ⟨rfl, rfl⟩⟩
  · replace h := h.2 c
    replace K := fun i ro uo z => K i ro uo (Or.inr ⟨c, z⟩)
    obtain ⟨g1_, h⟩ := h
    refine ⟨g1_, ?_⟩
    replace K := fun i ro uo z => K i ro uo ⟨g1_, z⟩
    intro y2_
    replace h := h y2_
    replace K := fun i ro uo z => K i ro uo ⟨y2_, z⟩
    obtain ⟨Q9, h0, h⟩ := h
    refine ⟨_, ruX11_textEntry h0, ?_⟩
    intro r6 S7 q3_ y4_ y5_
    replace h := h r6 S7 q3_.1 y4_ y5_
    replace K := fun i ro uo z => K i ro uo ⟨r6, S7, q3_.2, y4_, y5_, z⟩
    obtain ⟨Q9, h0, h⟩ := h
    refine ⟨_, ruX11_pointerEntry h0, ?_⟩
    intro r11 S12 q6_ y7_ y8_
    replace h := h r11 S12 q6_.1 y7_ y8_
    replace K := fun i ro uo z => K i ro uo ⟨r11, S12, q6_.2, y7_, y8_, z⟩
    exact ⟨h, K i0 _ _ ⟨rfl, rfl⟩⟩
set_option maxRecDepth 100000 in
theorem vwX11_classOf {S : MS} {x1 : Int32} {ro : Int32} {uo : MS} (h : vX11_classOf S x1 ro uo) : wX11_classOf S x1 (fun r u => r = ro ∧ u = uo) := by
  unfold vX11_classOf at h
  unfold wX11_classOf
  rcases h with ⟨c, h⟩ | ⟨c, h⟩
  · refine ⟨fun _ => ?_, fun c2 => absurd c c2⟩
    exact ⟨h.1.symm, h.2.symm⟩
  · refine ⟨fun c2 => absurd c2 c, fun _ => ?_⟩
    obtain ⟨g9, h⟩ := h
    refine ⟨g9, ?_⟩
    intro _
    replace h := h.2
    obtain ⟨p9, q9, z9, h⟩ := h
    refine ⟨_, vwX11_textEntry z9, ?_⟩
    rintro p8 q8 ⟨d8, d9⟩ _ _
    subst d8
    subst d9
    replace h := h.2.2
    obtain ⟨p9, q9, z9, h⟩ := h
    refine ⟨_, vwX11_pointerEntry z9, ?_⟩
    rintro p8 q8 ⟨d8, d9⟩ _ _
    subst d8
    subst d9
    replace h := h.2.2
    exact ⟨h.1.symm, h.2.symm⟩
set_option maxRecDepth 100000 in
theorem vpX11_classOf {S : MS} {x1 : Int32} {ro : Int32} {uo : MS} {P : Int32 → MS → Prop} (h : vX11_classOf S x1 ro uo) (w : wX11_classOf S x1 P) : P ro uo := by
  unfold vX11_classOf at h
  unfold wX11_classOf at w
  rcases h with ⟨c, h⟩ | ⟨c, h⟩
  · replace w := w.1 c
    rw [h.1, h.2]
    exact w
  · replace w := w.2 c
    replace h := h.2
    replace w := w.2
    obtain ⟨y1_, h⟩ := h
    replace w := w y1_
    obtain ⟨p9, q9, z9, y2_, y3_, h⟩ := h
    obtain ⟨Q9, w0, w⟩ := w
    replace w := w p9 q9 (vpX11_textEntry z9 w0) y2_ y3_
    obtain ⟨p9, q9, z9, y4_, y5_, h⟩ := h
    obtain ⟨Q9, w0, w⟩ := w
    replace w := w p9 q9 (vpX11_pointerEntry z9 w0) y4_ y5_
    rw [h.1, h.2]
    exact w
def v_X11_needOf_J110 (ro : Int32) (uo : MS) (U110 : MS) (v110_2 : Int64) : Prop := (wfC U110 ∧ (∃ (r13 : Int32) (S14 : MS), vX11_fieldEntryOf U110 (v110_2.toInt32) r13 S14 ∧ wfC S14 ∧ shx U110 S14 ∧ (ro = r13 ∧ uo = S14)))
def v_X11_needOf_J100 (ro : Int32) (uo : MS) (U100 : MS) : Prop := (wfC U100 ∧ (ro = (0 : Int32) ∧ uo = U100))
def vX11_needOf (S : MS) (x1 : Int32) (ro : Int32) (uo : MS) : Prop := ((qR S 25 15 = some (qO S 25 15)) ∧ (d_X8_argAt S (qO S 25 15) x1 ∧ (∃ a6 : Int64, a6 = (fX8_argAt S (qO S 25 15) x1) ∧ ((qR S 25 15 = some (qO S 25 15)) ∧ (d_X8_opAt S (qO S 25 15) x1 ∧ (((fX8_opAt S (qO S 25 15) x1).toInt = 17 ∧ (((lg_cmp a6 (((a6.toInt32).toInt16.toInt32).toInt64)).toInt = 0 ∧ (ro = (0 : Int32) ∧ uo = S)) ∨ (¬ (lg_cmp a6 (((a6.toInt32).toInt16.toInt32).toInt64)).toInt = 0 ∧ (∃ (r20 : Int32) (S21 : MS), vX11_intEntry S (a6.toInt32) r20 S21 ∧ wfC S21 ∧ shx S S21 ∧ (ro = r20 ∧ uo = S21))))) ∨ (¬ (fX8_opAt S (qO S 25 15) x1).toInt = 17 ∧ (((fX8_opAt S (qO S 25 15) x1).toInt = 20 ∧ (((lg_cmp a6 0).toInt = 0 ∧ (v_X11_needOf_J100 ro uo S)) ∨ (¬ (lg_cmp a6 0).toInt = 0 ∧ (((lg_cmp a6 1).toInt = 0 ∧ (v_X11_needOf_J100 ro uo S)) ∨ (¬ (lg_cmp a6 1).toInt = 0 ∧ (∃ (r29 : Int32) (S30 : MS), vX11_longEntry S a6 r29 S30 ∧ wfC S30 ∧ shx S S30 ∧ (ro = r29 ∧ uo = S30))))))) ∨ (¬ (fX8_opAt S (qO S 25 15) x1).toInt = 20 ∧ (((fX8_opAt S (qO S 25 15) x1).toInt = 178 ∧ (v_X11_needOf_J110 ro uo S a6)) ∨ (¬ (fX8_opAt S (qO S 25 15) x1).toInt = 178 ∧ (((fX8_opAt S (qO S 25 15) x1).toInt = 179 ∧ (v_X11_needOf_J110 ro uo S a6)) ∨ (¬ (fX8_opAt S (qO S 25 15) x1).toInt = 179 ∧ (((fX8_opAt S (qO S 25 15) x1).toInt = 184 ∧ (∃ (r34 : Int32) (S35 : MS), vX11_methodEntryOf S (a6.toInt32) r34 S35 ∧ wfC S35 ∧ shx S S35 ∧ (ro = r34 ∧ uo = S35))) ∨ (¬ (fX8_opAt S (qO S 25 15) x1).toInt = 184 ∧ (ro = (0 : Int32) ∧ uo = S))))))))))))))))
set_option maxRecDepth 100000 in
theorem ru_X11_needOf_J110 {ι : Type} {P Q : Int32 → MS → Prop} {U110 : MS} {v110_2 : Int64} (i0 : ι) (K : ∀ (i : ι) (ro : Int32) (uo : MS), v_X11_needOf_J110 ro uo U110 v110_2 → P ro uo) (h : w_X11_needOf_J110 Q U110 v110_2) : w_X11_needOf_J110 (fun r u => Q r u ∧ P r u) U110 v110_2 := by
  unfold w_X11_needOf_J110 at h ⊢
  intro y1_
  replace h := h y1_
  replace K := fun i ro uo z => K i ro uo ⟨y1_, z⟩
  obtain ⟨Q9, h0, h⟩ := h
  refine ⟨_, ruX11_fieldEntryOf h0, ?_⟩
  intro r13 S14 q2_ y3_ y4_
  replace h := h r13 S14 q2_.1 y3_ y4_
  replace K := fun i ro uo z => K i ro uo ⟨r13, S14, q2_.2, y3_, y4_, z⟩
  exact ⟨h, K i0 _ _ ⟨rfl, rfl⟩⟩
set_option maxRecDepth 100000 in
theorem ru_X11_needOf_J100 {ι : Type} {P Q : Int32 → MS → Prop} {U100 : MS} (i0 : ι) (K : ∀ (i : ι) (ro : Int32) (uo : MS), v_X11_needOf_J100 ro uo U100 → P ro uo) (h : w_X11_needOf_J100 Q U100) : w_X11_needOf_J100 (fun r u => Q r u ∧ P r u) U100 := by
  unfold w_X11_needOf_J100 at h ⊢
  intro y5_
  replace h := h y5_
  replace K := fun i ro uo z => K i ro uo ⟨y5_, z⟩
  exact ⟨h, K i0 _ _ ⟨rfl, rfl⟩⟩
set_option maxRecDepth 100000 in
theorem ruX11_needOf {S : MS} {x1 : Int32} {Q : Int32 → MS → Prop} (h : wX11_needOf S x1 Q) : wX11_needOf S x1 (fun r u => Q r u ∧ vX11_needOf S x1 r u) := by
  have i0 : Unit := ()
  have K : ∀ (i : Unit) (ro : Int32) (uo : MS), vX11_needOf S x1 ro uo → vX11_needOf S x1 ro uo := fun _ _ _ z => z
  unfold wX11_needOf at h ⊢
  obtain ⟨g6_, h⟩ := h
  refine ⟨g6_, ?_⟩
  replace K := fun i ro uo z => K i ro uo ⟨g6_, z⟩
  obtain ⟨g7_, h⟩ := h
  refine ⟨g7_, ?_⟩
  replace K := fun i ro uo z => K i ro uo ⟨g7_, z⟩
  intro a6 ea6 
  replace h := h a6 ea6 
  replace K := fun i ro uo z => K i ro uo ⟨a6, ea6, z⟩
  obtain ⟨g8_, h⟩ := h
  refine ⟨g8_, ?_⟩
  replace K := fun i ro uo z => K i ro uo ⟨g8_, z⟩
  obtain ⟨g9_, h⟩ := h
  refine ⟨g9_, ?_⟩
  replace K := fun i ro uo z => K i ro uo ⟨g9_, z⟩
  refine ⟨fun c => ?_, fun c => ?_⟩
  · replace h := h.1 c
    replace K := fun i ro uo z => K i ro uo (Or.inl ⟨c, z⟩)
    refine ⟨fun c => ?_, fun c => ?_⟩
    · replace h := h.1 c
      replace K := fun i ro uo z => K i ro uo (Or.inl ⟨c, z⟩)
      exact ⟨h, K i0 _ _ ⟨rfl, rfl⟩⟩
    · replace h := h.2 c
      replace K := fun i ro uo z => K i ro uo (Or.inr ⟨c, z⟩)
      obtain ⟨Q9, h0, h⟩ := h
      refine ⟨_, ruX11_intEntry h0, ?_⟩
      intro r20 S21 q10_ y11_ y12_
      replace h := h r20 S21 q10_.1 y11_ y12_
      replace K := fun i ro uo z => K i ro uo ⟨r20, S21, q10_.2, y11_, y12_, z⟩
      exact ⟨h, K i0 _ _ ⟨rfl, rfl⟩⟩
  · replace h := h.2 c
    replace K := fun i ro uo z => K i ro uo (Or.inr ⟨c, z⟩)
    refine ⟨fun c => ?_, fun c => ?_⟩
    · replace h := h.1 c
      replace K := fun i ro uo z => K i ro uo (Or.inl ⟨c, z⟩)
      refine ⟨fun c => ?_, fun c => ?_⟩
      · replace h := h.1 c
        replace K := fun i ro uo z => K i ro uo (Or.inl ⟨c, z⟩)
        exact ru_X11_needOf_J100 i0 K h
      · replace h := h.2 c
        replace K := fun i ro uo z => K i ro uo (Or.inr ⟨c, z⟩)
        refine ⟨fun c => ?_, fun c => ?_⟩
        · replace h := h.1 c
          replace K := fun i ro uo z => K i ro uo (Or.inl ⟨c, z⟩)
          exact ru_X11_needOf_J100 i0 K h
        · replace h := h.2 c
          replace K := fun i ro uo z => K i ro uo (Or.inr ⟨c, z⟩)
          obtain ⟨Q9, h0, h⟩ := h
          refine ⟨_, ruX11_longEntry h0, ?_⟩
          intro r29 S30 q13_ y14_ y15_
          replace h := h r29 S30 q13_.1 y14_ y15_
          replace K := fun i ro uo z => K i ro uo ⟨r29, S30, q13_.2, y14_, y15_, z⟩
          exact ⟨h, K i0 _ _ ⟨rfl, rfl⟩⟩
    · replace h := h.2 c
      replace K := fun i ro uo z => K i ro uo (Or.inr ⟨c, z⟩)
      refine ⟨fun c => ?_, fun c => ?_⟩
      · replace h := h.1 c
        replace K := fun i ro uo z => K i ro uo (Or.inl ⟨c, z⟩)
        exact ru_X11_needOf_J110 i0 K h
      · replace h := h.2 c
        replace K := fun i ro uo z => K i ro uo (Or.inr ⟨c, z⟩)
        refine ⟨fun c => ?_, fun c => ?_⟩
        · replace h := h.1 c
          replace K := fun i ro uo z => K i ro uo (Or.inl ⟨c, z⟩)
          exact ru_X11_needOf_J110 i0 K h
        · replace h := h.2 c
          replace K := fun i ro uo z => K i ro uo (Or.inr ⟨c, z⟩)
          refine ⟨fun c => ?_, fun c => ?_⟩
          · replace h := h.1 c
            replace K := fun i ro uo z => K i ro uo (Or.inl ⟨c, z⟩)
            obtain ⟨Q9, h0, h⟩ := h
            refine ⟨_, ruX11_methodEntryOf h0, ?_⟩
            intro r34 S35 q16_ y17_ y18_
            replace h := h r34 S35 q16_.1 y17_ y18_
            replace K := fun i ro uo z => K i ro uo ⟨r34, S35, q16_.2, y17_, y18_, z⟩
            exact ⟨h, K i0 _ _ ⟨rfl, rfl⟩⟩
          · replace h := h.2 c
            replace K := fun i ro uo z => K i ro uo (Or.inr ⟨c, z⟩)
            exact ⟨h, K i0 _ _ ⟨rfl, rfl⟩⟩
set_option maxRecDepth 100000 in
theorem vw_X11_needOf_J110 {ro : Int32} {uo : MS} {U110 : MS} {v110_2 : Int64} (h : v_X11_needOf_J110 ro uo U110 v110_2) : w_X11_needOf_J110 (fun r u => r = ro ∧ u = uo) U110 v110_2 := by
  unfold v_X11_needOf_J110 at h
  unfold w_X11_needOf_J110
  intro _
  replace h := h.2
  obtain ⟨p9, q9, z9, h⟩ := h
  refine ⟨_, vwX11_fieldEntryOf z9, ?_⟩
  rintro p8 q8 ⟨d8, d9⟩ _ _
  subst d8
  subst d9
  replace h := h.2.2
  exact ⟨h.1.symm, h.2.symm⟩
set_option maxRecDepth 100000 in
theorem vp_X11_needOf_J110 {ro : Int32} {uo : MS} {P : Int32 → MS → Prop} {U110 : MS} {v110_2 : Int64} (h : v_X11_needOf_J110 ro uo U110 v110_2) (w : w_X11_needOf_J110 P U110 v110_2) : P ro uo := by
  unfold v_X11_needOf_J110 at h
  unfold w_X11_needOf_J110 at w
  obtain ⟨y1_, h⟩ := h
  replace w := w y1_
  obtain ⟨p9, q9, z9, y2_, y3_, h⟩ := h
  obtain ⟨Q9, w0, w⟩ := w
  replace w := w p9 q9 (vpX11_fieldEntryOf z9 w0) y2_ y3_
  rw [h.1, h.2]
  exact w
set_option maxRecDepth 100000 in
theorem vw_X11_needOf_J100 {ro : Int32} {uo : MS} {U100 : MS} (h : v_X11_needOf_J100 ro uo U100) : w_X11_needOf_J100 (fun r u => r = ro ∧ u = uo) U100 := by
  unfold v_X11_needOf_J100 at h
  unfold w_X11_needOf_J100
  intro _
  replace h := h.2
  exact ⟨h.1.symm, h.2.symm⟩
set_option maxRecDepth 100000 in
theorem vp_X11_needOf_J100 {ro : Int32} {uo : MS} {P : Int32 → MS → Prop} {U100 : MS} (h : v_X11_needOf_J100 ro uo U100) (w : w_X11_needOf_J100 P U100) : P ro uo := by
  unfold v_X11_needOf_J100 at h
  unfold w_X11_needOf_J100 at w
  obtain ⟨y4_, h⟩ := h
  replace w := w y4_
  rw [h.1, h.2]
  exact w
set_option maxRecDepth 100000 in
theorem vwX11_needOf {S : MS} {x1 : Int32} {ro : Int32} {uo : MS} (h : vX11_needOf S x1 ro uo) : wX11_needOf S x1 (fun r u => r = ro ∧ u = uo) := by
  unfold vX11_needOf at h
  unfold wX11_needOf
  obtain ⟨g9, h⟩ := h
  refine ⟨g9, ?_⟩
  obtain ⟨g9, h⟩ := h
  refine ⟨g9, ?_⟩
  obtain ⟨v9, e9, h⟩ := h
  intro x9 d9 
  have c9 : v9 = x9 := e9.trans d9.symm
  subst c9
  obtain ⟨g9, h⟩ := h
  refine ⟨g9, ?_⟩
  obtain ⟨g9, h⟩ := h
  refine ⟨g9, ?_⟩
  rcases h with ⟨c, h⟩ | ⟨c, h⟩
  · refine ⟨fun _ => ?_, fun c2 => absurd c c2⟩
    rcases h with ⟨c, h⟩ | ⟨c, h⟩
    · refine ⟨fun _ => ?_, fun c2 => absurd c c2⟩
      exact ⟨h.1.symm, h.2.symm⟩
    · refine ⟨fun c2 => absurd c2 c, fun _ => ?_⟩
      obtain ⟨p9, q9, z9, h⟩ := h
      refine ⟨_, vwX11_intEntry z9, ?_⟩
      rintro p8 q8 ⟨d8, d9⟩ _ _
      subst d8
      subst d9
      replace h := h.2.2
      exact ⟨h.1.symm, h.2.symm⟩
  · refine ⟨fun c2 => absurd c2 c, fun _ => ?_⟩
    rcases h with ⟨c, h⟩ | ⟨c, h⟩
    · refine ⟨fun _ => ?_, fun c2 => absurd c c2⟩
      rcases h with ⟨c, h⟩ | ⟨c, h⟩
      · refine ⟨fun _ => ?_, fun c2 => absurd c c2⟩
        exact vw_X11_needOf_J100 h
      · refine ⟨fun c2 => absurd c2 c, fun _ => ?_⟩
        rcases h with ⟨c, h⟩ | ⟨c, h⟩
        · refine ⟨fun _ => ?_, fun c2 => absurd c c2⟩
          exact vw_X11_needOf_J100 h
        · refine ⟨fun c2 => absurd c2 c, fun _ => ?_⟩
          obtain ⟨p9, q9, z9, h⟩ := h
          refine ⟨_, vwX11_longEntry z9, ?_⟩
          rintro p8 q8 ⟨d8, d9⟩ _ _
          subst d8
          subst d9
          replace h := h.2.2
          exact ⟨h.1.symm, h.2.symm⟩
    · refine ⟨fun c2 => absurd c2 c, fun _ => ?_⟩
      rcases h with ⟨c, h⟩ | ⟨c, h⟩
      · refine ⟨fun _ => ?_, fun c2 => absurd c c2⟩
        exact vw_X11_needOf_J110 h
      · refine ⟨fun c2 => absurd c2 c, fun _ => ?_⟩
        rcases h with ⟨c, h⟩ | ⟨c, h⟩
        · refine ⟨fun _ => ?_, fun c2 => absurd c c2⟩
          exact vw_X11_needOf_J110 h
        · refine ⟨fun c2 => absurd c2 c, fun _ => ?_⟩
          rcases h with ⟨c, h⟩ | ⟨c, h⟩
          · refine ⟨fun _ => ?_, fun c2 => absurd c c2⟩
            obtain ⟨p9, q9, z9, h⟩ := h
            refine ⟨_, vwX11_methodEntryOf z9, ?_⟩
            rintro p8 q8 ⟨d8, d9⟩ _ _
            subst d8
            subst d9
            replace h := h.2.2
            exact ⟨h.1.symm, h.2.symm⟩
          · refine ⟨fun c2 => absurd c2 c, fun _ => ?_⟩
            exact ⟨h.1.symm, h.2.symm⟩
set_option maxRecDepth 100000 in
theorem vpX11_needOf {S : MS} {x1 : Int32} {ro : Int32} {uo : MS} {P : Int32 → MS → Prop} (h : vX11_needOf S x1 ro uo) (w : wX11_needOf S x1 P) : P ro uo := by
  unfold vX11_needOf at h
  unfold wX11_needOf at w
  replace h := h.2
  replace w := w.2
  replace h := h.2
  replace w := w.2
  obtain ⟨v9, e9, h⟩ := h
  replace w := w v9 e9 
  replace h := h.2
  replace w := w.2
  replace h := h.2
  replace w := w.2
  rcases h with ⟨c, h⟩ | ⟨c, h⟩
  · replace w := w.1 c
    rcases h with ⟨c, h⟩ | ⟨c, h⟩
    · replace w := w.1 c
      rw [h.1, h.2]
      exact w
    · replace w := w.2 c
      obtain ⟨p9, q9, z9, y5_, y6_, h⟩ := h
      obtain ⟨Q9, w0, w⟩ := w
      replace w := w p9 q9 (vpX11_intEntry z9 w0) y5_ y6_
      rw [h.1, h.2]
      exact w
  · replace w := w.2 c
    rcases h with ⟨c, h⟩ | ⟨c, h⟩
    · replace w := w.1 c
      rcases h with ⟨c, h⟩ | ⟨c, h⟩
      · replace w := w.1 c
        exact vp_X11_needOf_J100 h w
      · replace w := w.2 c
        rcases h with ⟨c, h⟩ | ⟨c, h⟩
        · replace w := w.1 c
          exact vp_X11_needOf_J100 h w
        · replace w := w.2 c
          obtain ⟨p9, q9, z9, y7_, y8_, h⟩ := h
          obtain ⟨Q9, w0, w⟩ := w
          replace w := w p9 q9 (vpX11_longEntry z9 w0) y7_ y8_
          rw [h.1, h.2]
          exact w
    · replace w := w.2 c
      rcases h with ⟨c, h⟩ | ⟨c, h⟩
      · replace w := w.1 c
        exact vp_X11_needOf_J110 h w
      · replace w := w.2 c
        rcases h with ⟨c, h⟩ | ⟨c, h⟩
        · replace w := w.1 c
          exact vp_X11_needOf_J110 h w
        · replace w := w.2 c
          rcases h with ⟨c, h⟩ | ⟨c, h⟩
          · replace w := w.1 c
            obtain ⟨p9, q9, z9, y9_, y10_, h⟩ := h
            obtain ⟨Q9, w0, w⟩ := w
            replace w := w p9 q9 (vpX11_methodEntryOf z9 w0) y9_ y10_
            rw [h.1, h.2]
            exact w
          · replace w := w.2 c
            rw [h.1, h.2]
            exact w
def v_X11_putInstruction_J33 (uo : MS) (U33 : MS) (v33_3 : Int32) (v33_4 : Int64) : Prop := (wfC U33 ∧ (∃ (S18 : MS), vX11_putLocal U33 v33_3 (v33_4.toInt32) S18 ∧ wfC S18 ∧ shx U33 S18 ∧ (uo = S18)))
def v_X11_putInstruction_J200 (uo : MS) (U200 : MS) (v200_1 : Int32) : Prop := (wfC U200 ∧ (((0 : Int) ≤ v200_1.toInt ∧ v200_1.toInt < (qN U200 (qO U200 25 16) : Int)) ∧ (qT U200 28 = 40 ∧ (∃ (S48 : MS), vX0_put2 U200 28 (qI U200 (qO U200 25 16) v200_1.toInt.toNat) S48 ∧ wfC S48 ∧ shx U200 S48 ∧ (uo = S48)))))
def vX11_putInstruction (S : MS) (x1 : Int32) (x2 : Int32) (uo : MS) : Prop := ((qR S 25 15 = some (qO S 25 15)) ∧ (d_X8_opAt S (qO S 25 15) x1 ∧ (∃ a6 : Int32, a6 = (fX8_opAt S (qO S 25 15) x1) ∧ ((qR S 25 15 = some (qO S 25 15)) ∧ (d_X8_argAt S (qO S 25 15) x1 ∧ (∃ a12 : Int64, a12 = (fX8_argAt S (qO S 25 15) x1) ∧ (d_X6_isLoad S a6 ∧ (∃ a16 : Int32, a16 = (fX6_isLoad S a6) ∧ ((a16.toInt = 0 ∧ (d_X6_isStore S a6 ∧ (∃ a25 : Int32, a25 = (fX6_isStore S a6) ∧ ((a25.toInt = 0 ∧ (d_X6_isJump S a6 ∧ (∃ a30 : Int32, a30 = (fX6_isJump S a6) ∧ ((a30.toInt = 0 ∧ (d_X6_isSwitch S a6 ∧ (∃ a35 : Int32, a35 = (fX6_isSwitch S a6) ∧ ((a35.toInt = 0 ∧ ((a6.toInt = 17 ∧ (((0 : Int) ≤ x1.toInt ∧ x1.toInt < (qN S (qO S 25 16) : Int)) ∧ (∃ (S86 : MS), vX11_putInt S (a12.toInt32) (qI S (qO S 25 16) x1.toInt.toNat) S86 ∧ wfC S86 ∧ shx S S86 ∧ (uo = S86)))) ∨ (¬ a6.toInt = 17 ∧ ((a6.toInt = 20 ∧ (((0 : Int) ≤ x1.toInt ∧ x1.toInt < (qN S (qO S 25 16) : Int)) ∧ (∃ (S79 : MS), vX11_putLong S a12 (qI S (qO S 25 16) x1.toInt.toNat) S79 ∧ wfC S79 ∧ shx S S79 ∧ (uo = S79)))) ∨ (¬ a6.toInt = 20 ∧ ((a6.toInt = 132 ∧ ((qR S 25 15 = some (qO S 25 15)) ∧ (d_X8_localOf S (qO S 25 15) x1 ∧ (∃ a64 : Int32, a64 = (fX8_localOf S (qO S 25 15) x1) ∧ ((qR S 25 15 = some (qO S 25 15)) ∧ (d_X8_stepOf S (qO S 25 15) x1 ∧ (∃ a70 : Int32, a70 = (fX8_stepOf S (qO S 25 15) x1) ∧ (∃ (S72 : MS), vX11_putGrow S a64 a70 S72 ∧ wfC S72 ∧ shx S S72 ∧ (uo = S72))))))))) ∨ (¬ a6.toInt = 132 ∧ (qT S 28 = 40 ∧ (∃ (S41 : MS), vX0_put S 28 a6 S41 ∧ wfC S41 ∧ shx S S41 ∧ ((a6.toInt = 178 ∧ (v_X11_putInstruction_J200 uo S41 x1)) ∨ (¬ a6.toInt = 178 ∧ ((a6.toInt = 179 ∧ (v_X11_putInstruction_J200 uo S41 x1)) ∨ (¬ a6.toInt = 179 ∧ ((a6.toInt = 184 ∧ (v_X11_putInstruction_J200 uo S41 x1)) ∨ (¬ a6.toInt = 184 ∧ ((a6.toInt = 188 ∧ (qT S41 28 = 40 ∧ (∃ (S56 : MS), vX0_put S41 28 (10 : Int32) S56 ∧ wfC S56 ∧ shx S41 S56 ∧ (uo = S56)))) ∨ (¬ a6.toInt = 188 ∧ (uo = S41)))))))))))))))))) ∨ (¬ a35.toInt = 0 ∧ (∃ (S90 : MS), vX11_putSwitch S x1 x2 S90 ∧ wfC S90 ∧ shx S S90 ∧ (uo = S90))))))) ∨ (¬ a30.toInt = 0 ∧ (qT S 28 = 40 ∧ (∃ (S94 : MS), vX0_put S 28 a6 S94 ∧ wfC S94 ∧ shx S S94 ∧ (d_X11_offsetOf S94 (a12.toInt32) ∧ (∃ a100 : Int32, a100 = (fX11_offsetOf S94 (a12.toInt32)) ∧ (d_X11_offsetOf S94 x1 ∧ (∃ a104 : Int32, a104 = (fX11_offsetOf S94 x1) ∧ (qT S94 28 = 40 ∧ (∃ (S107 : MS), vX0_put2 S94 28 (a100 - a104) S107 ∧ wfC S107 ∧ shx S94 S107 ∧ (uo = S107)))))))))))))) ∨ (¬ a25.toInt = 0 ∧ (v_X11_putInstruction_J33 uo S a6 a12)))))) ∨ (¬ a16.toInt = 0 ∧ (v_X11_putInstruction_J33 uo S a6 a12)))))))))))
set_option maxRecDepth 100000 in
theorem ru_X11_putInstruction_J33 {ι : Type} {P Q : MS → Prop} {U33 : MS} {v33_3 : Int32} {v33_4 : Int64} (i0 : ι) (K : ∀ (i : ι) (uo : MS), v_X11_putInstruction_J33 uo U33 v33_3 v33_4 → P uo) (h : w_X11_putInstruction_J33 Q U33 v33_3 v33_4) : w_X11_putInstruction_J33 (fun u => Q u ∧ P u) U33 v33_3 v33_4 := by
  unfold w_X11_putInstruction_J33 at h ⊢
  intro y1_
  replace h := h y1_
  replace K := fun i uo z => K i uo ⟨y1_, z⟩
  obtain ⟨Q9, h0, h⟩ := h
  refine ⟨_, ruX11_putLocal h0, ?_⟩
  intro S18 q2_ y3_ y4_
  replace h := h S18 q2_.1 y3_ y4_
  replace K := fun i uo z => K i uo ⟨S18, q2_.2, y3_, y4_, z⟩
  exact ⟨h, K i0 _ rfl⟩
set_option maxRecDepth 100000 in
theorem ru_X11_putInstruction_J200 {ι : Type} {P Q : MS → Prop} {U200 : MS} {v200_1 : Int32} (i0 : ι) (K : ∀ (i : ι) (uo : MS), v_X11_putInstruction_J200 uo U200 v200_1 → P uo) (h : w_X11_putInstruction_J200 Q U200 v200_1) : w_X11_putInstruction_J200 (fun u => Q u ∧ P u) U200 v200_1 := by
  unfold w_X11_putInstruction_J200 at h ⊢
  intro y5_
  replace h := h y5_
  replace K := fun i uo z => K i uo ⟨y5_, z⟩
  obtain ⟨g6_, h⟩ := h
  refine ⟨g6_, ?_⟩
  replace K := fun i uo z => K i uo ⟨g6_, z⟩
  intro y7_
  replace h := h y7_
  replace K := fun i uo z => K i uo ⟨y7_, z⟩
  obtain ⟨Q9, h0, h⟩ := h
  refine ⟨_, ruX0_put2 h0, ?_⟩
  intro S48 q8_ y9_ y10_
  replace h := h S48 q8_.1 y9_ y10_
  replace K := fun i uo z => K i uo ⟨S48, q8_.2, y9_, y10_, z⟩
  exact ⟨h, K i0 _ rfl⟩
set_option maxRecDepth 100000 in
theorem ruX11_putInstruction {S : MS} {x1 : Int32} {x2 : Int32} {Q : MS → Prop} (h : wX11_putInstruction S x1 x2 Q) : wX11_putInstruction S x1 x2 (fun u => Q u ∧ vX11_putInstruction S x1 x2 u) := by
  have i0 : Unit := ()
  have K : ∀ (i : Unit) (uo : MS), vX11_putInstruction S x1 x2 uo → vX11_putInstruction S x1 x2 uo := fun _ _ z => z
  unfold wX11_putInstruction at h ⊢
  obtain ⟨g11_, h⟩ := h
  refine ⟨g11_, ?_⟩
  replace K := fun i uo z => K i uo ⟨g11_, z⟩
  obtain ⟨g12_, h⟩ := h
  refine ⟨g12_, ?_⟩
  replace K := fun i uo z => K i uo ⟨g12_, z⟩
  intro a6 ea6 
  replace h := h a6 ea6 
  replace K := fun i uo z => K i uo ⟨a6, ea6, z⟩
  obtain ⟨g13_, h⟩ := h
  refine ⟨g13_, ?_⟩
  replace K := fun i uo z => K i uo ⟨g13_, z⟩
  obtain ⟨g14_, h⟩ := h
  refine ⟨g14_, ?_⟩
  replace K := fun i uo z => K i uo ⟨g14_, z⟩
  intro a12 ea12 
  replace h := h a12 ea12 
  replace K := fun i uo z => K i uo ⟨a12, ea12, z⟩
  obtain ⟨g15_, h⟩ := h
  refine ⟨g15_, ?_⟩
  replace K := fun i uo z => K i uo ⟨g15_, z⟩
  intro a16 ea16 
  replace h := h a16 ea16 
  replace K := fun i uo z => K i uo ⟨a16, ea16, z⟩
  refine ⟨fun c => ?_, fun c => ?_⟩
  · replace h := h.1 c
    replace K := fun i uo z => K i uo (Or.inl ⟨c, z⟩)
    obtain ⟨g16_, h⟩ := h
    refine ⟨g16_, ?_⟩
    replace K := fun i uo z => K i uo ⟨g16_, z⟩
    intro a25 ea25 
    replace h := h a25 ea25 
    replace K := fun i uo z => K i uo ⟨a25, ea25, z⟩
    refine ⟨fun c => ?_, fun c => ?_⟩
    · replace h := h.1 c
      replace K := fun i uo z => K i uo (Or.inl ⟨c, z⟩)
      obtain ⟨g17_, h⟩ := h
      refine ⟨g17_, ?_⟩
      replace K := fun i uo z => K i uo ⟨g17_, z⟩
      intro a30 ea30 
      replace h := h a30 ea30 
      replace K := fun i uo z => K i uo ⟨a30, ea30, z⟩
      refine ⟨fun c => ?_, fun c => ?_⟩
      · replace h := h.1 c
        replace K := fun i uo z => K i uo (Or.inl ⟨c, z⟩)
        obtain ⟨g18_, h⟩ := h
        refine ⟨g18_, ?_⟩
        replace K := fun i uo z => K i uo ⟨g18_, z⟩
        intro a35 ea35 
        replace h := h a35 ea35 
        replace K := fun i uo z => K i uo ⟨a35, ea35, z⟩
        refine ⟨fun c => ?_, fun c => ?_⟩
        · replace h := h.1 c
          replace K := fun i uo z => K i uo (Or.inl ⟨c, z⟩)
          refine ⟨fun c => ?_, fun c => ?_⟩
          · replace h := h.1 c
            replace K := fun i uo z => K i uo (Or.inl ⟨c, z⟩)
            obtain ⟨g19_, h⟩ := h
            refine ⟨g19_, ?_⟩
            replace K := fun i uo z => K i uo ⟨g19_, z⟩
            obtain ⟨Q9, h0, h⟩ := h
            refine ⟨_, ruX11_putInt h0, ?_⟩
            intro S86 q20_ y21_ y22_
            replace h := h S86 q20_.1 y21_ y22_
            replace K := fun i uo z => K i uo ⟨S86, q20_.2, y21_, y22_, z⟩
            exact ⟨h, K i0 _ rfl⟩
          · replace h := h.2 c
            replace K := fun i uo z => K i uo (Or.inr ⟨c, z⟩)
            refine ⟨fun c => ?_, fun c => ?_⟩
            · replace h := h.1 c
              replace K := fun i uo z => K i uo (Or.inl ⟨c, z⟩)
              obtain ⟨g23_, h⟩ := h
              refine ⟨g23_, ?_⟩
              replace K := fun i uo z => K i uo ⟨g23_, z⟩
              obtain ⟨Q9, h0, h⟩ := h
              refine ⟨_, ruX11_putLong h0, ?_⟩
              intro S79 q24_ y25_ y26_
              replace h := h S79 q24_.1 y25_ y26_
              replace K := fun i uo z => K i uo ⟨S79, q24_.2, y25_, y26_, z⟩
              exact ⟨h, K i0 _ rfl⟩
            · replace h := h.2 c
              replace K := fun i uo z => K i uo (Or.inr ⟨c, z⟩)
              refine ⟨fun c => ?_, fun c => ?_⟩
              · replace h := h.1 c
                replace K := fun i uo z => K i uo (Or.inl ⟨c, z⟩)
                obtain ⟨g27_, h⟩ := h
                refine ⟨g27_, ?_⟩
                replace K := fun i uo z => K i uo ⟨g27_, z⟩
                obtain ⟨g28_, h⟩ := h
                refine ⟨g28_, ?_⟩
                replace K := fun i uo z => K i uo ⟨g28_, z⟩
                intro a64 ea64 
                replace h := h a64 ea64 
                replace K := fun i uo z => K i uo ⟨a64, ea64, z⟩
                obtain ⟨g29_, h⟩ := h
                refine ⟨g29_, ?_⟩
                replace K := fun i uo z => K i uo ⟨g29_, z⟩
                obtain ⟨g30_, h⟩ := h
                refine ⟨g30_, ?_⟩
                replace K := fun i uo z => K i uo ⟨g30_, z⟩
                intro a70 ea70 
                replace h := h a70 ea70 
                replace K := fun i uo z => K i uo ⟨a70, ea70, z⟩
                obtain ⟨Q9, h0, h⟩ := h
                refine ⟨_, ruX11_putGrow h0, ?_⟩
                intro S72 q31_ y32_ y33_
                replace h := h S72 q31_.1 y32_ y33_
                replace K := fun i uo z => K i uo ⟨S72, q31_.2, y32_, y33_, z⟩
                exact ⟨h, K i0 _ rfl⟩
              · replace h := h.2 c
                replace K := fun i uo z => K i uo (Or.inr ⟨c, z⟩)
                intro y34_
                replace h := h y34_
                replace K := fun i uo z => K i uo ⟨y34_, z⟩
                obtain ⟨Q9, h0, h⟩ := h
                refine ⟨_, ruX0_put h0, ?_⟩
                intro S41 q35_ y36_ y37_
                replace h := h S41 q35_.1 y36_ y37_
                replace K := fun i uo z => K i uo ⟨S41, q35_.2, y36_, y37_, z⟩
                refine ⟨fun c => ?_, fun c => ?_⟩
                · replace h := h.1 c
                  replace K := fun i uo z => K i uo (Or.inl ⟨c, z⟩)
                  exact ru_X11_putInstruction_J200 i0 K h
                · replace h := h.2 c
                  replace K := fun i uo z => K i uo (Or.inr ⟨c, z⟩)
                  refine ⟨fun c => ?_, fun c => ?_⟩
                  · replace h := h.1 c
                    replace K := fun i uo z => K i uo (Or.inl ⟨c, z⟩)
                    exact ru_X11_putInstruction_J200 i0 K h
                  · replace h := h.2 c
                    replace K := fun i uo z => K i uo (Or.inr ⟨c, z⟩)
                    refine ⟨fun c => ?_, fun c => ?_⟩
                    · replace h := h.1 c
                      replace K := fun i uo z => K i uo (Or.inl ⟨c, z⟩)
                      exact ru_X11_putInstruction_J200 i0 K h
                    · replace h := h.2 c
                      replace K := fun i uo z => K i uo (Or.inr ⟨c, z⟩)
                      refine ⟨fun c => ?_, fun c => ?_⟩
                      · replace h := h.1 c
                        replace K := fun i uo z => K i uo (Or.inl ⟨c, z⟩)
                        intro y38_
                        replace h := h y38_
                        replace K := fun i uo z => K i uo ⟨y38_, z⟩
                        obtain ⟨Q9, h0, h⟩ := h
                        refine ⟨_, ruX0_put h0, ?_⟩
                        intro S56 q39_ y40_ y41_
                        replace h := h S56 q39_.1 y40_ y41_
                        replace K := fun i uo z => K i uo ⟨S56, q39_.2, y40_, y41_, z⟩
                        exact ⟨h, K i0 _ rfl⟩
                      · replace h := h.2 c
                        replace K := fun i uo z => K i uo (Or.inr ⟨c, z⟩)
                        exact ⟨h, K i0 _ rfl⟩
        · replace h := h.2 c
          replace K := fun i uo z => K i uo (Or.inr ⟨c, z⟩)
          obtain ⟨Q9, h0, h⟩ := h
          refine ⟨_, ruX11_putSwitch h0, ?_⟩
          intro S90 q42_ y43_ y44_
          replace h := h S90 q42_.1 y43_ y44_
          replace K := fun i uo z => K i uo ⟨S90, q42_.2, y43_, y44_, z⟩
          exact ⟨h, K i0 _ rfl⟩
      · replace h := h.2 c
        replace K := fun i uo z => K i uo (Or.inr ⟨c, z⟩)
        intro y45_
        replace h := h y45_
        replace K := fun i uo z => K i uo ⟨y45_, z⟩
        obtain ⟨Q9, h0, h⟩ := h
        refine ⟨_, ruX0_put h0, ?_⟩
        intro S94 q46_ y47_ y48_
        replace h := h S94 q46_.1 y47_ y48_
        replace K := fun i uo z => K i uo ⟨S94, q46_.2, y47_, y48_, z⟩
        obtain ⟨g49_, h⟩ := h
        refine ⟨g49_, ?_⟩
        replace K := fun i uo z => K i uo ⟨g49_, z⟩
        intro a100 ea100 
        replace h := h a100 ea100 
        replace K := fun i uo z => K i uo ⟨a100, ea100, z⟩
        obtain ⟨g50_, h⟩ := h
        refine ⟨g50_, ?_⟩
        replace K := fun i uo z => K i uo ⟨g50_, z⟩
        intro a104 ea104 
        replace h := h a104 ea104 
        replace K := fun i uo z => K i uo ⟨a104, ea104, z⟩
        intro y51_
        replace h := h y51_
        replace K := fun i uo z => K i uo ⟨y51_, z⟩
        obtain ⟨Q9, h0, h⟩ := h
        refine ⟨_, ruX0_put2 h0, ?_⟩
        intro S107 q52_ y53_ y54_
        replace h := h S107 q52_.1 y53_ y54_
        replace K := fun i uo z => K i uo ⟨S107, q52_.2, y53_, y54_, z⟩
        exact ⟨h, K i0 _ rfl⟩
    · replace h := h.2 c
      replace K := fun i uo z => K i uo (Or.inr ⟨c, z⟩)
      exact ru_X11_putInstruction_J33 i0 K h
  · replace h := h.2 c
    replace K := fun i uo z => K i uo (Or.inr ⟨c, z⟩)
    exact ru_X11_putInstruction_J33 i0 K h
set_option maxRecDepth 100000 in
theorem vw_X11_putInstruction_J33 {uo : MS} {U33 : MS} {v33_3 : Int32} {v33_4 : Int64} (h : v_X11_putInstruction_J33 uo U33 v33_3 v33_4) : w_X11_putInstruction_J33 (fun u => u = uo) U33 v33_3 v33_4 := by
  unfold v_X11_putInstruction_J33 at h
  unfold w_X11_putInstruction_J33
  intro _
  replace h := h.2
  obtain ⟨q9, z9, h⟩ := h
  refine ⟨_, vwX11_putLocal z9, ?_⟩
  intro q8 d9 _ _
  subst d9
  replace h := h.2.2
  exact h.symm
set_option maxRecDepth 100000 in
theorem vp_X11_putInstruction_J33 {uo : MS} {P : MS → Prop} {U33 : MS} {v33_3 : Int32} {v33_4 : Int64} (h : v_X11_putInstruction_J33 uo U33 v33_3 v33_4) (w : w_X11_putInstruction_J33 P U33 v33_3 v33_4) : P uo := by
  unfold v_X11_putInstruction_J33 at h
  unfold w_X11_putInstruction_J33 at w
  obtain ⟨y1_, h⟩ := h
  replace w := w y1_
  obtain ⟨q9, z9, y2_, y3_, h⟩ := h
  obtain ⟨Q9, w0, w⟩ := w
  replace w := w q9 (vpX11_putLocal z9 w0) y2_ y3_
  rw [h]
  exact w
set_option maxRecDepth 100000 in
theorem vw_X11_putInstruction_J200 {uo : MS} {U200 : MS} {v200_1 : Int32} (h : v_X11_putInstruction_J200 uo U200 v200_1) : w_X11_putInstruction_J200 (fun u => u = uo) U200 v200_1 := by
  unfold v_X11_putInstruction_J200 at h
  unfold w_X11_putInstruction_J200
  intro _
  replace h := h.2
  obtain ⟨g9, h⟩ := h
  refine ⟨g9, ?_⟩
  intro _
  replace h := h.2
  obtain ⟨q9, z9, h⟩ := h
  refine ⟨_, vwX0_put2 z9, ?_⟩
  intro q8 d9 _ _
  subst d9
  replace h := h.2.2
  exact h.symm
set_option maxRecDepth 100000 in
theorem vp_X11_putInstruction_J200 {uo : MS} {P : MS → Prop} {U200 : MS} {v200_1 : Int32} (h : v_X11_putInstruction_J200 uo U200 v200_1) (w : w_X11_putInstruction_J200 P U200 v200_1) : P uo := by
  unfold v_X11_putInstruction_J200 at h
  unfold w_X11_putInstruction_J200 at w
  obtain ⟨y4_, h⟩ := h
  replace w := w y4_
  replace h := h.2
  replace w := w.2
  obtain ⟨y5_, h⟩ := h
  replace w := w y5_
  obtain ⟨q9, z9, y6_, y7_, h⟩ := h
  obtain ⟨Q9, w0, w⟩ := w
  replace w := w q9 (vpX0_put2 z9 w0) y6_ y7_
  rw [h]
  exact w
set_option maxRecDepth 100000 in
theorem vwX11_putInstruction {S : MS} {x1 : Int32} {x2 : Int32} {uo : MS} (h : vX11_putInstruction S x1 x2 uo) : wX11_putInstruction S x1 x2 (fun u => u = uo) := by
  unfold vX11_putInstruction at h
  unfold wX11_putInstruction
  obtain ⟨g9, h⟩ := h
  refine ⟨g9, ?_⟩
  obtain ⟨g9, h⟩ := h
  refine ⟨g9, ?_⟩
  obtain ⟨v9, e9, h⟩ := h
  intro x9 d9 
  have c9 : v9 = x9 := e9.trans d9.symm
  subst c9
  obtain ⟨g9, h⟩ := h
  refine ⟨g9, ?_⟩
  obtain ⟨g9, h⟩ := h
  refine ⟨g9, ?_⟩
  obtain ⟨v9, e9, h⟩ := h
  intro x9 d9 
  have c9 : v9 = x9 := e9.trans d9.symm
  subst c9
  obtain ⟨g9, h⟩ := h
  refine ⟨g9, ?_⟩
  obtain ⟨v9, e9, h⟩ := h
  intro x9 d9 
  have c9 : v9 = x9 := e9.trans d9.symm
  subst c9
  rcases h with ⟨c, h⟩ | ⟨c, h⟩
  · refine ⟨fun _ => ?_, fun c2 => absurd c c2⟩
    obtain ⟨g9, h⟩ := h
    refine ⟨g9, ?_⟩
    obtain ⟨v9, e9, h⟩ := h
    intro x9 d9 
    have c9 : v9 = x9 := e9.trans d9.symm
    subst c9
    rcases h with ⟨c, h⟩ | ⟨c, h⟩
    · refine ⟨fun _ => ?_, fun c2 => absurd c c2⟩
      obtain ⟨g9, h⟩ := h
      refine ⟨g9, ?_⟩
      obtain ⟨v9, e9, h⟩ := h
      intro x9 d9 
      have c9 : v9 = x9 := e9.trans d9.symm
      subst c9
      rcases h with ⟨c, h⟩ | ⟨c, h⟩
      · refine ⟨fun _ => ?_, fun c2 => absurd c c2⟩
        obtain ⟨g9, h⟩ := h
        refine ⟨g9, ?_⟩
        obtain ⟨v9, e9, h⟩ := h
        intro x9 d9 
        have c9 : v9 = x9 := e9.trans d9.symm
        subst c9
        rcases h with ⟨c, h⟩ | ⟨c, h⟩
        · refine ⟨fun _ => ?_, fun c2 => absurd c c2⟩
          rcases h with ⟨c, h⟩ | ⟨c, h⟩
          · refine ⟨fun _ => ?_, fun c2 => absurd c c2⟩
            obtain ⟨g9, h⟩ := h
            refine ⟨g9, ?_⟩
            obtain ⟨q9, z9, h⟩ := h
            refine ⟨_, vwX11_putInt z9, ?_⟩
            intro q8 d9 _ _
            subst d9
            replace h := h.2.2
            exact h.symm
          · refine ⟨fun c2 => absurd c2 c, fun _ => ?_⟩
            rcases h with ⟨c, h⟩ | ⟨c, h⟩
            · refine ⟨fun _ => ?_, fun c2 => absurd c c2⟩
              obtain ⟨g9, h⟩ := h
              refine ⟨g9, ?_⟩
              obtain ⟨q9, z9, h⟩ := h
              refine ⟨_, vwX11_putLong z9, ?_⟩
              intro q8 d9 _ _
              subst d9
              replace h := h.2.2
              exact h.symm
            · refine ⟨fun c2 => absurd c2 c, fun _ => ?_⟩
              rcases h with ⟨c, h⟩ | ⟨c, h⟩
              · refine ⟨fun _ => ?_, fun c2 => absurd c c2⟩
                obtain ⟨g9, h⟩ := h
                refine ⟨g9, ?_⟩
                obtain ⟨g9, h⟩ := h
                refine ⟨g9, ?_⟩
                obtain ⟨v9, e9, h⟩ := h
                intro x9 d9 
                have c9 : v9 = x9 := e9.trans d9.symm
                subst c9
                obtain ⟨g9, h⟩ := h
                refine ⟨g9, ?_⟩
                obtain ⟨g9, h⟩ := h
                refine ⟨g9, ?_⟩
                obtain ⟨v9, e9, h⟩ := h
                intro x9 d9 
                have c9 : v9 = x9 := e9.trans d9.symm
                subst c9
                obtain ⟨q9, z9, h⟩ := h
                refine ⟨_, vwX11_putGrow z9, ?_⟩
                intro q8 d9 _ _
                subst d9
                replace h := h.2.2
                exact h.symm
              · refine ⟨fun c2 => absurd c2 c, fun _ => ?_⟩
                intro _
                replace h := h.2
                obtain ⟨q9, z9, h⟩ := h
                refine ⟨_, vwX0_put z9, ?_⟩
                intro q8 d9 _ _
                subst d9
                replace h := h.2.2
                rcases h with ⟨c, h⟩ | ⟨c, h⟩
                · refine ⟨fun _ => ?_, fun c2 => absurd c c2⟩
                  exact vw_X11_putInstruction_J200 h
                · refine ⟨fun c2 => absurd c2 c, fun _ => ?_⟩
                  rcases h with ⟨c, h⟩ | ⟨c, h⟩
                  · refine ⟨fun _ => ?_, fun c2 => absurd c c2⟩
                    exact vw_X11_putInstruction_J200 h
                  · refine ⟨fun c2 => absurd c2 c, fun _ => ?_⟩
                    rcases h with ⟨c, h⟩ | ⟨c, h⟩
                    · refine ⟨fun _ => ?_, fun c2 => absurd c c2⟩
                      exact vw_X11_putInstruction_J200 h
                    · refine ⟨fun c2 => absurd c2 c, fun _ => ?_⟩
                      rcases h with ⟨c, h⟩ | ⟨c, h⟩
                      · refine ⟨fun _ => ?_, fun c2 => absurd c c2⟩
                        intro _
                        replace h := h.2
                        obtain ⟨q9, z9, h⟩ := h
                        refine ⟨_, vwX0_put z9, ?_⟩
                        intro q8 d9 _ _
                        subst d9
                        replace h := h.2.2
                        exact h.symm
                      · refine ⟨fun c2 => absurd c2 c, fun _ => ?_⟩
                        exact h.symm
        · refine ⟨fun c2 => absurd c2 c, fun _ => ?_⟩
          obtain ⟨q9, z9, h⟩ := h
          refine ⟨_, vwX11_putSwitch z9, ?_⟩
          intro q8 d9 _ _
          subst d9
          replace h := h.2.2
          exact h.symm
      · refine ⟨fun c2 => absurd c2 c, fun _ => ?_⟩
        intro _
        replace h := h.2
        obtain ⟨q9, z9, h⟩ := h
        refine ⟨_, vwX0_put z9, ?_⟩
        intro q8 d9 _ _
        subst d9
        replace h := h.2.2
        obtain ⟨g9, h⟩ := h
        refine ⟨g9, ?_⟩
        obtain ⟨v9, e9, h⟩ := h
        intro x9 d9 
        have c9 : v9 = x9 := e9.trans d9.symm
        subst c9
        obtain ⟨g9, h⟩ := h
        refine ⟨g9, ?_⟩
        obtain ⟨v9, e9, h⟩ := h
        intro x9 d9 
        have c9 : v9 = x9 := e9.trans d9.symm
        subst c9
        intro _
        replace h := h.2
        obtain ⟨q9, z9, h⟩ := h
        refine ⟨_, vwX0_put2 z9, ?_⟩
        intro q8 d9 _ _
        subst d9
        replace h := h.2.2
        exact h.symm
    · refine ⟨fun c2 => absurd c2 c, fun _ => ?_⟩
      exact vw_X11_putInstruction_J33 h
  · refine ⟨fun c2 => absurd c2 c, fun _ => ?_⟩
    exact vw_X11_putInstruction_J33 h
set_option maxRecDepth 100000 in
theorem vpX11_putInstruction {S : MS} {x1 : Int32} {x2 : Int32} {uo : MS} {P : MS → Prop} (h : vX11_putInstruction S x1 x2 uo) (w : wX11_putInstruction S x1 x2 P) : P uo := by
  unfold vX11_putInstruction at h
  unfold wX11_putInstruction at w
  replace h := h.2
  replace w := w.2
  replace h := h.2
  replace w := w.2
  obtain ⟨v9, e9, h⟩ := h
  replace w := w v9 e9 
  replace h := h.2
  replace w := w.2
  replace h := h.2
  replace w := w.2
  obtain ⟨v9, e9, h⟩ := h
  replace w := w v9 e9 
  replace h := h.2
  replace w := w.2
  obtain ⟨v9, e9, h⟩ := h
  replace w := w v9 e9 
  rcases h with ⟨c, h⟩ | ⟨c, h⟩
  · replace w := w.1 c
    replace h := h.2
    replace w := w.2
    obtain ⟨v9, e9, h⟩ := h
    replace w := w v9 e9 
    rcases h with ⟨c, h⟩ | ⟨c, h⟩
    · replace w := w.1 c
      replace h := h.2
      replace w := w.2
      obtain ⟨v9, e9, h⟩ := h
      replace w := w v9 e9 
      rcases h with ⟨c, h⟩ | ⟨c, h⟩
      · replace w := w.1 c
        replace h := h.2
        replace w := w.2
        obtain ⟨v9, e9, h⟩ := h
        replace w := w v9 e9 
        rcases h with ⟨c, h⟩ | ⟨c, h⟩
        · replace w := w.1 c
          rcases h with ⟨c, h⟩ | ⟨c, h⟩
          · replace w := w.1 c
            replace h := h.2
            replace w := w.2
            obtain ⟨q9, z9, y8_, y9_, h⟩ := h
            obtain ⟨Q9, w0, w⟩ := w
            replace w := w q9 (vpX11_putInt z9 w0) y8_ y9_
            rw [h]
            exact w
          · replace w := w.2 c
            rcases h with ⟨c, h⟩ | ⟨c, h⟩
            · replace w := w.1 c
              replace h := h.2
              replace w := w.2
              obtain ⟨q9, z9, y10_, y11_, h⟩ := h
              obtain ⟨Q9, w0, w⟩ := w
              replace w := w q9 (vpX11_putLong z9 w0) y10_ y11_
              rw [h]
              exact w
            · replace w := w.2 c
              rcases h with ⟨c, h⟩ | ⟨c, h⟩
              · replace w := w.1 c
                replace h := h.2
                replace w := w.2
                replace h := h.2
                replace w := w.2
                obtain ⟨v9, e9, h⟩ := h
                replace w := w v9 e9 
                replace h := h.2
                replace w := w.2
                replace h := h.2
                replace w := w.2
                obtain ⟨v9, e9, h⟩ := h
                replace w := w v9 e9 
                obtain ⟨q9, z9, y12_, y13_, h⟩ := h
                obtain ⟨Q9, w0, w⟩ := w
                replace w := w q9 (vpX11_putGrow z9 w0) y12_ y13_
                rw [h]
                exact w
              · replace w := w.2 c
                obtain ⟨y14_, h⟩ := h
                replace w := w y14_
                obtain ⟨q9, z9, y15_, y16_, h⟩ := h
                obtain ⟨Q9, w0, w⟩ := w
                replace w := w q9 (vpX0_put z9 w0) y15_ y16_
                rcases h with ⟨c, h⟩ | ⟨c, h⟩
                · replace w := w.1 c
                  exact vp_X11_putInstruction_J200 h w
                · replace w := w.2 c
                  rcases h with ⟨c, h⟩ | ⟨c, h⟩
                  · replace w := w.1 c
                    exact vp_X11_putInstruction_J200 h w
                  · replace w := w.2 c
                    rcases h with ⟨c, h⟩ | ⟨c, h⟩
                    · replace w := w.1 c
                      exact vp_X11_putInstruction_J200 h w
                    · replace w := w.2 c
                      rcases h with ⟨c, h⟩ | ⟨c, h⟩
                      · replace w := w.1 c
                        obtain ⟨y17_, h⟩ := h
                        replace w := w y17_
                        obtain ⟨q9, z9, y18_, y19_, h⟩ := h
                        obtain ⟨Q9, w0, w⟩ := w
                        replace w := w q9 (vpX0_put z9 w0) y18_ y19_
                        rw [h]
                        exact w
                      · replace w := w.2 c
                        rw [h]
                        exact w
        · replace w := w.2 c
          obtain ⟨q9, z9, y20_, y21_, h⟩ := h
          obtain ⟨Q9, w0, w⟩ := w
          replace w := w q9 (vpX11_putSwitch z9 w0) y20_ y21_
          rw [h]
          exact w
      · replace w := w.2 c
        obtain ⟨y22_, h⟩ := h
        replace w := w y22_
        obtain ⟨q9, z9, y23_, y24_, h⟩ := h
        obtain ⟨Q9, w0, w⟩ := w
        replace w := w q9 (vpX0_put z9 w0) y23_ y24_
        replace h := h.2
        replace w := w.2
        obtain ⟨v9, e9, h⟩ := h
        replace w := w v9 e9 
        replace h := h.2
        replace w := w.2
        obtain ⟨v9, e9, h⟩ := h
        replace w := w v9 e9 
        obtain ⟨y25_, h⟩ := h
        replace w := w y25_
        obtain ⟨q9, z9, y26_, y27_, h⟩ := h
        obtain ⟨Q9, w0, w⟩ := w
        replace w := w q9 (vpX0_put2 z9 w0) y26_ y27_
        rw [h]
        exact w
    · replace w := w.2 c
      exact vp_X11_putInstruction_J33 h w
  · replace w := w.2 c
    exact vp_X11_putInstruction_J33 h w
def vX12_size (S : MS) (x1 : Int32) (x2 : Int32) (ro : Int32) (uo : MS) : Prop := (∃ (b5 : Option Nat) (S3 : MS), vX12_unitAt S x1 b5 S3 ∧ wfC S3 ∧ shy S S3 ∧ (∀ z, b5 = some z → qT S3 z = 49) ∧ ((b5 = none ∧ (ro = (-1 : Int32) ∧ uo = S3)) ∨ (¬ b5 = none ∧ ((x2.toInt = 0 ∧ (ro = (qI S3 ((b5).getD 0) 4) ∧ uo = S3)) ∨ (¬ x2.toInt = 0 ∧ ((x2.toInt = 1 ∧ (ro = (qI S3 ((b5).getD 0) 8) ∧ uo = S3)) ∨ (¬ x2.toInt = 1 ∧ ((x2.toInt = 2 ∧ (ro = (qI S3 ((b5).getD 0) 1) ∧ uo = S3)) ∨ (¬ x2.toInt = 2 ∧ ((x2.toInt = 3 ∧ (ro = (qI S3 ((b5).getD 0) 14) ∧ uo = S3)) ∨ (¬ x2.toInt = 3 ∧ (ro = (-1 : Int32) ∧ uo = S3))))))))))))
set_option maxRecDepth 100000 in
theorem ruX12_size {S : MS} {x1 : Int32} {x2 : Int32} {Q : Int32 → MS → Prop} (h : wX12_size S x1 x2 Q) : wX12_size S x1 x2 (fun r u => Q r u ∧ vX12_size S x1 x2 r u) := by
  have i0 : Unit := ()
  have K : ∀ (i : Unit) (ro : Int32) (uo : MS), vX12_size S x1 x2 ro uo → vX12_size S x1 x2 ro uo := fun _ _ _ z => z
  unfold wX12_size at h ⊢
  obtain ⟨Q9, h0, h⟩ := h
  refine ⟨_, ruX12_unitAt h0, ?_⟩
  intro b5 S3 q1_ y2_ y3_ y4_
  replace h := h b5 S3 q1_.1 y2_ y3_ y4_
  replace K := fun i ro uo z => K i ro uo ⟨b5, S3, q1_.2, y2_, y3_, y4_, z⟩
  refine ⟨fun c => ?_, fun c => ?_⟩
  · replace h := h.1 c
    replace K := fun i ro uo z => K i ro uo (Or.inl ⟨c, z⟩)
    exact ⟨h, K i0 _ _ ⟨rfl, rfl⟩⟩
  · replace h := h.2 c
    replace K := fun i ro uo z => K i ro uo (Or.inr ⟨c, z⟩)
    refine ⟨fun c => ?_, fun c => ?_⟩
    · replace h := h.1 c
      replace K := fun i ro uo z => K i ro uo (Or.inl ⟨c, z⟩)
      exact ⟨h, K i0 _ _ ⟨rfl, rfl⟩⟩
    · replace h := h.2 c
      replace K := fun i ro uo z => K i ro uo (Or.inr ⟨c, z⟩)
      refine ⟨fun c => ?_, fun c => ?_⟩
      · replace h := h.1 c
        replace K := fun i ro uo z => K i ro uo (Or.inl ⟨c, z⟩)
        exact ⟨h, K i0 _ _ ⟨rfl, rfl⟩⟩
      · replace h := h.2 c
        replace K := fun i ro uo z => K i ro uo (Or.inr ⟨c, z⟩)
        refine ⟨fun c => ?_, fun c => ?_⟩
        · replace h := h.1 c
          replace K := fun i ro uo z => K i ro uo (Or.inl ⟨c, z⟩)
          exact ⟨h, K i0 _ _ ⟨rfl, rfl⟩⟩
        · replace h := h.2 c
          replace K := fun i ro uo z => K i ro uo (Or.inr ⟨c, z⟩)
          refine ⟨fun c => ?_, fun c => ?_⟩
          · replace h := h.1 c
            replace K := fun i ro uo z => K i ro uo (Or.inl ⟨c, z⟩)
            exact ⟨h, K i0 _ _ ⟨rfl, rfl⟩⟩
          · replace h := h.2 c
            replace K := fun i ro uo z => K i ro uo (Or.inr ⟨c, z⟩)
            exact ⟨h, K i0 _ _ ⟨rfl, rfl⟩⟩
set_option maxRecDepth 100000 in
theorem vwX12_size {S : MS} {x1 : Int32} {x2 : Int32} {ro : Int32} {uo : MS} (h : vX12_size S x1 x2 ro uo) : wX12_size S x1 x2 (fun r u => r = ro ∧ u = uo) := by
  unfold vX12_size at h
  unfold wX12_size
  obtain ⟨p9, q9, z9, h⟩ := h
  refine ⟨_, vwX12_unitAt z9, ?_⟩
  rintro p8 q8 ⟨d8, d9⟩ _ _ _
  subst d8
  subst d9
  replace h := h.2.2.2
  rcases h with ⟨c, h⟩ | ⟨c, h⟩
  · refine ⟨fun _ => ?_, fun c2 => absurd c c2⟩
    exact ⟨h.1.symm, h.2.symm⟩
  · refine ⟨fun c2 => absurd c2 c, fun _ => ?_⟩
    rcases h with ⟨c, h⟩ | ⟨c, h⟩
    · refine ⟨fun _ => ?_, fun c2 => absurd c c2⟩
      exact ⟨h.1.symm, h.2.symm⟩
    · refine ⟨fun c2 => absurd c2 c, fun _ => ?_⟩
      rcases h with ⟨c, h⟩ | ⟨c, h⟩
      · refine ⟨fun _ => ?_, fun c2 => absurd c c2⟩
        exact ⟨h.1.symm, h.2.symm⟩
      · refine ⟨fun c2 => absurd c2 c, fun _ => ?_⟩
        rcases h with ⟨c, h⟩ | ⟨c, h⟩
        · refine ⟨fun _ => ?_, fun c2 => absurd c c2⟩
          exact ⟨h.1.symm, h.2.symm⟩
        · refine ⟨fun c2 => absurd c2 c, fun _ => ?_⟩
          rcases h with ⟨c, h⟩ | ⟨c, h⟩
          · refine ⟨fun _ => ?_, fun c2 => absurd c c2⟩
            exact ⟨h.1.symm, h.2.symm⟩
          · refine ⟨fun c2 => absurd c2 c, fun _ => ?_⟩
            exact ⟨h.1.symm, h.2.symm⟩
set_option maxRecDepth 100000 in
theorem vpX12_size {S : MS} {x1 : Int32} {x2 : Int32} {ro : Int32} {uo : MS} {P : Int32 → MS → Prop} (h : vX12_size S x1 x2 ro uo) (w : wX12_size S x1 x2 P) : P ro uo := by
  unfold vX12_size at h
  unfold wX12_size at w
  obtain ⟨p9, q9, z9, y1_, y2_, y3_, h⟩ := h
  obtain ⟨Q9, w0, w⟩ := w
  replace w := w p9 q9 (vpX12_unitAt z9 w0) y1_ y2_ y3_
  rcases h with ⟨c, h⟩ | ⟨c, h⟩
  · replace w := w.1 c
    rw [h.1, h.2]
    exact w
  · replace w := w.2 c
    rcases h with ⟨c, h⟩ | ⟨c, h⟩
    · replace w := w.1 c
      rw [h.1, h.2]
      exact w
    · replace w := w.2 c
      rcases h with ⟨c, h⟩ | ⟨c, h⟩
      · replace w := w.1 c
        rw [h.1, h.2]
        exact w
      · replace w := w.2 c
        rcases h with ⟨c, h⟩ | ⟨c, h⟩
        · replace w := w.1 c
          rw [h.1, h.2]
          exact w
        · replace w := w.2 c
          rcases h with ⟨c, h⟩ | ⟨c, h⟩
          · replace w := w.1 c
            rw [h.1, h.2]
            exact w
          · replace w := w.2 c
            rw [h.1, h.2]
            exact w
def vX12_length (S : MS) (x1 : Int32) (x2 : Int32) (ro : Int32) (uo : MS) : Prop := (∃ (b5 : Option Nat) (S3 : MS), vX12_rowAt S x1 x2 b5 S3 ∧ wfC S3 ∧ shy S S3 ∧ (∀ z, b5 = some z → qT S3 z = 47) ∧ ((b5 = none ∧ (ro = (-1 : Int32) ∧ uo = S3)) ∨ (¬ b5 = none ∧ (ro = (qI S3 ((b5).getD 0) 2) ∧ uo = S3))))
set_option maxRecDepth 100000 in
theorem ruX12_length {S : MS} {x1 : Int32} {x2 : Int32} {Q : Int32 → MS → Prop} (h : wX12_length S x1 x2 Q) : wX12_length S x1 x2 (fun r u => Q r u ∧ vX12_length S x1 x2 r u) := by
  have i0 : Unit := ()
  have K : ∀ (i : Unit) (ro : Int32) (uo : MS), vX12_length S x1 x2 ro uo → vX12_length S x1 x2 ro uo := fun _ _ _ z => z
  unfold wX12_length at h ⊢
  obtain ⟨Q9, h0, h⟩ := h
  refine ⟨_, ruX12_rowAt h0, ?_⟩
  intro b5 S3 q1_ y2_ y3_ y4_
  replace h := h b5 S3 q1_.1 y2_ y3_ y4_
  replace K := fun i ro uo z => K i ro uo ⟨b5, S3, q1_.2, y2_, y3_, y4_, z⟩
  refine ⟨fun c => ?_, fun c => ?_⟩
  · replace h := h.1 c
    replace K := fun i ro uo z => K i ro uo (Or.inl ⟨c, z⟩)
    exact ⟨h, K i0 _ _ ⟨rfl, rfl⟩⟩
  · replace h := h.2 c
    replace K := fun i ro uo z => K i ro uo (Or.inr ⟨c, z⟩)
    exact ⟨h, K i0 _ _ ⟨rfl, rfl⟩⟩
set_option maxRecDepth 100000 in
theorem vwX12_length {S : MS} {x1 : Int32} {x2 : Int32} {ro : Int32} {uo : MS} (h : vX12_length S x1 x2 ro uo) : wX12_length S x1 x2 (fun r u => r = ro ∧ u = uo) := by
  unfold vX12_length at h
  unfold wX12_length
  obtain ⟨p9, q9, z9, h⟩ := h
  refine ⟨_, vwX12_rowAt z9, ?_⟩
  rintro p8 q8 ⟨d8, d9⟩ _ _ _
  subst d8
  subst d9
  replace h := h.2.2.2
  rcases h with ⟨c, h⟩ | ⟨c, h⟩
  · refine ⟨fun _ => ?_, fun c2 => absurd c c2⟩
    exact ⟨h.1.symm, h.2.symm⟩
  · refine ⟨fun c2 => absurd c2 c, fun _ => ?_⟩
    exact ⟨h.1.symm, h.2.symm⟩
set_option maxRecDepth 100000 in
theorem vpX12_length {S : MS} {x1 : Int32} {x2 : Int32} {ro : Int32} {uo : MS} {P : Int32 → MS → Prop} (h : vX12_length S x1 x2 ro uo) (w : wX12_length S x1 x2 P) : P ro uo := by
  unfold vX12_length at h
  unfold wX12_length at w
  obtain ⟨p9, q9, z9, y1_, y2_, y3_, h⟩ := h
  obtain ⟨Q9, w0, w⟩ := w
  replace w := w p9 q9 (vpX12_rowAt z9 w0) y1_ y2_ y3_
  rcases h with ⟨c, h⟩ | ⟨c, h⟩
  · replace w := w.1 c
    rw [h.1, h.2]
    exact w
  · replace w := w.2 c
    rw [h.1, h.2]
    exact w
def v_X12_height_J18 (ro : Int32) (uo : MS) (U18 : MS) (t18_0 : Option Nat) (v18_3 : Int32) : Prop := (wfC U18 ∧ (∀ z, t18_0 = some z → qT U18 z = 47) ∧ ((t18_0 = none ∧ (ro = (-1 : Int32) ∧ uo = U18)) ∨ (¬ t18_0 = none ∧ (d_X8_heightAt U18 ((t18_0).getD 0) v18_3 ∧ (ro = (fX8_heightAt U18 ((t18_0).getD 0) v18_3) ∧ uo = U18)))))
def vX12_height (S : MS) (x1 : Int32) (x2 : Int32) (x3 : Int32) (ro : Int32) (uo : MS) : Prop := (∃ (b5 : Option Nat) (S3 : MS), vX12_soundUnitAt S x1 b5 S3 ∧ wfC S3 ∧ shy S S3 ∧ (∀ z, b5 = some z → qT S3 z = 49) ∧ ((b5 = none ∧ (v_X12_height_J18 ro uo S3 none x3)) ∨ (¬ b5 = none ∧ (∃ (b15 : Option Nat) (S13 : MS), vX12_rowAt S3 x1 x2 b15 S13 ∧ wfC S13 ∧ shy S3 S13 ∧ (∀ z, b15 = some z → qT S13 z = 47) ∧ (v_X12_height_J18 ro uo S13 b15 x3)))))
set_option maxRecDepth 100000 in
theorem ru_X12_height_J18 {ι : Type} {P Q : Int32 → MS → Prop} {U18 : MS} {t18_0 : Option Nat} {v18_3 : Int32} (i0 : ι) (K : ∀ (i : ι) (ro : Int32) (uo : MS), v_X12_height_J18 ro uo U18 t18_0 v18_3 → P ro uo) (h : w_X12_height_J18 Q U18 t18_0 v18_3) : w_X12_height_J18 (fun r u => Q r u ∧ P r u) U18 t18_0 v18_3 := by
  unfold w_X12_height_J18 at h ⊢
  intro y1_ y2_
  replace h := h y1_ y2_
  replace K := fun i ro uo z => K i ro uo ⟨y1_, y2_, z⟩
  refine ⟨fun c => ?_, fun c => ?_⟩
  · replace h := h.1 c
    replace K := fun i ro uo z => K i ro uo (Or.inl ⟨c, z⟩)
    exact ⟨h, K i0 _ _ ⟨rfl, rfl⟩⟩
  · replace h := h.2 c
    replace K := fun i ro uo z => K i ro uo (Or.inr ⟨c, z⟩)
    obtain ⟨g3_, h⟩ := h
    refine ⟨g3_, ?_⟩
    replace K := fun i ro uo z => K i ro uo ⟨g3_, z⟩
    exact ⟨h, K i0 _ _ ⟨rfl, rfl⟩⟩
set_option maxRecDepth 100000 in
theorem ruX12_height {S : MS} {x1 : Int32} {x2 : Int32} {x3 : Int32} {Q : Int32 → MS → Prop} (h : wX12_height S x1 x2 x3 Q) : wX12_height S x1 x2 x3 (fun r u => Q r u ∧ vX12_height S x1 x2 x3 r u) := by
  have i0 : Unit := ()
  have K : ∀ (i : Unit) (ro : Int32) (uo : MS), vX12_height S x1 x2 x3 ro uo → vX12_height S x1 x2 x3 ro uo := fun _ _ _ z => z
  unfold wX12_height at h ⊢
  obtain ⟨Q9, h0, h⟩ := h
  refine ⟨_, ruX12_soundUnitAt h0, ?_⟩
  intro b5 S3 q4_ y5_ y6_ y7_
  replace h := h b5 S3 q4_.1 y5_ y6_ y7_
  replace K := fun i ro uo z => K i ro uo ⟨b5, S3, q4_.2, y5_, y6_, y7_, z⟩
  refine ⟨fun c => ?_, fun c => ?_⟩
  · replace h := h.1 c
    replace K := fun i ro uo z => K i ro uo (Or.inl ⟨c, z⟩)
    exact ru_X12_height_J18 i0 K h
  · replace h := h.2 c
    replace K := fun i ro uo z => K i ro uo (Or.inr ⟨c, z⟩)
    obtain ⟨Q9, h0, h⟩ := h
    refine ⟨_, ruX12_rowAt h0, ?_⟩
    intro b15 S13 q8_ y9_ y10_ y11_
    replace h := h b15 S13 q8_.1 y9_ y10_ y11_
    replace K := fun i ro uo z => K i ro uo ⟨b15, S13, q8_.2, y9_, y10_, y11_, z⟩
    exact ru_X12_height_J18 i0 K h
set_option maxRecDepth 100000 in
theorem vw_X12_height_J18 {ro : Int32} {uo : MS} {U18 : MS} {t18_0 : Option Nat} {v18_3 : Int32} (h : v_X12_height_J18 ro uo U18 t18_0 v18_3) : w_X12_height_J18 (fun r u => r = ro ∧ u = uo) U18 t18_0 v18_3 := by
  unfold v_X12_height_J18 at h
  unfold w_X12_height_J18
  intro _ _
  replace h := h.2.2
  rcases h with ⟨c, h⟩ | ⟨c, h⟩
  · refine ⟨fun _ => ?_, fun c2 => absurd c c2⟩
    exact ⟨h.1.symm, h.2.symm⟩
  · refine ⟨fun c2 => absurd c2 c, fun _ => ?_⟩
    obtain ⟨g9, h⟩ := h
    refine ⟨g9, ?_⟩
    exact ⟨h.1.symm, h.2.symm⟩
set_option maxRecDepth 100000 in
theorem vp_X12_height_J18 {ro : Int32} {uo : MS} {P : Int32 → MS → Prop} {U18 : MS} {t18_0 : Option Nat} {v18_3 : Int32} (h : v_X12_height_J18 ro uo U18 t18_0 v18_3) (w : w_X12_height_J18 P U18 t18_0 v18_3) : P ro uo := by
  unfold v_X12_height_J18 at h
  unfold w_X12_height_J18 at w
  obtain ⟨y1_, y2_, h⟩ := h
  replace w := w y1_ y2_
  rcases h with ⟨c, h⟩ | ⟨c, h⟩
  · replace w := w.1 c
    rw [h.1, h.2]
    exact w
  · replace w := w.2 c
    replace h := h.2
    replace w := w.2
    rw [h.1, h.2]
    exact w
set_option maxRecDepth 100000 in
theorem vwX12_height {S : MS} {x1 : Int32} {x2 : Int32} {x3 : Int32} {ro : Int32} {uo : MS} (h : vX12_height S x1 x2 x3 ro uo) : wX12_height S x1 x2 x3 (fun r u => r = ro ∧ u = uo) := by
  unfold vX12_height at h
  unfold wX12_height
  obtain ⟨p9, q9, z9, h⟩ := h
  refine ⟨_, vwX12_soundUnitAt z9, ?_⟩
  rintro p8 q8 ⟨d8, d9⟩ _ _ _
  subst d8
  subst d9
  replace h := h.2.2.2
  rcases h with ⟨c, h⟩ | ⟨c, h⟩
  · refine ⟨fun _ => ?_, fun c2 => absurd c c2⟩
    exact vw_X12_height_J18 h
  · refine ⟨fun c2 => absurd c2 c, fun _ => ?_⟩
    obtain ⟨p9, q9, z9, h⟩ := h
    refine ⟨_, vwX12_rowAt z9, ?_⟩
    rintro p8 q8 ⟨d8, d9⟩ _ _ _
    subst d8
    subst d9
    replace h := h.2.2.2
    exact vw_X12_height_J18 h
set_option maxRecDepth 100000 in
theorem vpX12_height {S : MS} {x1 : Int32} {x2 : Int32} {x3 : Int32} {ro : Int32} {uo : MS} {P : Int32 → MS → Prop} (h : vX12_height S x1 x2 x3 ro uo) (w : wX12_height S x1 x2 x3 P) : P ro uo := by
  unfold vX12_height at h
  unfold wX12_height at w
  obtain ⟨p9, q9, z9, y3_, y4_, y5_, h⟩ := h
  obtain ⟨Q9, w0, w⟩ := w
  replace w := w p9 q9 (vpX12_soundUnitAt z9 w0) y3_ y4_ y5_
  rcases h with ⟨c, h⟩ | ⟨c, h⟩
  · replace w := w.1 c
    exact vp_X12_height_J18 h w
  · replace w := w.2 c
    obtain ⟨p9, q9, z9, y6_, y7_, y8_, h⟩ := h
    obtain ⟨Q9, w0, w⟩ := w
    replace w := w p9 q9 (vpX12_rowAt z9 w0) y6_ y7_ y8_
    exact vp_X12_height_J18 h w
def v_X12_local_J18 (ro : Int32) (uo : MS) (U18 : MS) (t18_0 : Option Nat) (v18_3 : Int32) (v18_4 : Int32) : Prop := (wfC U18 ∧ (∀ z, t18_0 = some z → qT U18 z = 47) ∧ ((t18_0 = none ∧ (ro = (-1 : Int32) ∧ uo = U18)) ∨ (¬ t18_0 = none ∧ (d_X8_heightAt U18 ((t18_0).getD 0) v18_3 ∧ (((fX8_heightAt U18 ((t18_0).getD 0) v18_3).toInt < 0 ∧ (ro = (-1 : Int32) ∧ uo = U18)) ∨ (¬ (fX8_heightAt U18 ((t18_0).getD 0) v18_3).toInt < 0 ∧ ((v18_4.toInt < 0 ∧ (ro = (-1 : Int32) ∧ uo = U18)) ∨ (¬ v18_4.toInt < 0 ∧ ((v18_4.toInt < 24 ∧ (d_X8_localAt U18 ((t18_0).getD 0) v18_3 v18_4 ∧ (ro = (fX8_localAt U18 ((t18_0).getD 0) v18_3 v18_4) ∧ uo = U18))) ∨ (¬ v18_4.toInt < 24 ∧ (ro = (-1 : Int32) ∧ uo = U18)))))))))))
def vX12_local (S : MS) (x1 : Int32) (x2 : Int32) (x3 : Int32) (x4 : Int32) (ro : Int32) (uo : MS) : Prop := (∃ (b5 : Option Nat) (S3 : MS), vX12_soundUnitAt S x1 b5 S3 ∧ wfC S3 ∧ shy S S3 ∧ (∀ z, b5 = some z → qT S3 z = 49) ∧ ((b5 = none ∧ (v_X12_local_J18 ro uo S3 none x3 x4)) ∨ (¬ b5 = none ∧ (∃ (b21 : Option Nat) (S19 : MS), vX12_rowAt S3 x1 x2 b21 S19 ∧ wfC S19 ∧ shy S3 S19 ∧ (∀ z, b21 = some z → qT S19 z = 47) ∧ (v_X12_local_J18 ro uo S19 b21 x3 x4)))))
set_option maxRecDepth 100000 in
theorem ru_X12_local_J18 {ι : Type} {P Q : Int32 → MS → Prop} {U18 : MS} {t18_0 : Option Nat} {v18_3 : Int32} {v18_4 : Int32} (i0 : ι) (K : ∀ (i : ι) (ro : Int32) (uo : MS), v_X12_local_J18 ro uo U18 t18_0 v18_3 v18_4 → P ro uo) (h : w_X12_local_J18 Q U18 t18_0 v18_3 v18_4) : w_X12_local_J18 (fun r u => Q r u ∧ P r u) U18 t18_0 v18_3 v18_4 := by
  unfold w_X12_local_J18 at h ⊢
  intro y1_ y2_
  replace h := h y1_ y2_
  replace K := fun i ro uo z => K i ro uo ⟨y1_, y2_, z⟩
  refine ⟨fun c => ?_, fun c => ?_⟩
  · replace h := h.1 c
    replace K := fun i ro uo z => K i ro uo (Or.inl ⟨c, z⟩)
    exact ⟨h, K i0 _ _ ⟨rfl, rfl⟩⟩
  · replace h := h.2 c
    replace K := fun i ro uo z => K i ro uo (Or.inr ⟨c, z⟩)
    obtain ⟨g3_, h⟩ := h
    refine ⟨g3_, ?_⟩
    replace K := fun i ro uo z => K i ro uo ⟨g3_, z⟩
    refine ⟨fun c => ?_, fun c => ?_⟩
    · replace h := h.1 c
      replace K := fun i ro uo z => K i ro uo (Or.inl ⟨c, z⟩)
      exact ⟨h, K i0 _ _ ⟨rfl, rfl⟩⟩
    · replace h := h.2 c
      replace K := fun i ro uo z => K i ro uo (Or.inr ⟨c, z⟩)
      refine ⟨fun c => ?_, fun c => ?_⟩
      · replace h := h.1 c
        replace K := fun i ro uo z => K i ro uo (Or.inl ⟨c, z⟩)
        exact ⟨h, K i0 _ _ ⟨rfl, rfl⟩⟩
      · replace h := h.2 c
        replace K := fun i ro uo z => K i ro uo (Or.inr ⟨c, z⟩)
        refine ⟨fun c => ?_, fun c => ?_⟩
        · replace h := h.1 c
          replace K := fun i ro uo z => K i ro uo (Or.inl ⟨c, z⟩)
          obtain ⟨g4_, h⟩ := h
          refine ⟨g4_, ?_⟩
          replace K := fun i ro uo z => K i ro uo ⟨g4_, z⟩
          exact ⟨h, K i0 _ _ ⟨rfl, rfl⟩⟩
        · replace h := h.2 c
          replace K := fun i ro uo z => K i ro uo (Or.inr ⟨c, z⟩)
          exact ⟨h, K i0 _ _ ⟨rfl, rfl⟩⟩
set_option maxRecDepth 100000 in
theorem ruX12_local {S : MS} {x1 : Int32} {x2 : Int32} {x3 : Int32} {x4 : Int32} {Q : Int32 → MS → Prop} (h : wX12_local S x1 x2 x3 x4 Q) : wX12_local S x1 x2 x3 x4 (fun r u => Q r u ∧ vX12_local S x1 x2 x3 x4 r u) := by
  have i0 : Unit := ()
  have K : ∀ (i : Unit) (ro : Int32) (uo : MS), vX12_local S x1 x2 x3 x4 ro uo → vX12_local S x1 x2 x3 x4 ro uo := fun _ _ _ z => z
  unfold wX12_local at h ⊢
  obtain ⟨Q9, h0, h⟩ := h
  refine ⟨_, ruX12_soundUnitAt h0, ?_⟩
  intro b5 S3 q5_ y6_ y7_ y8_
  replace h := h b5 S3 q5_.1 y6_ y7_ y8_
  replace K := fun i ro uo z => K i ro uo ⟨b5, S3, q5_.2, y6_, y7_, y8_, z⟩
  refine ⟨fun c => ?_, fun c => ?_⟩
  · replace h := h.1 c
    replace K := fun i ro uo z => K i ro uo (Or.inl ⟨c, z⟩)
    exact ru_X12_local_J18 i0 K h
  · replace h := h.2 c
    replace K := fun i ro uo z => K i ro uo (Or.inr ⟨c, z⟩)
    obtain ⟨Q9, h0, h⟩ := h
    refine ⟨_, ruX12_rowAt h0, ?_⟩
    intro b21 S19 q9_ y10_ y11_ y12_
    replace h := h b21 S19 q9_.1 y10_ y11_ y12_
    replace K := fun i ro uo z => K i ro uo ⟨b21, S19, q9_.2, y10_, y11_, y12_, z⟩
    exact ru_X12_local_J18 i0 K h
set_option maxRecDepth 100000 in
theorem vw_X12_local_J18 {ro : Int32} {uo : MS} {U18 : MS} {t18_0 : Option Nat} {v18_3 : Int32} {v18_4 : Int32} (h : v_X12_local_J18 ro uo U18 t18_0 v18_3 v18_4) : w_X12_local_J18 (fun r u => r = ro ∧ u = uo) U18 t18_0 v18_3 v18_4 := by
  unfold v_X12_local_J18 at h
  unfold w_X12_local_J18
  intro _ _
  replace h := h.2.2
  rcases h with ⟨c, h⟩ | ⟨c, h⟩
  · refine ⟨fun _ => ?_, fun c2 => absurd c c2⟩
    exact ⟨h.1.symm, h.2.symm⟩
  · refine ⟨fun c2 => absurd c2 c, fun _ => ?_⟩
    obtain ⟨g9, h⟩ := h
    refine ⟨g9, ?_⟩
    rcases h with ⟨c, h⟩ | ⟨c, h⟩
    · refine ⟨fun _ => ?_, fun c2 => absurd c c2⟩
      exact ⟨h.1.symm, h.2.symm⟩
    · refine ⟨fun c2 => absurd c2 c, fun _ => ?_⟩
      rcases h with ⟨c, h⟩ | ⟨c, h⟩
      · refine ⟨fun _ => ?_, fun c2 => absurd c c2⟩
        exact ⟨h.1.symm, h.2.symm⟩
      · refine ⟨fun c2 => absurd c2 c, fun _ => ?_⟩
        rcases h with ⟨c, h⟩ | ⟨c, h⟩
        · refine ⟨fun _ => ?_, fun c2 => absurd c c2⟩
          obtain ⟨g9, h⟩ := h
          refine ⟨g9, ?_⟩
          exact ⟨h.1.symm, h.2.symm⟩
        · refine ⟨fun c2 => absurd c2 c, fun _ => ?_⟩
          exact ⟨h.1.symm, h.2.symm⟩
set_option maxRecDepth 100000 in
theorem vp_X12_local_J18 {ro : Int32} {uo : MS} {P : Int32 → MS → Prop} {U18 : MS} {t18_0 : Option Nat} {v18_3 : Int32} {v18_4 : Int32} (h : v_X12_local_J18 ro uo U18 t18_0 v18_3 v18_4) (w : w_X12_local_J18 P U18 t18_0 v18_3 v18_4) : P ro uo := by
  unfold v_X12_local_J18 at h
  unfold w_X12_local_J18 at w
  obtain ⟨y1_, y2_, h⟩ := h
  replace w := w y1_ y2_
  rcases h with ⟨c, h⟩ | ⟨c, h⟩
  · replace w := w.1 c
    rw [h.1, h.2]
    exact w
  · replace w := w.2 c
    replace h := h.2
    replace w := w.2
    rcases h with ⟨c, h⟩ | ⟨c, h⟩
    · replace w := w.1 c
      rw [h.1, h.2]
      exact w
    · replace w := w.2 c
      rcases h with ⟨c, h⟩ | ⟨c, h⟩
      · replace w := w.1 c
        rw [h.1, h.2]
        exact w
      · replace w := w.2 c
        rcases h with ⟨c, h⟩ | ⟨c, h⟩
        · replace w := w.1 c
          replace h := h.2
          replace w := w.2
          rw [h.1, h.2]
          exact w
        · replace w := w.2 c
          rw [h.1, h.2]
          exact w
set_option maxRecDepth 100000 in
theorem vwX12_local {S : MS} {x1 : Int32} {x2 : Int32} {x3 : Int32} {x4 : Int32} {ro : Int32} {uo : MS} (h : vX12_local S x1 x2 x3 x4 ro uo) : wX12_local S x1 x2 x3 x4 (fun r u => r = ro ∧ u = uo) := by
  unfold vX12_local at h
  unfold wX12_local
  obtain ⟨p9, q9, z9, h⟩ := h
  refine ⟨_, vwX12_soundUnitAt z9, ?_⟩
  rintro p8 q8 ⟨d8, d9⟩ _ _ _
  subst d8
  subst d9
  replace h := h.2.2.2
  rcases h with ⟨c, h⟩ | ⟨c, h⟩
  · refine ⟨fun _ => ?_, fun c2 => absurd c c2⟩
    exact vw_X12_local_J18 h
  · refine ⟨fun c2 => absurd c2 c, fun _ => ?_⟩
    obtain ⟨p9, q9, z9, h⟩ := h
    refine ⟨_, vwX12_rowAt z9, ?_⟩
    rintro p8 q8 ⟨d8, d9⟩ _ _ _
    subst d8
    subst d9
    replace h := h.2.2.2
    exact vw_X12_local_J18 h
set_option maxRecDepth 100000 in
theorem vpX12_local {S : MS} {x1 : Int32} {x2 : Int32} {x3 : Int32} {x4 : Int32} {ro : Int32} {uo : MS} {P : Int32 → MS → Prop} (h : vX12_local S x1 x2 x3 x4 ro uo) (w : wX12_local S x1 x2 x3 x4 P) : P ro uo := by
  unfold vX12_local at h
  unfold wX12_local at w
  obtain ⟨p9, q9, z9, y3_, y4_, y5_, h⟩ := h
  obtain ⟨Q9, w0, w⟩ := w
  replace w := w p9 q9 (vpX12_soundUnitAt z9 w0) y3_ y4_ y5_
  rcases h with ⟨c, h⟩ | ⟨c, h⟩
  · replace w := w.1 c
    exact vp_X12_local_J18 h w
  · replace w := w.2 c
    obtain ⟨p9, q9, z9, y6_, y7_, y8_, h⟩ := h
    obtain ⟨Q9, w0, w⟩ := w
    replace w := w p9 q9 (vpX12_rowAt z9 w0) y6_ y7_ y8_
    exact vp_X12_local_J18 h w
def vX12_stage (S : MS) (x1 : Int32) (ro : Int32) (uo : MS) : Prop := (∃ (b5 : Option Nat) (S3 : MS), vX12_soundUnitAt S x1 b5 S3 ∧ wfC S3 ∧ shy S S3 ∧ (∀ z, b5 = some z → qT S3 z = 49) ∧ ((b5 = none ∧ (ro = (0 : Int32) ∧ uo = S3)) ∨ (¬ b5 = none ∧ (qT S3 ((b5).getD 0) = 49 ∧ (∃ (S8 : MS), vX5_setStage S3 ((b5).getD 0) S8 ∧ wfC S8 ∧ shy S3 S8 ∧ (ro = (1 : Int32) ∧ uo = S8))))))
set_option maxRecDepth 100000 in
theorem ruX12_stage {S : MS} {x1 : Int32} {Q : Int32 → MS → Prop} (h : wX12_stage S x1 Q) : wX12_stage S x1 (fun r u => Q r u ∧ vX12_stage S x1 r u) := by
  have i0 : Unit := ()
  have K : ∀ (i : Unit) (ro : Int32) (uo : MS), vX12_stage S x1 ro uo → vX12_stage S x1 ro uo := fun _ _ _ z => z
  unfold wX12_stage at h ⊢
  obtain ⟨Q9, h0, h⟩ := h
  refine ⟨_, ruX12_soundUnitAt h0, ?_⟩
  intro b5 S3 q1_ y2_ y3_ y4_
  replace h := h b5 S3 q1_.1 y2_ y3_ y4_
  replace K := fun i ro uo z => K i ro uo ⟨b5, S3, q1_.2, y2_, y3_, y4_, z⟩
  refine ⟨fun c => ?_, fun c => ?_⟩
  · replace h := h.1 c
    replace K := fun i ro uo z => K i ro uo (Or.inl ⟨c, z⟩)
    exact ⟨h, K i0 _ _ ⟨rfl, rfl⟩⟩
  · replace h := h.2 c
    replace K := fun i ro uo z => K i ro uo (Or.inr ⟨c, z⟩)
    intro y5_
    replace h := h y5_
    replace K := fun i ro uo z => K i ro uo ⟨y5_, z⟩
    obtain ⟨Q9, h0, h⟩ := h
    refine ⟨_, ruX5_setStage h0, ?_⟩
    intro S8 q6_ y7_ y8_
    replace h := h S8 q6_.1 y7_ y8_
    replace K := fun i ro uo z => K i ro uo ⟨S8, q6_.2, y7_, y8_, z⟩
    exact ⟨h, K i0 _ _ ⟨rfl, rfl⟩⟩
set_option maxRecDepth 100000 in
theorem vwX12_stage {S : MS} {x1 : Int32} {ro : Int32} {uo : MS} (h : vX12_stage S x1 ro uo) : wX12_stage S x1 (fun r u => r = ro ∧ u = uo) := by
  unfold vX12_stage at h
  unfold wX12_stage
  obtain ⟨p9, q9, z9, h⟩ := h
  refine ⟨_, vwX12_soundUnitAt z9, ?_⟩
  rintro p8 q8 ⟨d8, d9⟩ _ _ _
  subst d8
  subst d9
  replace h := h.2.2.2
  rcases h with ⟨c, h⟩ | ⟨c, h⟩
  · refine ⟨fun _ => ?_, fun c2 => absurd c c2⟩
    exact ⟨h.1.symm, h.2.symm⟩
  · refine ⟨fun c2 => absurd c2 c, fun _ => ?_⟩
    intro _
    replace h := h.2
    obtain ⟨q9, z9, h⟩ := h
    refine ⟨_, vwX5_setStage z9, ?_⟩
    intro q8 d9 _ _
    subst d9
    replace h := h.2.2
    exact ⟨h.1.symm, h.2.symm⟩
set_option maxRecDepth 100000 in
theorem vpX12_stage {S : MS} {x1 : Int32} {ro : Int32} {uo : MS} {P : Int32 → MS → Prop} (h : vX12_stage S x1 ro uo) (w : wX12_stage S x1 P) : P ro uo := by
  unfold vX12_stage at h
  unfold wX12_stage at w
  obtain ⟨p9, q9, z9, y1_, y2_, y3_, h⟩ := h
  obtain ⟨Q9, w0, w⟩ := w
  replace w := w p9 q9 (vpX12_soundUnitAt z9 w0) y1_ y2_ y3_
  rcases h with ⟨c, h⟩ | ⟨c, h⟩
  · replace w := w.1 c
    rw [h.1, h.2]
    exact w
  · replace w := w.2 c
    obtain ⟨y4_, h⟩ := h
    replace w := w y4_
    obtain ⟨q9, z9, y5_, y6_, h⟩ := h
    obtain ⟨Q9, w0, w⟩ := w
    replace w := w q9 (vpX5_setStage z9 w0) y5_ y6_
    rw [h.1, h.2]
    exact w
def vX12_element (S : MS) (x1 : Int32) (x2 : Int32) (ro : Int32) (uo : MS) : Prop := (∃ (r2 : Int32) (S3 : MS), vX5_elementAt S x1 x2 r2 S3 ∧ wfC S3 ∧ shy S S3 ∧ (ro = r2 ∧ uo = S3))
set_option maxRecDepth 100000 in
theorem ruX12_element {S : MS} {x1 : Int32} {x2 : Int32} {Q : Int32 → MS → Prop} (h : wX12_element S x1 x2 Q) : wX12_element S x1 x2 (fun r u => Q r u ∧ vX12_element S x1 x2 r u) := by
  have i0 : Unit := ()
  have K : ∀ (i : Unit) (ro : Int32) (uo : MS), vX12_element S x1 x2 ro uo → vX12_element S x1 x2 ro uo := fun _ _ _ z => z
  unfold wX12_element at h ⊢
  obtain ⟨Q9, h0, h⟩ := h
  refine ⟨_, ruX5_elementAt h0, ?_⟩
  intro r2 S3 q1_ y2_ y3_
  replace h := h r2 S3 q1_.1 y2_ y3_
  replace K := fun i ro uo z => K i ro uo ⟨r2, S3, q1_.2, y2_, y3_, z⟩
  exact ⟨h, K i0 _ _ ⟨rfl, rfl⟩⟩
set_option maxRecDepth 100000 in
theorem vwX12_element {S : MS} {x1 : Int32} {x2 : Int32} {ro : Int32} {uo : MS} (h : vX12_element S x1 x2 ro uo) : wX12_element S x1 x2 (fun r u => r = ro ∧ u = uo) := by
  unfold vX12_element at h
  unfold wX12_element
  obtain ⟨p9, q9, z9, h⟩ := h
  refine ⟨_, vwX5_elementAt z9, ?_⟩
  rintro p8 q8 ⟨d8, d9⟩ _ _
  subst d8
  subst d9
  replace h := h.2.2
  exact ⟨h.1.symm, h.2.symm⟩
set_option maxRecDepth 100000 in
theorem vpX12_element {S : MS} {x1 : Int32} {x2 : Int32} {ro : Int32} {uo : MS} {P : Int32 → MS → Prop} (h : vX12_element S x1 x2 ro uo) (w : wX12_element S x1 x2 P) : P ro uo := by
  unfold vX12_element at h
  unfold wX12_element at w
  obtain ⟨p9, q9, z9, y1_, y2_, h⟩ := h
  obtain ⟨Q9, w0, w⟩ := w
  replace w := w p9 q9 (vpX5_elementAt z9 w0) y1_ y2_
  rw [h.1, h.2]
  exact w
def v_X1_beginBody_J96 (uo : MS) (k46 : MS → Int32 → Int32 → Int32 → Int32 → Prop) (U96 : MS) (t96_0 : Int32) (t96_1 : Int32) (v96_1 : Int32) (v96_2 : Int32) (v96_4 : Int32) : Prop := (wfC U96 ∧ (∃ a31 : Int32, a31 = (t96_1 + t96_0) ∧ (∃ a32 : Int32, a32 = (v96_4 + Int32.ofInt 1) ∧ (k46 U96 v96_1 v96_2 a31 a32))))
def v_X1_beginBody_J84 (uo : MS) (k46 : MS → Int32 → Int32 → Int32 → Int32 → Prop) (U84 : MS) (v84_1 : Int32) (v84_2 : Int32) (v84_3 : Int32) (v84_4 : Int32) (v84_5 : Int32) : Prop := (wfC U84 ∧ ((v84_5.toInt = 2 ∧ (v_X1_beginBody_J96 uo k46 U84 2 v84_3 v84_1 v84_2 v84_4)) ∨ (¬ v84_5.toInt = 2 ∧ (v_X1_beginBody_J96 uo k46 U84 1 v84_3 v84_1 v84_2 v84_4))))
def v_X1_beginBody_L46 (uo : MS) : Nat → MS → Int32 → Int32 → Int32 → Int32 → Prop
  | 0, _, _, _, _, _ => False
  | n46 + 1, U46, v46_1, v46_2, v46_3, v46_4 => (wfC U46 ∧ ((v46_2.toInt ≤ v46_4.toInt ∧ (∃ S15 : MS, S15 = wI U46 16 5 (0 : Int32) ∧ qT U46 16 = 41 ∧ wfC S15 ∧ (∃ (S17 : MS), vX1_comeTo S15 (0 : Int32) S17 ∧ wfC S17 ∧ shy S15 S17 ∧ (uo = S17)))) ∨ (¬ v46_2.toInt ≤ v46_4.toInt ∧ (∃ (r20 : Int32) (S21 : MS), vX6_kindAt U46 v46_1 v46_4 r20 S21 ∧ wfC S21 ∧ shy U46 S21 ∧ (d_X1_lowerType S21 r20 ∧ (∃ a26 : Int32, a26 = (fX1_lowerType S21 r20) ∧ (∃ (S28 : MS), vX1_setPlace S21 v46_3 a26 S28 ∧ wfC S28 ∧ shy S21 S28 ∧ ((r20.toInt = 2 ∧ (∃ (S37 : MS), vX1_setPlace S28 (v46_3 + (1 : Int32)) (3 : Int32) S37 ∧ wfC S37 ∧ shy S28 S37 ∧ (v_X1_beginBody_J84 uo (v_X1_beginBody_L46 uo n46) S37 v46_1 v46_2 v46_3 v46_4 r20))) ∨ (¬ r20.toInt = 2 ∧ (v_X1_beginBody_J84 uo (v_X1_beginBody_L46 uo n46) S28 v46_1 v46_2 v46_3 v46_4 r20))))))))))
def v_X1_beginBody_L2 (uo : MS) : Nat → MS → Int32 → Prop
  | 0, _, _ => False
  | n2 + 1, U2, v2_1 => (wfC U2 ∧ ((48 ≤ v2_1.toInt ∧ ((qR U2 16 8 = some (qO U2 16 8)) ∧ ((qR U2 16 9 = some (qO U2 16 9)) ∧ (d_X10_takesOfMethod U2 (qO U2 16 8) (qI U2 (qO U2 16 9) 11) ∧ (∃ a9 : Int32, a9 = (fX10_takesOfMethod U2 (qO U2 16 8) (qI U2 (qO U2 16 9) 11)) ∧ (∃ (r11 : Int32) (S12 : MS), vX6_kindCount U2 a9 r11 S12 ∧ wfC S12 ∧ shy U2 S12 ∧ (∃ n, v_X1_beginBody_L46 uo n S12 a9 r11 0 0))))))) ∨ (¬ 48 ≤ v2_1.toInt ∧ (((0 : Int) ≤ v2_1.toInt ∧ v2_1.toInt < 48) ∧ (∃ S40 : MS, S40 = wI U2 24 v2_1.toInt.toNat (vp_nar .byte (0 : Int32)) ∧ qT U2 24 = 103 ∧ wfC S40 ∧ (∃ a41 : Int32, a41 = (v2_1 + Int32.ofInt 1) ∧ ((v_X1_beginBody_L2 uo n2) S40 a41)))))))
def vX1_beginBody (S : MS) (uo : MS) : Prop := (∃ n, v_X1_beginBody_L2 uo n S 0)
set_option maxRecDepth 100000 in
theorem ru_X1_beginBody_J96 {ι : Type} {P Q : MS → Prop} {k46 k46' : MS → Int32 → Int32 → Int32 → Int32 → Prop} {k46v : ι → MS → MS → Int32 → Int32 → Int32 → Int32 → Prop} {U96 : MS} {t96_0 : Int32} {t96_1 : Int32} {v96_1 : Int32} {v96_2 : Int32} {v96_4 : Int32} (i0 : ι) (hk46 : ∀ (u : MS) (z0 : Int32) (z1 : Int32) (z2 : Int32) (z3 : Int32), k46 u z0 z1 z2 z3 → (∀ (i : ι) (uo : MS), k46v i uo u z0 z1 z2 z3 → P uo) → k46' u z0 z1 z2 z3) (K : ∀ (i : ι) (uo : MS), v_X1_beginBody_J96 uo (k46v i uo) U96 t96_0 t96_1 v96_1 v96_2 v96_4 → P uo) (h : w_X1_beginBody_J96 Q k46 U96 t96_0 t96_1 v96_1 v96_2 v96_4) : w_X1_beginBody_J96 (fun u => Q u ∧ P u) k46' U96 t96_0 t96_1 v96_1 v96_2 v96_4 := by
  unfold w_X1_beginBody_J96 at h ⊢
  intro y1_
  replace h := h y1_
  replace K := fun i uo z => K i uo ⟨y1_, z⟩
  intro a31 ea31 
  replace h := h a31 ea31 
  replace K := fun i uo z => K i uo ⟨a31, ea31, z⟩
  intro a32 ea32 
  replace h := h a32 ea32 
  replace K := fun i uo z => K i uo ⟨a32, ea32, z⟩
  exact hk46 _ _ _ _ _ h K
set_option maxRecDepth 100000 in
theorem ru_X1_beginBody_J84 {ι : Type} {P Q : MS → Prop} {k46 k46' : MS → Int32 → Int32 → Int32 → Int32 → Prop} {k46v : ι → MS → MS → Int32 → Int32 → Int32 → Int32 → Prop} {U84 : MS} {v84_1 : Int32} {v84_2 : Int32} {v84_3 : Int32} {v84_4 : Int32} {v84_5 : Int32} (i0 : ι) (hk46 : ∀ (u : MS) (z0 : Int32) (z1 : Int32) (z2 : Int32) (z3 : Int32), k46 u z0 z1 z2 z3 → (∀ (i : ι) (uo : MS), k46v i uo u z0 z1 z2 z3 → P uo) → k46' u z0 z1 z2 z3) (K : ∀ (i : ι) (uo : MS), v_X1_beginBody_J84 uo (k46v i uo) U84 v84_1 v84_2 v84_3 v84_4 v84_5 → P uo) (h : w_X1_beginBody_J84 Q k46 U84 v84_1 v84_2 v84_3 v84_4 v84_5) : w_X1_beginBody_J84 (fun u => Q u ∧ P u) k46' U84 v84_1 v84_2 v84_3 v84_4 v84_5 := by
  unfold w_X1_beginBody_J84 at h ⊢
  intro y2_
  replace h := h y2_
  replace K := fun i uo z => K i uo ⟨y2_, z⟩
  refine ⟨fun c => ?_, fun c => ?_⟩
  · replace h := h.1 c
    replace K := fun i uo z => K i uo (Or.inl ⟨c, z⟩)
    exact ru_X1_beginBody_J96 i0 hk46 K h
  · replace h := h.2 c
    replace K := fun i uo z => K i uo (Or.inr ⟨c, z⟩)
    exact ru_X1_beginBody_J96 i0 hk46 K h
set_option maxRecDepth 100000 in
theorem ru_X1_beginBody_L46 {ι : Type} {P Q : MS → Prop} : ∀ (n : Nat) {U46 : MS} {v46_1 : Int32} {v46_2 : Int32} {v46_3 : Int32} {v46_4 : Int32} (i0 : ι), (∀ (i : ι) (uo : MS), (∃ n8, v_X1_beginBody_L46 uo n8 U46 v46_1 v46_2 v46_3 v46_4) → P uo) → w_X1_beginBody_L46 Q n U46 v46_1 v46_2 v46_3 v46_4 → w_X1_beginBody_L46 (fun u => Q u ∧ P u) n U46 v46_1 v46_2 v46_3 v46_4 := by
  intro n
  induction n with
  | zero => intro U46 v46_1 v46_2 v46_3 v46_4 i0 K h; unfold w_X1_beginBody_L46 at h; exact h.elim
  | succ n ih =>
    intro U46 v46_1 v46_2 v46_3 v46_4 i0 K h
    unfold w_X1_beginBody_L46 at h ⊢
    replace K := fun (i : ι × Nat) uo (z : v_X1_beginBody_L46 uo (i.2 + 1) U46 v46_1 v46_2 v46_3 v46_4) => K i.1 uo ⟨i.2 + 1, z⟩
    have i00 := i0
    replace i0 : ι × Nat := (i0, 0)
    intro y3_
    replace h := h y3_
    replace K := fun i uo z => K i uo ⟨y3_, z⟩
    refine ⟨fun c => ?_, fun c => ?_⟩
    · replace h := h.1 c
      replace K := fun i uo z => K i uo (Or.inl ⟨c, z⟩)
      intro S15 eS15 y4_ y5_
      replace h := h S15 eS15 y4_ y5_
      replace K := fun i uo z => K i uo ⟨S15, eS15, y4_, y5_, z⟩
      obtain ⟨Q9, h0, h⟩ := h
      refine ⟨_, ruX1_comeTo h0, ?_⟩
      intro S17 q6_ y7_ y8_
      replace h := h S17 q6_.1 y7_ y8_
      replace K := fun i uo z => K i uo ⟨S17, q6_.2, y7_, y8_, z⟩
      exact ⟨h, K i0 _ rfl⟩
    · replace h := h.2 c
      replace K := fun i uo z => K i uo (Or.inr ⟨c, z⟩)
      obtain ⟨Q9, h0, h⟩ := h
      refine ⟨_, ruX6_kindAt h0, ?_⟩
      intro r20 S21 q9_ y10_ y11_
      replace h := h r20 S21 q9_.1 y10_ y11_
      replace K := fun i uo z => K i uo ⟨r20, S21, q9_.2, y10_, y11_, z⟩
      obtain ⟨g12_, h⟩ := h
      refine ⟨g12_, ?_⟩
      replace K := fun i uo z => K i uo ⟨g12_, z⟩
      intro a26 ea26 
      replace h := h a26 ea26 
      replace K := fun i uo z => K i uo ⟨a26, ea26, z⟩
      obtain ⟨Q9, h0, h⟩ := h
      refine ⟨_, ruX1_setPlace h0, ?_⟩
      intro S28 q13_ y14_ y15_
      replace h := h S28 q13_.1 y14_ y15_
      replace K := fun i uo z => K i uo ⟨S28, q13_.2, y14_, y15_, z⟩
      refine ⟨fun c => ?_, fun c => ?_⟩
      · replace h := h.1 c
        replace K := fun i uo z => K i uo (Or.inl ⟨c, z⟩)
        obtain ⟨Q9, h0, h⟩ := h
        refine ⟨_, ruX1_setPlace h0, ?_⟩
        intro S37 q16_ y17_ y18_
        replace h := h S37 q16_.1 y17_ y18_
        replace K := fun i uo z => K i uo ⟨S37, q16_.2, y17_, y18_, z⟩
        exact ru_X1_beginBody_J84 i0 (fun _ _ _ _ _ h K => ih i00 (fun i uo ⟨n8, z⟩ => K (i, n8) uo z) h) K h
      · replace h := h.2 c
        replace K := fun i uo z => K i uo (Or.inr ⟨c, z⟩)
        exact ru_X1_beginBody_J84 i0 (fun _ _ _ _ _ h K => ih i00 (fun i uo ⟨n8, z⟩ => K (i, n8) uo z) h) K h
set_option maxRecDepth 100000 in
theorem ru_X1_beginBody_L2 {ι : Type} {P Q : MS → Prop} : ∀ (n : Nat) {U2 : MS} {v2_1 : Int32} (i0 : ι), (∀ (i : ι) (uo : MS), (∃ n8, v_X1_beginBody_L2 uo n8 U2 v2_1) → P uo) → w_X1_beginBody_L2 Q n U2 v2_1 → w_X1_beginBody_L2 (fun u => Q u ∧ P u) n U2 v2_1 := by
  intro n
  induction n with
  | zero => intro U2 v2_1 i0 K h; unfold w_X1_beginBody_L2 at h; exact h.elim
  | succ n ih =>
    intro U2 v2_1 i0 K h
    unfold w_X1_beginBody_L2 at h ⊢
    replace K := fun (i : ι × Nat) uo (z : v_X1_beginBody_L2 uo (i.2 + 1) U2 v2_1) => K i.1 uo ⟨i.2 + 1, z⟩
    have i00 := i0
    replace i0 : ι × Nat := (i0, 0)
    intro y19_
    replace h := h y19_
    replace K := fun i uo z => K i uo ⟨y19_, z⟩
    refine ⟨fun c => ?_, fun c => ?_⟩
    · replace h := h.1 c
      replace K := fun i uo z => K i uo (Or.inl ⟨c, z⟩)
      obtain ⟨g20_, h⟩ := h
      refine ⟨g20_, ?_⟩
      replace K := fun i uo z => K i uo ⟨g20_, z⟩
      obtain ⟨g21_, h⟩ := h
      refine ⟨g21_, ?_⟩
      replace K := fun i uo z => K i uo ⟨g21_, z⟩
      obtain ⟨g22_, h⟩ := h
      refine ⟨g22_, ?_⟩
      replace K := fun i uo z => K i uo ⟨g22_, z⟩
      intro a9 ea9 
      replace h := h a9 ea9 
      replace K := fun i uo z => K i uo ⟨a9, ea9, z⟩
      obtain ⟨Q9, h0, h⟩ := h
      refine ⟨_, ruX6_kindCount h0, ?_⟩
      intro r11 S12 q23_ y24_ y25_
      replace h := h r11 S12 q23_.1 y24_ y25_
      replace K := fun i uo z => K i uo ⟨r11, S12, q23_.2, y24_, y25_, z⟩
      obtain ⟨n9, h⟩ := h
      exact ⟨n9, ru_X1_beginBody_L46 n9 i0 K h⟩
    · replace h := h.2 c
      replace K := fun i uo z => K i uo (Or.inr ⟨c, z⟩)
      obtain ⟨g26_, h⟩ := h
      refine ⟨g26_, ?_⟩
      replace K := fun i uo z => K i uo ⟨g26_, z⟩
      intro S40 eS40 y27_ y28_
      replace h := h S40 eS40 y27_ y28_
      replace K := fun i uo z => K i uo ⟨S40, eS40, y27_, y28_, z⟩
      intro a41 ea41 
      replace h := h a41 ea41 
      replace K := fun i uo z => K i uo ⟨a41, ea41, z⟩
      exact ih i00 (fun i uo ⟨n8, z⟩ => K (i, n8) uo z) h
set_option maxRecDepth 100000 in
theorem ruX1_beginBody {S : MS} {Q : MS → Prop} (h : wX1_beginBody S Q) : wX1_beginBody S (fun u => Q u ∧ vX1_beginBody S u) := by
  have i0 : Unit := ()
  have K : ∀ (i : Unit) (uo : MS), vX1_beginBody S uo → vX1_beginBody S uo := fun _ _ z => z
  unfold wX1_beginBody at h ⊢
  obtain ⟨n9, h⟩ := h
  exact ⟨n9, ru_X1_beginBody_L2 n9 i0 K h⟩
set_option maxRecDepth 100000 in
theorem vw_X1_beginBody_J96 {uo : MS} {k46 k46v : MS → Int32 → Int32 → Int32 → Int32 → Prop} {U96 : MS} {t96_0 : Int32} {t96_1 : Int32} {v96_1 : Int32} {v96_2 : Int32} {v96_4 : Int32} (hk46 : ∀ (u : MS) (z0 : Int32) (z1 : Int32) (z2 : Int32) (z3 : Int32), k46v u z0 z1 z2 z3 → k46 u z0 z1 z2 z3) (h : v_X1_beginBody_J96 uo k46v U96 t96_0 t96_1 v96_1 v96_2 v96_4) : w_X1_beginBody_J96 (fun u => u = uo) k46 U96 t96_0 t96_1 v96_1 v96_2 v96_4 := by
  unfold v_X1_beginBody_J96 at h
  unfold w_X1_beginBody_J96
  intro _
  replace h := h.2
  obtain ⟨v9, e9, h⟩ := h
  intro x9 d9 
  have c9 : v9 = x9 := e9.trans d9.symm
  subst c9
  obtain ⟨v9, e9, h⟩ := h
  intro x9 d9 
  have c9 : v9 = x9 := e9.trans d9.symm
  subst c9
  exact hk46 _ _ _ _ _ h
set_option maxRecDepth 100000 in
theorem vp_X1_beginBody_J96 {uo : MS} {P : MS → Prop} {k46 k46v : MS → Int32 → Int32 → Int32 → Int32 → Prop} {U96 : MS} {t96_0 : Int32} {t96_1 : Int32} {v96_1 : Int32} {v96_2 : Int32} {v96_4 : Int32} (hk46 : ∀ (u : MS) (z0 : Int32) (z1 : Int32) (z2 : Int32) (z3 : Int32), k46v u z0 z1 z2 z3 → k46 u z0 z1 z2 z3 → P uo) (h : v_X1_beginBody_J96 uo k46v U96 t96_0 t96_1 v96_1 v96_2 v96_4) (w : w_X1_beginBody_J96 P k46 U96 t96_0 t96_1 v96_1 v96_2 v96_4) : P uo := by
  unfold v_X1_beginBody_J96 at h
  unfold w_X1_beginBody_J96 at w
  obtain ⟨y1_, h⟩ := h
  replace w := w y1_
  obtain ⟨v9, e9, h⟩ := h
  replace w := w v9 e9 
  obtain ⟨v9, e9, h⟩ := h
  replace w := w v9 e9 
  exact hk46 _ _ _ _ _ h w
set_option maxRecDepth 100000 in
theorem vw_X1_beginBody_J84 {uo : MS} {k46 k46v : MS → Int32 → Int32 → Int32 → Int32 → Prop} {U84 : MS} {v84_1 : Int32} {v84_2 : Int32} {v84_3 : Int32} {v84_4 : Int32} {v84_5 : Int32} (hk46 : ∀ (u : MS) (z0 : Int32) (z1 : Int32) (z2 : Int32) (z3 : Int32), k46v u z0 z1 z2 z3 → k46 u z0 z1 z2 z3) (h : v_X1_beginBody_J84 uo k46v U84 v84_1 v84_2 v84_3 v84_4 v84_5) : w_X1_beginBody_J84 (fun u => u = uo) k46 U84 v84_1 v84_2 v84_3 v84_4 v84_5 := by
  unfold v_X1_beginBody_J84 at h
  unfold w_X1_beginBody_J84
  intro _
  replace h := h.2
  rcases h with ⟨c, h⟩ | ⟨c, h⟩
  · refine ⟨fun _ => ?_, fun c2 => absurd c c2⟩
    exact vw_X1_beginBody_J96 hk46 h
  · refine ⟨fun c2 => absurd c2 c, fun _ => ?_⟩
    exact vw_X1_beginBody_J96 hk46 h
set_option maxRecDepth 100000 in
theorem vp_X1_beginBody_J84 {uo : MS} {P : MS → Prop} {k46 k46v : MS → Int32 → Int32 → Int32 → Int32 → Prop} {U84 : MS} {v84_1 : Int32} {v84_2 : Int32} {v84_3 : Int32} {v84_4 : Int32} {v84_5 : Int32} (hk46 : ∀ (u : MS) (z0 : Int32) (z1 : Int32) (z2 : Int32) (z3 : Int32), k46v u z0 z1 z2 z3 → k46 u z0 z1 z2 z3 → P uo) (h : v_X1_beginBody_J84 uo k46v U84 v84_1 v84_2 v84_3 v84_4 v84_5) (w : w_X1_beginBody_J84 P k46 U84 v84_1 v84_2 v84_3 v84_4 v84_5) : P uo := by
  unfold v_X1_beginBody_J84 at h
  unfold w_X1_beginBody_J84 at w
  obtain ⟨y2_, h⟩ := h
  replace w := w y2_
  rcases h with ⟨c, h⟩ | ⟨c, h⟩
  · replace w := w.1 c
    exact vp_X1_beginBody_J96 hk46 h w
  · replace w := w.2 c
    exact vp_X1_beginBody_J96 hk46 h w
set_option maxRecDepth 100000 in
theorem vw_X1_beginBody_L46 {uo : MS} : ∀ (n : Nat) {U46 : MS} {v46_1 : Int32} {v46_2 : Int32} {v46_3 : Int32} {v46_4 : Int32}, v_X1_beginBody_L46 uo n U46 v46_1 v46_2 v46_3 v46_4 → w_X1_beginBody_L46 (fun u => u = uo) n U46 v46_1 v46_2 v46_3 v46_4 := by
  intro n
  induction n with
  | zero => intro U46 v46_1 v46_2 v46_3 v46_4 h; unfold v_X1_beginBody_L46 at h; exact h.elim
  | succ n ih =>
    intro U46 v46_1 v46_2 v46_3 v46_4 h
    unfold v_X1_beginBody_L46 at h
    unfold w_X1_beginBody_L46
    intro _
    replace h := h.2
    rcases h with ⟨c, h⟩ | ⟨c, h⟩
    · refine ⟨fun _ => ?_, fun c2 => absurd c c2⟩
      obtain ⟨v9, e9, h⟩ := h
      intro x9 d9 _ _
      have c9 : v9 = x9 := e9.trans d9.symm
      subst c9
      replace h := h.2.2
      obtain ⟨q9, z9, h⟩ := h
      refine ⟨_, vwX1_comeTo z9, ?_⟩
      intro q8 d9 _ _
      subst d9
      replace h := h.2.2
      exact h.symm
    · refine ⟨fun c2 => absurd c2 c, fun _ => ?_⟩
      obtain ⟨p9, q9, z9, h⟩ := h
      refine ⟨_, vwX6_kindAt z9, ?_⟩
      rintro p8 q8 ⟨d8, d9⟩ _ _
      subst d8
      subst d9
      replace h := h.2.2
      obtain ⟨g9, h⟩ := h
      refine ⟨g9, ?_⟩
      obtain ⟨v9, e9, h⟩ := h
      intro x9 d9 
      have c9 : v9 = x9 := e9.trans d9.symm
      subst c9
      obtain ⟨q9, z9, h⟩ := h
      refine ⟨_, vwX1_setPlace z9, ?_⟩
      intro q8 d9 _ _
      subst d9
      replace h := h.2.2
      rcases h with ⟨c, h⟩ | ⟨c, h⟩
      · refine ⟨fun _ => ?_, fun c2 => absurd c c2⟩
        obtain ⟨q9, z9, h⟩ := h
        refine ⟨_, vwX1_setPlace z9, ?_⟩
        intro q8 d9 _ _
        subst d9
        replace h := h.2.2
        exact vw_X1_beginBody_J84 (fun _ _ _ _ _ h => ih h) h
      · refine ⟨fun c2 => absurd c2 c, fun _ => ?_⟩
        exact vw_X1_beginBody_J84 (fun _ _ _ _ _ h => ih h) h
set_option maxRecDepth 100000 in
theorem vp_X1_beginBody_L46 {uo : MS} {P : MS → Prop} : ∀ (n m : Nat) {U46 : MS} {v46_1 : Int32} {v46_2 : Int32} {v46_3 : Int32} {v46_4 : Int32}, v_X1_beginBody_L46 uo n U46 v46_1 v46_2 v46_3 v46_4 → w_X1_beginBody_L46 P m U46 v46_1 v46_2 v46_3 v46_4 → P uo := by
  intro n
  induction n with
  | zero => intro m U46 v46_1 v46_2 v46_3 v46_4 h; unfold v_X1_beginBody_L46 at h; exact h.elim
  | succ n ih =>
    intro m U46 v46_1 v46_2 v46_3 v46_4 h w
    cases m with
    | zero => unfold w_X1_beginBody_L46 at w; exact w.elim
    | succ m =>
      unfold v_X1_beginBody_L46 at h
      unfold w_X1_beginBody_L46 at w
      obtain ⟨y3_, h⟩ := h
      replace w := w y3_
      rcases h with ⟨c, h⟩ | ⟨c, h⟩
      · replace w := w.1 c
        obtain ⟨v9, e9, y4_, y5_, h⟩ := h
        replace w := w v9 e9 y4_ y5_
        obtain ⟨q9, z9, y6_, y7_, h⟩ := h
        obtain ⟨Q9, w0, w⟩ := w
        replace w := w q9 (vpX1_comeTo z9 w0) y6_ y7_
        rw [h]
        exact w
      · replace w := w.2 c
        obtain ⟨p9, q9, z9, y8_, y9_, h⟩ := h
        obtain ⟨Q9, w0, w⟩ := w
        replace w := w p9 q9 (vpX6_kindAt z9 w0) y8_ y9_
        replace h := h.2
        replace w := w.2
        obtain ⟨v9, e9, h⟩ := h
        replace w := w v9 e9 
        obtain ⟨q9, z9, y10_, y11_, h⟩ := h
        obtain ⟨Q9, w0, w⟩ := w
        replace w := w q9 (vpX1_setPlace z9 w0) y10_ y11_
        rcases h with ⟨c, h⟩ | ⟨c, h⟩
        · replace w := w.1 c
          obtain ⟨q9, z9, y12_, y13_, h⟩ := h
          obtain ⟨Q9, w0, w⟩ := w
          replace w := w q9 (vpX1_setPlace z9 w0) y12_ y13_
          exact vp_X1_beginBody_J84 (fun _ _ _ _ _ h w => ih m h w) h w
        · replace w := w.2 c
          exact vp_X1_beginBody_J84 (fun _ _ _ _ _ h w => ih m h w) h w
set_option maxRecDepth 100000 in
theorem vw_X1_beginBody_L2 {uo : MS} : ∀ (n : Nat) {U2 : MS} {v2_1 : Int32}, v_X1_beginBody_L2 uo n U2 v2_1 → w_X1_beginBody_L2 (fun u => u = uo) n U2 v2_1 := by
  intro n
  induction n with
  | zero => intro U2 v2_1 h; unfold v_X1_beginBody_L2 at h; exact h.elim
  | succ n ih =>
    intro U2 v2_1 h
    unfold v_X1_beginBody_L2 at h
    unfold w_X1_beginBody_L2
    intro _
    replace h := h.2
    rcases h with ⟨c, h⟩ | ⟨c, h⟩
    · refine ⟨fun _ => ?_, fun c2 => absurd c c2⟩
      obtain ⟨g9, h⟩ := h
      refine ⟨g9, ?_⟩
      obtain ⟨g9, h⟩ := h
      refine ⟨g9, ?_⟩
      obtain ⟨g9, h⟩ := h
      refine ⟨g9, ?_⟩
      obtain ⟨v9, e9, h⟩ := h
      intro x9 d9 
      have c9 : v9 = x9 := e9.trans d9.symm
      subst c9
      obtain ⟨p9, q9, z9, h⟩ := h
      refine ⟨_, vwX6_kindCount z9, ?_⟩
      rintro p8 q8 ⟨d8, d9⟩ _ _
      subst d8
      subst d9
      replace h := h.2.2
      obtain ⟨n9, h⟩ := h
      exact ⟨n9, vw_X1_beginBody_L46 n9 h⟩
    · refine ⟨fun c2 => absurd c2 c, fun _ => ?_⟩
      obtain ⟨g9, h⟩ := h
      refine ⟨g9, ?_⟩
      obtain ⟨v9, e9, h⟩ := h
      intro x9 d9 _ _
      have c9 : v9 = x9 := e9.trans d9.symm
      subst c9
      replace h := h.2.2
      obtain ⟨v9, e9, h⟩ := h
      intro x9 d9 
      have c9 : v9 = x9 := e9.trans d9.symm
      subst c9
      exact ih h
set_option maxRecDepth 100000 in
theorem vp_X1_beginBody_L2 {uo : MS} {P : MS → Prop} : ∀ (n m : Nat) {U2 : MS} {v2_1 : Int32}, v_X1_beginBody_L2 uo n U2 v2_1 → w_X1_beginBody_L2 P m U2 v2_1 → P uo := by
  intro n
  induction n with
  | zero => intro m U2 v2_1 h; unfold v_X1_beginBody_L2 at h; exact h.elim
  | succ n ih =>
    intro m U2 v2_1 h w
    cases m with
    | zero => unfold w_X1_beginBody_L2 at w; exact w.elim
    | succ m =>
      unfold v_X1_beginBody_L2 at h
      unfold w_X1_beginBody_L2 at w
      obtain ⟨y14_, h⟩ := h
      replace w := w y14_
      rcases h with ⟨c, h⟩ | ⟨c, h⟩
      · replace w := w.1 c
        replace h := h.2
        replace w := w.2
        replace h := h.2
        replace w := w.2
        replace h := h.2
        replace w := w.2
        obtain ⟨v9, e9, h⟩ := h
        replace w := w v9 e9 
        obtain ⟨p9, q9, z9, y15_, y16_, h⟩ := h
        obtain ⟨Q9, w0, w⟩ := w
        replace w := w p9 q9 (vpX6_kindCount z9 w0) y15_ y16_
        obtain ⟨n9, h⟩ := h
        obtain ⟨n8, w⟩ := w
        exact vp_X1_beginBody_L46 n9 n8 h w
      · replace w := w.2 c
        replace h := h.2
        replace w := w.2
        obtain ⟨v9, e9, y17_, y18_, h⟩ := h
        replace w := w v9 e9 y17_ y18_
        obtain ⟨v9, e9, h⟩ := h
        replace w := w v9 e9 
        exact ih m h w
set_option maxRecDepth 100000 in
theorem vwX1_beginBody {S : MS} {uo : MS} (h : vX1_beginBody S uo) : wX1_beginBody S (fun u => u = uo) := by
  unfold vX1_beginBody at h
  unfold wX1_beginBody
  obtain ⟨n9, h⟩ := h
  exact ⟨n9, vw_X1_beginBody_L2 n9 h⟩
set_option maxRecDepth 100000 in
theorem vpX1_beginBody {S : MS} {uo : MS} {P : MS → Prop} (h : vX1_beginBody S uo) (w : wX1_beginBody S P) : P uo := by
  unfold vX1_beginBody at h
  unfold wX1_beginBody at w
  obtain ⟨n9, h⟩ := h
  obtain ⟨n8, w⟩ := w
  exact vp_X1_beginBody_L2 n9 n8 h w
def v_X1_goThrough_J213 (uo : MS) (U213 : MS) (t213_0 : Int32) (t213_1 : Int32) : Prop := (wfC U213 ∧ (t213_0 = 0 ∨ t213_0 = 1) ∧ (((t213_1 ||| t213_0) = 0 ∨ (t213_1 ||| t213_0) = 1) ∧ (∃ S41 : MS, S41 = wI U213 16 6 (t213_1 ||| t213_0) ∧ qT U213 16 = 41 ∧ wfC S41 ∧ (uo = S41))))
def v_X1_goThrough_J212 (uo : MS) (U212 : MS) (t212_0 : Int32) : Prop := (wfC U212 ∧ (v_X1_goThrough_J213 uo U212 0 t212_0))
def v_X1_goThrough_J108 (uo : MS) (U108 : MS) (t108_0 : Int32) (t108_1 : Int32) : Prop := (wfC U108 ∧ (t108_0 = 0 ∨ t108_0 = 1) ∧ (((t108_1 ||| t108_0) = 0 ∨ (t108_1 ||| t108_0) = 1) ∧ (∃ S73 : MS, S73 = wI U108 16 6 (t108_1 ||| t108_0) ∧ qT U108 16 = 41 ∧ wfC S73 ∧ (uo = S73))))
def v_X1_goThrough_L131 (uo : MS) : Nat → MS → Int32 → Int32 → Int32 → Int32 → Prop
  | 0, _, _, _, _, _ => False
  | n131 + 1, U131, v131_1, v131_2, v131_3, v131_4 => (wfC U131 ∧ ((v131_4.toInt ≤ 0 ∧ ((qR U131 16 8 = some (qO U131 16 8)) ∧ ((qR U131 16 9 = some (qO U131 16 9)) ∧ (d_X10_gives U131 (qO U131 16 8) (qO U131 16 9) v131_1 ∧ (∃ a34 : Int32, a34 = (fX10_gives U131 (qO U131 16 8) (qO U131 16 9) v131_1) ∧ (∃ (S36 : MS), vX1_give U131 a34 S36 ∧ wfC S36 ∧ shy U131 S36 ∧ ((v131_2.toInt < 172 ∧ (v_X1_goThrough_J212 uo S36 (qI S36 16 6))) ∨ (¬ v131_2.toInt < 172 ∧ ((177 < v131_2.toInt ∧ (v_X1_goThrough_J212 uo S36 (qI S36 16 6))) ∨ (¬ 177 < v131_2.toInt ∧ ((qR S36 16 8 = some (qO S36 16 8)) ∧ ((qR S36 16 9 = some (qO S36 16 9)) ∧ (d_X10_givesOfMethod S36 (qO S36 16 8) (qI S36 (qO S36 16 9) 11) ∧ (∃ a51 : Int32, a51 = (fX10_givesOfMethod S36 (qO S36 16 8) (qI S36 (qO S36 16 9) 11)) ∧ ((v131_3.toInt = a51.toInt ∧ (v_X1_goThrough_J212 uo S36 (qI S36 16 6))) ∨ (¬ v131_3.toInt = a51.toInt ∧ (v_X1_goThrough_J213 uo S36 1 (qI S36 16 6)))))))))))))))))) ∨ (¬ v131_4.toInt ≤ 0 ∧ (∃ (r55 : Int32) (S56 : MS), vX1_take U131 (v131_4 &&& (15 : Int32)) r55 S56 ∧ wfC S56 ∧ shy U131 S56 ∧ (∃ a59 : Int32, a59 = (v131_4 >>> ((4 : Int32) &&& 31)) ∧ ((v_X1_goThrough_L131 uo n131) S56 v131_1 v131_2 v131_3 a59))))))
def v_X1_goThrough_J29 (uo : MS) (U29 : MS) (v29_1 : Int32) (v29_2 : Int32) : Prop := (wfC U29 ∧ (d_X6_isLoad U29 v29_2 ∧ (∃ a10 : Int32, a10 = (fX6_isLoad U29 v29_2) ∧ ((a10.toInt = 0 ∧ (d_X6_isStore U29 v29_2 ∧ (∃ a15 : Int32, a15 = (fX6_isStore U29 v29_2) ∧ ((a15.toInt = 0 ∧ ((v29_2.toInt = 132 ∧ ((qR U29 16 9 = some (qO U29 16 9)) ∧ (d_X8_localOf U29 (qO U29 16 9) v29_1 ∧ (∃ a66 : Int32, a66 = (fX8_localOf U29 (qO U29 16 9) v29_1) ∧ (d_X1_placeAt U29 a66 ∧ (∃ a70 : Int32, a70 = (fX1_placeAt U29 a66) ∧ ((a70.toInt = 1 ∧ (v_X1_goThrough_J108 uo U29 0 (qI U29 16 6))) ∨ (¬ a70.toInt = 1 ∧ (v_X1_goThrough_J108 uo U29 1 (qI U29 16 6)))))))))) ∨ (¬ v29_2.toInt = 132 ∧ ((qR U29 16 8 = some (qO U29 16 8)) ∧ ((qR U29 16 9 = some (qO U29 16 9)) ∧ (d_X10_takes U29 (qO U29 16 8) (qO U29 16 9) v29_1 ∧ (∃ a25 : Int32, a25 = (fX10_takes U29 (qO U29 16 8) (qO U29 16 9) v29_1) ∧ (∃ n, v_X1_goThrough_L131 uo n U29 v29_1 v29_2 a25 a25)))))))) ∨ (¬ a15.toInt = 0 ∧ ((qR U29 16 9 = some (qO U29 16 9)) ∧ (d_X8_localOf U29 (qO U29 16 9) v29_1 ∧ (∃ a80 : Int32, a80 = (fX8_localOf U29 (qO U29 16 9) v29_1) ∧ (∃ (S82 : MS), vX1_store U29 v29_2 a80 S82 ∧ wfC S82 ∧ shy U29 S82 ∧ (uo = S82)))))))))) ∨ (¬ a10.toInt = 0 ∧ ((qR U29 16 9 = some (qO U29 16 9)) ∧ (d_X8_localOf U29 (qO U29 16 9) v29_1 ∧ (∃ a89 : Int32, a89 = (fX8_localOf U29 (qO U29 16 9) v29_1) ∧ (∃ (S91 : MS), vX1_load U29 v29_2 a89 S91 ∧ wfC S91 ∧ shy U29 S91 ∧ (uo = S91))))))))))
def vX1_goThrough (S : MS) (x1 : Int32) (uo : MS) : Prop := ((qR S 16 9 = some (qO S 16 9)) ∧ (d_X8_opAt S (qO S 16 9) x1 ∧ (∃ a6 : Int32, a6 = (fX8_opAt S (qO S 16 9) x1) ∧ ((a6.toInt < 87 ∧ (v_X1_goThrough_J29 uo S x1 a6)) ∨ (¬ a6.toInt < 87 ∧ ((95 < a6.toInt ∧ (v_X1_goThrough_J29 uo S x1 a6)) ∨ (¬ 95 < a6.toInt ∧ (∃ (S96 : MS), vX1_shuffle S a6 S96 ∧ wfC S96 ∧ shy S S96 ∧ (uo = S96)))))))))
set_option maxRecDepth 100000 in
theorem ru_X1_goThrough_J213 {ι : Type} {P Q : MS → Prop} {U213 : MS} {t213_0 : Int32} {t213_1 : Int32} (i0 : ι) (K : ∀ (i : ι) (uo : MS), v_X1_goThrough_J213 uo U213 t213_0 t213_1 → P uo) (h : w_X1_goThrough_J213 Q U213 t213_0 t213_1) : w_X1_goThrough_J213 (fun u => Q u ∧ P u) U213 t213_0 t213_1 := by
  unfold w_X1_goThrough_J213 at h ⊢
  intro y1_ y2_
  replace h := h y1_ y2_
  replace K := fun i uo z => K i uo ⟨y1_, y2_, z⟩
  obtain ⟨g3_, h⟩ := h
  refine ⟨g3_, ?_⟩
  replace K := fun i uo z => K i uo ⟨g3_, z⟩
  intro S41 eS41 y4_ y5_
  replace h := h S41 eS41 y4_ y5_
  replace K := fun i uo z => K i uo ⟨S41, eS41, y4_, y5_, z⟩
  exact ⟨h, K i0 _ rfl⟩
set_option maxRecDepth 100000 in
theorem ru_X1_goThrough_J212 {ι : Type} {P Q : MS → Prop} {U212 : MS} {t212_0 : Int32} (i0 : ι) (K : ∀ (i : ι) (uo : MS), v_X1_goThrough_J212 uo U212 t212_0 → P uo) (h : w_X1_goThrough_J212 Q U212 t212_0) : w_X1_goThrough_J212 (fun u => Q u ∧ P u) U212 t212_0 := by
  unfold w_X1_goThrough_J212 at h ⊢
  intro y6_
  replace h := h y6_
  replace K := fun i uo z => K i uo ⟨y6_, z⟩
  exact ru_X1_goThrough_J213 i0 K h
set_option maxRecDepth 100000 in
theorem ru_X1_goThrough_J108 {ι : Type} {P Q : MS → Prop} {U108 : MS} {t108_0 : Int32} {t108_1 : Int32} (i0 : ι) (K : ∀ (i : ι) (uo : MS), v_X1_goThrough_J108 uo U108 t108_0 t108_1 → P uo) (h : w_X1_goThrough_J108 Q U108 t108_0 t108_1) : w_X1_goThrough_J108 (fun u => Q u ∧ P u) U108 t108_0 t108_1 := by
  unfold w_X1_goThrough_J108 at h ⊢
  intro y7_ y8_
  replace h := h y7_ y8_
  replace K := fun i uo z => K i uo ⟨y7_, y8_, z⟩
  obtain ⟨g9_, h⟩ := h
  refine ⟨g9_, ?_⟩
  replace K := fun i uo z => K i uo ⟨g9_, z⟩
  intro S73 eS73 y10_ y11_
  replace h := h S73 eS73 y10_ y11_
  replace K := fun i uo z => K i uo ⟨S73, eS73, y10_, y11_, z⟩
  exact ⟨h, K i0 _ rfl⟩
set_option maxRecDepth 100000 in
theorem ru_X1_goThrough_L131 {ι : Type} {P Q : MS → Prop} : ∀ (n : Nat) {U131 : MS} {v131_1 : Int32} {v131_2 : Int32} {v131_3 : Int32} {v131_4 : Int32} (i0 : ι), (∀ (i : ι) (uo : MS), (∃ n8, v_X1_goThrough_L131 uo n8 U131 v131_1 v131_2 v131_3 v131_4) → P uo) → w_X1_goThrough_L131 Q n U131 v131_1 v131_2 v131_3 v131_4 → w_X1_goThrough_L131 (fun u => Q u ∧ P u) n U131 v131_1 v131_2 v131_3 v131_4 := by
  intro n
  induction n with
  | zero => intro U131 v131_1 v131_2 v131_3 v131_4 i0 K h; unfold w_X1_goThrough_L131 at h; exact h.elim
  | succ n ih =>
    intro U131 v131_1 v131_2 v131_3 v131_4 i0 K h
    unfold w_X1_goThrough_L131 at h ⊢
    replace K := fun (i : ι × Nat) uo (z : v_X1_goThrough_L131 uo (i.2 + 1) U131 v131_1 v131_2 v131_3 v131_4) => K i.1 uo ⟨i.2 + 1, z⟩
    have i00 := i0
    replace i0 : ι × Nat := (i0, 0)
    intro y12_
    replace h := h y12_
    replace K := fun i uo z => K i uo ⟨y12_, z⟩
    refine ⟨fun c => ?_, fun c => ?_⟩
    · replace h := h.1 c
      replace K := fun i uo z => K i uo (Or.inl ⟨c, z⟩)
      obtain ⟨g13_, h⟩ := h
      refine ⟨g13_, ?_⟩
      replace K := fun i uo z => K i uo ⟨g13_, z⟩
      obtain ⟨g14_, h⟩ := h
      refine ⟨g14_, ?_⟩
      replace K := fun i uo z => K i uo ⟨g14_, z⟩
      obtain ⟨g15_, h⟩ := h
      refine ⟨g15_, ?_⟩
      replace K := fun i uo z => K i uo ⟨g15_, z⟩
      intro a34 ea34 
      replace h := h a34 ea34 
      replace K := fun i uo z => K i uo ⟨a34, ea34, z⟩
      obtain ⟨Q9, h0, h⟩ := h
      refine ⟨_, ruX1_give h0, ?_⟩
      intro S36 q16_ y17_ y18_
      replace h := h S36 q16_.1 y17_ y18_
      replace K := fun i uo z => K i uo ⟨S36, q16_.2, y17_, y18_, z⟩
      refine ⟨fun c => ?_, fun c => ?_⟩
      · replace h := h.1 c
        replace K := fun i uo z => K i uo (Or.inl ⟨c, z⟩)
        exact ru_X1_goThrough_J212 i0 K h
      · replace h := h.2 c
        replace K := fun i uo z => K i uo (Or.inr ⟨c, z⟩)
        refine ⟨fun c => ?_, fun c => ?_⟩
        · replace h := h.1 c
          replace K := fun i uo z => K i uo (Or.inl ⟨c, z⟩)
          exact ru_X1_goThrough_J212 i0 K h
        · replace h := h.2 c
          replace K := fun i uo z => K i uo (Or.inr ⟨c, z⟩)
          obtain ⟨g19_, h⟩ := h
          refine ⟨g19_, ?_⟩
          replace K := fun i uo z => K i uo ⟨g19_, z⟩
          obtain ⟨g20_, h⟩ := h
          refine ⟨g20_, ?_⟩
          replace K := fun i uo z => K i uo ⟨g20_, z⟩
          obtain ⟨g21_, h⟩ := h
          refine ⟨g21_, ?_⟩
          replace K := fun i uo z => K i uo ⟨g21_, z⟩
          intro a51 ea51 
          replace h := h a51 ea51 
          replace K := fun i uo z => K i uo ⟨a51, ea51, z⟩
          refine ⟨fun c => ?_, fun c => ?_⟩
          · replace h := h.1 c
            replace K := fun i uo z => K i uo (Or.inl ⟨c, z⟩)
            exact ru_X1_goThrough_J212 i0 K h
          · replace h := h.2 c
            replace K := fun i uo z => K i uo (Or.inr ⟨c, z⟩)
            exact ru_X1_goThrough_J213 i0 K h
    · replace h := h.2 c
      replace K := fun i uo z => K i uo (Or.inr ⟨c, z⟩)
      obtain ⟨Q9, h0, h⟩ := h
      refine ⟨_, ruX1_take h0, ?_⟩
      intro r55 S56 q22_ y23_ y24_
      replace h := h r55 S56 q22_.1 y23_ y24_
      replace K := fun i uo z => K i uo ⟨r55, S56, q22_.2, y23_, y24_, z⟩
      intro a59 ea59 
      replace h := h a59 ea59 
      replace K := fun i uo z => K i uo ⟨a59, ea59, z⟩
      exact ih i00 (fun i uo ⟨n8, z⟩ => K (i, n8) uo z) h
set_option maxRecDepth 100000 in
theorem ru_X1_goThrough_J29 {ι : Type} {P Q : MS → Prop} {U29 : MS} {v29_1 : Int32} {v29_2 : Int32} (i0 : ι) (K : ∀ (i : ι) (uo : MS), v_X1_goThrough_J29 uo U29 v29_1 v29_2 → P uo) (h : w_X1_goThrough_J29 Q U29 v29_1 v29_2) : w_X1_goThrough_J29 (fun u => Q u ∧ P u) U29 v29_1 v29_2 := by
  unfold w_X1_goThrough_J29 at h ⊢
  intro y25_
  replace h := h y25_
  replace K := fun i uo z => K i uo ⟨y25_, z⟩
  obtain ⟨g26_, h⟩ := h
  refine ⟨g26_, ?_⟩
  replace K := fun i uo z => K i uo ⟨g26_, z⟩
  intro a10 ea10 
  replace h := h a10 ea10 
  replace K := fun i uo z => K i uo ⟨a10, ea10, z⟩
  refine ⟨fun c => ?_, fun c => ?_⟩
  · replace h := h.1 c
    replace K := fun i uo z => K i uo (Or.inl ⟨c, z⟩)
    obtain ⟨g27_, h⟩ := h
    refine ⟨g27_, ?_⟩
    replace K := fun i uo z => K i uo ⟨g27_, z⟩
    intro a15 ea15 
    replace h := h a15 ea15 
    replace K := fun i uo z => K i uo ⟨a15, ea15, z⟩
    refine ⟨fun c => ?_, fun c => ?_⟩
    · replace h := h.1 c
      replace K := fun i uo z => K i uo (Or.inl ⟨c, z⟩)
      refine ⟨fun c => ?_, fun c => ?_⟩
      · replace h := h.1 c
        replace K := fun i uo z => K i uo (Or.inl ⟨c, z⟩)
        obtain ⟨g28_, h⟩ := h
        refine ⟨g28_, ?_⟩
        replace K := fun i uo z => K i uo ⟨g28_, z⟩
        obtain ⟨g29_, h⟩ := h
        refine ⟨g29_, ?_⟩
        replace K := fun i uo z => K i uo ⟨g29_, z⟩
        intro a66 ea66 
        replace h := h a66 ea66 
        replace K := fun i uo z => K i uo ⟨a66, ea66, z⟩
        obtain ⟨g30_, h⟩ := h
        refine ⟨g30_, ?_⟩
        replace K := fun i uo z => K i uo ⟨g30_, z⟩
        intro a70 ea70 
        replace h := h a70 ea70 
        replace K := fun i uo z => K i uo ⟨a70, ea70, z⟩
        refine ⟨fun c => ?_, fun c => ?_⟩
        · replace h := h.1 c
          replace K := fun i uo z => K i uo (Or.inl ⟨c, z⟩)
          exact ru_X1_goThrough_J108 i0 K h
        · replace h := h.2 c
          replace K := fun i uo z => K i uo (Or.inr ⟨c, z⟩)
          exact ru_X1_goThrough_J108 i0 K h
      · replace h := h.2 c
        replace K := fun i uo z => K i uo (Or.inr ⟨c, z⟩)
        obtain ⟨g31_, h⟩ := h
        refine ⟨g31_, ?_⟩
        replace K := fun i uo z => K i uo ⟨g31_, z⟩
        obtain ⟨g32_, h⟩ := h
        refine ⟨g32_, ?_⟩
        replace K := fun i uo z => K i uo ⟨g32_, z⟩
        obtain ⟨g33_, h⟩ := h
        refine ⟨g33_, ?_⟩
        replace K := fun i uo z => K i uo ⟨g33_, z⟩
        intro a25 ea25 
        replace h := h a25 ea25 
        replace K := fun i uo z => K i uo ⟨a25, ea25, z⟩
        obtain ⟨n9, h⟩ := h
        exact ⟨n9, ru_X1_goThrough_L131 n9 i0 K h⟩
    · replace h := h.2 c
      replace K := fun i uo z => K i uo (Or.inr ⟨c, z⟩)
      obtain ⟨g34_, h⟩ := h
      refine ⟨g34_, ?_⟩
      replace K := fun i uo z => K i uo ⟨g34_, z⟩
      obtain ⟨g35_, h⟩ := h
      refine ⟨g35_, ?_⟩
      replace K := fun i uo z => K i uo ⟨g35_, z⟩
      intro a80 ea80 
      replace h := h a80 ea80 
      replace K := fun i uo z => K i uo ⟨a80, ea80, z⟩
      obtain ⟨Q9, h0, h⟩ := h
      refine ⟨_, ruX1_store h0, ?_⟩
      intro S82 q36_ y37_ y38_
      replace h := h S82 q36_.1 y37_ y38_
      replace K := fun i uo z => K i uo ⟨S82, q36_.2, y37_, y38_, z⟩
      exact ⟨h, K i0 _ rfl⟩
  · replace h := h.2 c
    replace K := fun i uo z => K i uo (Or.inr ⟨c, z⟩)
    obtain ⟨g39_, h⟩ := h
    refine ⟨g39_, ?_⟩
    replace K := fun i uo z => K i uo ⟨g39_, z⟩
    obtain ⟨g40_, h⟩ := h
    refine ⟨g40_, ?_⟩
    replace K := fun i uo z => K i uo ⟨g40_, z⟩
    intro a89 ea89 
    replace h := h a89 ea89 
    replace K := fun i uo z => K i uo ⟨a89, ea89, z⟩
    obtain ⟨Q9, h0, h⟩ := h
    refine ⟨_, ruX1_load h0, ?_⟩
    intro S91 q41_ y42_ y43_
    replace h := h S91 q41_.1 y42_ y43_
    replace K := fun i uo z => K i uo ⟨S91, q41_.2, y42_, y43_, z⟩
    exact ⟨h, K i0 _ rfl⟩
set_option maxRecDepth 100000 in
theorem ruX1_goThrough {S : MS} {x1 : Int32} {Q : MS → Prop} (h : wX1_goThrough S x1 Q) : wX1_goThrough S x1 (fun u => Q u ∧ vX1_goThrough S x1 u) := by
  have i0 : Unit := ()
  have K : ∀ (i : Unit) (uo : MS), vX1_goThrough S x1 uo → vX1_goThrough S x1 uo := fun _ _ z => z
  unfold wX1_goThrough at h ⊢
  obtain ⟨g44_, h⟩ := h
  refine ⟨g44_, ?_⟩
  replace K := fun i uo z => K i uo ⟨g44_, z⟩
  obtain ⟨g45_, h⟩ := h
  refine ⟨g45_, ?_⟩
  replace K := fun i uo z => K i uo ⟨g45_, z⟩
  intro a6 ea6 
  replace h := h a6 ea6 
  replace K := fun i uo z => K i uo ⟨a6, ea6, z⟩
  refine ⟨fun c => ?_, fun c => ?_⟩
  · replace h := h.1 c
    replace K := fun i uo z => K i uo (Or.inl ⟨c, z⟩)
    exact ru_X1_goThrough_J29 i0 K h
  · replace h := h.2 c
    replace K := fun i uo z => K i uo (Or.inr ⟨c, z⟩)
    refine ⟨fun c => ?_, fun c => ?_⟩
    · replace h := h.1 c
      replace K := fun i uo z => K i uo (Or.inl ⟨c, z⟩)
      exact ru_X1_goThrough_J29 i0 K h
    · replace h := h.2 c
      replace K := fun i uo z => K i uo (Or.inr ⟨c, z⟩)
      obtain ⟨Q9, h0, h⟩ := h
      refine ⟨_, ruX1_shuffle h0, ?_⟩
      intro S96 q46_ y47_ y48_
      replace h := h S96 q46_.1 y47_ y48_
      replace K := fun i uo z => K i uo ⟨S96, q46_.2, y47_, y48_, z⟩
      exact ⟨h, K i0 _ rfl⟩
set_option maxRecDepth 100000 in
theorem vw_X1_goThrough_J213 {uo : MS} {U213 : MS} {t213_0 : Int32} {t213_1 : Int32} (h : v_X1_goThrough_J213 uo U213 t213_0 t213_1) : w_X1_goThrough_J213 (fun u => u = uo) U213 t213_0 t213_1 := by
  unfold v_X1_goThrough_J213 at h
  unfold w_X1_goThrough_J213
  intro _ _
  replace h := h.2.2
  obtain ⟨g9, h⟩ := h
  refine ⟨g9, ?_⟩
  obtain ⟨v9, e9, h⟩ := h
  intro x9 d9 _ _
  have c9 : v9 = x9 := e9.trans d9.symm
  subst c9
  replace h := h.2.2
  exact h.symm
set_option maxRecDepth 100000 in
theorem vp_X1_goThrough_J213 {uo : MS} {P : MS → Prop} {U213 : MS} {t213_0 : Int32} {t213_1 : Int32} (h : v_X1_goThrough_J213 uo U213 t213_0 t213_1) (w : w_X1_goThrough_J213 P U213 t213_0 t213_1) : P uo := by
  unfold v_X1_goThrough_J213 at h
  unfold w_X1_goThrough_J213 at w
  obtain ⟨y1_, y2_, h⟩ := h
  replace w := w y1_ y2_
  replace h := h.2
  replace w := w.2
  obtain ⟨v9, e9, y3_, y4_, h⟩ := h
  replace w := w v9 e9 y3_ y4_
  rw [h]
  exact w
set_option maxRecDepth 100000 in
theorem vw_X1_goThrough_J212 {uo : MS} {U212 : MS} {t212_0 : Int32} (h : v_X1_goThrough_J212 uo U212 t212_0) : w_X1_goThrough_J212 (fun u => u = uo) U212 t212_0 := by
  unfold v_X1_goThrough_J212 at h
  unfold w_X1_goThrough_J212
  intro _
  replace h := h.2
  exact vw_X1_goThrough_J213 h
set_option maxRecDepth 100000 in
theorem vp_X1_goThrough_J212 {uo : MS} {P : MS → Prop} {U212 : MS} {t212_0 : Int32} (h : v_X1_goThrough_J212 uo U212 t212_0) (w : w_X1_goThrough_J212 P U212 t212_0) : P uo := by
  unfold v_X1_goThrough_J212 at h
  unfold w_X1_goThrough_J212 at w
  obtain ⟨y5_, h⟩ := h
  replace w := w y5_
  exact vp_X1_goThrough_J213 h w
set_option maxRecDepth 100000 in
theorem vw_X1_goThrough_J108 {uo : MS} {U108 : MS} {t108_0 : Int32} {t108_1 : Int32} (h : v_X1_goThrough_J108 uo U108 t108_0 t108_1) : w_X1_goThrough_J108 (fun u => u = uo) U108 t108_0 t108_1 := by
  unfold v_X1_goThrough_J108 at h
  unfold w_X1_goThrough_J108
  intro _ _
  replace h := h.2.2
  obtain ⟨g9, h⟩ := h
  refine ⟨g9, ?_⟩
  obtain ⟨v9, e9, h⟩ := h
  intro x9 d9 _ _
  have c9 : v9 = x9 := e9.trans d9.symm
  subst c9
  replace h := h.2.2
  exact h.symm
set_option maxRecDepth 100000 in
theorem vp_X1_goThrough_J108 {uo : MS} {P : MS → Prop} {U108 : MS} {t108_0 : Int32} {t108_1 : Int32} (h : v_X1_goThrough_J108 uo U108 t108_0 t108_1) (w : w_X1_goThrough_J108 P U108 t108_0 t108_1) : P uo := by
  unfold v_X1_goThrough_J108 at h
  unfold w_X1_goThrough_J108 at w
  obtain ⟨y6_, y7_, h⟩ := h
  replace w := w y6_ y7_
  replace h := h.2
  replace w := w.2
  obtain ⟨v9, e9, y8_, y9_, h⟩ := h
  replace w := w v9 e9 y8_ y9_
  rw [h]
  exact w
set_option maxRecDepth 100000 in
theorem vw_X1_goThrough_L131 {uo : MS} : ∀ (n : Nat) {U131 : MS} {v131_1 : Int32} {v131_2 : Int32} {v131_3 : Int32} {v131_4 : Int32}, v_X1_goThrough_L131 uo n U131 v131_1 v131_2 v131_3 v131_4 → w_X1_goThrough_L131 (fun u => u = uo) n U131 v131_1 v131_2 v131_3 v131_4 := by
  intro n
  induction n with
  | zero => intro U131 v131_1 v131_2 v131_3 v131_4 h; unfold v_X1_goThrough_L131 at h; exact h.elim
  | succ n ih =>
    intro U131 v131_1 v131_2 v131_3 v131_4 h
    unfold v_X1_goThrough_L131 at h
    unfold w_X1_goThrough_L131
    intro _
    replace h := h.2
    rcases h with ⟨c, h⟩ | ⟨c, h⟩
    · refine ⟨fun _ => ?_, fun c2 => absurd c c2⟩
      obtain ⟨g9, h⟩ := h
      refine ⟨g9, ?_⟩
      obtain ⟨g9, h⟩ := h
      refine ⟨g9, ?_⟩
      obtain ⟨g9, h⟩ := h
      refine ⟨g9, ?_⟩
      obtain ⟨v9, e9, h⟩ := h
      intro x9 d9 
      have c9 : v9 = x9 := e9.trans d9.symm
      subst c9
      obtain ⟨q9, z9, h⟩ := h
      refine ⟨_, vwX1_give z9, ?_⟩
      intro q8 d9 _ _
      subst d9
      replace h := h.2.2
      rcases h with ⟨c, h⟩ | ⟨c, h⟩
      · refine ⟨fun _ => ?_, fun c2 => absurd c c2⟩
        exact vw_X1_goThrough_J212 h
      · refine ⟨fun c2 => absurd c2 c, fun _ => ?_⟩
        rcases h with ⟨c, h⟩ | ⟨c, h⟩
        · refine ⟨fun _ => ?_, fun c2 => absurd c c2⟩
          exact vw_X1_goThrough_J212 h
        · refine ⟨fun c2 => absurd c2 c, fun _ => ?_⟩
          obtain ⟨g9, h⟩ := h
          refine ⟨g9, ?_⟩
          obtain ⟨g9, h⟩ := h
          refine ⟨g9, ?_⟩
          obtain ⟨g9, h⟩ := h
          refine ⟨g9, ?_⟩
          obtain ⟨v9, e9, h⟩ := h
          intro x9 d9 
          have c9 : v9 = x9 := e9.trans d9.symm
          subst c9
          rcases h with ⟨c, h⟩ | ⟨c, h⟩
          · refine ⟨fun _ => ?_, fun c2 => absurd c c2⟩
            exact vw_X1_goThrough_J212 h
          · refine ⟨fun c2 => absurd c2 c, fun _ => ?_⟩
            exact vw_X1_goThrough_J213 h
    · refine ⟨fun c2 => absurd c2 c, fun _ => ?_⟩
      obtain ⟨p9, q9, z9, h⟩ := h
      refine ⟨_, vwX1_take z9, ?_⟩
      rintro p8 q8 ⟨d8, d9⟩ _ _
      subst d8
      subst d9
      replace h := h.2.2
      obtain ⟨v9, e9, h⟩ := h
      intro x9 d9 
      have c9 : v9 = x9 := e9.trans d9.symm
      subst c9
      exact ih h
set_option maxRecDepth 100000 in
theorem vp_X1_goThrough_L131 {uo : MS} {P : MS → Prop} : ∀ (n m : Nat) {U131 : MS} {v131_1 : Int32} {v131_2 : Int32} {v131_3 : Int32} {v131_4 : Int32}, v_X1_goThrough_L131 uo n U131 v131_1 v131_2 v131_3 v131_4 → w_X1_goThrough_L131 P m U131 v131_1 v131_2 v131_3 v131_4 → P uo := by
  intro n
  induction n with
  | zero => intro m U131 v131_1 v131_2 v131_3 v131_4 h; unfold v_X1_goThrough_L131 at h; exact h.elim
  | succ n ih =>
    intro m U131 v131_1 v131_2 v131_3 v131_4 h w
    cases m with
    | zero => unfold w_X1_goThrough_L131 at w; exact w.elim
    | succ m =>
      unfold v_X1_goThrough_L131 at h
      unfold w_X1_goThrough_L131 at w
      obtain ⟨y10_, h⟩ := h
      replace w := w y10_
      rcases h with ⟨c, h⟩ | ⟨c, h⟩
      · replace w := w.1 c
        replace h := h.2
        replace w := w.2
        replace h := h.2
        replace w := w.2
        replace h := h.2
        replace w := w.2
        obtain ⟨v9, e9, h⟩ := h
        replace w := w v9 e9 
        obtain ⟨q9, z9, y11_, y12_, h⟩ := h
        obtain ⟨Q9, w0, w⟩ := w
        replace w := w q9 (vpX1_give z9 w0) y11_ y12_
        rcases h with ⟨c, h⟩ | ⟨c, h⟩
        · replace w := w.1 c
          exact vp_X1_goThrough_J212 h w
        · replace w := w.2 c
          rcases h with ⟨c, h⟩ | ⟨c, h⟩
          · replace w := w.1 c
            exact vp_X1_goThrough_J212 h w
          · replace w := w.2 c
            replace h := h.2
            replace w := w.2
            replace h := h.2
            replace w := w.2
            replace h := h.2
            replace w := w.2
            obtain ⟨v9, e9, h⟩ := h
            replace w := w v9 e9 
            rcases h with ⟨c, h⟩ | ⟨c, h⟩
            · replace w := w.1 c
              exact vp_X1_goThrough_J212 h w
            · replace w := w.2 c
              exact vp_X1_goThrough_J213 h w
      · replace w := w.2 c
        obtain ⟨p9, q9, z9, y13_, y14_, h⟩ := h
        obtain ⟨Q9, w0, w⟩ := w
        replace w := w p9 q9 (vpX1_take z9 w0) y13_ y14_
        obtain ⟨v9, e9, h⟩ := h
        replace w := w v9 e9 
        exact ih m h w
set_option maxRecDepth 100000 in
theorem vw_X1_goThrough_J29 {uo : MS} {U29 : MS} {v29_1 : Int32} {v29_2 : Int32} (h : v_X1_goThrough_J29 uo U29 v29_1 v29_2) : w_X1_goThrough_J29 (fun u => u = uo) U29 v29_1 v29_2 := by
  unfold v_X1_goThrough_J29 at h
  unfold w_X1_goThrough_J29
  intro _
  replace h := h.2
  obtain ⟨g9, h⟩ := h
  refine ⟨g9, ?_⟩
  obtain ⟨v9, e9, h⟩ := h
  intro x9 d9 
  have c9 : v9 = x9 := e9.trans d9.symm
  subst c9
  rcases h with ⟨c, h⟩ | ⟨c, h⟩
  · refine ⟨fun _ => ?_, fun c2 => absurd c c2⟩
    obtain ⟨g9, h⟩ := h
    refine ⟨g9, ?_⟩
    obtain ⟨v9, e9, h⟩ := h
    intro x9 d9 
    have c9 : v9 = x9 := e9.trans d9.symm
    subst c9
    rcases h with ⟨c, h⟩ | ⟨c, h⟩
    · refine ⟨fun _ => ?_, fun c2 => absurd c c2⟩
      rcases h with ⟨c, h⟩ | ⟨c, h⟩
      · refine ⟨fun _ => ?_, fun c2 => absurd c c2⟩
        obtain ⟨g9, h⟩ := h
        refine ⟨g9, ?_⟩
        obtain ⟨g9, h⟩ := h
        refine ⟨g9, ?_⟩
        obtain ⟨v9, e9, h⟩ := h
        intro x9 d9 
        have c9 : v9 = x9 := e9.trans d9.symm
        subst c9
        obtain ⟨g9, h⟩ := h
        refine ⟨g9, ?_⟩
        obtain ⟨v9, e9, h⟩ := h
        intro x9 d9 
        have c9 : v9 = x9 := e9.trans d9.symm
        subst c9
        rcases h with ⟨c, h⟩ | ⟨c, h⟩
        · refine ⟨fun _ => ?_, fun c2 => absurd c c2⟩
          exact vw_X1_goThrough_J108 h
        · refine ⟨fun c2 => absurd c2 c, fun _ => ?_⟩
          exact vw_X1_goThrough_J108 h
      · refine ⟨fun c2 => absurd c2 c, fun _ => ?_⟩
        obtain ⟨g9, h⟩ := h
        refine ⟨g9, ?_⟩
        obtain ⟨g9, h⟩ := h
        refine ⟨g9, ?_⟩
        obtain ⟨g9, h⟩ := h
        refine ⟨g9, ?_⟩
        obtain ⟨v9, e9, h⟩ := h
        intro x9 d9 
        have c9 : v9 = x9 := e9.trans d9.symm
        subst c9
        obtain ⟨n9, h⟩ := h
        exact ⟨n9, vw_X1_goThrough_L131 n9 h⟩
    · refine ⟨fun c2 => absurd c2 c, fun _ => ?_⟩
      obtain ⟨g9, h⟩ := h
      refine ⟨g9, ?_⟩
      obtain ⟨g9, h⟩ := h
      refine ⟨g9, ?_⟩
      obtain ⟨v9, e9, h⟩ := h
      intro x9 d9 
      have c9 : v9 = x9 := e9.trans d9.symm
      subst c9
      obtain ⟨q9, z9, h⟩ := h
      refine ⟨_, vwX1_store z9, ?_⟩
      intro q8 d9 _ _
      subst d9
      replace h := h.2.2
      exact h.symm
  · refine ⟨fun c2 => absurd c2 c, fun _ => ?_⟩
    obtain ⟨g9, h⟩ := h
    refine ⟨g9, ?_⟩
    obtain ⟨g9, h⟩ := h
    refine ⟨g9, ?_⟩
    obtain ⟨v9, e9, h⟩ := h
    intro x9 d9 
    have c9 : v9 = x9 := e9.trans d9.symm
    subst c9
    obtain ⟨q9, z9, h⟩ := h
    refine ⟨_, vwX1_load z9, ?_⟩
    intro q8 d9 _ _
    subst d9
    replace h := h.2.2
    exact h.symm
set_option maxRecDepth 100000 in
theorem vp_X1_goThrough_J29 {uo : MS} {P : MS → Prop} {U29 : MS} {v29_1 : Int32} {v29_2 : Int32} (h : v_X1_goThrough_J29 uo U29 v29_1 v29_2) (w : w_X1_goThrough_J29 P U29 v29_1 v29_2) : P uo := by
  unfold v_X1_goThrough_J29 at h
  unfold w_X1_goThrough_J29 at w
  obtain ⟨y15_, h⟩ := h
  replace w := w y15_
  replace h := h.2
  replace w := w.2
  obtain ⟨v9, e9, h⟩ := h
  replace w := w v9 e9 
  rcases h with ⟨c, h⟩ | ⟨c, h⟩
  · replace w := w.1 c
    replace h := h.2
    replace w := w.2
    obtain ⟨v9, e9, h⟩ := h
    replace w := w v9 e9 
    rcases h with ⟨c, h⟩ | ⟨c, h⟩
    · replace w := w.1 c
      rcases h with ⟨c, h⟩ | ⟨c, h⟩
      · replace w := w.1 c
        replace h := h.2
        replace w := w.2
        replace h := h.2
        replace w := w.2
        obtain ⟨v9, e9, h⟩ := h
        replace w := w v9 e9 
        replace h := h.2
        replace w := w.2
        obtain ⟨v9, e9, h⟩ := h
        replace w := w v9 e9 
        rcases h with ⟨c, h⟩ | ⟨c, h⟩
        · replace w := w.1 c
          exact vp_X1_goThrough_J108 h w
        · replace w := w.2 c
          exact vp_X1_goThrough_J108 h w
      · replace w := w.2 c
        replace h := h.2
        replace w := w.2
        replace h := h.2
        replace w := w.2
        replace h := h.2
        replace w := w.2
        obtain ⟨v9, e9, h⟩ := h
        replace w := w v9 e9 
        obtain ⟨n9, h⟩ := h
        obtain ⟨n8, w⟩ := w
        exact vp_X1_goThrough_L131 n9 n8 h w
    · replace w := w.2 c
      replace h := h.2
      replace w := w.2
      replace h := h.2
      replace w := w.2
      obtain ⟨v9, e9, h⟩ := h
      replace w := w v9 e9 
      obtain ⟨q9, z9, y16_, y17_, h⟩ := h
      obtain ⟨Q9, w0, w⟩ := w
      replace w := w q9 (vpX1_store z9 w0) y16_ y17_
      rw [h]
      exact w
  · replace w := w.2 c
    replace h := h.2
    replace w := w.2
    replace h := h.2
    replace w := w.2
    obtain ⟨v9, e9, h⟩ := h
    replace w := w v9 e9 
    obtain ⟨q9, z9, y18_, y19_, h⟩ := h
    obtain ⟨Q9, w0, w⟩ := w
    replace w := w q9 (vpX1_load z9 w0) y18_ y19_
    rw [h]
    exact w
set_option maxRecDepth 100000 in
theorem vwX1_goThrough {S : MS} {x1 : Int32} {uo : MS} (h : vX1_goThrough S x1 uo) : wX1_goThrough S x1 (fun u => u = uo) := by
  unfold vX1_goThrough at h
  unfold wX1_goThrough
  obtain ⟨g9, h⟩ := h
  refine ⟨g9, ?_⟩
  obtain ⟨g9, h⟩ := h
  refine ⟨g9, ?_⟩
  obtain ⟨v9, e9, h⟩ := h
  intro x9 d9 
  have c9 : v9 = x9 := e9.trans d9.symm
  subst c9
  rcases h with ⟨c, h⟩ | ⟨c, h⟩
  · refine ⟨fun _ => ?_, fun c2 => absurd c c2⟩
    exact vw_X1_goThrough_J29 h
  · refine ⟨fun c2 => absurd c2 c, fun _ => ?_⟩
    rcases h with ⟨c, h⟩ | ⟨c, h⟩
    · refine ⟨fun _ => ?_, fun c2 => absurd c c2⟩
      exact vw_X1_goThrough_J29 h
    · refine ⟨fun c2 => absurd c2 c, fun _ => ?_⟩
      obtain ⟨q9, z9, h⟩ := h
      refine ⟨_, vwX1_shuffle z9, ?_⟩
      intro q8 d9 _ _
      subst d9
      replace h := h.2.2
      exact h.symm
set_option maxRecDepth 100000 in
theorem vpX1_goThrough {S : MS} {x1 : Int32} {uo : MS} {P : MS → Prop} (h : vX1_goThrough S x1 uo) (w : wX1_goThrough S x1 P) : P uo := by
  unfold vX1_goThrough at h
  unfold wX1_goThrough at w
  replace h := h.2
  replace w := w.2
  replace h := h.2
  replace w := w.2
  obtain ⟨v9, e9, h⟩ := h
  replace w := w v9 e9 
  rcases h with ⟨c, h⟩ | ⟨c, h⟩
  · replace w := w.1 c
    exact vp_X1_goThrough_J29 h w
  · replace w := w.2 c
    rcases h with ⟨c, h⟩ | ⟨c, h⟩
    · replace w := w.1 c
      exact vp_X1_goThrough_J29 h w
    · replace w := w.2 c
      obtain ⟨q9, z9, y20_, y21_, h⟩ := h
      obtain ⟨Q9, w0, w⟩ := w
      replace w := w q9 (vpX1_shuffle z9 w0) y20_ y21_
      rw [h]
      exact w
