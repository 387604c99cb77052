def v_X7_isSameName_L25 (ro : Int32) (uo : MS) : Nat → MS → Int32 → Int32 → Int32 → Int32 → Prop
  | 0, _, _, _, _, _ => False
  | n25 + 1, U25, v25_3, v25_4, v25_5, v25_6 => (wfC U25 ∧ ((((3 : Int32) + v25_5).toInt ≤ v25_6.toInt ∧ (ro = (1 : Int32) ∧ uo = U25)) ∨ (¬ ((3 : Int32) + v25_5).toInt ≤ v25_6.toInt ∧ (d_X7_u1 U25 (v25_3 + v25_6) ∧ (d_X7_u1 U25 (v25_4 + v25_6) ∧ (((fX7_u1 U25 (v25_3 + v25_6)).toInt = (fX7_u1 U25 (v25_4 + v25_6)).toInt ∧ (∃ a25 : Int32, a25 = (v25_6 + Int32.ofInt 1) ∧ ((v_X7_isSameName_L25 ro uo n25) U25 v25_3 v25_4 v25_5 a25))) ∨ (¬ (fX7_u1 U25 (v25_3 + v25_6)).toInt = (fX7_u1 U25 (v25_4 + v25_6)).toInt ∧ (ro = (0 : Int32) ∧ uo = U25))))))))
def vX7_isSameName (S : MS) (x1 : Int32) (x2 : Int32) (ro : Int32) (uo : MS) : Prop := (d_X7_entryAt S x1 ∧ (∃ a4 : Int32, a4 = (fX7_entryAt S x1) ∧ (d_X7_entryAt S x2 ∧ (∃ a8 : Int32, a8 = (fX7_entryAt S x2) ∧ (d_X7_u2 S (a4 + (1 : Int32)) ∧ (∃ a13 : Int32, a13 = (fX7_u2 S (a4 + (1 : Int32))) ∧ (∃ n, v_X7_isSameName_L25 ro uo n S a4 a8 a13 1)))))))
set_option maxRecDepth 100000 in
theorem ru_X7_isSameName_L25 {ι : Type} {P Q : Int32 → MS → Prop} : ∀ (n : Nat) {U25 : MS} {v25_3 : Int32} {v25_4 : Int32} {v25_5 : Int32} {v25_6 : Int32} (i0 : ι), (∀ (i : ι) (ro : Int32) (uo : MS), (∃ n8, v_X7_isSameName_L25 ro uo n8 U25 v25_3 v25_4 v25_5 v25_6) → P ro uo) → w_X7_isSameName_L25 Q n U25 v25_3 v25_4 v25_5 v25_6 → w_X7_isSameName_L25 (fun r u => Q r u ∧ P r u) n U25 v25_3 v25_4 v25_5 v25_6 := by
  intro n
  induction n with
  | zero => intro U25 v25_3 v25_4 v25_5 v25_6 i0 K h; unfold w_X7_isSameName_L25 at h; exact h.elim
  | succ n ih =>
    intro U25 v25_3 v25_4 v25_5 v25_6 i0 K h
    unfold w_X7_isSameName_L25 at h ⊢
    replace K := fun (i : ι × Nat) ro uo (z : v_X7_isSameName_L25 ro uo (i.2 + 1) U25 v25_3 v25_4 v25_5 v25_6) => K i.1 ro uo ⟨i.2 + 1, z⟩
    have i00 := i0
    replace i0 : ι × Nat := (i0, 0)
    intro y1_
    replace h := h y1_
    replace K := fun i ro uo z => K i ro uo ⟨y1_, z⟩
    refine ⟨fun c => ?_, fun c => ?_⟩
    · replace h := h.1 c
      replace K := fun i ro uo z => K i ro uo (Or.inl ⟨c, z⟩)
      exact ⟨h, K i0 _ _ ⟨rfl, rfl⟩⟩
    · replace h := h.2 c
      replace K := fun i ro uo z => K i ro uo (Or.inr ⟨c, z⟩)
      obtain ⟨g2_, h⟩ := h
      refine ⟨g2_, ?_⟩
      replace K := fun i ro uo z => K i ro uo ⟨g2_, z⟩
      obtain ⟨g3_, h⟩ := h
      refine ⟨g3_, ?_⟩
      replace K := fun i ro uo z => K i ro uo ⟨g3_, z⟩
      refine ⟨fun c => ?_, fun c => ?_⟩
      · replace h := h.1 c
        replace K := fun i ro uo z => K i ro uo (Or.inl ⟨c, z⟩)
        intro a25 ea25 
        replace h := h a25 ea25 
        replace K := fun i ro uo z => K i ro uo ⟨a25, ea25, z⟩
        exact ih i00 (fun i ro uo ⟨n8, z⟩ => K (i, n8) ro uo z) h
      · replace h := h.2 c
        replace K := fun i ro uo z => K i ro uo (Or.inr ⟨c, z⟩)
        exact ⟨h, K i0 _ _ ⟨rfl, rfl⟩⟩
set_option maxRecDepth 100000 in
theorem ruX7_isSameName {S : MS} {x1 : Int32} {x2 : Int32} {Q : Int32 → MS → Prop} (h : wX7_isSameName S x1 x2 Q) : wX7_isSameName S x1 x2 (fun r u => Q r u ∧ vX7_isSameName S x1 x2 r u) := by
  have i0 : Unit := ()
  have K : ∀ (i : Unit) (ro : Int32) (uo : MS), vX7_isSameName S x1 x2 ro uo → vX7_isSameName S x1 x2 ro uo := fun _ _ _ z => z
  unfold wX7_isSameName at h ⊢
  obtain ⟨g4_, h⟩ := h
  refine ⟨g4_, ?_⟩
  replace K := fun i ro uo z => K i ro uo ⟨g4_, z⟩
  intro a4 ea4 
  replace h := h a4 ea4 
  replace K := fun i ro uo z => K i ro uo ⟨a4, ea4, z⟩
  obtain ⟨g5_, h⟩ := h
  refine ⟨g5_, ?_⟩
  replace K := fun i ro uo z => K i ro uo ⟨g5_, z⟩
  intro a8 ea8 
  replace h := h a8 ea8 
  replace K := fun i ro uo z => K i ro uo ⟨a8, ea8, z⟩
  obtain ⟨g6_, h⟩ := h
  refine ⟨g6_, ?_⟩
  replace K := fun i ro uo z => K i ro uo ⟨g6_, z⟩
  intro a13 ea13 
  replace h := h a13 ea13 
  replace K := fun i ro uo z => K i ro uo ⟨a13, ea13, z⟩
  obtain ⟨n9, h⟩ := h
  exact ⟨n9, ru_X7_isSameName_L25 n9 i0 K h⟩
set_option maxRecDepth 100000 in
theorem vw_X7_isSameName_L25 {ro : Int32} {uo : MS} : ∀ (n : Nat) {U25 : MS} {v25_3 : Int32} {v25_4 : Int32} {v25_5 : Int32} {v25_6 : Int32}, v_X7_isSameName_L25 ro uo n U25 v25_3 v25_4 v25_5 v25_6 → w_X7_isSameName_L25 (fun r u => r = ro ∧ u = uo) n U25 v25_3 v25_4 v25_5 v25_6 := by
  intro n
  induction n with
  | zero => intro U25 v25_3 v25_4 v25_5 v25_6 h; unfold v_X7_isSameName_L25 at h; exact h.elim
  | succ n ih =>
    intro U25 v25_3 v25_4 v25_5 v25_6 h
    unfold v_X7_isSameName_L25 at h
    unfold w_X7_isSameName_L25
    intro _
    replace h := h.2
    rcases h with ⟨c, h⟩ | ⟨c, h⟩
    · refine ⟨fun _ => ?_, fun c2 => absurd c c2⟩
      exact ⟨h.1.symm, h.2.symm⟩
    · refine ⟨fun c2 => absurd c2 c, fun _ => ?_⟩
      obtain ⟨g9, h⟩ := h
      refine ⟨g9, ?_⟩
      obtain ⟨g9, h⟩ := h
      refine ⟨g9, ?_⟩
      rcases h with ⟨c, h⟩ | ⟨c, h⟩
      · refine ⟨fun _ => ?_, fun c2 => absurd c c2⟩
        obtain ⟨v9, e9, h⟩ := h
        intro x9 d9 
        have c9 : v9 = x9 := e9.trans d9.symm
        subst c9
        exact ih h
      · refine ⟨fun c2 => absurd c2 c, fun _ => ?_⟩
        exact ⟨h.1.symm, h.2.symm⟩
set_option maxRecDepth 100000 in
theorem vp_X7_isSameName_L25 {ro : Int32} {uo : MS} {P : Int32 → MS → Prop} : ∀ (n m : Nat) {U25 : MS} {v25_3 : Int32} {v25_4 : Int32} {v25_5 : Int32} {v25_6 : Int32}, v_X7_isSameName_L25 ro uo n U25 v25_3 v25_4 v25_5 v25_6 → w_X7_isSameName_L25 P m U25 v25_3 v25_4 v25_5 v25_6 → P ro uo := by
  intro n
  induction n with
  | zero => intro m U25 v25_3 v25_4 v25_5 v25_6 h; unfold v_X7_isSameName_L25 at h; exact h.elim
  | succ n ih =>
    intro m U25 v25_3 v25_4 v25_5 v25_6 h w
    cases m with
    | zero => unfold w_X7_isSameName_L25 at w; exact w.elim
    | succ m =>
      unfold v_X7_isSameName_L25 at h
      unfold w_X7_isSameName_L25 at w
      obtain ⟨y1_, h⟩ := h
      replace w := w y1_
      rcases h with ⟨c, h⟩ | ⟨c, h⟩
      · replace w := w.1 c
        rw [h.1, h.2]
        exact w
      · replace w := w.2 c
        replace h := h.2
        replace w := w.2
        replace h := h.2
        replace w := w.2
        rcases h with ⟨c, h⟩ | ⟨c, h⟩
        · replace w := w.1 c
          obtain ⟨v9, e9, h⟩ := h
          replace w := w v9 e9 
          exact ih m h w
        · replace w := w.2 c
          rw [h.1, h.2]
          exact w
set_option maxRecDepth 100000 in
theorem vwX7_isSameName {S : MS} {x1 : Int32} {x2 : Int32} {ro : Int32} {uo : MS} (h : vX7_isSameName S x1 x2 ro uo) : wX7_isSameName S x1 x2 (fun r u => r = ro ∧ u = uo) := by
  unfold vX7_isSameName at h
  unfold wX7_isSameName
  obtain ⟨g9, h⟩ := h
  refine ⟨g9, ?_⟩
  obtain ⟨v9, e9, h⟩ := h
  intro x9 d9 
  have c9 : v9 = x9 := e9.trans d9.symm
  subst c9
  obtain ⟨g9, h⟩ := h
  refine ⟨g9, ?_⟩
  obtain ⟨v9, e9, h⟩ := h
  intro x9 d9 
  have c9 : v9 = x9 := e9.trans d9.symm
  subst c9
  obtain ⟨g9, h⟩ := h
  refine ⟨g9, ?_⟩
  obtain ⟨v9, e9, h⟩ := h
  intro x9 d9 
  have c9 : v9 = x9 := e9.trans d9.symm
  subst c9
  obtain ⟨n9, h⟩ := h
  exact ⟨n9, vw_X7_isSameName_L25 n9 h⟩
set_option maxRecDepth 100000 in
theorem vpX7_isSameName {S : MS} {x1 : Int32} {x2 : Int32} {ro : Int32} {uo : MS} {P : Int32 → MS → Prop} (h : vX7_isSameName S x1 x2 ro uo) (w : wX7_isSameName S x1 x2 P) : P ro uo := by
  unfold vX7_isSameName at h
  unfold wX7_isSameName at w
  replace h := h.2
  replace w := w.2
  obtain ⟨v9, e9, h⟩ := h
  replace w := w v9 e9 
  replace h := h.2
  replace w := w.2
  obtain ⟨v9, e9, h⟩ := h
  replace w := w v9 e9 
  replace h := h.2
  replace w := w.2
  obtain ⟨v9, e9, h⟩ := h
  replace w := w v9 e9 
  obtain ⟨n9, h⟩ := h
  obtain ⟨n8, w⟩ := w
  exact vp_X7_isSameName_L25 n9 n8 h w
def v_X7_isText_L16 (ro : Int32) (uo : MS) : Nat → MS → Int32 → Nat → Int32 → Prop
  | 0, _, _, _, _ => False
  | n16 + 1, U16, v16_1, v16_2, v16_3 => (wfC U16 ∧ qT U16 v16_2 = 12 ∧ (((Int32.ofNat (qN U16 (v16_2 + 1))).toInt ≤ v16_3.toInt ∧ (ro = (1 : Int32) ∧ uo = U16)) ∨ (¬ (Int32.ofNat (qN U16 (v16_2 + 1))).toInt ≤ v16_3.toInt ∧ (d_X7_nameSign U16 v16_1 v16_3 ∧ (((0 : Int) ≤ v16_3.toInt ∧ v16_3.toInt < (qN U16 (v16_2 + 1) : Int)) ∧ (((fX7_nameSign U16 v16_1 v16_3).toInt = (cAt U16 v16_2 v16_3).toInt ∧ (∃ a14 : Int32, a14 = (v16_3 + Int32.ofInt 1) ∧ ((v_X7_isText_L16 ro uo n16) U16 v16_1 v16_2 a14))) ∨ (¬ (fX7_nameSign U16 v16_1 v16_3).toInt = (cAt U16 v16_2 v16_3).toInt ∧ (ro = (0 : Int32) ∧ uo = U16))))))))
def vX7_isText (S : MS) (x1 : Int32) (p2 : Nat) (ro : Int32) (uo : MS) : Prop := (d_X7_nameLength S x1 ∧ (((fX7_nameLength S x1).toInt = (Int32.ofNat (qN S (p2 + 1))).toInt ∧ (∃ n, v_X7_isText_L16 ro uo n S x1 p2 0)) ∨ (¬ (fX7_nameLength S x1).toInt = (Int32.ofNat (qN S (p2 + 1))).toInt ∧ (ro = (0 : Int32) ∧ uo = S))))
set_option maxRecDepth 100000 in
theorem ru_X7_isText_L16 {ι : Type} {P Q : Int32 → MS → Prop} : ∀ (n : Nat) {U16 : MS} {v16_1 : Int32} {v16_2 : Nat} {v16_3 : Int32} (i0 : ι), (∀ (i : ι) (ro : Int32) (uo : MS), (∃ n8, v_X7_isText_L16 ro uo n8 U16 v16_1 v16_2 v16_3) → P ro uo) → w_X7_isText_L16 Q n U16 v16_1 v16_2 v16_3 → w_X7_isText_L16 (fun r u => Q r u ∧ P r u) n U16 v16_1 v16_2 v16_3 := by
  intro n
  induction n with
  | zero => intro U16 v16_1 v16_2 v16_3 i0 K h; unfold w_X7_isText_L16 at h; exact h.elim
  | succ n ih =>
    intro U16 v16_1 v16_2 v16_3 i0 K h
    unfold w_X7_isText_L16 at h ⊢
    replace K := fun (i : ι × Nat) ro uo (z : v_X7_isText_L16 ro uo (i.2 + 1) U16 v16_1 v16_2 v16_3) => K i.1 ro uo ⟨i.2 + 1, z⟩
    have i00 := i0
    replace i0 : ι × Nat := (i0, 0)
    intro y1_ y2_
    replace h := h y1_ y2_
    replace K := fun i ro uo z => K i ro uo ⟨y1_, y2_, z⟩
    refine ⟨fun c => ?_, fun c => ?_⟩
    · replace h := h.1 c
      replace K := fun i ro uo z => K i ro uo (Or.inl ⟨c, z⟩)
      exact ⟨h, K i0 _ _ ⟨rfl, rfl⟩⟩
    · replace h := h.2 c
      replace K := fun i ro uo z => K i ro uo (Or.inr ⟨c, z⟩)
      obtain ⟨g3_, h⟩ := h
      refine ⟨g3_, ?_⟩
      replace K := fun i ro uo z => K i ro uo ⟨g3_, z⟩
      obtain ⟨g4_, h⟩ := h
      refine ⟨g4_, ?_⟩
      replace K := fun i ro uo z => K i ro uo ⟨g4_, z⟩
      refine ⟨fun c => ?_, fun c => ?_⟩
      · replace h := h.1 c
        replace K := fun i ro uo z => K i ro uo (Or.inl ⟨c, z⟩)
        intro a14 ea14 
        replace h := h a14 ea14 
        replace K := fun i ro uo z => K i ro uo ⟨a14, ea14, z⟩
        exact ih i00 (fun i ro uo ⟨n8, z⟩ => K (i, n8) ro uo z) h
      · replace h := h.2 c
        replace K := fun i ro uo z => K i ro uo (Or.inr ⟨c, z⟩)
        exact ⟨h, K i0 _ _ ⟨rfl, rfl⟩⟩
set_option maxRecDepth 100000 in
theorem ruX7_isText {S : MS} {x1 : Int32} {p2 : Nat} {Q : Int32 → MS → Prop} (h : wX7_isText S x1 p2 Q) : wX7_isText S x1 p2 (fun r u => Q r u ∧ vX7_isText S x1 p2 r u) := by
  have i0 : Unit := ()
  have K : ∀ (i : Unit) (ro : Int32) (uo : MS), vX7_isText S x1 p2 ro uo → vX7_isText S x1 p2 ro uo := fun _ _ _ z => z
  unfold wX7_isText at h ⊢
  obtain ⟨g5_, h⟩ := h
  refine ⟨g5_, ?_⟩
  replace K := fun i ro uo z => K i ro uo ⟨g5_, z⟩
  refine ⟨fun c => ?_, fun c => ?_⟩
  · replace h := h.1 c
    replace K := fun i ro uo z => K i ro uo (Or.inl ⟨c, z⟩)
    obtain ⟨n9, h⟩ := h
    exact ⟨n9, ru_X7_isText_L16 n9 i0 K h⟩
  · replace h := h.2 c
    replace K := fun i ro uo z => K i ro uo (Or.inr ⟨c, z⟩)
    exact ⟨h, K i0 _ _ ⟨rfl, rfl⟩⟩
set_option maxRecDepth 100000 in
theorem vw_X7_isText_L16 {ro : Int32} {uo : MS} : ∀ (n : Nat) {U16 : MS} {v16_1 : Int32} {v16_2 : Nat} {v16_3 : Int32}, v_X7_isText_L16 ro uo n U16 v16_1 v16_2 v16_3 → w_X7_isText_L16 (fun r u => r = ro ∧ u = uo) n U16 v16_1 v16_2 v16_3 := by
  intro n
  induction n with
  | zero => intro U16 v16_1 v16_2 v16_3 h; unfold v_X7_isText_L16 at h; exact h.elim
  | succ n ih =>
    intro U16 v16_1 v16_2 v16_3 h
    unfold v_X7_isText_L16 at h
    unfold w_X7_isText_L16
    intro _ _
    replace h := h.2.2
    rcases h with ⟨c, h⟩ | ⟨c, h⟩
    · refine ⟨fun _ => ?_, fun c2 => absurd c c2⟩
      exact ⟨h.1.symm, h.2.symm⟩
    · refine ⟨fun c2 => absurd c2 c, fun _ => ?_⟩
      obtain ⟨g9, h⟩ := h
      refine ⟨g9, ?_⟩
      obtain ⟨g9, h⟩ := h
      refine ⟨g9, ?_⟩
      rcases h with ⟨c, h⟩ | ⟨c, h⟩
      · refine ⟨fun _ => ?_, fun c2 => absurd c c2⟩
        obtain ⟨v9, e9, h⟩ := h
        intro x9 d9 
        have c9 : v9 = x9 := e9.trans d9.symm
        subst c9
        exact ih h
      · refine ⟨fun c2 => absurd c2 c, fun _ => ?_⟩
        exact ⟨h.1.symm, h.2.symm⟩
set_option maxRecDepth 100000 in
theorem vp_X7_isText_L16 {ro : Int32} {uo : MS} {P : Int32 → MS → Prop} : ∀ (n m : Nat) {U16 : MS} {v16_1 : Int32} {v16_2 : Nat} {v16_3 : Int32}, v_X7_isText_L16 ro uo n U16 v16_1 v16_2 v16_3 → w_X7_isText_L16 P m U16 v16_1 v16_2 v16_3 → P ro uo := by
  intro n
  induction n with
  | zero => intro m U16 v16_1 v16_2 v16_3 h; unfold v_X7_isText_L16 at h; exact h.elim
  | succ n ih =>
    intro m U16 v16_1 v16_2 v16_3 h w
    cases m with
    | zero => unfold w_X7_isText_L16 at w; exact w.elim
    | succ m =>
      unfold v_X7_isText_L16 at h
      unfold w_X7_isText_L16 at w
      obtain ⟨y1_, y2_, h⟩ := h
      replace w := w y1_ y2_
      rcases h with ⟨c, h⟩ | ⟨c, h⟩
      · replace w := w.1 c
        rw [h.1, h.2]
        exact w
      · replace w := w.2 c
        replace h := h.2
        replace w := w.2
        replace h := h.2
        replace w := w.2
        rcases h with ⟨c, h⟩ | ⟨c, h⟩
        · replace w := w.1 c
          obtain ⟨v9, e9, h⟩ := h
          replace w := w v9 e9 
          exact ih m h w
        · replace w := w.2 c
          rw [h.1, h.2]
          exact w
set_option maxRecDepth 100000 in
theorem vwX7_isText {S : MS} {x1 : Int32} {p2 : Nat} {ro : Int32} {uo : MS} (h : vX7_isText S x1 p2 ro uo) : wX7_isText S x1 p2 (fun r u => r = ro ∧ u = uo) := by
  unfold vX7_isText at h
  unfold wX7_isText
  obtain ⟨g9, h⟩ := h
  refine ⟨g9, ?_⟩
  rcases h with ⟨c, h⟩ | ⟨c, h⟩
  · refine ⟨fun _ => ?_, fun c2 => absurd c c2⟩
    obtain ⟨n9, h⟩ := h
    exact ⟨n9, vw_X7_isText_L16 n9 h⟩
  · refine ⟨fun c2 => absurd c2 c, fun _ => ?_⟩
    exact ⟨h.1.symm, h.2.symm⟩
set_option maxRecDepth 100000 in
theorem vpX7_isText {S : MS} {x1 : Int32} {p2 : Nat} {ro : Int32} {uo : MS} {P : Int32 → MS → Prop} (h : vX7_isText S x1 p2 ro uo) (w : wX7_isText S x1 p2 P) : P ro uo := by
  unfold vX7_isText at h
  unfold wX7_isText at w
  replace h := h.2
  replace w := w.2
  rcases h with ⟨c, h⟩ | ⟨c, h⟩
  · replace w := w.1 c
    obtain ⟨n9, h⟩ := h
    obtain ⟨n8, w⟩ := w
    exact vp_X7_isText_L16 n9 n8 h w
  · replace w := w.2 c
    rw [h.1, h.2]
    exact w
def v_X7_noTwins_L34 (ro : Int32) (uo : MS) (k2 : MS → Int32 → Prop) : Nat → MS → Int32 → Int32 → Prop
  | 0, _, _, _ => False
  | n34 + 1, U34, v34_1, v34_3 => (wfC U34 ∧ ((v34_1.toInt ≤ v34_3.toInt ∧ (∃ a4 : Int32, a4 = (v34_1 + Int32.ofInt 1) ∧ (k2 U34 a4))) ∨ (¬ v34_1.toInt ≤ v34_3.toInt ∧ (d_X7_nameOf U34 v34_3 ∧ (∃ a8 : Int32, a8 = (fX7_nameOf U34 v34_3) ∧ (d_X7_nameOf U34 v34_1 ∧ (∃ a12 : Int32, a12 = (fX7_nameOf U34 v34_1) ∧ (∃ (r14 : Int32) (S15 : MS), vX7_isSameName U34 a8 a12 r14 S15 ∧ wfC S15 ∧ shy U34 S15 ∧ ((r14.toInt = 0 ∧ (∃ a18 : Int32, a18 = (v34_3 + Int32.ofInt 1) ∧ ((v_X7_noTwins_L34 ro uo k2 n34) S15 v34_1 a18))) ∨ (¬ r14.toInt = 0 ∧ (d_X7_memberPlace S15 v34_1 ∧ (∃ a22 : Int32, a22 = (fX7_memberPlace S15 v34_1) ∧ (∃ (r25 : Int32) (S26 : MS), vX7_breaks S15 (11 : Int32) (a22 + (2 : Int32)) r25 S26 ∧ wfC S26 ∧ shy S15 S26 ∧ (ro = r25 ∧ uo = S26))))))))))))))
def v_X7_noTwins_J31 (ro : Int32) (uo : MS) (k2 : MS → Int32 → Prop) (U31 : MS) (t31_0 : Int32) (v31_1 : Int32) : Prop := (wfC U31 ∧ (∃ n, v_X7_noTwins_L34 ro uo k2 n U31 v31_1 t31_0))
def v_X7_noTwins_L2 (ro : Int32) (uo : MS) : Nat → MS → Int32 → Prop
  | 0, _, _ => False
  | n2 + 1, U2, v2_1 => (wfC U2 ∧ ((((qI U2 9 7) + (qI U2 9 8)).toInt ≤ v2_1.toInt ∧ (ro = (1 : Int32) ∧ uo = U2)) ∨ (¬ ((qI U2 9 7) + (qI U2 9 8)).toInt ≤ v2_1.toInt ∧ (((qI U2 9 7).toInt ≤ v2_1.toInt ∧ (v_X7_noTwins_J31 ro uo (v_X7_noTwins_L2 ro uo n2) U2 (qI U2 9 7) v2_1)) ∨ (¬ (qI U2 9 7).toInt ≤ v2_1.toInt ∧ (v_X7_noTwins_J31 ro uo (v_X7_noTwins_L2 ro uo n2) U2 0 v2_1))))))
def vX7_noTwins (S : MS) (ro : Int32) (uo : MS) : Prop := (∃ n, v_X7_noTwins_L2 ro uo n S 0)
set_option maxRecDepth 100000 in
theorem ru_X7_noTwins_L34 {ι : Type} {P Q : Int32 → MS → Prop} {k2 k2' : MS → Int32 → Prop} {k2v : ι → Int32 → MS → MS → Int32 → Prop} : ∀ (n : Nat) {U34 : MS} {v34_1 : Int32} {v34_3 : Int32} (i0 : ι) (hk2 : ∀ (u : MS) (z0 : Int32), k2 u z0 → (∀ (i : ι) (ro : Int32) (uo : MS), k2v i ro uo u z0 → P ro uo) → k2' u z0), (∀ (i : ι) (ro : Int32) (uo : MS), (∃ n8, v_X7_noTwins_L34 ro uo (k2v i ro uo) n8 U34 v34_1 v34_3) → P ro uo) → w_X7_noTwins_L34 Q k2 n U34 v34_1 v34_3 → w_X7_noTwins_L34 (fun r u => Q r u ∧ P r u) k2' n U34 v34_1 v34_3 := by
  intro n
  induction n with
  | zero => intro U34 v34_1 v34_3 i0 hk2 K h; unfold w_X7_noTwins_L34 at h; exact h.elim
  | succ n ih =>
    intro U34 v34_1 v34_3 i0 hk2 K h
    unfold w_X7_noTwins_L34 at h ⊢
    replace K := fun (i : ι × Nat) ro uo (z : v_X7_noTwins_L34 ro uo (k2v i.1 ro uo) (i.2 + 1) U34 v34_1 v34_3) => K i.1 ro uo ⟨i.2 + 1, z⟩
    have i00 := i0
    replace i0 : ι × Nat := (i0, 0)
    intro y1_
    replace h := h y1_
    replace K := fun i ro uo z => K i ro uo ⟨y1_, z⟩
    refine ⟨fun c => ?_, fun c => ?_⟩
    · replace h := h.1 c
      replace K := fun i ro uo z => K i ro uo (Or.inl ⟨c, z⟩)
      intro a4 ea4 
      replace h := h a4 ea4 
      replace K := fun i ro uo z => K i ro uo ⟨a4, ea4, z⟩
      exact hk2 _ _ h (fun i ro uo z => K (i, 0) ro uo z)
    · replace h := h.2 c
      replace K := fun i ro uo z => K i ro uo (Or.inr ⟨c, z⟩)
      obtain ⟨g2_, h⟩ := h
      refine ⟨g2_, ?_⟩
      replace K := fun i ro uo z => K i ro uo ⟨g2_, z⟩
      intro a8 ea8 
      replace h := h a8 ea8 
      replace K := fun i ro uo z => K i ro uo ⟨a8, ea8, z⟩
      obtain ⟨g3_, h⟩ := h
      refine ⟨g3_, ?_⟩
      replace K := fun i ro uo z => K i ro uo ⟨g3_, z⟩
      intro a12 ea12 
      replace h := h a12 ea12 
      replace K := fun i ro uo z => K i ro uo ⟨a12, ea12, z⟩
      obtain ⟨Q9, h0, h⟩ := h
      refine ⟨_, ruX7_isSameName h0, ?_⟩
      intro r14 S15 q4_ y5_ y6_
      replace h := h r14 S15 q4_.1 y5_ y6_
      replace K := fun i ro uo z => K i ro uo ⟨r14, S15, q4_.2, y5_, y6_, z⟩
      refine ⟨fun c => ?_, fun c => ?_⟩
      · replace h := h.1 c
        replace K := fun i ro uo z => K i ro uo (Or.inl ⟨c, z⟩)
        intro a18 ea18 
        replace h := h a18 ea18 
        replace K := fun i ro uo z => K i ro uo ⟨a18, ea18, z⟩
        exact ih i00 hk2 (fun i ro uo ⟨n8, z⟩ => K (i, n8) ro uo z) h
      · replace h := h.2 c
        replace K := fun i ro uo z => K i ro uo (Or.inr ⟨c, z⟩)
        obtain ⟨g7_, h⟩ := h
        refine ⟨g7_, ?_⟩
        replace K := fun i ro uo z => K i ro uo ⟨g7_, z⟩
        intro a22 ea22 
        replace h := h a22 ea22 
        replace K := fun i ro uo z => K i ro uo ⟨a22, ea22, z⟩
        obtain ⟨Q9, h0, h⟩ := h
        refine ⟨_, ruX7_breaks h0, ?_⟩
        intro r25 S26 q8_ y9_ y10_
        replace h := h r25 S26 q8_.1 y9_ y10_
        replace K := fun i ro uo z => K i ro uo ⟨r25, S26, q8_.2, y9_, y10_, z⟩
        exact ⟨h, K i0 _ _ ⟨rfl, rfl⟩⟩
set_option maxRecDepth 100000 in
theorem ru_X7_noTwins_J31 {ι : Type} {P Q : Int32 → MS → Prop} {k2 k2' : MS → Int32 → Prop} {k2v : ι → Int32 → MS → MS → Int32 → Prop} {U31 : MS} {t31_0 : Int32} {v31_1 : Int32} (i0 : ι) (hk2 : ∀ (u : MS) (z0 : Int32), k2 u z0 → (∀ (i : ι) (ro : Int32) (uo : MS), k2v i ro uo u z0 → P ro uo) → k2' u z0) (K : ∀ (i : ι) (ro : Int32) (uo : MS), v_X7_noTwins_J31 ro uo (k2v i ro uo) U31 t31_0 v31_1 → P ro uo) (h : w_X7_noTwins_J31 Q k2 U31 t31_0 v31_1) : w_X7_noTwins_J31 (fun r u => Q r u ∧ P r u) k2' U31 t31_0 v31_1 := by
  unfold w_X7_noTwins_J31 at h ⊢
  intro y11_
  replace h := h y11_
  replace K := fun i ro uo z => K i ro uo ⟨y11_, z⟩
  obtain ⟨n9, h⟩ := h
  exact ⟨n9, ru_X7_noTwins_L34 n9 i0 hk2 K h⟩
set_option maxRecDepth 100000 in
theorem ru_X7_noTwins_L2 {ι : Type} {P Q : Int32 → MS → Prop} : ∀ (n : Nat) {U2 : MS} {v2_1 : Int32} (i0 : ι), (∀ (i : ι) (ro : Int32) (uo : MS), (∃ n8, v_X7_noTwins_L2 ro uo n8 U2 v2_1) → P ro uo) → w_X7_noTwins_L2 Q n U2 v2_1 → w_X7_noTwins_L2 (fun r u => Q r u ∧ P r u) n U2 v2_1 := by
  intro n
  induction n with
  | zero => intro U2 v2_1 i0 K h; unfold w_X7_noTwins_L2 at h; exact h.elim
  | succ n ih =>
    intro U2 v2_1 i0 K h
    unfold w_X7_noTwins_L2 at h ⊢
    replace K := fun (i : ι × Nat) ro uo (z : v_X7_noTwins_L2 ro uo (i.2 + 1) U2 v2_1) => K i.1 ro uo ⟨i.2 + 1, z⟩
    have i00 := i0
    replace i0 : ι × Nat := (i0, 0)
    intro y12_
    replace h := h y12_
    replace K := fun i ro uo z => K i ro uo ⟨y12_, z⟩
    refine ⟨fun c => ?_, fun c => ?_⟩
    · replace h := h.1 c
      replace K := fun i ro uo z => K i ro uo (Or.inl ⟨c, z⟩)
      exact ⟨h, K i0 _ _ ⟨rfl, rfl⟩⟩
    · replace h := h.2 c
      replace K := fun i ro uo z => K i ro uo (Or.inr ⟨c, z⟩)
      refine ⟨fun c => ?_, fun c => ?_⟩
      · replace h := h.1 c
        replace K := fun i ro uo z => K i ro uo (Or.inl ⟨c, z⟩)
        exact ru_X7_noTwins_J31 i0 (fun _ _ h K => ih i00 (fun i ro uo ⟨n8, z⟩ => K (i, n8) ro uo z) h) K h
      · replace h := h.2 c
        replace K := fun i ro uo z => K i ro uo (Or.inr ⟨c, z⟩)
        exact ru_X7_noTwins_J31 i0 (fun _ _ h K => ih i00 (fun i ro uo ⟨n8, z⟩ => K (i, n8) ro uo z) h) K h
set_option maxRecDepth 100000 in
theorem ruX7_noTwins {S : MS} {Q : Int32 → MS → Prop} (h : wX7_noTwins S Q) : wX7_noTwins S (fun r u => Q r u ∧ vX7_noTwins S r u) := by
  have i0 : Unit := ()
  have K : ∀ (i : Unit) (ro : Int32) (uo : MS), vX7_noTwins S ro uo → vX7_noTwins S ro uo := fun _ _ _ z => z
  unfold wX7_noTwins at h ⊢
  obtain ⟨n9, h⟩ := h
  exact ⟨n9, ru_X7_noTwins_L2 n9 i0 K h⟩
set_option maxRecDepth 100000 in
theorem vw_X7_noTwins_L34 {ro : Int32} {uo : MS} {k2 k2v : MS → Int32 → Prop} : ∀ (n : Nat) {U34 : MS} {v34_1 : Int32} {v34_3 : Int32} (hk2 : ∀ (u : MS) (z0 : Int32), k2v u z0 → k2 u z0), v_X7_noTwins_L34 ro uo k2v n U34 v34_1 v34_3 → w_X7_noTwins_L34 (fun r u => r = ro ∧ u = uo) k2 n U34 v34_1 v34_3 := by
  intro n
  induction n with
  | zero => intro U34 v34_1 v34_3 hk2 h; unfold v_X7_noTwins_L34 at h; exact h.elim
  | succ n ih =>
    intro U34 v34_1 v34_3 hk2 h
    unfold v_X7_noTwins_L34 at h
    unfold w_X7_noTwins_L34
    intro _
    replace h := h.2
    rcases h with ⟨c, h⟩ | ⟨c, h⟩
    · refine ⟨fun _ => ?_, fun c2 => absurd c c2⟩
      obtain ⟨v9, e9, h⟩ := h
      intro x9 d9 
      have c9 : v9 = x9 := e9.trans d9.symm
      subst c9
      exact hk2 _ _ h
    · refine ⟨fun c2 => absurd c2 c, fun _ => ?_⟩
      obtain ⟨g9, h⟩ := h
      refine ⟨g9, ?_⟩
      obtain ⟨v9, e9, h⟩ := h
      intro x9 d9 
      have c9 : v9 = x9 := e9.trans d9.symm
      subst c9
      obtain ⟨g9, h⟩ := h
      refine ⟨g9, ?_⟩
      obtain ⟨v9, e9, h⟩ := h
      intro x9 d9 
      have c9 : v9 = x9 := e9.trans d9.symm
      subst c9
      obtain ⟨p9, q9, z9, h⟩ := h
      refine ⟨_, vwX7_isSameName z9, ?_⟩
      rintro p8 q8 ⟨d8, d9⟩ _ _
      subst d8
      subst d9
      replace h := h.2.2
      rcases h with ⟨c, h⟩ | ⟨c, h⟩
      · refine ⟨fun _ => ?_, fun c2 => absurd c c2⟩
        obtain ⟨v9, e9, h⟩ := h
        intro x9 d9 
        have c9 : v9 = x9 := e9.trans d9.symm
        subst c9
        exact ih hk2 h
      · refine ⟨fun c2 => absurd c2 c, fun _ => ?_⟩
        obtain ⟨g9, h⟩ := h
        refine ⟨g9, ?_⟩
        obtain ⟨v9, e9, h⟩ := h
        intro x9 d9 
        have c9 : v9 = x9 := e9.trans d9.symm
        subst c9
        obtain ⟨p9, q9, z9, h⟩ := h
        refine ⟨_, vwX7_breaks z9, ?_⟩
        rintro p8 q8 ⟨d8, d9⟩ _ _
        subst d8
        subst d9
        replace h := h.2.2
        exact ⟨h.1.symm, h.2.symm⟩
set_option maxRecDepth 100000 in
theorem vp_X7_noTwins_L34 {ro : Int32} {uo : MS} {P : Int32 → MS → Prop} {k2 k2v : MS → Int32 → Prop} : ∀ (n m : Nat) {U34 : MS} {v34_1 : Int32} {v34_3 : Int32} (hk2 : ∀ (u : MS) (z0 : Int32), k2v u z0 → k2 u z0 → P ro uo), v_X7_noTwins_L34 ro uo k2v n U34 v34_1 v34_3 → w_X7_noTwins_L34 P k2 m U34 v34_1 v34_3 → P ro uo := by
  intro n
  induction n with
  | zero => intro m U34 v34_1 v34_3 hk2 h; unfold v_X7_noTwins_L34 at h; exact h.elim
  | succ n ih =>
    intro m U34 v34_1 v34_3 hk2 h w
    cases m with
    | zero => unfold w_X7_noTwins_L34 at w; exact w.elim
    | succ m =>
      unfold v_X7_noTwins_L34 at h
      unfold w_X7_noTwins_L34 at w
      obtain ⟨y1_, h⟩ := h
      replace w := w y1_
      rcases h with ⟨c, h⟩ | ⟨c, h⟩
      · replace w := w.1 c
        obtain ⟨v9, e9, h⟩ := h
        replace w := w v9 e9 
        exact hk2 _ _ h w
      · replace w := w.2 c
        replace h := h.2
        replace w := w.2
        obtain ⟨v9, e9, h⟩ := h
        replace w := w v9 e9 
        replace h := h.2
        replace w := w.2
        obtain ⟨v9, e9, h⟩ := h
        replace w := w v9 e9 
        obtain ⟨p9, q9, z9, y2_, y3_, h⟩ := h
        obtain ⟨Q9, w0, w⟩ := w
        replace w := w p9 q9 (vpX7_isSameName z9 w0) y2_ y3_
        rcases h with ⟨c, h⟩ | ⟨c, h⟩
        · replace w := w.1 c
          obtain ⟨v9, e9, h⟩ := h
          replace w := w v9 e9 
          exact ih m hk2 h w
        · replace w := w.2 c
          replace h := h.2
          replace w := w.2
          obtain ⟨v9, e9, h⟩ := h
          replace w := w v9 e9 
          obtain ⟨p9, q9, z9, y4_, y5_, h⟩ := h
          obtain ⟨Q9, w0, w⟩ := w
          replace w := w p9 q9 (vpX7_breaks z9 w0) y4_ y5_
          rw [h.1, h.2]
          exact w
set_option maxRecDepth 100000 in
theorem vw_X7_noTwins_J31 {ro : Int32} {uo : MS} {k2 k2v : MS → Int32 → Prop} {U31 : MS} {t31_0 : Int32} {v31_1 : Int32} (hk2 : ∀ (u : MS) (z0 : Int32), k2v u z0 → k2 u z0) (h : v_X7_noTwins_J31 ro uo k2v U31 t31_0 v31_1) : w_X7_noTwins_J31 (fun r u => r = ro ∧ u = uo) k2 U31 t31_0 v31_1 := by
  unfold v_X7_noTwins_J31 at h
  unfold w_X7_noTwins_J31
  intro _
  replace h := h.2
  obtain ⟨n9, h⟩ := h
  exact ⟨n9, vw_X7_noTwins_L34 n9 hk2 h⟩
set_option maxRecDepth 100000 in
theorem vp_X7_noTwins_J31 {ro : Int32} {uo : MS} {P : Int32 → MS → Prop} {k2 k2v : MS → Int32 → Prop} {U31 : MS} {t31_0 : Int32} {v31_1 : Int32} (hk2 : ∀ (u : MS) (z0 : Int32), k2v u z0 → k2 u z0 → P ro uo) (h : v_X7_noTwins_J31 ro uo k2v U31 t31_0 v31_1) (w : w_X7_noTwins_J31 P k2 U31 t31_0 v31_1) : P ro uo := by
  unfold v_X7_noTwins_J31 at h
  unfold w_X7_noTwins_J31 at w
  obtain ⟨y6_, h⟩ := h
  replace w := w y6_
  obtain ⟨n9, h⟩ := h
  obtain ⟨n8, w⟩ := w
  exact vp_X7_noTwins_L34 n9 n8 hk2 h w
set_option maxRecDepth 100000 in
theorem vw_X7_noTwins_L2 {ro : Int32} {uo : MS} : ∀ (n : Nat) {U2 : MS} {v2_1 : Int32}, v_X7_noTwins_L2 ro uo n U2 v2_1 → w_X7_noTwins_L2 (fun r u => r = ro ∧ u = uo) n U2 v2_1 := by
  intro n
  induction n with
  | zero => intro U2 v2_1 h; unfold v_X7_noTwins_L2 at h; exact h.elim
  | succ n ih =>
    intro U2 v2_1 h
    unfold v_X7_noTwins_L2 at h
    unfold w_X7_noTwins_L2
    intro _
    replace h := h.2
    rcases h with ⟨c, h⟩ | ⟨c, h⟩
    · refine ⟨fun _ => ?_, fun c2 => absurd c c2⟩
      exact ⟨h.1.symm, h.2.symm⟩
    · refine ⟨fun c2 => absurd c2 c, fun _ => ?_⟩
      rcases h with ⟨c, h⟩ | ⟨c, h⟩
      · refine ⟨fun _ => ?_, fun c2 => absurd c c2⟩
        exact vw_X7_noTwins_J31 (fun _ _ h => ih h) h
      · refine ⟨fun c2 => absurd c2 c, fun _ => ?_⟩
        exact vw_X7_noTwins_J31 (fun _ _ h => ih h) h
set_option maxRecDepth 100000 in
theorem vp_X7_noTwins_L2 {ro : Int32} {uo : MS} {P : Int32 → MS → Prop} : ∀ (n m : Nat) {U2 : MS} {v2_1 : Int32}, v_X7_noTwins_L2 ro uo n U2 v2_1 → w_X7_noTwins_L2 P m U2 v2_1 → P ro uo := by
  intro n
  induction n with
  | zero => intro m U2 v2_1 h; unfold v_X7_noTwins_L2 at h; exact h.elim
  | succ n ih =>
    intro m U2 v2_1 h w
    cases m with
    | zero => unfold w_X7_noTwins_L2 at w; exact w.elim
    | succ m =>
      unfold v_X7_noTwins_L2 at h
      unfold w_X7_noTwins_L2 at w
      obtain ⟨y7_, h⟩ := h
      replace w := w y7_
      rcases h with ⟨c, h⟩ | ⟨c, h⟩
      · replace w := w.1 c
        rw [h.1, h.2]
        exact w
      · replace w := w.2 c
        rcases h with ⟨c, h⟩ | ⟨c, h⟩
        · replace w := w.1 c
          exact vp_X7_noTwins_J31 (fun _ _ h w => ih m h w) h w
        · replace w := w.2 c
          exact vp_X7_noTwins_J31 (fun _ _ h w => ih m h w) h w
set_option maxRecDepth 100000 in
theorem vwX7_noTwins {S : MS} {ro : Int32} {uo : MS} (h : vX7_noTwins S ro uo) : wX7_noTwins S (fun r u => r = ro ∧ u = uo) := by
  unfold vX7_noTwins at h
  unfold wX7_noTwins
  obtain ⟨n9, h⟩ := h
  exact ⟨n9, vw_X7_noTwins_L2 n9 h⟩
set_option maxRecDepth 100000 in
theorem vpX7_noTwins {S : MS} {ro : Int32} {uo : MS} {P : Int32 → MS → Prop} (h : vX7_noTwins S ro uo) (w : wX7_noTwins S P) : P ro uo := by
  unfold vX7_noTwins at h
  unfold wX7_noTwins at w
  obtain ⟨n9, h⟩ := h
  obtain ⟨n8, w⟩ := w
  exact vp_X7_noTwins_L2 n9 n8 h w
def v_X7_codesHold_J110 (ro : Int32) (uo : MS) (k51 : MS → Int32 → Int32 → Int32 → Int32 → Int32 → Int32 → Prop) (U110 : MS) (v110_1 : Int32) (v110_2 : Int32) (v110_3 : Int32) (v110_5 : Int32) (v110_6 : Int32) (v110_7 : Int32) : Prop := (wfC U110 ∧ (∃ a39 : Int32, a39 = (v110_6 + Int32.ofInt 1) ∧ (k51 U110 v110_1 v110_2 v110_3 v110_7 v110_5 a39)))
def v_X7_codesHold_L51 (ro : Int32) (uo : MS) (k2 : MS → Int32 → Prop) : Nat → MS → Int32 → Int32 → Int32 → Int32 → Int32 → Int32 → Prop
  | 0, _, _, _, _, _, _, _ => False
  | n51 + 1, U51, v51_1, v51_2, v51_3, v51_4, v51_5, v51_6 => (wfC U51 ∧ ((v51_3.toInt ≤ v51_6.toInt ∧ ((v51_5.toInt = 1 ∧ (∃ a17 : Int32, a17 = (v51_1 + Int32.ofInt 1) ∧ (k2 U51 a17))) ∨ (¬ v51_5.toInt = 1 ∧ (∃ (r19 : Int32) (S20 : MS), vX7_breaks U51 (12 : Int32) v51_2 r19 S20 ∧ wfC S20 ∧ shy U51 S20 ∧ (ro = r19 ∧ uo = S20))))) ∨ (¬ v51_3.toInt ≤ v51_6.toInt ∧ (d_X7_s4 U51 (v51_4 + (2 : Int32)) ∧ (∃ a27 : Int32, a27 = (fX7_s4 U51 (v51_4 + (2 : Int32))) ∧ (∃ a29 : Int32, a29 = ((v51_4 + (6 : Int32)) + a27) ∧ (d_X7_u2 U51 v51_4 ∧ (∃ a33 : Int32, a33 = (fX7_u2 U51 v51_4) ∧ (qT U51 10000000 = 12 ∧ (∃ (r36 : Int32) (S37 : MS), vX7_isText U51 a33 10000000 r36 S37 ∧ wfC S37 ∧ shy U51 S37 ∧ ((r36.toInt = 0 ∧ (v_X7_codesHold_J110 ro uo (v_X7_codesHold_L51 ro uo k2 n51) S37 v51_1 v51_2 v51_3 v51_5 v51_6 a29)) ∨ (¬ r36.toInt = 0 ∧ (∃ a41 : Int32, a41 = (v51_5 + Int32.ofInt 1) ∧ (((0 : Int) ≤ v51_1.toInt ∧ v51_1.toInt < 24) ∧ (∃ S44 : MS, S44 = wI S37 13 v51_1.toInt.toNat (v51_4 + (6 : Int32)) ∧ qT S37 13 = 220 ∧ wfC S44 ∧ (((0 : Int) ≤ v51_1.toInt ∧ v51_1.toInt < 24) ∧ (∃ S46 : MS, S46 = wI S44 14 v51_1.toInt.toNat a29 ∧ qT S44 14 = 221 ∧ wfC S46 ∧ (v_X7_codesHold_J110 ro uo (v_X7_codesHold_L51 ro uo k2 n51) S46 v51_1 v51_2 v51_3 a41 v51_6 a29))))))))))))))))))
def v_X7_codesHold_L2 (ro : Int32) (uo : MS) : Nat → MS → Int32 → Prop
  | 0, _, _ => False
  | n2 + 1, U2, v2_1 => (wfC U2 ∧ (((qI U2 9 8).toInt ≤ v2_1.toInt ∧ (ro = (1 : Int32) ∧ uo = U2)) ∨ (¬ (qI U2 9 8).toInt ≤ v2_1.toInt ∧ ((24 ≤ v2_1.toInt ∧ (ro = (1 : Int32) ∧ uo = U2)) ∨ (¬ 24 ≤ v2_1.toInt ∧ (d_X7_memberPlace U2 ((qI U2 9 7) + v2_1) ∧ (∃ a7 : Int32, a7 = (fX7_memberPlace U2 ((qI U2 9 7) + v2_1)) ∧ (d_X7_u2 U2 (a7 + (6 : Int32)) ∧ (∃ a12 : Int32, a12 = (fX7_u2 U2 (a7 + (6 : Int32))) ∧ (∃ a14 : Int32, a14 = (a7 + (8 : Int32)) ∧ (∃ n, v_X7_codesHold_L51 ro uo (v_X7_codesHold_L2 ro uo n2) n U2 v2_1 a7 a12 a14 0 0)))))))))))
def vX7_codesHold (S : MS) (ro : Int32) (uo : MS) : Prop := (∃ n, v_X7_codesHold_L2 ro uo n S 0)
set_option maxRecDepth 100000 in
theorem ru_X7_codesHold_J110 {ι : Type} {P Q : Int32 → MS → Prop} {k51 k51' : MS → Int32 → Int32 → Int32 → Int32 → Int32 → Int32 → Prop} {k51v : ι → Int32 → MS → MS → Int32 → Int32 → Int32 → Int32 → Int32 → Int32 → Prop} {U110 : MS} {v110_1 : Int32} {v110_2 : Int32} {v110_3 : Int32} {v110_5 : Int32} {v110_6 : Int32} {v110_7 : Int32} (i0 : ι) (hk51 : ∀ (u : MS) (z0 : Int32) (z1 : Int32) (z2 : Int32) (z3 : Int32) (z4 : Int32) (z5 : Int32), k51 u z0 z1 z2 z3 z4 z5 → (∀ (i : ι) (ro : Int32) (uo : MS), k51v i ro uo u z0 z1 z2 z3 z4 z5 → P ro uo) → k51' u z0 z1 z2 z3 z4 z5) (K : ∀ (i : ι) (ro : Int32) (uo : MS), v_X7_codesHold_J110 ro uo (k51v i ro uo) U110 v110_1 v110_2 v110_3 v110_5 v110_6 v110_7 → P ro uo) (h : w_X7_codesHold_J110 Q k51 U110 v110_1 v110_2 v110_3 v110_5 v110_6 v110_7) : w_X7_codesHold_J110 (fun r u => Q r u ∧ P r u) k51' U110 v110_1 v110_2 v110_3 v110_5 v110_6 v110_7 := by
  unfold w_X7_codesHold_J110 at h ⊢
  intro y1_
  replace h := h y1_
  replace K := fun i ro uo z => K i ro uo ⟨y1_, z⟩
  intro a39 ea39 
  replace h := h a39 ea39 
  replace K := fun i ro uo z => K i ro uo ⟨a39, ea39, z⟩
  exact hk51 _ _ _ _ _ _ _ h K
set_option maxRecDepth 100000 in
theorem ru_X7_codesHold_L51 {ι : Type} {P Q : Int32 → MS → Prop} {k2 k2' : MS → Int32 → Prop} {k2v : ι → Int32 → MS → MS → Int32 → Prop} : ∀ (n : Nat) {U51 : MS} {v51_1 : Int32} {v51_2 : Int32} {v51_3 : Int32} {v51_4 : Int32} {v51_5 : Int32} {v51_6 : Int32} (i0 : ι) (hk2 : ∀ (u : MS) (z0 : Int32), k2 u z0 → (∀ (i : ι) (ro : Int32) (uo : MS), k2v i ro uo u z0 → P ro uo) → k2' u z0), (∀ (i : ι) (ro : Int32) (uo : MS), (∃ n8, v_X7_codesHold_L51 ro uo (k2v i ro uo) n8 U51 v51_1 v51_2 v51_3 v51_4 v51_5 v51_6) → P ro uo) → w_X7_codesHold_L51 Q k2 n U51 v51_1 v51_2 v51_3 v51_4 v51_5 v51_6 → w_X7_codesHold_L51 (fun r u => Q r u ∧ P r u) k2' n U51 v51_1 v51_2 v51_3 v51_4 v51_5 v51_6 := by
  intro n
  induction n with
  | zero => intro U51 v51_1 v51_2 v51_3 v51_4 v51_5 v51_6 i0 hk2 K h; unfold w_X7_codesHold_L51 at h; exact h.elim
  | succ n ih =>
    intro U51 v51_1 v51_2 v51_3 v51_4 v51_5 v51_6 i0 hk2 K h
    unfold w_X7_codesHold_L51 at h ⊢
    replace K := fun (i : ι × Nat) ro uo (z : v_X7_codesHold_L51 ro uo (k2v i.1 ro uo) (i.2 + 1) U51 v51_1 v51_2 v51_3 v51_4 v51_5 v51_6) => K i.1 ro uo ⟨i.2 + 1, z⟩
    have i00 := i0
    replace i0 : ι × Nat := (i0, 0)
    intro y2_
    replace h := h y2_
    replace K := fun i ro uo z => K i ro uo ⟨y2_, z⟩
    refine ⟨fun c => ?_, fun c => ?_⟩
    · replace h := h.1 c
      replace K := fun i ro uo z => K i ro uo (Or.inl ⟨c, z⟩)
      refine ⟨fun c => ?_, fun c => ?_⟩
      · replace h := h.1 c
        replace K := fun i ro uo z => K i ro uo (Or.inl ⟨c, z⟩)
        intro a17 ea17 
        replace h := h a17 ea17 
        replace K := fun i ro uo z => K i ro uo ⟨a17, ea17, z⟩
        exact hk2 _ _ h (fun i ro uo z => K (i, 0) ro uo z)
      · replace h := h.2 c
        replace K := fun i ro uo z => K i ro uo (Or.inr ⟨c, z⟩)
        obtain ⟨Q9, h0, h⟩ := h
        refine ⟨_, ruX7_breaks h0, ?_⟩
        intro r19 S20 q3_ y4_ y5_
        replace h := h r19 S20 q3_.1 y4_ y5_
        replace K := fun i ro uo z => K i ro uo ⟨r19, S20, q3_.2, y4_, y5_, z⟩
        exact ⟨h, K i0 _ _ ⟨rfl, rfl⟩⟩
    · replace h := h.2 c
      replace K := fun i ro uo z => K i ro uo (Or.inr ⟨c, z⟩)
      obtain ⟨g6_, h⟩ := h
      refine ⟨g6_, ?_⟩
      replace K := fun i ro uo z => K i ro uo ⟨g6_, z⟩
      intro a27 ea27 
      replace h := h a27 ea27 
      replace K := fun i ro uo z => K i ro uo ⟨a27, ea27, z⟩
      intro a29 ea29 
      replace h := h a29 ea29 
      replace K := fun i ro uo z => K i ro uo ⟨a29, ea29, z⟩
      obtain ⟨g7_, h⟩ := h
      refine ⟨g7_, ?_⟩
      replace K := fun i ro uo z => K i ro uo ⟨g7_, z⟩
      intro a33 ea33 
      replace h := h a33 ea33 
      replace K := fun i ro uo z => K i ro uo ⟨a33, ea33, z⟩
      intro y8_
      replace h := h y8_
      replace K := fun i ro uo z => K i ro uo ⟨y8_, z⟩
      obtain ⟨Q9, h0, h⟩ := h
      refine ⟨_, ruX7_isText h0, ?_⟩
      intro r36 S37 q9_ y10_ y11_
      replace h := h r36 S37 q9_.1 y10_ y11_
      replace K := fun i ro uo z => K i ro uo ⟨r36, S37, q9_.2, y10_, y11_, z⟩
      refine ⟨fun c => ?_, fun c => ?_⟩
      · replace h := h.1 c
        replace K := fun i ro uo z => K i ro uo (Or.inl ⟨c, z⟩)
        exact ru_X7_codesHold_J110 i0 (fun _ _ _ _ _ _ _ h K => ih i00 hk2 (fun i ro uo ⟨n8, z⟩ => K (i, n8) ro uo z) h) K h
      · replace h := h.2 c
        replace K := fun i ro uo z => K i ro uo (Or.inr ⟨c, z⟩)
        intro a41 ea41 
        replace h := h a41 ea41 
        replace K := fun i ro uo z => K i ro uo ⟨a41, ea41, z⟩
        obtain ⟨g12_, h⟩ := h
        refine ⟨g12_, ?_⟩
        replace K := fun i ro uo z => K i ro uo ⟨g12_, z⟩
        intro S44 eS44 y13_ y14_
        replace h := h S44 eS44 y13_ y14_
        replace K := fun i ro uo z => K i ro uo ⟨S44, eS44, y13_, y14_, z⟩
        obtain ⟨g15_, h⟩ := h
        refine ⟨g15_, ?_⟩
        replace K := fun i ro uo z => K i ro uo ⟨g15_, z⟩
        intro S46 eS46 y16_ y17_
        replace h := h S46 eS46 y16_ y17_
        replace K := fun i ro uo z => K i ro uo ⟨S46, eS46, y16_, y17_, z⟩
        exact ru_X7_codesHold_J110 i0 (fun _ _ _ _ _ _ _ h K => ih i00 hk2 (fun i ro uo ⟨n8, z⟩ => K (i, n8) ro uo z) h) K h
set_option maxRecDepth 100000 in
theorem ru_X7_codesHold_L2 {ι : Type} {P Q : Int32 → MS → Prop} : ∀ (n : Nat) {U2 : MS} {v2_1 : Int32} (i0 : ι), (∀ (i : ι) (ro : Int32) (uo : MS), (∃ n8, v_X7_codesHold_L2 ro uo n8 U2 v2_1) → P ro uo) → w_X7_codesHold_L2 Q n U2 v2_1 → w_X7_codesHold_L2 (fun r u => Q r u ∧ P r u) n U2 v2_1 := by
  intro n
  induction n with
  | zero => intro U2 v2_1 i0 K h; unfold w_X7_codesHold_L2 at h; exact h.elim
  | succ n ih =>
    intro U2 v2_1 i0 K h
    unfold w_X7_codesHold_L2 at h ⊢
    replace K := fun (i : ι × Nat) ro uo (z : v_X7_codesHold_L2 ro uo (i.2 + 1) U2 v2_1) => K i.1 ro uo ⟨i.2 + 1, z⟩
    have i00 := i0
    replace i0 : ι × Nat := (i0, 0)
    intro y18_
    replace h := h y18_
    replace K := fun i ro uo z => K i ro uo ⟨y18_, z⟩
    refine ⟨fun c => ?_, fun c => ?_⟩
    · replace h := h.1 c
      replace K := fun i ro uo z => K i ro uo (Or.inl ⟨c, z⟩)
      exact ⟨h, K i0 _ _ ⟨rfl, rfl⟩⟩
    · replace h := h.2 c
      replace K := fun i ro uo z => K i ro uo (Or.inr ⟨c, z⟩)
      refine ⟨fun c => ?_, fun c => ?_⟩
      · replace h := h.1 c
        replace K := fun i ro uo z => K i ro uo (Or.inl ⟨c, z⟩)
        exact ⟨h, K i0 _ _ ⟨rfl, rfl⟩⟩
      · replace h := h.2 c
        replace K := fun i ro uo z => K i ro uo (Or.inr ⟨c, z⟩)
        obtain ⟨g19_, h⟩ := h
        refine ⟨g19_, ?_⟩
        replace K := fun i ro uo z => K i ro uo ⟨g19_, z⟩
        intro a7 ea7 
        replace h := h a7 ea7 
        replace K := fun i ro uo z => K i ro uo ⟨a7, ea7, z⟩
        obtain ⟨g20_, h⟩ := h
        refine ⟨g20_, ?_⟩
        replace K := fun i ro uo z => K i ro uo ⟨g20_, z⟩
        intro a12 ea12 
        replace h := h a12 ea12 
        replace K := fun i ro uo z => K i ro uo ⟨a12, ea12, z⟩
        intro a14 ea14 
        replace h := h a14 ea14 
        replace K := fun i ro uo z => K i ro uo ⟨a14, ea14, z⟩
        obtain ⟨n9, h⟩ := h
        exact ⟨n9, ru_X7_codesHold_L51 n9 i0 (fun _ _ h K => ih i00 (fun i ro uo ⟨n8, z⟩ => K (i, n8) ro uo z) h) K h⟩
set_option maxRecDepth 100000 in
theorem ruX7_codesHold {S : MS} {Q : Int32 → MS → Prop} (h : wX7_codesHold S Q) : wX7_codesHold S (fun r u => Q r u ∧ vX7_codesHold S r u) := by
  have i0 : Unit := ()
  have K : ∀ (i : Unit) (ro : Int32) (uo : MS), vX7_codesHold S ro uo → vX7_codesHold S ro uo := fun _ _ _ z => z
  unfold wX7_codesHold at h ⊢
  obtain ⟨n9, h⟩ := h
  exact ⟨n9, ru_X7_codesHold_L2 n9 i0 K h⟩
set_option maxRecDepth 100000 in
theorem vw_X7_codesHold_J110 {ro : Int32} {uo : MS} {k51 k51v : MS → Int32 → Int32 → Int32 → Int32 → Int32 → Int32 → Prop} {U110 : MS} {v110_1 : Int32} {v110_2 : Int32} {v110_3 : Int32} {v110_5 : Int32} {v110_6 : Int32} {v110_7 : Int32} (hk51 : ∀ (u : MS) (z0 : Int32) (z1 : Int32) (z2 : Int32) (z3 : Int32) (z4 : Int32) (z5 : Int32), k51v u z0 z1 z2 z3 z4 z5 → k51 u z0 z1 z2 z3 z4 z5) (h : v_X7_codesHold_J110 ro uo k51v U110 v110_1 v110_2 v110_3 v110_5 v110_6 v110_7) : w_X7_codesHold_J110 (fun r u => r = ro ∧ u = uo) k51 U110 v110_1 v110_2 v110_3 v110_5 v110_6 v110_7 := by
  unfold v_X7_codesHold_J110 at h
  unfold w_X7_codesHold_J110
  intro _
  replace h := h.2
  obtain ⟨v9, e9, h⟩ := h
  intro x9 d9 
  have c9 : v9 = x9 := e9.trans d9.symm
  subst c9
  exact hk51 _ _ _ _ _ _ _ h
set_option maxRecDepth 100000 in
theorem vp_X7_codesHold_J110 {ro : Int32} {uo : MS} {P : Int32 → MS → Prop} {k51 k51v : MS → Int32 → Int32 → Int32 → Int32 → Int32 → Int32 → Prop} {U110 : MS} {v110_1 : Int32} {v110_2 : Int32} {v110_3 : Int32} {v110_5 : Int32} {v110_6 : Int32} {v110_7 : Int32} (hk51 : ∀ (u : MS) (z0 : Int32) (z1 : Int32) (z2 : Int32) (z3 : Int32) (z4 : Int32) (z5 : Int32), k51v u z0 z1 z2 z3 z4 z5 → k51 u z0 z1 z2 z3 z4 z5 → P ro uo) (h : v_X7_codesHold_J110 ro uo k51v U110 v110_1 v110_2 v110_3 v110_5 v110_6 v110_7) (w : w_X7_codesHold_J110 P k51 U110 v110_1 v110_2 v110_3 v110_5 v110_6 v110_7) : P ro uo := by
  unfold v_X7_codesHold_J110 at h
  unfold w_X7_codesHold_J110 at w
  obtain ⟨y1_, h⟩ := h
  replace w := w y1_
  obtain ⟨v9, e9, h⟩ := h
  replace w := w v9 e9 
  exact hk51 _ _ _ _ _ _ _ h w
set_option maxRecDepth 100000 in
theorem vw_X7_codesHold_L51 {ro : Int32} {uo : MS} {k2 k2v : MS → Int32 → Prop} : ∀ (n : Nat) {U51 : MS} {v51_1 : Int32} {v51_2 : Int32} {v51_3 : Int32} {v51_4 : Int32} {v51_5 : Int32} {v51_6 : Int32} (hk2 : ∀ (u : MS) (z0 : Int32), k2v u z0 → k2 u z0), v_X7_codesHold_L51 ro uo k2v n U51 v51_1 v51_2 v51_3 v51_4 v51_5 v51_6 → w_X7_codesHold_L51 (fun r u => r = ro ∧ u = uo) k2 n U51 v51_1 v51_2 v51_3 v51_4 v51_5 v51_6 := by
  intro n
  induction n with
  | zero => intro U51 v51_1 v51_2 v51_3 v51_4 v51_5 v51_6 hk2 h; unfold v_X7_codesHold_L51 at h; exact h.elim
  | succ n ih =>
    intro U51 v51_1 v51_2 v51_3 v51_4 v51_5 v51_6 hk2 h
    unfold v_X7_codesHold_L51 at h
    unfold w_X7_codesHold_L51
    intro _
    replace h := h.2
    rcases h with ⟨c, h⟩ | ⟨c, h⟩
    · refine ⟨fun _ => ?_, fun c2 => absurd c c2⟩
      rcases h with ⟨c, h⟩ | ⟨c, h⟩
      · refine ⟨fun _ => ?_, fun c2 => absurd c c2⟩
        obtain ⟨v9, e9, h⟩ := h
        intro x9 d9 
        have c9 : v9 = x9 := e9.trans d9.symm
        subst c9
        exact hk2 _ _ h
      · refine ⟨fun c2 => absurd c2 c, fun _ => ?_⟩
        obtain ⟨p9, q9, z9, h⟩ := h
        refine ⟨_, vwX7_breaks z9, ?_⟩
        rintro p8 q8 ⟨d8, d9⟩ _ _
        subst d8
        subst d9
        replace h := h.2.2
        exact ⟨h.1.symm, h.2.symm⟩
    · refine ⟨fun c2 => absurd c2 c, fun _ => ?_⟩
      obtain ⟨g9, h⟩ := h
      refine ⟨g9, ?_⟩
      obtain ⟨v9, e9, h⟩ := h
      intro x9 d9 
      have c9 : v9 = x9 := e9.trans d9.symm
      subst c9
      obtain ⟨v9, e9, h⟩ := h
      intro x9 d9 
      have c9 : v9 = x9 := e9.trans d9.symm
      subst c9
      obtain ⟨g9, h⟩ := h
      refine ⟨g9, ?_⟩
      obtain ⟨v9, e9, h⟩ := h
      intro x9 d9 
      have c9 : v9 = x9 := e9.trans d9.symm
      subst c9
      intro _
      replace h := h.2
      obtain ⟨p9, q9, z9, h⟩ := h
      refine ⟨_, vwX7_isText z9, ?_⟩
      rintro p8 q8 ⟨d8, d9⟩ _ _
      subst d8
      subst d9
      replace h := h.2.2
      rcases h with ⟨c, h⟩ | ⟨c, h⟩
      · refine ⟨fun _ => ?_, fun c2 => absurd c c2⟩
        exact vw_X7_codesHold_J110 (fun _ _ _ _ _ _ _ h => ih hk2 h) h
      · refine ⟨fun c2 => absurd c2 c, fun _ => ?_⟩
        obtain ⟨v9, e9, h⟩ := h
        intro x9 d9 
        have c9 : v9 = x9 := e9.trans d9.symm
        subst c9
        obtain ⟨g9, h⟩ := h
        refine ⟨g9, ?_⟩
        obtain ⟨v9, e9, h⟩ := h
        intro x9 d9 _ _
        have c9 : v9 = x9 := e9.trans d9.symm
        subst c9
        replace h := h.2.2
        obtain ⟨g9, h⟩ := h
        refine ⟨g9, ?_⟩
        obtain ⟨v9, e9, h⟩ := h
        intro x9 d9 _ _
        have c9 : v9 = x9 := e9.trans d9.symm
        subst c9
        replace h := h.2.2
        exact vw_X7_codesHold_J110 (fun _ _ _ _ _ _ _ h => ih hk2 h) h
set_option maxRecDepth 100000 in
theorem vp_X7_codesHold_L51 {ro : Int32} {uo : MS} {P : Int32 → MS → Prop} {k2 k2v : MS → Int32 → Prop} : ∀ (n m : Nat) {U51 : MS} {v51_1 : Int32} {v51_2 : Int32} {v51_3 : Int32} {v51_4 : Int32} {v51_5 : Int32} {v51_6 : Int32} (hk2 : ∀ (u : MS) (z0 : Int32), k2v u z0 → k2 u z0 → P ro uo), v_X7_codesHold_L51 ro uo k2v n U51 v51_1 v51_2 v51_3 v51_4 v51_5 v51_6 → w_X7_codesHold_L51 P k2 m U51 v51_1 v51_2 v51_3 v51_4 v51_5 v51_6 → P ro uo := by
  intro n
  induction n with
  | zero => intro m U51 v51_1 v51_2 v51_3 v51_4 v51_5 v51_6 hk2 h; unfold v_X7_codesHold_L51 at h; exact h.elim
  | succ n ih =>
    intro m U51 v51_1 v51_2 v51_3 v51_4 v51_5 v51_6 hk2 h w
    cases m with
    | zero => unfold w_X7_codesHold_L51 at w; exact w.elim
    | succ m =>
      unfold v_X7_codesHold_L51 at h
      unfold w_X7_codesHold_L51 at w
      obtain ⟨y2_, h⟩ := h
      replace w := w y2_
      rcases h with ⟨c, h⟩ | ⟨c, h⟩
      · replace w := w.1 c
        rcases h with ⟨c, h⟩ | ⟨c, h⟩
        · replace w := w.1 c
          obtain ⟨v9, e9, h⟩ := h
          replace w := w v9 e9 
          exact hk2 _ _ h w
        · replace w := w.2 c
          obtain ⟨p9, q9, z9, y3_, y4_, h⟩ := h
          obtain ⟨Q9, w0, w⟩ := w
          replace w := w p9 q9 (vpX7_breaks z9 w0) y3_ y4_
          rw [h.1, h.2]
          exact w
      · replace w := w.2 c
        replace h := h.2
        replace w := w.2
        obtain ⟨v9, e9, h⟩ := h
        replace w := w v9 e9 
        obtain ⟨v9, e9, h⟩ := h
        replace w := w v9 e9 
        replace h := h.2
        replace w := w.2
        obtain ⟨v9, e9, h⟩ := h
        replace w := w v9 e9 
        obtain ⟨y5_, h⟩ := h
        replace w := w y5_
        obtain ⟨p9, q9, z9, y6_, y7_, h⟩ := h
        obtain ⟨Q9, w0, w⟩ := w
        replace w := w p9 q9 (vpX7_isText z9 w0) y6_ y7_
        rcases h with ⟨c, h⟩ | ⟨c, h⟩
        · replace w := w.1 c
          exact vp_X7_codesHold_J110 (fun _ _ _ _ _ _ _ h w => ih m hk2 h w) h w
        · replace w := w.2 c
          obtain ⟨v9, e9, h⟩ := h
          replace w := w v9 e9 
          replace h := h.2
          replace w := w.2
          obtain ⟨v9, e9, y8_, y9_, h⟩ := h
          replace w := w v9 e9 y8_ y9_
          replace h := h.2
          replace w := w.2
          obtain ⟨v9, e9, y10_, y11_, h⟩ := h
          replace w := w v9 e9 y10_ y11_
          exact vp_X7_codesHold_J110 (fun _ _ _ _ _ _ _ h w => ih m hk2 h w) h w
set_option maxRecDepth 100000 in
theorem vw_X7_codesHold_L2 {ro : Int32} {uo : MS} : ∀ (n : Nat) {U2 : MS} {v2_1 : Int32}, v_X7_codesHold_L2 ro uo n U2 v2_1 → w_X7_codesHold_L2 (fun r u => r = ro ∧ u = uo) n U2 v2_1 := by
  intro n
  induction n with
  | zero => intro U2 v2_1 h; unfold v_X7_codesHold_L2 at h; exact h.elim
  | succ n ih =>
    intro U2 v2_1 h
    unfold v_X7_codesHold_L2 at h
    unfold w_X7_codesHold_L2
    intro _
    replace h := h.2
    rcases h with ⟨c, h⟩ | ⟨c, h⟩
    · refine ⟨fun _ => ?_, fun c2 => absurd c c2⟩
      exact ⟨h.1.symm, h.2.symm⟩
    · refine ⟨fun c2 => absurd c2 c, fun _ => ?_⟩
      rcases h with ⟨c, h⟩ | ⟨c, h⟩
      · refine ⟨fun _ => ?_, fun c2 => absurd c c2⟩
        exact ⟨h.1.symm, h.2.symm⟩
      · refine ⟨fun c2 => absurd c2 c, fun _ => ?_⟩
        obtain ⟨g9, h⟩ := h
        refine ⟨g9, ?_⟩
        obtain ⟨v9, e9, h⟩ := h
        intro x9 d9 
        have c9 : v9 = x9 := e9.trans d9.symm
        subst c9
        obtain ⟨g9, h⟩ := h
        refine ⟨g9, ?_⟩
        obtain ⟨v9, e9, h⟩ := h
        intro x9 d9 
        have c9 : v9 = x9 := e9.trans d9.symm
        subst c9
        obtain ⟨v9, e9, h⟩ := h
        intro x9 d9 
        have c9 : v9 = x9 := e9.trans d9.symm
        subst c9
        obtain ⟨n9, h⟩ := h
        exact ⟨n9, vw_X7_codesHold_L51 n9 (fun _ _ h => ih h) h⟩
set_option maxRecDepth 100000 in
theorem vp_X7_codesHold_L2 {ro : Int32} {uo : MS} {P : Int32 → MS → Prop} : ∀ (n m : Nat) {U2 : MS} {v2_1 : Int32}, v_X7_codesHold_L2 ro uo n U2 v2_1 → w_X7_codesHold_L2 P m U2 v2_1 → P ro uo := by
  intro n
  induction n with
  | zero => intro m U2 v2_1 h; unfold v_X7_codesHold_L2 at h; exact h.elim
  | succ n ih =>
    intro m U2 v2_1 h w
    cases m with
    | zero => unfold w_X7_codesHold_L2 at w; exact w.elim
    | succ m =>
      unfold v_X7_codesHold_L2 at h
      unfold w_X7_codesHold_L2 at w
      obtain ⟨y12_, h⟩ := h
      replace w := w y12_
      rcases h with ⟨c, h⟩ | ⟨c, h⟩
      · replace w := w.1 c
        rw [h.1, h.2]
        exact w
      · replace w := w.2 c
        rcases h with ⟨c, h⟩ | ⟨c, h⟩
        · replace w := w.1 c
          rw [h.1, h.2]
          exact w
        · replace w := w.2 c
          replace h := h.2
          replace w := w.2
          obtain ⟨v9, e9, h⟩ := h
          replace w := w v9 e9 
          replace h := h.2
          replace w := w.2
          obtain ⟨v9, e9, h⟩ := h
          replace w := w v9 e9 
          obtain ⟨v9, e9, h⟩ := h
          replace w := w v9 e9 
          obtain ⟨n9, h⟩ := h
          obtain ⟨n8, w⟩ := w
          exact vp_X7_codesHold_L51 n9 n8 (fun _ _ h w => ih m h w) h w
set_option maxRecDepth 100000 in
theorem vwX7_codesHold {S : MS} {ro : Int32} {uo : MS} (h : vX7_codesHold S ro uo) : wX7_codesHold S (fun r u => r = ro ∧ u = uo) := by
  unfold vX7_codesHold at h
  unfold wX7_codesHold
  obtain ⟨n9, h⟩ := h
  exact ⟨n9, vw_X7_codesHold_L2 n9 h⟩
set_option maxRecDepth 100000 in
theorem vpX7_codesHold {S : MS} {ro : Int32} {uo : MS} {P : Int32 → MS → Prop} (h : vX7_codesHold S ro uo) (w : wX7_codesHold S P) : P ro uo := by
  unfold vX7_codesHold at h
  unfold wX7_codesHold at w
  obtain ⟨n9, h⟩ := h
  obtain ⟨n8, w⟩ := w
  exact vp_X7_codesHold_L2 n9 n8 h w
def vX8_init (S : MS) (p0 : Nat) (x1 : Int32) (x2 : Int32) (x3 : Int32) (uo : MS) : Prop := (((0 : Int) ≤ x1.toInt ∧ (qn S + 1 ≤ KCC ∧ qu S + x1.toInt.toNat ≤ KSC)) ∧ (∃ S4 : MS, S4 = wN S 222 x1.toInt.toNat x1.toInt.toNat ∧ wfC S4 ∧ (((qn S) = p0 + 1) ∧ (∃ S7 : MS, S7 = wR S4 p0 0 (some (qn S)) ∧ qT S4 p0 = 47 ∧ wfC S7 ∧ (((0 : Int) ≤ x1.toInt ∧ (qn S7 + 1 ≤ KCC ∧ qu S7 + x1.toInt.toNat ≤ KSC)) ∧ (∃ S11 : MS, S11 = wN S7 406 x1.toInt.toNat x1.toInt.toNat ∧ wfC S11 ∧ (((qn S7) = p0 + 2) ∧ (∃ S14 : MS, S14 = wR S11 p0 1 (some (qn S7)) ∧ qT S11 p0 = 47 ∧ wfC S14 ∧ (((0 : Int) ≤ x2.toInt ∧ (qn S14 + 1 ≤ KCC ∧ qu S14 + x2.toInt.toNat ≤ KSC)) ∧ (∃ S18 : MS, S18 = wN S14 223 x2.toInt.toNat x2.toInt.toNat ∧ wfC S18 ∧ (((qn S14) = p0 + 3) ∧ (∃ S21 : MS, S21 = wR S18 p0 3 (some (qn S14)) ∧ qT S18 p0 = 47 ∧ wfC S21 ∧ (((0 : Int) ≤ x3.toInt ∧ (qn S21 + 1 ≤ KCC ∧ qu S21 + x3.toInt.toNat ≤ KSC)) ∧ (∃ S25 : MS, S25 = wN S21 224 x3.toInt.toNat x3.toInt.toNat ∧ wfC S25 ∧ (((qn S21) = p0 + 4) ∧ (∃ S28 : MS, S28 = wR S25 p0 5 (some (qn S21)) ∧ qT S25 p0 = 47 ∧ wfC S28 ∧ (((0 : Int) ≤ x3.toInt ∧ (qn S28 + 1 ≤ KCC ∧ qu S28 + x3.toInt.toNat ≤ KSC)) ∧ (∃ S32 : MS, S32 = wN S28 225 x3.toInt.toNat x3.toInt.toNat ∧ wfC S32 ∧ (((qn S28) = p0 + 5) ∧ (∃ S35 : MS, S35 = wR S32 p0 6 (some (qn S28)) ∧ qT S32 p0 = 47 ∧ wfC S35 ∧ (((0 : Int) ≤ x3.toInt ∧ (qn S35 + 1 ≤ KCC ∧ qu S35 + x3.toInt.toNat ≤ KSC)) ∧ (∃ S39 : MS, S39 = wN S35 226 x3.toInt.toNat x3.toInt.toNat ∧ wfC S39 ∧ (((qn S35) = p0 + 6) ∧ (∃ S42 : MS, S42 = wR S39 p0 7 (some (qn S35)) ∧ qT S39 p0 = 47 ∧ wfC S42 ∧ (((0 : Int) ≤ x3.toInt ∧ (qn S42 + 1 ≤ KCC ∧ qu S42 + x3.toInt.toNat ≤ KSC)) ∧ (∃ S46 : MS, S46 = wN S42 227 x3.toInt.toNat x3.toInt.toNat ∧ wfC S46 ∧ (((qn S42) = p0 + 7) ∧ (∃ S49 : MS, S49 = wR S46 p0 8 (some (qn S42)) ∧ qT S46 p0 = 47 ∧ wfC S49 ∧ (uo = S49)))))))))))))))))))))))))))))
set_option maxRecDepth 100000 in
theorem ruX8_init {S : MS} {p0 : Nat} {x1 : Int32} {x2 : Int32} {x3 : Int32} {Q : MS → Prop} (h : wX8_init S p0 x1 x2 x3 Q) : wX8_init S p0 x1 x2 x3 (fun u => Q u ∧ vX8_init S p0 x1 x2 x3 u) := by
  have i0 : Unit := ()
  have K : ∀ (i : Unit) (uo : MS), vX8_init S p0 x1 x2 x3 uo → vX8_init S p0 x1 x2 x3 uo := fun _ _ z => z
  unfold wX8_init at h ⊢
  obtain ⟨g1_, h⟩ := h
  refine ⟨g1_, ?_⟩
  replace K := fun i uo z => K i uo ⟨g1_, z⟩
  intro S4 eS4 y2_
  replace h := h S4 eS4 y2_
  replace K := fun i uo z => K i uo ⟨S4, eS4, y2_, z⟩
  obtain ⟨g3_, h⟩ := h
  refine ⟨g3_, ?_⟩
  replace K := fun i uo z => K i uo ⟨g3_, z⟩
  intro S7 eS7 y4_ y5_
  replace h := h S7 eS7 y4_ y5_
  replace K := fun i uo z => K i uo ⟨S7, eS7, y4_, y5_, z⟩
  obtain ⟨g6_, h⟩ := h
  refine ⟨g6_, ?_⟩
  replace K := fun i uo z => K i uo ⟨g6_, z⟩
  intro S11 eS11 y7_
  replace h := h S11 eS11 y7_
  replace K := fun i uo z => K i uo ⟨S11, eS11, y7_, z⟩
  obtain ⟨g8_, h⟩ := h
  refine ⟨g8_, ?_⟩
  replace K := fun i uo z => K i uo ⟨g8_, z⟩
  intro S14 eS14 y9_ y10_
  replace h := h S14 eS14 y9_ y10_
  replace K := fun i uo z => K i uo ⟨S14, eS14, y9_, y10_, z⟩
  obtain ⟨g11_, h⟩ := h
  refine ⟨g11_, ?_⟩
  replace K := fun i uo z => K i uo ⟨g11_, z⟩
  intro S18 eS18 y12_
  replace h := h S18 eS18 y12_
  replace K := fun i uo z => K i uo ⟨S18, eS18, y12_, z⟩
  obtain ⟨g13_, h⟩ := h
  refine ⟨g13_, ?_⟩
  replace K := fun i uo z => K i uo ⟨g13_, z⟩
  intro S21 eS21 y14_ y15_
  replace h := h S21 eS21 y14_ y15_
  replace K := fun i uo z => K i uo ⟨S21, eS21, y14_, y15_, z⟩
  obtain ⟨g16_, h⟩ := h
  refine ⟨g16_, ?_⟩
  replace K := fun i uo z => K i uo ⟨g16_, z⟩
  intro S25 eS25 y17_
  replace h := h S25 eS25 y17_
  replace K := fun i uo z => K i uo ⟨S25, eS25, y17_, z⟩
  obtain ⟨g18_, h⟩ := h
  refine ⟨g18_, ?_⟩
  replace K := fun i uo z => K i uo ⟨g18_, z⟩
  intro S28 eS28 y19_ y20_
  replace h := h S28 eS28 y19_ y20_
  replace K := fun i uo z => K i uo ⟨S28, eS28, y19_, y20_, z⟩
  obtain ⟨g21_, h⟩ := h
  refine ⟨g21_, ?_⟩
  replace K := fun i uo z => K i uo ⟨g21_, z⟩
  intro S32 eS32 y22_
  replace h := h S32 eS32 y22_
  replace K := fun i uo z => K i uo ⟨S32, eS32, y22_, z⟩
  obtain ⟨g23_, h⟩ := h
  refine ⟨g23_, ?_⟩
  replace K := fun i uo z => K i uo ⟨g23_, z⟩
  intro S35 eS35 y24_ y25_
  replace h := h S35 eS35 y24_ y25_
  replace K := fun i uo z => K i uo ⟨S35, eS35, y24_, y25_, z⟩
  obtain ⟨g26_, h⟩ := h
  refine ⟨g26_, ?_⟩
  replace K := fun i uo z => K i uo ⟨g26_, z⟩
  intro S39 eS39 y27_
  replace h := h S39 eS39 y27_
  replace K := fun i uo z => K i uo ⟨S39, eS39, y27_, z⟩
  obtain ⟨g28_, h⟩ := h
  refine ⟨g28_, ?_⟩
  replace K := fun i uo z => K i uo ⟨g28_, z⟩
  intro S42 eS42 y29_ y30_
  replace h := h S42 eS42 y29_ y30_
  replace K := fun i uo z => K i uo ⟨S42, eS42, y29_, y30_, z⟩
  obtain ⟨g31_, h⟩ := h
  refine ⟨g31_, ?_⟩
  replace K := fun i uo z => K i uo ⟨g31_, z⟩
  intro S46 eS46 y32_
  replace h := h S46 eS46 y32_
  replace K := fun i uo z => K i uo ⟨S46, eS46, y32_, z⟩
  obtain ⟨g33_, h⟩ := h
  refine ⟨g33_, ?_⟩
  replace K := fun i uo z => K i uo ⟨g33_, z⟩
  intro S49 eS49 y34_ y35_
  replace h := h S49 eS49 y34_ y35_
  replace K := fun i uo z => K i uo ⟨S49, eS49, y34_, y35_, z⟩
  exact ⟨h, K i0 _ rfl⟩
set_option maxRecDepth 100000 in
theorem vwX8_init {S : MS} {p0 : Nat} {x1 : Int32} {x2 : Int32} {x3 : Int32} {uo : MS} (h : vX8_init S p0 x1 x2 x3 uo) : wX8_init S p0 x1 x2 x3 (fun u => u = uo) := by
  unfold vX8_init at h
  unfold wX8_init
  obtain ⟨g9, h⟩ := h
  refine ⟨g9, ?_⟩
  obtain ⟨v9, e9, h⟩ := h
  intro x9 d9 _
  have c9 : v9 = x9 := e9.trans d9.symm
  subst c9
  replace h := h.2
  obtain ⟨g9, h⟩ := h
  refine ⟨g9, ?_⟩
  obtain ⟨v9, e9, h⟩ := h
  intro x9 d9 _ _
  have c9 : v9 = x9 := e9.trans d9.symm
  subst c9
  replace h := h.2.2
  obtain ⟨g9, h⟩ := h
  refine ⟨g9, ?_⟩
  obtain ⟨v9, e9, h⟩ := h
  intro x9 d9 _
  have c9 : v9 = x9 := e9.trans d9.symm
  subst c9
  replace h := h.2
  obtain ⟨g9, h⟩ := h
  refine ⟨g9, ?_⟩
  obtain ⟨v9, e9, h⟩ := h
  intro x9 d9 _ _
  have c9 : v9 = x9 := e9.trans d9.symm
  subst c9
  replace h := h.2.2
  obtain ⟨g9, h⟩ := h
  refine ⟨g9, ?_⟩
  obtain ⟨v9, e9, h⟩ := h
  intro x9 d9 _
  have c9 : v9 = x9 := e9.trans d9.symm
  subst c9
  replace h := h.2
  obtain ⟨g9, h⟩ := h
  refine ⟨g9, ?_⟩
  obtain ⟨v9, e9, h⟩ := h
  intro x9 d9 _ _
  have c9 : v9 = x9 := e9.trans d9.symm
  subst c9
  replace h := h.2.2
  obtain ⟨g9, h⟩ := h
  refine ⟨g9, ?_⟩
  obtain ⟨v9, e9, h⟩ := h
  intro x9 d9 _
  have c9 : v9 = x9 := e9.trans d9.symm
  subst c9
  replace h := h.2
  obtain ⟨g9, h⟩ := h
  refine ⟨g9, ?_⟩
  obtain ⟨v9, e9, h⟩ := h
  intro x9 d9 _ _
  have c9 : v9 = x9 := e9.trans d9.symm
  subst c9
  replace h := h.2.2
  obtain ⟨g9, h⟩ := h
  refine ⟨g9, ?_⟩
  obtain ⟨v9, e9, h⟩ := h
  intro x9 d9 _
  have c9 : v9 = x9 := e9.trans d9.symm
  subst c9
  replace h := h.2
  obtain ⟨g9, h⟩ := h
  refine ⟨g9, ?_⟩
  obtain ⟨v9, e9, h⟩ := h
  intro x9 d9 _ _
  have c9 : v9 = x9 := e9.trans d9.symm
  subst c9
  replace h := h.2.2
  obtain ⟨g9, h⟩ := h
  refine ⟨g9, ?_⟩
  obtain ⟨v9, e9, h⟩ := h
  intro x9 d9 _
  have c9 : v9 = x9 := e9.trans d9.symm
  subst c9
  replace h := h.2
  obtain ⟨g9, h⟩ := h
  refine ⟨g9, ?_⟩
  obtain ⟨v9, e9, h⟩ := h
  intro x9 d9 _ _
  have c9 : v9 = x9 := e9.trans d9.symm
  subst c9
  replace h := h.2.2
  obtain ⟨g9, h⟩ := h
  refine ⟨g9, ?_⟩
  obtain ⟨v9, e9, h⟩ := h
  intro x9 d9 _
  have c9 : v9 = x9 := e9.trans d9.symm
  subst c9
  replace h := h.2
  obtain ⟨g9, h⟩ := h
  refine ⟨g9, ?_⟩
  obtain ⟨v9, e9, h⟩ := h
  intro x9 d9 _ _
  have c9 : v9 = x9 := e9.trans d9.symm
  subst c9
  replace h := h.2.2
  exact h.symm
set_option maxRecDepth 100000 in
theorem vpX8_init {S : MS} {p0 : Nat} {x1 : Int32} {x2 : Int32} {x3 : Int32} {uo : MS} {P : MS → Prop} (h : vX8_init S p0 x1 x2 x3 uo) (w : wX8_init S p0 x1 x2 x3 P) : P uo := by
  unfold vX8_init at h
  unfold wX8_init at w
  replace h := h.2
  replace w := w.2
  obtain ⟨v9, e9, y1_, h⟩ := h
  replace w := w v9 e9 y1_
  replace h := h.2
  replace w := w.2
  obtain ⟨v9, e9, y2_, y3_, h⟩ := h
  replace w := w v9 e9 y2_ y3_
  replace h := h.2
  replace w := w.2
  obtain ⟨v9, e9, y4_, h⟩ := h
  replace w := w v9 e9 y4_
  replace h := h.2
  replace w := w.2
  obtain ⟨v9, e9, y5_, y6_, h⟩ := h
  replace w := w v9 e9 y5_ y6_
  replace h := h.2
  replace w := w.2
  obtain ⟨v9, e9, y7_, h⟩ := h
  replace w := w v9 e9 y7_
  replace h := h.2
  replace w := w.2
  obtain ⟨v9, e9, y8_, y9_, h⟩ := h
  replace w := w v9 e9 y8_ y9_
  replace h := h.2
  replace w := w.2
  obtain ⟨v9, e9, y10_, h⟩ := h
  replace w := w v9 e9 y10_
  replace h := h.2
  replace w := w.2
  obtain ⟨v9, e9, y11_, y12_, h⟩ := h
  replace w := w v9 e9 y11_ y12_
  replace h := h.2
  replace w := w.2
  obtain ⟨v9, e9, y13_, h⟩ := h
  replace w := w v9 e9 y13_
  replace h := h.2
  replace w := w.2
  obtain ⟨v9, e9, y14_, y15_, h⟩ := h
  replace w := w v9 e9 y14_ y15_
  replace h := h.2
  replace w := w.2
  obtain ⟨v9, e9, y16_, h⟩ := h
  replace w := w v9 e9 y16_
  replace h := h.2
  replace w := w.2
  obtain ⟨v9, e9, y17_, y18_, h⟩ := h
  replace w := w v9 e9 y17_ y18_
  replace h := h.2
  replace w := w.2
  obtain ⟨v9, e9, y19_, h⟩ := h
  replace w := w v9 e9 y19_
  replace h := h.2
  replace w := w.2
  obtain ⟨v9, e9, y20_, y21_, h⟩ := h
  replace w := w v9 e9 y20_ y21_
  rw [h]
  exact w
def vX8_set (S : MS) (p0 : Nat) (x1 : Int32) (x2 : Int32) (y3 : Int64) (uo : MS) : Prop := ((x1.toInt < 0 ∧ (uo = S)) ∨ (¬ x1.toInt < 0 ∧ ((qR S p0 0 = some (qO S p0 0)) ∧ (((qN S (qO S p0 0) : Int) ≤ x1.toInt ∧ (uo = S)) ∨ (¬ (qN S (qO S p0 0) : Int) ≤ x1.toInt ∧ ((qR S p0 0 = some (qO S p0 0)) ∧ (((0 : Int) ≤ x1.toInt ∧ x1.toInt < (qN S (qO S p0 0) : Int)) ∧ (∃ S9 : MS, S9 = wI S (qO S p0 0) x1.toInt.toNat x2 ∧ qT S (qO S p0 0) = 222 ∧ wfC S9 ∧ ((qR S9 p0 1 = some (qO S9 p0 1)) ∧ (((0 : Int) ≤ x1.toInt ∧ x1.toInt < (qN S9 (qO S9 p0 1) : Int)) ∧ (∃ S13 : MS, S13 = wJ S9 (qO S9 p0 1) x1.toInt.toNat y3 ∧ qT S9 (qO S9 p0 1) = 406 ∧ wfC S13 ∧ (uo = S13))))))))))))
set_option maxRecDepth 100000 in
theorem ruX8_set {S : MS} {p0 : Nat} {x1 : Int32} {x2 : Int32} {y3 : Int64} {Q : MS → Prop} (h : wX8_set S p0 x1 x2 y3 Q) : wX8_set S p0 x1 x2 y3 (fun u => Q u ∧ vX8_set S p0 x1 x2 y3 u) := by
  have i0 : Unit := ()
  have K : ∀ (i : Unit) (uo : MS), vX8_set S p0 x1 x2 y3 uo → vX8_set S p0 x1 x2 y3 uo := fun _ _ z => z
  unfold wX8_set at h ⊢
  refine ⟨fun c => ?_, fun c => ?_⟩
  · replace h := h.1 c
    replace K := fun i uo z => K i uo (Or.inl ⟨c, z⟩)
    exact ⟨h, K i0 _ rfl⟩
  · replace h := h.2 c
    replace K := fun i uo z => K i uo (Or.inr ⟨c, z⟩)
    obtain ⟨g1_, h⟩ := h
    refine ⟨g1_, ?_⟩
    replace K := fun i uo z => K i uo ⟨g1_, z⟩
    refine ⟨fun c => ?_, fun c => ?_⟩
    · replace h := h.1 c
      replace K := fun i uo z => K i uo (Or.inl ⟨c, z⟩)
      exact ⟨h, K i0 _ rfl⟩
    · replace h := h.2 c
      replace K := fun i uo z => K i uo (Or.inr ⟨c, z⟩)
      obtain ⟨g2_, h⟩ := h
      refine ⟨g2_, ?_⟩
      replace K := fun i uo z => K i uo ⟨g2_, z⟩
      obtain ⟨g3_, h⟩ := h
      refine ⟨g3_, ?_⟩
      replace K := fun i uo z => K i uo ⟨g3_, z⟩
      intro S9 eS9 y4_ y5_
      replace h := h S9 eS9 y4_ y5_
      replace K := fun i uo z => K i uo ⟨S9, eS9, y4_, y5_, z⟩
      obtain ⟨g6_, h⟩ := h
      refine ⟨g6_, ?_⟩
      replace K := fun i uo z => K i uo ⟨g6_, z⟩
      obtain ⟨g7_, h⟩ := h
      refine ⟨g7_, ?_⟩
      replace K := fun i uo z => K i uo ⟨g7_, z⟩
      intro S13 eS13 y8_ y9_
      replace h := h S13 eS13 y8_ y9_
      replace K := fun i uo z => K i uo ⟨S13, eS13, y8_, y9_, z⟩
      exact ⟨h, K i0 _ rfl⟩
set_option maxRecDepth 100000 in
theorem vwX8_set {S : MS} {p0 : Nat} {x1 : Int32} {x2 : Int32} {y3 : Int64} {uo : MS} (h : vX8_set S p0 x1 x2 y3 uo) : wX8_set S p0 x1 x2 y3 (fun u => u = uo) := by
  unfold vX8_set at h
  unfold wX8_set
  rcases h with ⟨c, h⟩ | ⟨c, h⟩
  · refine ⟨fun _ => ?_, fun c2 => absurd c c2⟩
    exact h.symm
  · refine ⟨fun c2 => absurd c2 c, fun _ => ?_⟩
    obtain ⟨g9, h⟩ := h
    refine ⟨g9, ?_⟩
    rcases h with ⟨c, h⟩ | ⟨c, h⟩
    · refine ⟨fun _ => ?_, fun c2 => absurd c c2⟩
      exact h.symm
    · refine ⟨fun c2 => absurd c2 c, fun _ => ?_⟩
      obtain ⟨g9, h⟩ := h
      refine ⟨g9, ?_⟩
      obtain ⟨g9, h⟩ := h
      refine ⟨g9, ?_⟩
      obtain ⟨v9, e9, h⟩ := h
      intro x9 d9 _ _
      have c9 : v9 = x9 := e9.trans d9.symm
      subst c9
      replace h := h.2.2
      obtain ⟨g9, h⟩ := h
      refine ⟨g9, ?_⟩
      obtain ⟨g9, h⟩ := h
      refine ⟨g9, ?_⟩
      obtain ⟨v9, e9, h⟩ := h
      intro x9 d9 _ _
      have c9 : v9 = x9 := e9.trans d9.symm
      subst c9
      replace h := h.2.2
      exact h.symm
set_option maxRecDepth 100000 in
theorem vpX8_set {S : MS} {p0 : Nat} {x1 : Int32} {x2 : Int32} {y3 : Int64} {uo : MS} {P : MS → Prop} (h : vX8_set S p0 x1 x2 y3 uo) (w : wX8_set S p0 x1 x2 y3 P) : P uo := by
  unfold vX8_set at h
  unfold wX8_set at w
  rcases h with ⟨c, h⟩ | ⟨c, h⟩
  · replace w := w.1 c
    rw [h]
    exact w
  · replace w := w.2 c
    replace h := h.2
    replace w := w.2
    rcases h with ⟨c, h⟩ | ⟨c, h⟩
    · replace w := w.1 c
      rw [h]
      exact w
    · replace w := w.2 c
      replace h := h.2
      replace w := w.2
      replace h := h.2
      replace w := w.2
      obtain ⟨v9, e9, y1_, y2_, h⟩ := h
      replace w := w v9 e9 y1_ y2_
      replace h := h.2
      replace w := w.2
      replace h := h.2
      replace w := w.2
      obtain ⟨v9, e9, y3_, y4_, h⟩ := h
      replace w := w v9 e9 y3_ y4_
      rw [h]
      exact w
def vX8_add (S : MS) (p0 : Nat) (x1 : Int32) (y2 : Int64) (uo : MS) : Prop := ((qR S p0 0 = some (qO S p0 0)) ∧ (((qN S (qO S p0 0) : Int) ≤ (qI S p0 2).toInt ∧ (uo = S)) ∨ (¬ (qN S (qO S p0 0) : Int) ≤ (qI S p0 2).toInt ∧ (qT S p0 = 47 ∧ (∃ (S6 : MS), vX8_set S p0 (qI S p0 2) x1 y2 S6 ∧ wfC S6 ∧ shy S S6 ∧ (∃ S9 : MS, S9 = wI S6 p0 2 ((qI S6 p0 2) + (1 : Int32)) ∧ qT S6 p0 = 47 ∧ wfC S9 ∧ (uo = S9)))))))
set_option maxRecDepth 100000 in
theorem ruX8_add {S : MS} {p0 : Nat} {x1 : Int32} {y2 : Int64} {Q : MS → Prop} (h : wX8_add S p0 x1 y2 Q) : wX8_add S p0 x1 y2 (fun u => Q u ∧ vX8_add S p0 x1 y2 u) := by
  have i0 : Unit := ()
  have K : ∀ (i : Unit) (uo : MS), vX8_add S p0 x1 y2 uo → vX8_add S p0 x1 y2 uo := fun _ _ z => z
  unfold wX8_add at h ⊢
  obtain ⟨g1_, h⟩ := h
  refine ⟨g1_, ?_⟩
  replace K := fun i uo z => K i uo ⟨g1_, z⟩
  refine ⟨fun c => ?_, fun c => ?_⟩
  · replace h := h.1 c
    replace K := fun i uo z => K i uo (Or.inl ⟨c, z⟩)
    exact ⟨h, K i0 _ rfl⟩
  · replace h := h.2 c
    replace K := fun i uo z => K i uo (Or.inr ⟨c, z⟩)
    intro y2_
    replace h := h y2_
    replace K := fun i uo z => K i uo ⟨y2_, z⟩
    obtain ⟨Q9, h0, h⟩ := h
    refine ⟨_, ruX8_set h0, ?_⟩
    intro S6 q3_ y4_ y5_
    replace h := h S6 q3_.1 y4_ y5_
    replace K := fun i uo z => K i uo ⟨S6, q3_.2, y4_, y5_, z⟩
    intro S9 eS9 y6_ y7_
    replace h := h S9 eS9 y6_ y7_
    replace K := fun i uo z => K i uo ⟨S9, eS9, y6_, y7_, z⟩
    exact ⟨h, K i0 _ rfl⟩
set_option maxRecDepth 100000 in
theorem vwX8_add {S : MS} {p0 : Nat} {x1 : Int32} {y2 : Int64} {uo : MS} (h : vX8_add S p0 x1 y2 uo) : wX8_add S p0 x1 y2 (fun u => u = uo) := by
  unfold vX8_add at h
  unfold wX8_add
  obtain ⟨g9, h⟩ := h
  refine ⟨g9, ?_⟩
  rcases h with ⟨c, h⟩ | ⟨c, h⟩
  · refine ⟨fun _ => ?_, fun c2 => absurd c c2⟩
    exact h.symm
  · refine ⟨fun c2 => absurd c2 c, fun _ => ?_⟩
    intro _
    replace h := h.2
    obtain ⟨q9, z9, h⟩ := h
    refine ⟨_, vwX8_set z9, ?_⟩
    intro q8 d9 _ _
    subst d9
    replace h := h.2.2
    obtain ⟨v9, e9, h⟩ := h
    intro x9 d9 _ _
    have c9 : v9 = x9 := e9.trans d9.symm
    subst c9
    replace h := h.2.2
    exact h.symm
set_option maxRecDepth 100000 in
theorem vpX8_add {S : MS} {p0 : Nat} {x1 : Int32} {y2 : Int64} {uo : MS} {P : MS → Prop} (h : vX8_add S p0 x1 y2 uo) (w : wX8_add S p0 x1 y2 P) : P uo := by
  unfold vX8_add at h
  unfold wX8_add at w
  replace h := h.2
  replace w := w.2
  rcases h with ⟨c, h⟩ | ⟨c, h⟩
  · replace w := w.1 c
    rw [h]
    exact w
  · replace w := w.2 c
    obtain ⟨y1_, h⟩ := h
    replace w := w y1_
    obtain ⟨q9, z9, y2_, y3_, h⟩ := h
    obtain ⟨Q9, w0, w⟩ := w
    replace w := w q9 (vpX8_set z9 w0) y2_ y3_
    obtain ⟨v9, e9, y4_, y5_, h⟩ := h
    replace w := w v9 e9 y4_ y5_
    rw [h]
    exact w
def vX8_addToTable (S : MS) (p0 : Nat) (x1 : Int32) (uo : MS) : Prop := ((qR S p0 3 = some (qO S p0 3)) ∧ (((qN S (qO S p0 3) : Int) ≤ (qI S p0 4).toInt ∧ (uo = S)) ∨ (¬ (qN S (qO S p0 3) : Int) ≤ (qI S p0 4).toInt ∧ ((qR S p0 3 = some (qO S p0 3)) ∧ (((0 : Int) ≤ (qI S p0 4).toInt ∧ (qI S p0 4).toInt < (qN S (qO S p0 3) : Int)) ∧ (∃ S8 : MS, S8 = wI S (qO S p0 3) (((qI S p0 4).toInt).toNat) x1 ∧ qT S (qO S p0 3) = 223 ∧ wfC S8 ∧ (∃ S10 : MS, S10 = wI S8 p0 4 ((qI S8 p0 4) + (1 : Int32)) ∧ qT S8 p0 = 47 ∧ wfC S10 ∧ (uo = S10))))))))
set_option maxRecDepth 100000 in
theorem ruX8_addToTable {S : MS} {p0 : Nat} {x1 : Int32} {Q : MS → Prop} (h : wX8_addToTable S p0 x1 Q) : wX8_addToTable S p0 x1 (fun u => Q u ∧ vX8_addToTable S p0 x1 u) := by
  have i0 : Unit := ()
  have K : ∀ (i : Unit) (uo : MS), vX8_addToTable S p0 x1 uo → vX8_addToTable S p0 x1 uo := fun _ _ z => z
  unfold wX8_addToTable at h ⊢
  obtain ⟨g1_, h⟩ := h
  refine ⟨g1_, ?_⟩
  replace K := fun i uo z => K i uo ⟨g1_, z⟩
  refine ⟨fun c => ?_, fun c => ?_⟩
  · replace h := h.1 c
    replace K := fun i uo z => K i uo (Or.inl ⟨c, z⟩)
    exact ⟨h, K i0 _ rfl⟩
  · replace h := h.2 c
    replace K := fun i uo z => K i uo (Or.inr ⟨c, z⟩)
    obtain ⟨g2_, h⟩ := h
    refine ⟨g2_, ?_⟩
    replace K := fun i uo z => K i uo ⟨g2_, z⟩
    obtain ⟨g3_, h⟩ := h
    refine ⟨g3_, ?_⟩
    replace K := fun i uo z => K i uo ⟨g3_, z⟩
    intro S8 eS8 y4_ y5_
    replace h := h S8 eS8 y4_ y5_
    replace K := fun i uo z => K i uo ⟨S8, eS8, y4_, y5_, z⟩
    intro S10 eS10 y6_ y7_
    replace h := h S10 eS10 y6_ y7_
    replace K := fun i uo z => K i uo ⟨S10, eS10, y6_, y7_, z⟩
    exact ⟨h, K i0 _ rfl⟩
set_option maxRecDepth 100000 in
theorem vwX8_addToTable {S : MS} {p0 : Nat} {x1 : Int32} {uo : MS} (h : vX8_addToTable S p0 x1 uo) : wX8_addToTable S p0 x1 (fun u => u = uo) := by
  unfold vX8_addToTable at h
  unfold wX8_addToTable
  obtain ⟨g9, h⟩ := h
  refine ⟨g9, ?_⟩
  rcases h with ⟨c, h⟩ | ⟨c, h⟩
  · refine ⟨fun _ => ?_, fun c2 => absurd c c2⟩
    exact h.symm
  · refine ⟨fun c2 => absurd c2 c, fun _ => ?_⟩
    obtain ⟨g9, h⟩ := h
    refine ⟨g9, ?_⟩
    obtain ⟨g9, h⟩ := h
    refine ⟨g9, ?_⟩
    obtain ⟨v9, e9, h⟩ := h
    intro x9 d9 _ _
    have c9 : v9 = x9 := e9.trans d9.symm
    subst c9
    replace h := h.2.2
    obtain ⟨v9, e9, h⟩ := h
    intro x9 d9 _ _
    have c9 : v9 = x9 := e9.trans d9.symm
    subst c9
    replace h := h.2.2
    exact h.symm
set_option maxRecDepth 100000 in
theorem vpX8_addToTable {S : MS} {p0 : Nat} {x1 : Int32} {uo : MS} {P : MS → Prop} (h : vX8_addToTable S p0 x1 uo) (w : wX8_addToTable S p0 x1 P) : P uo := by
  unfold vX8_addToTable at h
  unfold wX8_addToTable at w
  replace h := h.2
  replace w := w.2
  rcases h with ⟨c, h⟩ | ⟨c, h⟩
  · replace w := w.1 c
    rw [h]
    exact w
  · replace w := w.2 c
    replace h := h.2
    replace w := w.2
    replace h := h.2
    replace w := w.2
    obtain ⟨v9, e9, y1_, y2_, h⟩ := h
    replace w := w v9 e9 y1_ y2_
    obtain ⟨v9, e9, y3_, y4_, h⟩ := h
    replace w := w v9 e9 y3_ y4_
    rw [h]
    exact w
def vX8_addCatch (S : MS) (p0 : Nat) (x1 : Int32) (x2 : Int32) (x3 : Int32) (x4 : Int32) (uo : MS) : Prop := ((qR S p0 5 = some (qO S p0 5)) ∧ (((qN S (qO S p0 5) : Int) ≤ (qI S p0 9).toInt ∧ (uo = S)) ∨ (¬ (qN S (qO S p0 5) : Int) ≤ (qI S p0 9).toInt ∧ ((qR S p0 5 = some (qO S p0 5)) ∧ (((0 : Int) ≤ (qI S p0 9).toInt ∧ (qI S p0 9).toInt < (qN S (qO S p0 5) : Int)) ∧ (∃ S8 : MS, S8 = wI S (qO S p0 5) (((qI S p0 9).toInt).toNat) x1 ∧ qT S (qO S p0 5) = 224 ∧ wfC S8 ∧ ((qR S8 p0 6 = some (qO S8 p0 6)) ∧ (((0 : Int) ≤ (qI S8 p0 9).toInt ∧ (qI S8 p0 9).toInt < (qN S8 (qO S8 p0 6) : Int)) ∧ (∃ S12 : MS, S12 = wI S8 (qO S8 p0 6) (((qI S8 p0 9).toInt).toNat) x2 ∧ qT S8 (qO S8 p0 6) = 225 ∧ wfC S12 ∧ ((qR S12 p0 7 = some (qO S12 p0 7)) ∧ (((0 : Int) ≤ (qI S12 p0 9).toInt ∧ (qI S12 p0 9).toInt < (qN S12 (qO S12 p0 7) : Int)) ∧ (∃ S16 : MS, S16 = wI S12 (qO S12 p0 7) (((qI S12 p0 9).toInt).toNat) x3 ∧ qT S12 (qO S12 p0 7) = 226 ∧ wfC S16 ∧ ((qR S16 p0 8 = some (qO S16 p0 8)) ∧ (((0 : Int) ≤ (qI S16 p0 9).toInt ∧ (qI S16 p0 9).toInt < (qN S16 (qO S16 p0 8) : Int)) ∧ (∃ S20 : MS, S20 = wI S16 (qO S16 p0 8) (((qI S16 p0 9).toInt).toNat) x4 ∧ qT S16 (qO S16 p0 8) = 227 ∧ wfC S20 ∧ (∃ S22 : MS, S22 = wI S20 p0 9 ((qI S20 p0 9) + (1 : Int32)) ∧ qT S20 p0 = 47 ∧ wfC S22 ∧ (uo = S22)))))))))))))))))
set_option maxRecDepth 100000 in
theorem ruX8_addCatch {S : MS} {p0 : Nat} {x1 : Int32} {x2 : Int32} {x3 : Int32} {x4 : Int32} {Q : MS → Prop} (h : wX8_addCatch S p0 x1 x2 x3 x4 Q) : wX8_addCatch S p0 x1 x2 x3 x4 (fun u => Q u ∧ vX8_addCatch S p0 x1 x2 x3 x4 u) := by
  have i0 : Unit := ()
  have K : ∀ (i : Unit) (uo : MS), vX8_addCatch S p0 x1 x2 x3 x4 uo → vX8_addCatch S p0 x1 x2 x3 x4 uo := fun _ _ z => z
  unfold wX8_addCatch at h ⊢
  obtain ⟨g1_, h⟩ := h
  refine ⟨g1_, ?_⟩
  replace K := fun i uo z => K i uo ⟨g1_, z⟩
  refine ⟨fun c => ?_, fun c => ?_⟩
  · replace h := h.1 c
    replace K := fun i uo z => K i uo (Or.inl ⟨c, z⟩)
    exact ⟨h, K i0 _ rfl⟩
  · replace h := h.2 c
    replace K := fun i uo z => K i uo (Or.inr ⟨c, z⟩)
    obtain ⟨g2_, h⟩ := h
    refine ⟨g2_, ?_⟩
    replace K := fun i uo z => K i uo ⟨g2_, z⟩
    obtain ⟨g3_, h⟩ := h
    refine ⟨g3_, ?_⟩
    replace K := fun i uo z => K i uo ⟨g3_, z⟩
    intro S8 eS8 y4_ y5_
    replace h := h S8 eS8 y4_ y5_
    replace K := fun i uo z => K i uo ⟨S8, eS8, y4_, y5_, z⟩
    obtain ⟨g6_, h⟩ := h
    refine ⟨g6_, ?_⟩
    replace K := fun i uo z => K i uo ⟨g6_, z⟩
    obtain ⟨g7_, h⟩ := h
    refine ⟨g7_, ?_⟩
    replace K := fun i uo z => K i uo ⟨g7_, z⟩
    intro S12 eS12 y8_ y9_
    replace h := h S12 eS12 y8_ y9_
    replace K := fun i uo z => K i uo ⟨S12, eS12, y8_, y9_, z⟩
    obtain ⟨g10_, h⟩ := h
    refine ⟨g10_, ?_⟩
    replace K := fun i uo z => K i uo ⟨g10_, z⟩
    obtain ⟨g11_, h⟩ := h
    refine ⟨g11_, ?_⟩
    replace K := fun i uo z => K i uo ⟨g11_, z⟩
    intro S16 eS16 y12_ y13_
    replace h := h S16 eS16 y12_ y13_
    replace K := fun i uo z => K i uo ⟨S16, eS16, y12_, y13_, z⟩
    obtain ⟨g14_, h⟩ := h
    refine ⟨g14_, ?_⟩
    replace K := fun i uo z => K i uo ⟨g14_, z⟩
    obtain ⟨g15_, h⟩ := h
    refine ⟨g15_, ?_⟩
    replace K := fun i uo z => K i uo ⟨g15_, z⟩
    intro S20 eS20 y16_ y17_
    replace h := h S20 eS20 y16_ y17_
    replace K := fun i uo z => K i uo ⟨S20, eS20, y16_, y17_, z⟩
    intro S22 eS22 y18_ y19_
    replace h := h S22 eS22 y18_ y19_
    replace K := fun i uo z => K i uo ⟨S22, eS22, y18_, y19_, z⟩
    exact ⟨h, K i0 _ rfl⟩
set_option maxRecDepth 100000 in
theorem vwX8_addCatch {S : MS} {p0 : Nat} {x1 : Int32} {x2 : Int32} {x3 : Int32} {x4 : Int32} {uo : MS} (h : vX8_addCatch S p0 x1 x2 x3 x4 uo) : wX8_addCatch S p0 x1 x2 x3 x4 (fun u => u = uo) := by
  unfold vX8_addCatch at h
  unfold wX8_addCatch
  obtain ⟨g9, h⟩ := h
  refine ⟨g9, ?_⟩
  rcases h with ⟨c, h⟩ | ⟨c, h⟩
  · refine ⟨fun _ => ?_, fun c2 => absurd c c2⟩
    exact h.symm
  · refine ⟨fun c2 => absurd c2 c, fun _ => ?_⟩
    obtain ⟨g9, h⟩ := h
    refine ⟨g9, ?_⟩
    obtain ⟨g9, h⟩ := h
    refine ⟨g9, ?_⟩
    obtain ⟨v9, e9, h⟩ := h
    intro x9 d9 _ _
    have c9 : v9 = x9 := e9.trans d9.symm
    subst c9
    replace h := h.2.2
    obtain ⟨g9, h⟩ := h
    refine ⟨g9, ?_⟩
    obtain ⟨g9, h⟩ := h
    refine ⟨g9, ?_⟩
    obtain ⟨v9, e9, h⟩ := h
    intro x9 d9 _ _
    have c9 : v9 = x9 := e9.trans d9.symm
    subst c9
    replace h := h.2.2
    obtain ⟨g9, h⟩ := h
    refine ⟨g9, ?_⟩
    obtain ⟨g9, h⟩ := h
    refine ⟨g9, ?_⟩
    obtain ⟨v9, e9, h⟩ := h
    intro x9 d9 _ _
    have c9 : v9 = x9 := e9.trans d9.symm
    subst c9
    replace h := h.2.2
    obtain ⟨g9, h⟩ := h
    refine ⟨g9, ?_⟩
    obtain ⟨g9, h⟩ := h
    refine ⟨g9, ?_⟩
    obtain ⟨v9, e9, h⟩ := h
    intro x9 d9 _ _
    have c9 : v9 = x9 := e9.trans d9.symm
    subst c9
    replace h := h.2.2
    obtain ⟨v9, e9, h⟩ := h
    intro x9 d9 _ _
    have c9 : v9 = x9 := e9.trans d9.symm
    subst c9
    replace h := h.2.2
    exact h.symm
set_option maxRecDepth 100000 in
theorem vpX8_addCatch {S : MS} {p0 : Nat} {x1 : Int32} {x2 : Int32} {x3 : Int32} {x4 : Int32} {uo : MS} {P : MS → Prop} (h : vX8_addCatch S p0 x1 x2 x3 x4 uo) (w : wX8_addCatch S p0 x1 x2 x3 x4 P) : P uo := by
  unfold vX8_addCatch at h
  unfold wX8_addCatch at w
  replace h := h.2
  replace w := w.2
  rcases h with ⟨c, h⟩ | ⟨c, h⟩
  · replace w := w.1 c
    rw [h]
    exact w
  · replace w := w.2 c
    replace h := h.2
    replace w := w.2
    replace h := h.2
    replace w := w.2
    obtain ⟨v9, e9, y1_, y2_, h⟩ := h
    replace w := w v9 e9 y1_ y2_
    replace h := h.2
    replace w := w.2
    replace h := h.2
    replace w := w.2
    obtain ⟨v9, e9, y3_, y4_, h⟩ := h
    replace w := w v9 e9 y3_ y4_
    replace h := h.2
    replace w := w.2
    replace h := h.2
    replace w := w.2
    obtain ⟨v9, e9, y5_, y6_, h⟩ := h
    replace w := w v9 e9 y5_ y6_
    replace h := h.2
    replace w := w.2
    replace h := h.2
    replace w := w.2
    obtain ⟨v9, e9, y7_, y8_, h⟩ := h
    replace w := w v9 e9 y7_ y8_
    obtain ⟨v9, e9, y9_, y10_, h⟩ := h
    replace w := w v9 e9 y9_ y10_
    rw [h]
    exact w
def vX8_setTarget (S : MS) (p0 : Nat) (x1 : Int32) (x2 : Int32) (x3 : Int32) (uo : MS) : Prop := (d_X8_opAt S p0 x1 ∧ (∃ a4 : Int32, a4 = (fX8_opAt S p0 x1) ∧ (d_X6_isJump S a4 ∧ (∃ a8 : Int32, a8 = (fX6_isJump S a4) ∧ ((a8.toInt = 0 ∧ (d_X8_argAt S p0 x1 ∧ (∃ a13 : Int64, a13 = (fX8_argAt S p0 x1) ∧ (∃ a16 : Int32, a16 = (((a13.toInt32) + (2 : Int32)) + x2) ∧ ((a16.toInt < 0 ∧ (uo = S)) ∨ (¬ a16.toInt < 0 ∧ (((qI S p0 4).toInt ≤ a16.toInt ∧ (uo = S)) ∨ (¬ (qI S p0 4).toInt ≤ a16.toInt ∧ ((qR S p0 3 = some (qO S p0 3)) ∧ (((0 : Int) ≤ a16.toInt ∧ a16.toInt < (qN S (qO S p0 3) : Int)) ∧ (∃ S22 : MS, S22 = wI S (qO S p0 3) a16.toInt.toNat x3 ∧ qT S (qO S p0 3) = 223 ∧ wfC S22 ∧ (uo = S22)))))))))))) ∨ (¬ a8.toInt = 0 ∧ (d_X8_opAt S p0 x1 ∧ (∃ a26 : Int32, a26 = (fX8_opAt S p0 x1) ∧ (qT S p0 = 47 ∧ (∃ (S28 : MS), vX8_set S p0 x1 a26 (x3.toInt64) S28 ∧ wfC S28 ∧ shy S S28 ∧ (uo = S28)))))))))))
set_option maxRecDepth 100000 in
theorem ruX8_setTarget {S : MS} {p0 : Nat} {x1 : Int32} {x2 : Int32} {x3 : Int32} {Q : MS → Prop} (h : wX8_setTarget S p0 x1 x2 x3 Q) : wX8_setTarget S p0 x1 x2 x3 (fun u => Q u ∧ vX8_setTarget S p0 x1 x2 x3 u) := by
  have i0 : Unit := ()
  have K : ∀ (i : Unit) (uo : MS), vX8_setTarget S p0 x1 x2 x3 uo → vX8_setTarget S p0 x1 x2 x3 uo := fun _ _ z => z
  unfold wX8_setTarget at h ⊢
  obtain ⟨g1_, h⟩ := h
  refine ⟨g1_, ?_⟩
  replace K := fun i uo z => K i uo ⟨g1_, z⟩
  intro a4 ea4 
  replace h := h a4 ea4 
  replace K := fun i uo z => K i uo ⟨a4, ea4, z⟩
  obtain ⟨g2_, h⟩ := h
  refine ⟨g2_, ?_⟩
  replace K := fun i uo z => K i uo ⟨g2_, z⟩
  intro a8 ea8 
  replace h := h a8 ea8 
  replace K := fun i uo z => K i uo ⟨a8, ea8, z⟩
  refine ⟨fun c => ?_, fun c => ?_⟩
  · replace h := h.1 c
    replace K := fun i uo z => K i uo (Or.inl ⟨c, z⟩)
    obtain ⟨g3_, h⟩ := h
    refine ⟨g3_, ?_⟩
    replace K := fun i uo z => K i uo ⟨g3_, z⟩
    intro a13 ea13 
    replace h := h a13 ea13 
    replace K := fun i uo z => K i uo ⟨a13, ea13, z⟩
    intro a16 ea16 
    replace h := h a16 ea16 
    replace K := fun i uo z => K i uo ⟨a16, ea16, z⟩
    refine ⟨fun c => ?_, fun c => ?_⟩
    · replace h := h.1 c
      replace K := fun i uo z => K i uo (Or.inl ⟨c, z⟩)
      exact ⟨h, K i0 _ rfl⟩
    · replace h := h.2 c
      replace K := fun i uo z => K i uo (Or.inr ⟨c, z⟩)
      refine ⟨fun c => ?_, fun c => ?_⟩
      · replace h := h.1 c
        replace K := fun i uo z => K i uo (Or.inl ⟨c, z⟩)
        exact ⟨h, K i0 _ rfl⟩
      · replace h := h.2 c
        replace K := fun i uo z => K i uo (Or.inr ⟨c, z⟩)
        obtain ⟨g4_, h⟩ := h
        refine ⟨g4_, ?_⟩
        replace K := fun i uo z => K i uo ⟨g4_, z⟩
        obtain ⟨g5_, h⟩ := h
        refine ⟨g5_, ?_⟩
        replace K := fun i uo z => K i uo ⟨g5_, z⟩
        intro S22 eS22 y6_ y7_
        replace h := h S22 eS22 y6_ y7_
        replace K := fun i uo z => K i uo ⟨S22, eS22, y6_, y7_, z⟩
        exact ⟨h, K i0 _ rfl⟩
  · replace h := h.2 c
    replace K := fun i uo z => K i uo (Or.inr ⟨c, z⟩)
    obtain ⟨g8_, h⟩ := h
    refine ⟨g8_, ?_⟩
    replace K := fun i uo z => K i uo ⟨g8_, z⟩
    intro a26 ea26 
    replace h := h a26 ea26 
    replace K := fun i uo z => K i uo ⟨a26, ea26, z⟩
    intro y9_
    replace h := h y9_
    replace K := fun i uo z => K i uo ⟨y9_, z⟩
    obtain ⟨Q9, h0, h⟩ := h
    refine ⟨_, ruX8_set h0, ?_⟩
    intro S28 q10_ y11_ y12_
    replace h := h S28 q10_.1 y11_ y12_
    replace K := fun i uo z => K i uo ⟨S28, q10_.2, y11_, y12_, z⟩
    exact ⟨h, K i0 _ rfl⟩
set_option maxRecDepth 100000 in
theorem vwX8_setTarget {S : MS} {p0 : Nat} {x1 : Int32} {x2 : Int32} {x3 : Int32} {uo : MS} (h : vX8_setTarget S p0 x1 x2 x3 uo) : wX8_setTarget S p0 x1 x2 x3 (fun u => u = uo) := by
  unfold vX8_setTarget at h
  unfold wX8_setTarget
  obtain ⟨g9, h⟩ := h
  refine ⟨g9, ?_⟩
  obtain ⟨v9, e9, h⟩ := h
  intro x9 d9 
  have c9 : v9 = x9 := e9.trans d9.symm
  subst c9
  obtain ⟨g9, h⟩ := h
  refine ⟨g9, ?_⟩
  obtain ⟨v9, e9, h⟩ := h
  intro x9 d9 
  have c9 : v9 = x9 := e9.trans d9.symm
  subst c9
  rcases h with ⟨c, h⟩ | ⟨c, h⟩
  · refine ⟨fun _ => ?_, fun c2 => absurd c c2⟩
    obtain ⟨g9, h⟩ := h
    refine ⟨g9, ?_⟩
    obtain ⟨v9, e9, h⟩ := h
    intro x9 d9 
    have c9 : v9 = x9 := e9.trans d9.symm
    subst c9
    obtain ⟨v9, e9, h⟩ := h
    intro x9 d9 
    have c9 : v9 = x9 := e9.trans d9.symm
    subst c9
    rcases h with ⟨c, h⟩ | ⟨c, h⟩
    · refine ⟨fun _ => ?_, fun c2 => absurd c c2⟩
      exact h.symm
    · refine ⟨fun c2 => absurd c2 c, fun _ => ?_⟩
      rcases h with ⟨c, h⟩ | ⟨c, h⟩
      · refine ⟨fun _ => ?_, fun c2 => absurd c c2⟩
        exact h.symm
      · refine ⟨fun c2 => absurd c2 c, fun _ => ?_⟩
        obtain ⟨g9, h⟩ := h
        refine ⟨g9, ?_⟩
        obtain ⟨g9, h⟩ := h
        refine ⟨g9, ?_⟩
        obtain ⟨v9, e9, h⟩ := h
        intro x9 d9 _ _
        have c9 : v9 = x9 := e9.trans d9.symm
        subst c9
        replace h := h.2.2
        exact h.symm
  · refine ⟨fun c2 => absurd c2 c, fun _ => ?_⟩
    obtain ⟨g9, h⟩ := h
    refine ⟨g9, ?_⟩
    obtain ⟨v9, e9, h⟩ := h
    intro x9 d9 
    have c9 : v9 = x9 := e9.trans d9.symm
    subst c9
    intro _
    replace h := h.2
    obtain ⟨q9, z9, h⟩ := h
    refine ⟨_, vwX8_set z9, ?_⟩
    intro q8 d9 _ _
    subst d9
    replace h := h.2.2
    exact h.symm
set_option maxRecDepth 100000 in
theorem vpX8_setTarget {S : MS} {p0 : Nat} {x1 : Int32} {x2 : Int32} {x3 : Int32} {uo : MS} {P : MS → Prop} (h : vX8_setTarget S p0 x1 x2 x3 uo) (w : wX8_setTarget S p0 x1 x2 x3 P) : P uo := by
  unfold vX8_setTarget at h
  unfold wX8_setTarget at w
  replace h := h.2
  replace w := w.2
  obtain ⟨v9, e9, h⟩ := h
  replace w := w v9 e9 
  replace h := h.2
  replace w := w.2
  obtain ⟨v9, e9, h⟩ := h
  replace w := w v9 e9 
  rcases h with ⟨c, h⟩ | ⟨c, h⟩
  · replace w := w.1 c
    replace h := h.2
    replace w := w.2
    obtain ⟨v9, e9, h⟩ := h
    replace w := w v9 e9 
    obtain ⟨v9, e9, h⟩ := h
    replace w := w v9 e9 
    rcases h with ⟨c, h⟩ | ⟨c, h⟩
    · replace w := w.1 c
      rw [h]
      exact w
    · replace w := w.2 c
      rcases h with ⟨c, h⟩ | ⟨c, h⟩
      · replace w := w.1 c
        rw [h]
        exact w
      · replace w := w.2 c
        replace h := h.2
        replace w := w.2
        replace h := h.2
        replace w := w.2
        obtain ⟨v9, e9, y1_, y2_, h⟩ := h
        replace w := w v9 e9 y1_ y2_
        rw [h]
        exact w
  · replace w := w.2 c
    replace h := h.2
    replace w := w.2
    obtain ⟨v9, e9, h⟩ := h
    replace w := w v9 e9 
    obtain ⟨y3_, h⟩ := h
    replace w := w y3_
    obtain ⟨q9, z9, y4_, y5_, h⟩ := h
    obtain ⟨Q9, w0, w⟩ := w
    replace w := w q9 (vpX8_set z9 w0) y4_ y5_
    rw [h]
    exact w
def v_X8_isCaught_L2 (ro : Int32) (uo : MS) : Nat → MS → Nat → Int32 → Int32 → Prop
  | 0, _, _, _, _ => False
  | n2 + 1, U2, v2_0, v2_1, v2_2 => (wfC U2 ∧ qT U2 v2_0 = 47 ∧ (((qI U2 v2_0 9).toInt ≤ v2_2.toInt ∧ (ro = (0 : Int32) ∧ uo = U2)) ∨ (¬ (qI U2 v2_0 9).toInt ≤ v2_2.toInt ∧ (d_X8_catchHas U2 v2_0 v2_2 v2_1 ∧ (((fX8_catchHas U2 v2_0 v2_2 v2_1).toInt = 0 ∧ (∃ a6 : Int32, a6 = (v2_2 + Int32.ofInt 1) ∧ ((v_X8_isCaught_L2 ro uo n2) U2 v2_0 v2_1 a6))) ∨ (¬ (fX8_catchHas U2 v2_0 v2_2 v2_1).toInt = 0 ∧ (ro = (1 : Int32) ∧ uo = U2)))))))
def vX8_isCaught (S : MS) (p0 : Nat) (x1 : Int32) (ro : Int32) (uo : MS) : Prop := (∃ n, v_X8_isCaught_L2 ro uo n S p0 x1 0)
set_option maxRecDepth 100000 in
theorem ru_X8_isCaught_L2 {ι : Type} {P Q : Int32 → MS → Prop} : ∀ (n : Nat) {U2 : MS} {v2_0 : Nat} {v2_1 : Int32} {v2_2 : Int32} (i0 : ι), (∀ (i : ι) (ro : Int32) (uo : MS), (∃ n8, v_X8_isCaught_L2 ro uo n8 U2 v2_0 v2_1 v2_2) → P ro uo) → w_X8_isCaught_L2 Q n U2 v2_0 v2_1 v2_2 → w_X8_isCaught_L2 (fun r u => Q r u ∧ P r u) n U2 v2_0 v2_1 v2_2 := by
  intro n
  induction n with
  | zero => intro U2 v2_0 v2_1 v2_2 i0 K h; unfold w_X8_isCaught_L2 at h; exact h.elim
  | succ n ih =>
    intro U2 v2_0 v2_1 v2_2 i0 K h
    unfold w_X8_isCaught_L2 at h ⊢
    replace K := fun (i : ι × Nat) ro uo (z : v_X8_isCaught_L2 ro uo (i.2 + 1) U2 v2_0 v2_1 v2_2) => K i.1 ro uo ⟨i.2 + 1, z⟩
    have i00 := i0
    replace i0 : ι × Nat := (i0, 0)
    intro y1_ y2_
    replace h := h y1_ y2_
    replace K := fun i ro uo z => K i ro uo ⟨y1_, y2_, z⟩
    refine ⟨fun c => ?_, fun c => ?_⟩
    · replace h := h.1 c
      replace K := fun i ro uo z => K i ro uo (Or.inl ⟨c, z⟩)
      exact ⟨h, K i0 _ _ ⟨rfl, rfl⟩⟩
    · replace h := h.2 c
      replace K := fun i ro uo z => K i ro uo (Or.inr ⟨c, z⟩)
      obtain ⟨g3_, h⟩ := h
      refine ⟨g3_, ?_⟩
      replace K := fun i ro uo z => K i ro uo ⟨g3_, z⟩
      refine ⟨fun c => ?_, fun c => ?_⟩
      · replace h := h.1 c
        replace K := fun i ro uo z => K i ro uo (Or.inl ⟨c, z⟩)
        intro a6 ea6 
        replace h := h a6 ea6 
        replace K := fun i ro uo z => K i ro uo ⟨a6, ea6, z⟩
        exact ih i00 (fun i ro uo ⟨n8, z⟩ => K (i, n8) ro uo z) h
      · replace h := h.2 c
        replace K := fun i ro uo z => K i ro uo (Or.inr ⟨c, z⟩)
        exact ⟨h, K i0 _ _ ⟨rfl, rfl⟩⟩
set_option maxRecDepth 100000 in
theorem ruX8_isCaught {S : MS} {p0 : Nat} {x1 : Int32} {Q : Int32 → MS → Prop} (h : wX8_isCaught S p0 x1 Q) : wX8_isCaught S p0 x1 (fun r u => Q r u ∧ vX8_isCaught S p0 x1 r u) := by
  have i0 : Unit := ()
  have K : ∀ (i : Unit) (ro : Int32) (uo : MS), vX8_isCaught S p0 x1 ro uo → vX8_isCaught S p0 x1 ro uo := fun _ _ _ z => z
  unfold wX8_isCaught at h ⊢
  obtain ⟨n9, h⟩ := h
  exact ⟨n9, ru_X8_isCaught_L2 n9 i0 K h⟩
set_option maxRecDepth 100000 in
theorem vw_X8_isCaught_L2 {ro : Int32} {uo : MS} : ∀ (n : Nat) {U2 : MS} {v2_0 : Nat} {v2_1 : Int32} {v2_2 : Int32}, v_X8_isCaught_L2 ro uo n U2 v2_0 v2_1 v2_2 → w_X8_isCaught_L2 (fun r u => r = ro ∧ u = uo) n U2 v2_0 v2_1 v2_2 := by
  intro n
  induction n with
  | zero => intro U2 v2_0 v2_1 v2_2 h; unfold v_X8_isCaught_L2 at h; exact h.elim
  | succ n ih =>
    intro U2 v2_0 v2_1 v2_2 h
    unfold v_X8_isCaught_L2 at h
    unfold w_X8_isCaught_L2
    intro _ _
    replace h := h.2.2
    rcases h with ⟨c, h⟩ | ⟨c, h⟩
    · refine ⟨fun _ => ?_, fun c2 => absurd c c2⟩
      exact ⟨h.1.symm, h.2.symm⟩
    · refine ⟨fun c2 => absurd c2 c, fun _ => ?_⟩
      obtain ⟨g9, h⟩ := h
      refine ⟨g9, ?_⟩
      rcases h with ⟨c, h⟩ | ⟨c, h⟩
      · refine ⟨fun _ => ?_, fun c2 => absurd c c2⟩
        obtain ⟨v9, e9, h⟩ := h
        intro x9 d9 
        have c9 : v9 = x9 := e9.trans d9.symm
        subst c9
        exact ih h
      · refine ⟨fun c2 => absurd c2 c, fun _ => ?_⟩
        exact ⟨h.1.symm, h.2.symm⟩
set_option maxRecDepth 100000 in
theorem vp_X8_isCaught_L2 {ro : Int32} {uo : MS} {P : Int32 → MS → Prop} : ∀ (n m : Nat) {U2 : MS} {v2_0 : Nat} {v2_1 : Int32} {v2_2 : Int32}, v_X8_isCaught_L2 ro uo n U2 v2_0 v2_1 v2_2 → w_X8_isCaught_L2 P m U2 v2_0 v2_1 v2_2 → P ro uo := by
  intro n
  induction n with
  | zero => intro m U2 v2_0 v2_1 v2_2 h; unfold v_X8_isCaught_L2 at h; exact h.elim
  | succ n ih =>
    intro m U2 v2_0 v2_1 v2_2 h w
    cases m with
    | zero => unfold w_X8_isCaught_L2 at w; exact w.elim
    | succ m =>
      unfold v_X8_isCaught_L2 at h
      unfold w_X8_isCaught_L2 at w
      obtain ⟨y1_, y2_, h⟩ := h
      replace w := w y1_ y2_
      rcases h with ⟨c, h⟩ | ⟨c, h⟩
      · replace w := w.1 c
        rw [h.1, h.2]
        exact w
      · replace w := w.2 c
        replace h := h.2
        replace w := w.2
        rcases h with ⟨c, h⟩ | ⟨c, h⟩
        · replace w := w.1 c
          obtain ⟨v9, e9, h⟩ := h
          replace w := w v9 e9 
          exact ih m h w
        · replace w := w.2 c
          rw [h.1, h.2]
          exact w
set_option maxRecDepth 100000 in
theorem vwX8_isCaught {S : MS} {p0 : Nat} {x1 : Int32} {ro : Int32} {uo : MS} (h : vX8_isCaught S p0 x1 ro uo) : wX8_isCaught S p0 x1 (fun r u => r = ro ∧ u = uo) := by
  unfold vX8_isCaught at h
  unfold wX8_isCaught
  obtain ⟨n9, h⟩ := h
  exact ⟨n9, vw_X8_isCaught_L2 n9 h⟩
set_option maxRecDepth 100000 in
theorem vpX8_isCaught {S : MS} {p0 : Nat} {x1 : Int32} {ro : Int32} {uo : MS} {P : Int32 → MS → Prop} (h : vX8_isCaught S p0 x1 ro uo) (w : wX8_isCaught S p0 x1 P) : P ro uo := by
  unfold vX8_isCaught at h
  unfold wX8_isCaught at w
  obtain ⟨n9, h⟩ := h
  obtain ⟨n8, w⟩ := w
  exact vp_X8_isCaught_L2 n9 n8 h w
def v_X8_copyFrom_L83 (uo : MS) : Nat → MS → Nat → Nat → Int32 → Prop
  | 0, _, _, _, _ => False
  | n83 + 1, U83, v83_0, v83_1, v83_2 => (wfC U83 ∧ qT U83 v83_0 = 47 ∧ qT U83 v83_1 = 47 ∧ (((qI U83 v83_1 9).toInt ≤ v83_2.toInt ∧ (uo = U83)) ∨ (¬ (qI U83 v83_1 9).toInt ≤ v83_2.toInt ∧ ((qR U83 v83_1 5 = some (qO U83 v83_1 5)) ∧ (((0 : Int) ≤ v83_2.toInt ∧ v83_2.toInt < (qN U83 (qO U83 v83_1 5) : Int)) ∧ ((qR U83 v83_1 6 = some (qO U83 v83_1 6)) ∧ (((0 : Int) ≤ v83_2.toInt ∧ v83_2.toInt < (qN U83 (qO U83 v83_1 6) : Int)) ∧ ((qR U83 v83_1 7 = some (qO U83 v83_1 7)) ∧ (((0 : Int) ≤ v83_2.toInt ∧ v83_2.toInt < (qN U83 (qO U83 v83_1 7) : Int)) ∧ ((qR U83 v83_1 8 = some (qO U83 v83_1 8)) ∧ (((0 : Int) ≤ v83_2.toInt ∧ v83_2.toInt < (qN U83 (qO U83 v83_1 8) : Int)) ∧ (qT U83 v83_0 = 47 ∧ (∃ (S25 : MS), vX8_addCatch U83 v83_0 (qI U83 (qO U83 v83_1 5) v83_2.toInt.toNat) (qI U83 (qO U83 v83_1 6) v83_2.toInt.toNat) (qI U83 (qO U83 v83_1 7) v83_2.toInt.toNat) (qI U83 (qO U83 v83_1 8) v83_2.toInt.toNat) S25 ∧ wfC S25 ∧ shy U83 S25 ∧ (∃ a27 : Int32, a27 = (v83_2 + Int32.ofInt 1) ∧ ((v_X8_copyFrom_L83 uo n83) S25 v83_0 v83_1 a27)))))))))))))))
def v_X8_copyFrom_L52 (uo : MS) : Nat → MS → Nat → Nat → Int32 → Prop
  | 0, _, _, _, _ => False
  | n52 + 1, U52, v52_0, v52_1, v52_2 => (wfC U52 ∧ qT U52 v52_0 = 47 ∧ qT U52 v52_1 = 47 ∧ (((qI U52 v52_1 4).toInt ≤ v52_2.toInt ∧ (∃ S6 : MS, S6 = wI U52 v52_0 9 (0 : Int32) ∧ qT U52 v52_0 = 47 ∧ wfC S6 ∧ (∃ n, v_X8_copyFrom_L83 uo n S6 v52_0 v52_1 0))) ∨ (¬ (qI U52 v52_1 4).toInt ≤ v52_2.toInt ∧ ((qR U52 v52_1 3 = some (qO U52 v52_1 3)) ∧ (((0 : Int) ≤ v52_2.toInt ∧ v52_2.toInt < (qN U52 (qO U52 v52_1 3) : Int)) ∧ (qT U52 v52_0 = 47 ∧ (∃ (S33 : MS), vX8_addToTable U52 v52_0 (qI U52 (qO U52 v52_1 3) v52_2.toInt.toNat) S33 ∧ wfC S33 ∧ shy U52 S33 ∧ (∃ a35 : Int32, a35 = (v52_2 + Int32.ofInt 1) ∧ ((v_X8_copyFrom_L52 uo n52) S33 v52_0 v52_1 a35)))))))))
def v_X8_copyFrom_L15 (uo : MS) : Nat → MS → Nat → Nat → Int32 → Prop
  | 0, _, _, _, _ => False
  | n15 + 1, U15, v15_0, v15_1, v15_2 => (wfC U15 ∧ qT U15 v15_0 = 47 ∧ qT U15 v15_1 = 47 ∧ (((qI U15 v15_1 2).toInt ≤ v15_2.toInt ∧ (∃ S4 : MS, S4 = wI U15 v15_0 4 (0 : Int32) ∧ qT U15 v15_0 = 47 ∧ wfC S4 ∧ (∃ n, v_X8_copyFrom_L52 uo n S4 v15_0 v15_1 0))) ∨ (¬ (qI U15 v15_1 2).toInt ≤ v15_2.toInt ∧ ((qR U15 v15_1 0 = some (qO U15 v15_1 0)) ∧ (((0 : Int) ≤ v15_2.toInt ∧ v15_2.toInt < (qN U15 (qO U15 v15_1 0) : Int)) ∧ ((qR U15 v15_1 1 = some (qO U15 v15_1 1)) ∧ (((0 : Int) ≤ v15_2.toInt ∧ v15_2.toInt < (qN U15 (qO U15 v15_1 1) : Int)) ∧ (qT U15 v15_0 = 47 ∧ (∃ (S45 : MS), vX8_add U15 v15_0 (qI U15 (qO U15 v15_1 0) v15_2.toInt.toNat) (qJ U15 (qO U15 v15_1 1) v15_2.toInt.toNat) S45 ∧ wfC S45 ∧ shy U15 S45 ∧ (∃ a47 : Int32, a47 = (v15_2 + Int32.ofInt 1) ∧ ((v_X8_copyFrom_L15 uo n15) S45 v15_0 v15_1 a47)))))))))))
def vX8_copyFrom (S : MS) (p0 : Nat) (p1 : Nat) (uo : MS) : Prop := (∃ S1 : MS, S1 = wI S p0 11 (qI S p1 11) ∧ qT S p0 = 47 ∧ wfC S1 ∧ (∃ S2 : MS, S2 = wI S1 p0 2 (0 : Int32) ∧ qT S1 p0 = 47 ∧ wfC S2 ∧ (∃ n, v_X8_copyFrom_L15 uo n S2 p0 p1 0)))
set_option maxRecDepth 100000 in
theorem ru_X8_copyFrom_L83 {ι : Type} {P Q : MS → Prop} : ∀ (n : Nat) {U83 : MS} {v83_0 : Nat} {v83_1 : Nat} {v83_2 : Int32} (i0 : ι), (∀ (i : ι) (uo : MS), (∃ n8, v_X8_copyFrom_L83 uo n8 U83 v83_0 v83_1 v83_2) → P uo) → w_X8_copyFrom_L83 Q n U83 v83_0 v83_1 v83_2 → w_X8_copyFrom_L83 (fun u => Q u ∧ P u) n U83 v83_0 v83_1 v83_2 := by
  intro n
  induction n with
  | zero => intro U83 v83_0 v83_1 v83_2 i0 K h; unfold w_X8_copyFrom_L83 at h; exact h.elim
  | succ n ih =>
    intro U83 v83_0 v83_1 v83_2 i0 K h
    unfold w_X8_copyFrom_L83 at h ⊢
    replace K := fun (i : ι × Nat) uo (z : v_X8_copyFrom_L83 uo (i.2 + 1) U83 v83_0 v83_1 v83_2) => K i.1 uo ⟨i.2 + 1, z⟩
    have i00 := i0
    replace i0 : ι × Nat := (i0, 0)
    intro y1_ y2_ y3_
    replace h := h y1_ y2_ y3_
    replace K := fun i uo z => K i uo ⟨y1_, y2_, y3_, z⟩
    refine ⟨fun c => ?_, fun c => ?_⟩
    · replace h := h.1 c
      replace K := fun i uo z => K i uo (Or.inl ⟨c, z⟩)
      exact ⟨h, K i0 _ rfl⟩
    · replace h := h.2 c
      replace K := fun i uo z => K i uo (Or.inr ⟨c, z⟩)
      obtain ⟨g4_, h⟩ := h
      refine ⟨g4_, ?_⟩
      replace K := fun i uo z => K i uo ⟨g4_, z⟩
      obtain ⟨g5_, h⟩ := h
      refine ⟨g5_, ?_⟩
      replace K := fun i uo z => K i uo ⟨g5_, z⟩
      obtain ⟨g6_, h⟩ := h
      refine ⟨g6_, ?_⟩
      replace K := fun i uo z => K i uo ⟨g6_, z⟩
      obtain ⟨g7_, h⟩ := h
      refine ⟨g7_, ?_⟩
      replace K := fun i uo z => K i uo ⟨g7_, z⟩
      obtain ⟨g8_, h⟩ := h
      refine ⟨g8_, ?_⟩
      replace K := fun i uo z => K i uo ⟨g8_, z⟩
      obtain ⟨g9_, h⟩ := h
      refine ⟨g9_, ?_⟩
      replace K := fun i uo z => K i uo ⟨g9_, z⟩
      obtain ⟨g10_, h⟩ := h
      refine ⟨g10_, ?_⟩
      replace K := fun i uo z => K i uo ⟨g10_, z⟩
      obtain ⟨g11_, h⟩ := h
      refine ⟨g11_, ?_⟩
      replace K := fun i uo z => K i uo ⟨g11_, z⟩
      intro y12_
      replace h := h y12_
      replace K := fun i uo z => K i uo ⟨y12_, z⟩
      obtain ⟨Q9, h0, h⟩ := h
      refine ⟨_, ruX8_addCatch h0, ?_⟩
      intro S25 q13_ y14_ y15_
      replace h := h S25 q13_.1 y14_ y15_
      replace K := fun i uo z => K i uo ⟨S25, q13_.2, y14_, y15_, z⟩
      intro a27 ea27 
      replace h := h a27 ea27 
      replace K := fun i uo z => K i uo ⟨a27, ea27, z⟩
      exact ih i00 (fun i uo ⟨n8, z⟩ => K (i, n8) uo z) h
set_option maxRecDepth 100000 in
theorem ru_X8_copyFrom_L52 {ι : Type} {P Q : MS → Prop} : ∀ (n : Nat) {U52 : MS} {v52_0 : Nat} {v52_1 : Nat} {v52_2 : Int32} (i0 : ι), (∀ (i : ι) (uo : MS), (∃ n8, v_X8_copyFrom_L52 uo n8 U52 v52_0 v52_1 v52_2) → P uo) → w_X8_copyFrom_L52 Q n U52 v52_0 v52_1 v52_2 → w_X8_copyFrom_L52 (fun u => Q u ∧ P u) n U52 v52_0 v52_1 v52_2 := by
  intro n
  induction n with
  | zero => intro U52 v52_0 v52_1 v52_2 i0 K h; unfold w_X8_copyFrom_L52 at h; exact h.elim
  | succ n ih =>
    intro U52 v52_0 v52_1 v52_2 i0 K h
    unfold w_X8_copyFrom_L52 at h ⊢
    replace K := fun (i : ι × Nat) uo (z : v_X8_copyFrom_L52 uo (i.2 + 1) U52 v52_0 v52_1 v52_2) => K i.1 uo ⟨i.2 + 1, z⟩
    have i00 := i0
    replace i0 : ι × Nat := (i0, 0)
    intro y16_ y17_ y18_
    replace h := h y16_ y17_ y18_
    replace K := fun i uo z => K i uo ⟨y16_, y17_, y18_, z⟩
    refine ⟨fun c => ?_, fun c => ?_⟩
    · replace h := h.1 c
      replace K := fun i uo z => K i uo (Or.inl ⟨c, z⟩)
      intro S6 eS6 y19_ y20_
      replace h := h S6 eS6 y19_ y20_
      replace K := fun i uo z => K i uo ⟨S6, eS6, y19_, y20_, z⟩
      obtain ⟨n9, h⟩ := h
      exact ⟨n9, ru_X8_copyFrom_L83 n9 i0 K h⟩
    · replace h := h.2 c
      replace K := fun i uo z => K i uo (Or.inr ⟨c, z⟩)
      obtain ⟨g21_, h⟩ := h
      refine ⟨g21_, ?_⟩
      replace K := fun i uo z => K i uo ⟨g21_, z⟩
      obtain ⟨g22_, h⟩ := h
      refine ⟨g22_, ?_⟩
      replace K := fun i uo z => K i uo ⟨g22_, z⟩
      intro y23_
      replace h := h y23_
      replace K := fun i uo z => K i uo ⟨y23_, z⟩
      obtain ⟨Q9, h0, h⟩ := h
      refine ⟨_, ruX8_addToTable h0, ?_⟩
      intro S33 q24_ y25_ y26_
      replace h := h S33 q24_.1 y25_ y26_
      replace K := fun i uo z => K i uo ⟨S33, q24_.2, y25_, y26_, z⟩
      intro a35 ea35 
      replace h := h a35 ea35 
      replace K := fun i uo z => K i uo ⟨a35, ea35, z⟩
      exact ih i00 (fun i uo ⟨n8, z⟩ => K (i, n8) uo z) h
set_option maxRecDepth 100000 in
theorem ru_X8_copyFrom_L15 {ι : Type} {P Q : MS → Prop} : ∀ (n : Nat) {U15 : MS} {v15_0 : Nat} {v15_1 : Nat} {v15_2 : Int32} (i0 : ι), (∀ (i : ι) (uo : MS), (∃ n8, v_X8_copyFrom_L15 uo n8 U15 v15_0 v15_1 v15_2) → P uo) → w_X8_copyFrom_L15 Q n U15 v15_0 v15_1 v15_2 → w_X8_copyFrom_L15 (fun u => Q u ∧ P u) n U15 v15_0 v15_1 v15_2 := by
  intro n
  induction n with
  | zero => intro U15 v15_0 v15_1 v15_2 i0 K h; unfold w_X8_copyFrom_L15 at h; exact h.elim
  | succ n ih =>
    intro U15 v15_0 v15_1 v15_2 i0 K h
    unfold w_X8_copyFrom_L15 at h ⊢
    replace K := fun (i : ι × Nat) uo (z : v_X8_copyFrom_L15 uo (i.2 + 1) U15 v15_0 v15_1 v15_2) => K i.1 uo ⟨i.2 + 1, z⟩
    have i00 := i0
    replace i0 : ι × Nat := (i0, 0)
    intro y27_ y28_ y29_
    replace h := h y27_ y28_ y29_
    replace K := fun i uo z => K i uo ⟨y27_, y28_, y29_, z⟩
    refine ⟨fun c => ?_, fun c => ?_⟩
    · replace h := h.1 c
      replace K := fun i uo z => K i uo (Or.inl ⟨c, z⟩)
      intro S4 eS4 y30_ y31_
      replace h := h S4 eS4 y30_ y31_
      replace K := fun i uo z => K i uo ⟨S4, eS4, y30_, y31_, z⟩
      obtain ⟨n9, h⟩ := h
      exact ⟨n9, ru_X8_copyFrom_L52 n9 i0 K h⟩
    · replace h := h.2 c
      replace K := fun i uo z => K i uo (Or.inr ⟨c, z⟩)
      obtain ⟨g32_, h⟩ := h
      refine ⟨g32_, ?_⟩
      replace K := fun i uo z => K i uo ⟨g32_, z⟩
      obtain ⟨g33_, h⟩ := h
      refine ⟨g33_, ?_⟩
      replace K := fun i uo z => K i uo ⟨g33_, z⟩
      obtain ⟨g34_, h⟩ := h
      refine ⟨g34_, ?_⟩
      replace K := fun i uo z => K i uo ⟨g34_, z⟩
      obtain ⟨g35_, h⟩ := h
      refine ⟨g35_, ?_⟩
      replace K := fun i uo z => K i uo ⟨g35_, z⟩
      intro y36_
      replace h := h y36_
      replace K := fun i uo z => K i uo ⟨y36_, z⟩
      obtain ⟨Q9, h0, h⟩ := h
      refine ⟨_, ruX8_add h0, ?_⟩
      intro S45 q37_ y38_ y39_
      replace h := h S45 q37_.1 y38_ y39_
      replace K := fun i uo z => K i uo ⟨S45, q37_.2, y38_, y39_, z⟩
      intro a47 ea47 
      replace h := h a47 ea47 
      replace K := fun i uo z => K i uo ⟨a47, ea47, z⟩
      exact ih i00 (fun i uo ⟨n8, z⟩ => K (i, n8) uo z) h
set_option maxRecDepth 100000 in
theorem ruX8_copyFrom {S : MS} {p0 : Nat} {p1 : Nat} {Q : MS → Prop} (h : wX8_copyFrom S p0 p1 Q) : wX8_copyFrom S p0 p1 (fun u => Q u ∧ vX8_copyFrom S p0 p1 u) := by
  have i0 : Unit := ()
  have K : ∀ (i : Unit) (uo : MS), vX8_copyFrom S p0 p1 uo → vX8_copyFrom S p0 p1 uo := fun _ _ z => z
  unfold wX8_copyFrom at h ⊢
  intro S1 eS1 y40_ y41_
  replace h := h S1 eS1 y40_ y41_
  replace K := fun i uo z => K i uo ⟨S1, eS1, y40_, y41_, z⟩
  intro S2 eS2 y42_ y43_
  replace h := h S2 eS2 y42_ y43_
  replace K := fun i uo z => K i uo ⟨S2, eS2, y42_, y43_, z⟩
  obtain ⟨n9, h⟩ := h
  exact ⟨n9, ru_X8_copyFrom_L15 n9 i0 K h⟩
set_option maxRecDepth 100000 in
theorem vw_X8_copyFrom_L83 {uo : MS} : ∀ (n : Nat) {U83 : MS} {v83_0 : Nat} {v83_1 : Nat} {v83_2 : Int32}, v_X8_copyFrom_L83 uo n U83 v83_0 v83_1 v83_2 → w_X8_copyFrom_L83 (fun u => u = uo) n U83 v83_0 v83_1 v83_2 := by
  intro n
  induction n with
  | zero => intro U83 v83_0 v83_1 v83_2 h; unfold v_X8_copyFrom_L83 at h; exact h.elim
  | succ n ih =>
    intro U83 v83_0 v83_1 v83_2 h
    unfold v_X8_copyFrom_L83 at h
    unfold w_X8_copyFrom_L83
    intro _ _ _
    replace h := h.2.2.2
    rcases h with ⟨c, h⟩ | ⟨c, h⟩
    · refine ⟨fun _ => ?_, fun c2 => absurd c c2⟩
      exact h.symm
    · refine ⟨fun c2 => absurd c2 c, fun _ => ?_⟩
      obtain ⟨g9, h⟩ := h
      refine ⟨g9, ?_⟩
      obtain ⟨g9, h⟩ := h
      refine ⟨g9, ?_⟩
      obtain ⟨g9, h⟩ := h
      refine ⟨g9, ?_⟩
      obtain ⟨g9, h⟩ := h
      refine ⟨g9, ?_⟩
      obtain ⟨g9, h⟩ := h
      refine ⟨g9, ?_⟩
      obtain ⟨g9, h⟩ := h
      refine ⟨g9, ?_⟩
      obtain ⟨g9, h⟩ := h
      refine ⟨g9, ?_⟩
      obtain ⟨g9, h⟩ := h
      refine ⟨g9, ?_⟩
      intro _
      replace h := h.2
      obtain ⟨q9, z9, h⟩ := h
      refine ⟨_, vwX8_addCatch z9, ?_⟩
      intro q8 d9 _ _
      subst d9
      replace h := h.2.2
      obtain ⟨v9, e9, h⟩ := h
      intro x9 d9 
      have c9 : v9 = x9 := e9.trans d9.symm
      subst c9
      exact ih h
set_option maxRecDepth 100000 in
theorem vp_X8_copyFrom_L83 {uo : MS} {P : MS → Prop} : ∀ (n m : Nat) {U83 : MS} {v83_0 : Nat} {v83_1 : Nat} {v83_2 : Int32}, v_X8_copyFrom_L83 uo n U83 v83_0 v83_1 v83_2 → w_X8_copyFrom_L83 P m U83 v83_0 v83_1 v83_2 → P uo := by
  intro n
  induction n with
  | zero => intro m U83 v83_0 v83_1 v83_2 h; unfold v_X8_copyFrom_L83 at h; exact h.elim
  | succ n ih =>
    intro m U83 v83_0 v83_1 v83_2 h w
    cases m with
    | zero => unfold w_X8_copyFrom_L83 at w; exact w.elim
    | succ m =>
      unfold v_X8_copyFrom_L83 at h
      unfold w_X8_copyFrom_L83 at w
      obtain ⟨y1_, y2_, y3_, h⟩ := h
      replace w := w y1_ y2_ y3_
      rcases h with ⟨c, h⟩ | ⟨c, h⟩
      · replace w := w.1 c
        rw [h]
        exact w
      · replace w := w.2 c
        replace h := h.2
        replace w := w.2
        replace h := h.2
        replace w := w.2
        replace h := h.2
        replace w := w.2
        replace h := h.2
        replace w := w.2
        replace h := h.2
        replace w := w.2
        replace h := h.2
        replace w := w.2
        replace h := h.2
        replace w := w.2
        replace h := h.2
        replace w := w.2
        obtain ⟨y4_, h⟩ := h
        replace w := w y4_
        obtain ⟨q9, z9, y5_, y6_, h⟩ := h
        obtain ⟨Q9, w0, w⟩ := w
        replace w := w q9 (vpX8_addCatch z9 w0) y5_ y6_
        obtain ⟨v9, e9, h⟩ := h
        replace w := w v9 e9 
        exact ih m h w
set_option maxRecDepth 100000 in
theorem vw_X8_copyFrom_L52 {uo : MS} : ∀ (n : Nat) {U52 : MS} {v52_0 : Nat} {v52_1 : Nat} {v52_2 : Int32}, v_X8_copyFrom_L52 uo n U52 v52_0 v52_1 v52_2 → w_X8_copyFrom_L52 (fun u => u = uo) n U52 v52_0 v52_1 v52_2 := by
  intro n
  induction n with
  | zero => intro U52 v52_0 v52_1 v52_2 h; unfold v_X8_copyFrom_L52 at h; exact h.elim
  | succ n ih =>
    intro U52 v52_0 v52_1 v52_2 h
    unfold v_X8_copyFrom_L52 at h
    unfold w_X8_copyFrom_L52
    intro _ _ _
    replace h := h.2.2.2
    rcases h with ⟨c, h⟩ | ⟨c, h⟩
    · refine ⟨fun _ => ?_, fun c2 => absurd c c2⟩
      obtain ⟨v9, e9, h⟩ := h
      intro x9 d9 _ _
      have c9 : v9 = x9 := e9.trans d9.symm
      subst c9
      replace h := h.2.2
      obtain ⟨n9, h⟩ := h
      exact ⟨n9, vw_X8_copyFrom_L83 n9 h⟩
    · refine ⟨fun c2 => absurd c2 c, fun _ => ?_⟩
      obtain ⟨g9, h⟩ := h
      refine ⟨g9, ?_⟩
      obtain ⟨g9, h⟩ := h
      refine ⟨g9, ?_⟩
      intro _
      replace h := h.2
      obtain ⟨q9, z9, h⟩ := h
      refine ⟨_, vwX8_addToTable z9, ?_⟩
      intro q8 d9 _ _
      subst d9
      replace h := h.2.2
      obtain ⟨v9, e9, h⟩ := h
      intro x9 d9 
      have c9 : v9 = x9 := e9.trans d9.symm
      subst c9
      exact ih h
set_option maxRecDepth 100000 in
theorem vp_X8_copyFrom_L52 {uo : MS} {P : MS → Prop} : ∀ (n m : Nat) {U52 : MS} {v52_0 : Nat} {v52_1 : Nat} {v52_2 : Int32}, v_X8_copyFrom_L52 uo n U52 v52_0 v52_1 v52_2 → w_X8_copyFrom_L52 P m U52 v52_0 v52_1 v52_2 → P uo := by
  intro n
  induction n with
  | zero => intro m U52 v52_0 v52_1 v52_2 h; unfold v_X8_copyFrom_L52 at h; exact h.elim
  | succ n ih =>
    intro m U52 v52_0 v52_1 v52_2 h w
    cases m with
    | zero => unfold w_X8_copyFrom_L52 at w; exact w.elim
    | succ m =>
      unfold v_X8_copyFrom_L52 at h
      unfold w_X8_copyFrom_L52 at w
      obtain ⟨y7_, y8_, y9_, h⟩ := h
      replace w := w y7_ y8_ y9_
      rcases h with ⟨c, h⟩ | ⟨c, h⟩
      · replace w := w.1 c
        obtain ⟨v9, e9, y10_, y11_, h⟩ := h
        replace w := w v9 e9 y10_ y11_
        obtain ⟨n9, h⟩ := h
        obtain ⟨n8, w⟩ := w
        exact vp_X8_copyFrom_L83 n9 n8 h w
      · replace w := w.2 c
        replace h := h.2
        replace w := w.2
        replace h := h.2
        replace w := w.2
        obtain ⟨y12_, h⟩ := h
        replace w := w y12_
        obtain ⟨q9, z9, y13_, y14_, h⟩ := h
        obtain ⟨Q9, w0, w⟩ := w
        replace w := w q9 (vpX8_addToTable z9 w0) y13_ y14_
        obtain ⟨v9, e9, h⟩ := h
        replace w := w v9 e9 
        exact ih m h w
set_option maxRecDepth 100000 in
theorem vw_X8_copyFrom_L15 {uo : MS} : ∀ (n : Nat) {U15 : MS} {v15_0 : Nat} {v15_1 : Nat} {v15_2 : Int32}, v_X8_copyFrom_L15 uo n U15 v15_0 v15_1 v15_2 → w_X8_copyFrom_L15 (fun u => u = uo) n U15 v15_0 v15_1 v15_2 := by
  intro n
  induction n with
  | zero => intro U15 v15_0 v15_1 v15_2 h; unfold v_X8_copyFrom_L15 at h; exact h.elim
  | succ n ih =>
    intro U15 v15_0 v15_1 v15_2 h
    unfold v_X8_copyFrom_L15 at h
    unfold w_X8_copyFrom_L15
    intro _ _ _
    replace h := h.2.2.2
    rcases h with ⟨c, h⟩ | ⟨c, h⟩
    · refine ⟨fun _ => ?_, fun c2 => absurd c c2⟩
      obtain ⟨v9, e9, h⟩ := h
      intro x9 d9 _ _
      have c9 : v9 = x9 := e9.trans d9.symm
      subst c9
      replace h := h.2.2
      obtain ⟨n9, h⟩ := h
      exact ⟨n9, vw_X8_copyFrom_L52 n9 h⟩
    · refine ⟨fun c2 => absurd c2 c, fun _ => ?_⟩
      obtain ⟨g9, h⟩ := h
      refine ⟨g9, ?_⟩
      obtain ⟨g9, h⟩ := h
      refine ⟨g9, ?_⟩
      obtain ⟨g9, h⟩ := h
      refine ⟨g9, ?_⟩
      obtain ⟨g9, h⟩ := h
      refine ⟨g9, ?_⟩
      intro _
      replace h := h.2
      obtain ⟨q9, z9, h⟩ := h
      refine ⟨_, vwX8_add z9, ?_⟩
      intro q8 d9 _ _
      subst d9
      replace h := h.2.2
      obtain ⟨v9, e9, h⟩ := h
      intro x9 d9 
      have c9 : v9 = x9 := e9.trans d9.symm
      subst c9
      exact ih h
set_option maxRecDepth 100000 in
theorem vp_X8_copyFrom_L15 {uo : MS} {P : MS → Prop} : ∀ (n m : Nat) {U15 : MS} {v15_0 : Nat} {v15_1 : Nat} {v15_2 : Int32}, v_X8_copyFrom_L15 uo n U15 v15_0 v15_1 v15_2 → w_X8_copyFrom_L15 P m U15 v15_0 v15_1 v15_2 → P uo := by
  intro n
  induction n with
  | zero => intro m U15 v15_0 v15_1 v15_2 h; unfold v_X8_copyFrom_L15 at h; exact h.elim
  | succ n ih =>
    intro m U15 v15_0 v15_1 v15_2 h w
    cases m with
    | zero => unfold w_X8_copyFrom_L15 at w; exact w.elim
    | succ m =>
      unfold v_X8_copyFrom_L15 at h
      unfold w_X8_copyFrom_L15 at w
      obtain ⟨y15_, y16_, y17_, h⟩ := h
      replace w := w y15_ y16_ y17_
      rcases h with ⟨c, h⟩ | ⟨c, h⟩
      · replace w := w.1 c
        obtain ⟨v9, e9, y18_, y19_, h⟩ := h
        replace w := w v9 e9 y18_ y19_
        obtain ⟨n9, h⟩ := h
        obtain ⟨n8, w⟩ := w
        exact vp_X8_copyFrom_L52 n9 n8 h w
      · replace w := w.2 c
        replace h := h.2
        replace w := w.2
        replace h := h.2
        replace w := w.2
        replace h := h.2
        replace w := w.2
        replace h := h.2
        replace w := w.2
        obtain ⟨y20_, h⟩ := h
        replace w := w y20_
        obtain ⟨q9, z9, y21_, y22_, h⟩ := h
        obtain ⟨Q9, w0, w⟩ := w
        replace w := w q9 (vpX8_add z9 w0) y21_ y22_
        obtain ⟨v9, e9, h⟩ := h
        replace w := w v9 e9 
        exact ih m h w
set_option maxRecDepth 100000 in
theorem vwX8_copyFrom {S : MS} {p0 : Nat} {p1 : Nat} {uo : MS} (h : vX8_copyFrom S p0 p1 uo) : wX8_copyFrom S p0 p1 (fun u => u = uo) := by
  unfold vX8_copyFrom at h
  unfold wX8_copyFrom
  obtain ⟨v9, e9, h⟩ := h
  intro x9 d9 _ _
  have c9 : v9 = x9 := e9.trans d9.symm
  subst c9
  replace h := h.2.2
  obtain ⟨v9, e9, h⟩ := h
  intro x9 d9 _ _
  have c9 : v9 = x9 := e9.trans d9.symm
  subst c9
  replace h := h.2.2
  obtain ⟨n9, h⟩ := h
  exact ⟨n9, vw_X8_copyFrom_L15 n9 h⟩
set_option maxRecDepth 100000 in
theorem vpX8_copyFrom {S : MS} {p0 : Nat} {p1 : Nat} {uo : MS} {P : MS → Prop} (h : vX8_copyFrom S p0 p1 uo) (w : wX8_copyFrom S p0 p1 P) : P uo := by
  unfold vX8_copyFrom at h
  unfold wX8_copyFrom at w
  obtain ⟨v9, e9, y23_, y24_, h⟩ := h
  replace w := w v9 e9 y23_ y24_
  obtain ⟨v9, e9, y25_, y26_, h⟩ := h
  replace w := w v9 e9 y25_ y26_
  obtain ⟨n9, h⟩ := h
  obtain ⟨n8, w⟩ := w
  exact vp_X8_copyFrom_L15 n9 n8 h w
def vX9_forgetApplied (S : MS) (uo : MS) : Prop := (qT S 75 = 228 ∧ (∃ (S2 : MS), vJ7_fill_53178 S 75 (0 : Int32) S2 ∧ wfC S2 ∧ shy S S2 ∧ (uo = S2)))
set_option maxRecDepth 100000 in
theorem ruX9_forgetApplied {S : MS} {Q : MS → Prop} (h : wX9_forgetApplied S Q) : wX9_forgetApplied S (fun u => Q u ∧ vX9_forgetApplied S u) := by
  have i0 : Unit := ()
  have K : ∀ (i : Unit) (uo : MS), vX9_forgetApplied S uo → vX9_forgetApplied S uo := fun _ _ z => z
  unfold wX9_forgetApplied at h ⊢
  intro y1_
  replace h := h y1_
  replace K := fun i uo z => K i uo ⟨y1_, z⟩
  obtain ⟨Q9, h0, h⟩ := h
  refine ⟨_, ruJ7_fill_53178 h0, ?_⟩
  intro S2 q2_ y3_ y4_
  replace h := h S2 q2_.1 y3_ y4_
  replace K := fun i uo z => K i uo ⟨S2, q2_.2, y3_, y4_, z⟩
  exact ⟨h, K i0 _ rfl⟩
set_option maxRecDepth 100000 in
theorem vwX9_forgetApplied {S : MS} {uo : MS} (h : vX9_forgetApplied S uo) : wX9_forgetApplied S (fun u => u = uo) := by
  unfold vX9_forgetApplied at h
  unfold wX9_forgetApplied
  intro _
  replace h := h.2
  obtain ⟨q9, z9, h⟩ := h
  refine ⟨_, vwJ7_fill_53178 z9, ?_⟩
  intro q8 d9 _ _
  subst d9
  replace h := h.2.2
  exact h.symm
set_option maxRecDepth 100000 in
theorem vpX9_forgetApplied {S : MS} {uo : MS} {P : MS → Prop} (h : vX9_forgetApplied S uo) (w : wX9_forgetApplied S P) : P uo := by
  unfold vX9_forgetApplied at h
  unfold wX9_forgetApplied at w
  obtain ⟨y1_, h⟩ := h
  replace w := w y1_
  obtain ⟨q9, z9, y2_, y3_, h⟩ := h
  obtain ⟨Q9, w0, w⟩ := w
  replace w := w q9 (vpJ7_fill_53178 z9 w0) y2_ y3_
  rw [h]
  exact w
def v_X9_makeRoom_J69 (uo : MS) (U69 : MS) (v69_1 : Nat) : Prop := (wfC U69 ∧ qT U69 v69_1 = 47 ∧ (∃ S6 : MS, S6 = wI U69 (qO U69 66 0) 11 (qI U69 v69_1 11) ∧ qT U69 (qO U69 66 0) = 47 ∧ wfC S6 ∧ (uo = S6)))
def vX9_makeRoom (S : MS) (p1 : Nat) (uo : MS) : Prop := ((qR S (qO S 66 0) 0 = some (qO S (qO S 66 0) 0)) ∧ ((1296 ≤ (qN S (qO S (qO S 66 0) 0) : Int) ∧ (v_X9_makeRoom_J69 uo S p1)) ∨ (¬ 1296 ≤ (qN S (qO S (qO S 66 0) 0) : Int) ∧ ((qn S + 1 ≤ KCC ∧ qu S + 15 ≤ KSC) ∧ (∃ S11 : MS, S11 = wN S 47 0 15 ∧ wfC S11 ∧ (qT S11 (qn S) = 47 ∧ (∃ (S14 : MS), vX8_init S11 (qn S) (1296 : Int32) (1200 : Int32) (16 : Int32) S14 ∧ wfC S14 ∧ shx S11 S14 ∧ (∃ S17 : MS, S17 = wR S14 66 0 (some (qn S)) ∧ qT S14 66 = 48 ∧ wfC S17 ∧ (((qn S17 + 1 ≤ KCC ∧ qu S17 + 1297 ≤ KSC)) ∧ (∃ S21 : MS, S21 = wN S17 305 1297 1297 ∧ wfC S21 ∧ (∃ S23 : MS, S23 = wR S21 66 2 (some (qn S17)) ∧ qT S21 66 = 48 ∧ wfC S23 ∧ (((qn S23 + 1 ≤ KCC ∧ qu S23 + 1297 ≤ KSC)) ∧ (∃ S27 : MS, S27 = wN S23 306 1297 1297 ∧ wfC S27 ∧ (∃ S29 : MS, S29 = wR S27 66 3 (some (qn S23)) ∧ qT S27 66 = 48 ∧ wfC S29 ∧ (((qn S29 + 1 ≤ KCC ∧ qu S29 + 1297 ≤ KSC)) ∧ (∃ S33 : MS, S33 = wN S29 229 1297 1297 ∧ wfC S33 ∧ (∃ S35 : MS, S35 = wR S33 66 4 (some (qn S29)) ∧ qT S33 66 = 48 ∧ wfC S35 ∧ (((qn S35 + 1 ≤ KCC ∧ qu S35 + 1297 ≤ KSC)) ∧ (∃ S39 : MS, S39 = wN S35 230 1297 1297 ∧ wfC S39 ∧ (∃ S41 : MS, S41 = wR S39 66 5 (some (qn S35)) ∧ qT S39 66 = 48 ∧ wfC S41 ∧ (v_X9_makeRoom_J69 uo S41 p1)))))))))))))))))))))
set_option maxRecDepth 100000 in
theorem ru_X9_makeRoom_J69 {ι : Type} {P Q : MS → Prop} {U69 : MS} {v69_1 : Nat} (i0 : ι) (K : ∀ (i : ι) (uo : MS), v_X9_makeRoom_J69 uo U69 v69_1 → P uo) (h : w_X9_makeRoom_J69 Q U69 v69_1) : w_X9_makeRoom_J69 (fun u => Q u ∧ P u) U69 v69_1 := by
  unfold w_X9_makeRoom_J69 at h ⊢
  intro y1_ y2_
  replace h := h y1_ y2_
  replace K := fun i uo z => K i uo ⟨y1_, y2_, z⟩
  intro S6 eS6 y3_ y4_
  replace h := h S6 eS6 y3_ y4_
  replace K := fun i uo z => K i uo ⟨S6, eS6, y3_, y4_, z⟩
  exact ⟨h, K i0 _ rfl⟩
set_option maxRecDepth 100000 in
theorem ruX9_makeRoom {S : MS} {p1 : Nat} {Q : MS → Prop} (h : wX9_makeRoom S p1 Q) : wX9_makeRoom S p1 (fun u => Q u ∧ vX9_makeRoom S p1 u) := by
  have i0 : Unit := ()
  have K : ∀ (i : Unit) (uo : MS), vX9_makeRoom S p1 uo → vX9_makeRoom S p1 uo := fun _ _ z => z
  unfold wX9_makeRoom at h ⊢
  obtain ⟨g5_, h⟩ := h
  refine ⟨g5_, ?_⟩
  replace K := fun i uo z => K i uo ⟨g5_, z⟩
  refine ⟨fun c => ?_, fun c => ?_⟩
  · replace h := h.1 c
    replace K := fun i uo z => K i uo (Or.inl ⟨c, z⟩)
    exact ru_X9_makeRoom_J69 i0 K h
  · replace h := h.2 c
    replace K := fun i uo z => K i uo (Or.inr ⟨c, z⟩)
    obtain ⟨g6_, h⟩ := h
    refine ⟨g6_, ?_⟩
    replace K := fun i uo z => K i uo ⟨g6_, z⟩
    intro S11 eS11 y7_
    replace h := h S11 eS11 y7_
    replace K := fun i uo z => K i uo ⟨S11, eS11, y7_, z⟩
    intro y8_
    replace h := h y8_
    replace K := fun i uo z => K i uo ⟨y8_, z⟩
    obtain ⟨Q9, h0, h⟩ := h
    refine ⟨_, ruX8_init h0, ?_⟩
    intro S14 q9_ y10_ y11_
    replace h := h S14 q9_.1 y10_ y11_
    replace K := fun i uo z => K i uo ⟨S14, q9_.2, y10_, y11_, z⟩
    intro S17 eS17 y12_ y13_
    replace h := h S17 eS17 y12_ y13_
    replace K := fun i uo z => K i uo ⟨S17, eS17, y12_, y13_, z⟩
    obtain ⟨g14_, h⟩ := h
    refine ⟨g14_, ?_⟩
    replace K := fun i uo z => K i uo ⟨g14_, z⟩
    intro S21 eS21 y15_
    replace h := h S21 eS21 y15_
    replace K := fun i uo z => K i uo ⟨S21, eS21, y15_, z⟩
    intro S23 eS23 y16_ y17_
    replace h := h S23 eS23 y16_ y17_
    replace K := fun i uo z => K i uo ⟨S23, eS23, y16_, y17_, z⟩
    obtain ⟨g18_, h⟩ := h
    refine ⟨g18_, ?_⟩
    replace K := fun i uo z => K i uo ⟨g18_, z⟩
    intro S27 eS27 y19_
    replace h := h S27 eS27 y19_
    replace K := fun i uo z => K i uo ⟨S27, eS27, y19_, z⟩
    intro S29 eS29 y20_ y21_
    replace h := h S29 eS29 y20_ y21_
    replace K := fun i uo z => K i uo ⟨S29, eS29, y20_, y21_, z⟩
    obtain ⟨g22_, h⟩ := h
    refine ⟨g22_, ?_⟩
    replace K := fun i uo z => K i uo ⟨g22_, z⟩
    intro S33 eS33 y23_
    replace h := h S33 eS33 y23_
    replace K := fun i uo z => K i uo ⟨S33, eS33, y23_, z⟩
    intro S35 eS35 y24_ y25_
    replace h := h S35 eS35 y24_ y25_
    replace K := fun i uo z => K i uo ⟨S35, eS35, y24_, y25_, z⟩
    obtain ⟨g26_, h⟩ := h
    refine ⟨g26_, ?_⟩
    replace K := fun i uo z => K i uo ⟨g26_, z⟩
    intro S39 eS39 y27_
    replace h := h S39 eS39 y27_
    replace K := fun i uo z => K i uo ⟨S39, eS39, y27_, z⟩
    intro S41 eS41 y28_ y29_
    replace h := h S41 eS41 y28_ y29_
    replace K := fun i uo z => K i uo ⟨S41, eS41, y28_, y29_, z⟩
    exact ru_X9_makeRoom_J69 i0 K h
set_option maxRecDepth 100000 in
theorem vw_X9_makeRoom_J69 {uo : MS} {U69 : MS} {v69_1 : Nat} (h : v_X9_makeRoom_J69 uo U69 v69_1) : w_X9_makeRoom_J69 (fun u => u = uo) U69 v69_1 := by
  unfold v_X9_makeRoom_J69 at h
  unfold w_X9_makeRoom_J69
  intro _ _
  replace h := h.2.2
  obtain ⟨v9, e9, h⟩ := h
  intro x9 d9 _ _
  have c9 : v9 = x9 := e9.trans d9.symm
  subst c9
  replace h := h.2.2
  exact h.symm
set_option maxRecDepth 100000 in
theorem vp_X9_makeRoom_J69 {uo : MS} {P : MS → Prop} {U69 : MS} {v69_1 : Nat} (h : v_X9_makeRoom_J69 uo U69 v69_1) (w : w_X9_makeRoom_J69 P U69 v69_1) : P uo := by
  unfold v_X9_makeRoom_J69 at h
  unfold w_X9_makeRoom_J69 at w
  obtain ⟨y1_, y2_, h⟩ := h
  replace w := w y1_ y2_
  obtain ⟨v9, e9, y3_, y4_, h⟩ := h
  replace w := w v9 e9 y3_ y4_
  rw [h]
  exact w
set_option maxRecDepth 100000 in
theorem vwX9_makeRoom {S : MS} {p1 : Nat} {uo : MS} (h : vX9_makeRoom S p1 uo) : wX9_makeRoom S p1 (fun u => u = uo) := by
  unfold vX9_makeRoom at h
  unfold wX9_makeRoom
  obtain ⟨g9, h⟩ := h
  refine ⟨g9, ?_⟩
  rcases h with ⟨c, h⟩ | ⟨c, h⟩
  · refine ⟨fun _ => ?_, fun c2 => absurd c c2⟩
    exact vw_X9_makeRoom_J69 h
  · refine ⟨fun c2 => absurd c2 c, fun _ => ?_⟩
    obtain ⟨g9, h⟩ := h
    refine ⟨g9, ?_⟩
    obtain ⟨v9, e9, h⟩ := h
    intro x9 d9 _
    have c9 : v9 = x9 := e9.trans d9.symm
    subst c9
    replace h := h.2
    intro _
    replace h := h.2
    obtain ⟨q9, z9, h⟩ := h
    refine ⟨_, vwX8_init z9, ?_⟩
    intro q8 d9 _ _
    subst d9
    replace h := h.2.2
    obtain ⟨v9, e9, h⟩ := h
    intro x9 d9 _ _
    have c9 : v9 = x9 := e9.trans d9.symm
    subst c9
    replace h := h.2.2
    obtain ⟨g9, h⟩ := h
    refine ⟨g9, ?_⟩
    obtain ⟨v9, e9, h⟩ := h
    intro x9 d9 _
    have c9 : v9 = x9 := e9.trans d9.symm
    subst c9
    replace h := h.2
    obtain ⟨v9, e9, h⟩ := h
    intro x9 d9 _ _
    have c9 : v9 = x9 := e9.trans d9.symm
    subst c9
    replace h := h.2.2
    obtain ⟨g9, h⟩ := h
    refine ⟨g9, ?_⟩
    obtain ⟨v9, e9, h⟩ := h
    intro x9 d9 _
    have c9 : v9 = x9 := e9.trans d9.symm
    subst c9
    replace h := h.2
    obtain ⟨v9, e9, h⟩ := h
    intro x9 d9 _ _
    have c9 : v9 = x9 := e9.trans d9.symm
    subst c9
    replace h := h.2.2
    obtain ⟨g9, h⟩ := h
    refine ⟨g9, ?_⟩
    obtain ⟨v9, e9, h⟩ := h
    intro x9 d9 _
    have c9 : v9 = x9 := e9.trans d9.symm
    subst c9
    replace h := h.2
    obtain ⟨v9, e9, h⟩ := h
    intro x9 d9 _ _
    have c9 : v9 = x9 := e9.trans d9.symm
    subst c9
    replace h := h.2.2
    obtain ⟨g9, h⟩ := h
    refine ⟨g9, ?_⟩
    obtain ⟨v9, e9, h⟩ := h
    intro x9 d9 _
    have c9 : v9 = x9 := e9.trans d9.symm
    subst c9
    replace h := h.2
    obtain ⟨v9, e9, h⟩ := h
    intro x9 d9 _ _
    have c9 : v9 = x9 := e9.trans d9.symm
    subst c9
    replace h := h.2.2
    exact vw_X9_makeRoom_J69 h
set_option maxRecDepth 100000 in
theorem vpX9_makeRoom {S : MS} {p1 : Nat} {uo : MS} {P : MS → Prop} (h : vX9_makeRoom S p1 uo) (w : wX9_makeRoom S p1 P) : P uo := by
  unfold vX9_makeRoom at h
  unfold wX9_makeRoom at w
  replace h := h.2
  replace w := w.2
  rcases h with ⟨c, h⟩ | ⟨c, h⟩
  · replace w := w.1 c
    exact vp_X9_makeRoom_J69 h w
  · replace w := w.2 c
    replace h := h.2
    replace w := w.2
    obtain ⟨v9, e9, y5_, h⟩ := h
    replace w := w v9 e9 y5_
    obtain ⟨y6_, h⟩ := h
    replace w := w y6_
    obtain ⟨q9, z9, y7_, y8_, h⟩ := h
    obtain ⟨Q9, w0, w⟩ := w
    replace w := w q9 (vpX8_init z9 w0) y7_ y8_
    obtain ⟨v9, e9, y9_, y10_, h⟩ := h
    replace w := w v9 e9 y9_ y10_
    replace h := h.2
    replace w := w.2
    obtain ⟨v9, e9, y11_, h⟩ := h
    replace w := w v9 e9 y11_
    obtain ⟨v9, e9, y12_, y13_, h⟩ := h
    replace w := w v9 e9 y12_ y13_
    replace h := h.2
    replace w := w.2
    obtain ⟨v9, e9, y14_, h⟩ := h
    replace w := w v9 e9 y14_
    obtain ⟨v9, e9, y15_, y16_, h⟩ := h
    replace w := w v9 e9 y15_ y16_
    replace h := h.2
    replace w := w.2
    obtain ⟨v9, e9, y17_, h⟩ := h
    replace w := w v9 e9 y17_
    obtain ⟨v9, e9, y18_, y19_, h⟩ := h
    replace w := w v9 e9 y18_ y19_
    replace h := h.2
    replace w := w.2
    obtain ⟨v9, e9, y20_, h⟩ := h
    replace w := w v9 e9 y20_
    obtain ⟨v9, e9, y21_, y22_, h⟩ := h
    replace w := w v9 e9 y21_ y22_
    exact vp_X9_makeRoom_J69 h w
def vX9_isNewlyReached (S : MS) (x1 : Int32) (ro : Int32) (uo : MS) : Prop := ((x1.toInt < 0 ∧ (ro = (0 : Int32) ∧ uo = S)) ∨ (¬ x1.toInt < 0 ∧ (((qI S (qO S 66 0) 2).toInt ≤ x1.toInt ∧ (ro = (0 : Int32) ∧ uo = S)) ∨ (¬ (qI S (qO S 66 0) 2).toInt ≤ x1.toInt ∧ (((0 : Int) ≤ x1.toInt ∧ x1.toInt < (qN S (qO S 66 3) : Int)) ∧ (((qI S (qO S 66 3) x1.toInt.toNat).toInt = 0 ∧ (((0 : Int) ≤ x1.toInt ∧ x1.toInt < (qN S (qO S 66 3) : Int)) ∧ (∃ S11 : MS, S11 = wI S (qO S 66 3) x1.toInt.toNat (vp_nar .boolean (1 : Int32)) ∧ qT S (qO S 66 3) = 306 ∧ wfC S11 ∧ (ro = (1 : Int32) ∧ uo = S11)))) ∨ (¬ (qI S (qO S 66 3) x1.toInt.toNat).toInt = 0 ∧ (ro = (0 : Int32) ∧ uo = S))))))))
set_option maxRecDepth 100000 in
theorem ruX9_isNewlyReached {S : MS} {x1 : Int32} {Q : Int32 → MS → Prop} (h : wX9_isNewlyReached S x1 Q) : wX9_isNewlyReached S x1 (fun r u => Q r u ∧ vX9_isNewlyReached S x1 r u) := by
  have i0 : Unit := ()
  have K : ∀ (i : Unit) (ro : Int32) (uo : MS), vX9_isNewlyReached S x1 ro uo → vX9_isNewlyReached S x1 ro uo := fun _ _ _ z => z
  unfold wX9_isNewlyReached at h ⊢
  refine ⟨fun c => ?_, fun c => ?_⟩
  · replace h := h.1 c
    replace K := fun i ro uo z => K i ro uo (Or.inl ⟨c, z⟩)
    exact ⟨h, K i0 _ _ ⟨rfl, rfl⟩⟩
  · replace h := h.2 c
    replace K := fun i ro uo z => K i ro uo (Or.inr ⟨c, z⟩)
    refine ⟨fun c => ?_, fun c => ?_⟩
    · replace h := h.1 c
      replace K := fun i ro uo z => K i ro uo (Or.inl ⟨c, z⟩)
      exact ⟨h, K i0 _ _ ⟨rfl, rfl⟩⟩
    · replace h := h.2 c
      replace K := fun i ro uo z => K i ro uo (Or.inr ⟨c, z⟩)
      obtain ⟨g1_, h⟩ := h
      refine ⟨g1_, ?_⟩
      replace K := fun i ro uo z => K i ro uo ⟨g1_, z⟩
      refine ⟨fun c => ?_, fun c => ?_⟩
      · replace h := h.1 c
        replace K := fun i ro uo z => K i ro uo (Or.inl ⟨c, z⟩)
        obtain ⟨g2_, h⟩ := h
        refine ⟨g2_, ?_⟩
        replace K := fun i ro uo z => K i ro uo ⟨g2_, z⟩
        intro S11 eS11 y3_ y4_
        replace h := h S11 eS11 y3_ y4_
        replace K := fun i ro uo z => K i ro uo ⟨S11, eS11, y3_, y4_, z⟩
        exact ⟨h, K i0 _ _ ⟨rfl, rfl⟩⟩
      · replace h := h.2 c
        replace K := fun i ro uo z => K i ro uo (Or.inr ⟨c, z⟩)
        exact ⟨h, K i0 _ _ ⟨rfl, rfl⟩⟩
set_option maxRecDepth 100000 in
theorem vwX9_isNewlyReached {S : MS} {x1 : Int32} {ro : Int32} {uo : MS} (h : vX9_isNewlyReached S x1 ro uo) : wX9_isNewlyReached S x1 (fun r u => r = ro ∧ u = uo) := by
  unfold vX9_isNewlyReached at h
  unfold wX9_isNewlyReached
  rcases h with ⟨c, h⟩ | ⟨c, h⟩
  · refine ⟨fun _ => ?_, fun c2 => absurd c c2⟩
    exact ⟨h.1.symm, h.2.symm⟩
  · refine ⟨fun c2 => absurd c2 c, fun _ => ?_⟩
    rcases h with ⟨c, h⟩ | ⟨c, h⟩
    · refine ⟨fun _ => ?_, fun c2 => absurd c c2⟩
      exact ⟨h.1.symm, h.2.symm⟩
    · refine ⟨fun c2 => absurd c2 c, fun _ => ?_⟩
      obtain ⟨g9, h⟩ := h
      refine ⟨g9, ?_⟩
      rcases h with ⟨c, h⟩ | ⟨c, h⟩
      · refine ⟨fun _ => ?_, fun c2 => absurd c c2⟩
        obtain ⟨g9, h⟩ := h
        refine ⟨g9, ?_⟩
        obtain ⟨v9, e9, h⟩ := h
        intro x9 d9 _ _
        have c9 : v9 = x9 := e9.trans d9.symm
        subst c9
        replace h := h.2.2
        exact ⟨h.1.symm, h.2.symm⟩
      · refine ⟨fun c2 => absurd c2 c, fun _ => ?_⟩
        exact ⟨h.1.symm, h.2.symm⟩
set_option maxRecDepth 100000 in
theorem vpX9_isNewlyReached {S : MS} {x1 : Int32} {ro : Int32} {uo : MS} {P : Int32 → MS → Prop} (h : vX9_isNewlyReached S x1 ro uo) (w : wX9_isNewlyReached S x1 P) : P ro uo := by
  unfold vX9_isNewlyReached at h
  unfold wX9_isNewlyReached at w
  rcases h with ⟨c, h⟩ | ⟨c, h⟩
  · replace w := w.1 c
    rw [h.1, h.2]
    exact w
  · replace w := w.2 c
    rcases h with ⟨c, h⟩ | ⟨c, h⟩
    · replace w := w.1 c
      rw [h.1, h.2]
      exact w
    · replace w := w.2 c
      replace h := h.2
      replace w := w.2
      rcases h with ⟨c, h⟩ | ⟨c, h⟩
      · replace w := w.1 c
        replace h := h.2
        replace w := w.2
        obtain ⟨v9, e9, y1_, y2_, h⟩ := h
        replace w := w v9 e9 y1_ y2_
        rw [h.1, h.2]
        exact w
      · replace w := w.2 c
        rw [h.1, h.2]
        exact w
def v_X9_isRedirected_J117 (ro : Int32) (uo : MS) (k11 : MS → Int32 → Int32 → Int32 → Prop) (U117 : MS) (v117_1 : Int32) (v117_2 : Int32) (v117_3 : Int32) : Prop := (wfC U117 ∧ (∃ a20 : Int32, a20 = (v117_3 + Int32.ofInt 1) ∧ (k11 U117 v117_1 v117_2 a20)))
def v_X9_isRedirected_J75 (ro : Int32) (uo : MS) (k11 : MS → Int32 → Int32 → Int32 → Prop) (U75 : MS) (v75_1 : Int32) (v75_2 : Int32) (v75_3 : Int32) (v75_4 : Int32) : Prop := (wfC U75 ∧ (d_X8_targetAt U75 (qO U75 66 0) v75_1 v75_3 ∧ ((v75_4.toInt = (fX8_targetAt U75 (qO U75 66 0) v75_1 v75_3).toInt ∧ (v_X9_isRedirected_J117 ro uo k11 U75 v75_1 v75_2 v75_3)) ∨ (¬ v75_4.toInt = (fX8_targetAt U75 (qO U75 66 0) v75_1 v75_3).toInt ∧ (d_X8_opAt U75 (qO U75 66 0) v75_4 ∧ (((fX8_opAt U75 (qO U75 66 0) v75_4).toInt = 167 ∧ (v_X9_isRedirected_J117 ro uo k11 U75 v75_1 v75_2 v75_3)) ∨ (¬ (fX8_opAt U75 (qO U75 66 0) v75_4).toInt = 167 ∧ (qT U75 (qO U75 66 0) = 47 ∧ (∃ (S29 : MS), vX8_setTarget U75 (qO U75 66 0) v75_1 v75_3 v75_4 S29 ∧ wfC S29 ∧ shy U75 S29 ∧ (ro = (1 : Int32) ∧ uo = S29))))))))))
def v_X9_isRedirected_L30 (ro : Int32) (uo : MS) (k11 : MS → Int32 → Int32 → Int32 → Prop) : Nat → MS → Int32 → Int32 → Int32 → Int32 → Int32 → Prop
  | 0, _, _, _, _, _, _ => False
  | n30 + 1, U30, v30_1, v30_2, v30_3, v30_4, v30_5 => (wfC U30 ∧ (d_X8_opAt U30 (qO U30 66 0) v30_4 ∧ (((fX8_opAt U30 (qO U30 66 0) v30_4).toInt = 167 ∧ (((qI U30 (qO U30 66 0) 2).toInt < v30_5.toInt ∧ (v_X9_isRedirected_J75 ro uo k11 U30 v30_1 v30_2 v30_3 v30_4)) ∨ (¬ (qI U30 (qO U30 66 0) 2).toInt < v30_5.toInt ∧ (d_X8_targetAt U30 (qO U30 66 0) v30_4 (0 : Int32) ∧ (∃ a38 : Int32, a38 = (fX8_targetAt U30 (qO U30 66 0) v30_4 (0 : Int32)) ∧ (∃ a39 : Int32, a39 = (v30_5 + Int32.ofInt 1) ∧ ((v_X9_isRedirected_L30 ro uo k11 n30) U30 v30_1 v30_2 v30_3 a38 a39))))))) ∨ (¬ (fX8_opAt U30 (qO U30 66 0) v30_4).toInt = 167 ∧ (v_X9_isRedirected_J75 ro uo k11 U30 v30_1 v30_2 v30_3 v30_4)))))
def v_X9_isRedirected_L11 (ro : Int32) (uo : MS) : Nat → MS → Int32 → Int32 → Int32 → Prop
  | 0, _, _, _, _ => False
  | n11 + 1, U11, v11_1, v11_2, v11_3 => (wfC U11 ∧ ((v11_2.toInt ≤ v11_3.toInt ∧ (ro = (0 : Int32) ∧ uo = U11)) ∨ (¬ v11_2.toInt ≤ v11_3.toInt ∧ (d_X8_targetAt U11 (qO U11 66 0) v11_1 v11_3 ∧ (∃ a11 : Int32, a11 = (fX8_targetAt U11 (qO U11 66 0) v11_1 v11_3) ∧ (∃ n, v_X9_isRedirected_L30 ro uo (v_X9_isRedirected_L11 ro uo n11) n U11 v11_1 v11_2 v11_3 a11 0))))))
def vX9_isRedirected (S : MS) (x1 : Int32) (ro : Int32) (uo : MS) : Prop := (d_X8_targetCount S (qO S 66 0) x1 ∧ (∃ a5 : Int32, a5 = (fX8_targetCount S (qO S 66 0) x1) ∧ (∃ n, v_X9_isRedirected_L11 ro uo n S x1 a5 0)))
set_option maxRecDepth 100000 in
theorem ru_X9_isRedirected_J117 {ι : Type} {P Q : Int32 → MS → Prop} {k11 k11' : MS → Int32 → Int32 → Int32 → Prop} {k11v : ι → Int32 → MS → MS → Int32 → Int32 → Int32 → Prop} {U117 : MS} {v117_1 : Int32} {v117_2 : Int32} {v117_3 : Int32} (i0 : ι) (hk11 : ∀ (u : MS) (z0 : Int32) (z1 : Int32) (z2 : Int32), k11 u z0 z1 z2 → (∀ (i : ι) (ro : Int32) (uo : MS), k11v i ro uo u z0 z1 z2 → P ro uo) → k11' u z0 z1 z2) (K : ∀ (i : ι) (ro : Int32) (uo : MS), v_X9_isRedirected_J117 ro uo (k11v i ro uo) U117 v117_1 v117_2 v117_3 → P ro uo) (h : w_X9_isRedirected_J117 Q k11 U117 v117_1 v117_2 v117_3) : w_X9_isRedirected_J117 (fun r u => Q r u ∧ P r u) k11' U117 v117_1 v117_2 v117_3 := by
  unfold w_X9_isRedirected_J117 at h ⊢
  intro y1_
  replace h := h y1_
  replace K := fun i ro uo z => K i ro uo ⟨y1_, z⟩
  intro a20 ea20 
  replace h := h a20 ea20 
  replace K := fun i ro uo z => K i ro uo ⟨a20, ea20, z⟩
  exact hk11 _ _ _ _ h K
set_option maxRecDepth 100000 in
theorem ru_X9_isRedirected_J75 {ι : Type} {P Q : Int32 → MS → Prop} {k11 k11' : MS → Int32 → Int32 → Int32 → Prop} {k11v : ι → Int32 → MS → MS → Int32 → Int32 → Int32 → Prop} {U75 : MS} {v75_1 : Int32} {v75_2 : Int32} {v75_3 : Int32} {v75_4 : Int32} (i0 : ι) (hk11 : ∀ (u : MS) (z0 : Int32) (z1 : Int32) (z2 : Int32), k11 u z0 z1 z2 → (∀ (i : ι) (ro : Int32) (uo : MS), k11v i ro uo u z0 z1 z2 → P ro uo) → k11' u z0 z1 z2) (K : ∀ (i : ι) (ro : Int32) (uo : MS), v_X9_isRedirected_J75 ro uo (k11v i ro uo) U75 v75_1 v75_2 v75_3 v75_4 → P ro uo) (h : w_X9_isRedirected_J75 Q k11 U75 v75_1 v75_2 v75_3 v75_4) : w_X9_isRedirected_J75 (fun r u => Q r u ∧ P r u) k11' U75 v75_1 v75_2 v75_3 v75_4 := by
  unfold w_X9_isRedirected_J75 at h ⊢
  intro y2_
  replace h := h y2_
  replace K := fun i ro uo z => K i ro uo ⟨y2_, z⟩
  obtain ⟨g3_, h⟩ := h
  refine ⟨g3_, ?_⟩
  replace K := fun i ro uo z => K i ro uo ⟨g3_, z⟩
  refine ⟨fun c => ?_, fun c => ?_⟩
  · replace h := h.1 c
    replace K := fun i ro uo z => K i ro uo (Or.inl ⟨c, z⟩)
    exact ru_X9_isRedirected_J117 i0 hk11 K h
  · replace h := h.2 c
    replace K := fun i ro uo z => K i ro uo (Or.inr ⟨c, z⟩)
    obtain ⟨g4_, h⟩ := h
    refine ⟨g4_, ?_⟩
    replace K := fun i ro uo z => K i ro uo ⟨g4_, z⟩
    refine ⟨fun c => ?_, fun c => ?_⟩
    · replace h := h.1 c
      replace K := fun i ro uo z => K i ro uo (Or.inl ⟨c, z⟩)
      exact ru_X9_isRedirected_J117 i0 hk11 K h
    · replace h := h.2 c
      replace K := fun i ro uo z => K i ro uo (Or.inr ⟨c, z⟩)
      intro y5_
      replace h := h y5_
      replace K := fun i ro uo z => K i ro uo ⟨y5_, z⟩
      obtain ⟨Q9, h0, h⟩ := h
      refine ⟨_, ruX8_setTarget h0, ?_⟩
      intro S29 q6_ y7_ y8_
      replace h := h S29 q6_.1 y7_ y8_
      replace K := fun i ro uo z => K i ro uo ⟨S29, q6_.2, y7_, y8_, z⟩
      exact ⟨h, K i0 _ _ ⟨rfl, rfl⟩⟩
set_option maxRecDepth 100000 in
theorem ru_X9_isRedirected_L30 {ι : Type} {P Q : Int32 → MS → Prop} {k11 k11' : MS → Int32 → Int32 → Int32 → Prop} {k11v : ι → Int32 → MS → MS → Int32 → Int32 → Int32 → Prop} : ∀ (n : Nat) {U30 : MS} {v30_1 : Int32} {v30_2 : Int32} {v30_3 : Int32} {v30_4 : Int32} {v30_5 : Int32} (i0 : ι) (hk11 : ∀ (u : MS) (z0 : Int32) (z1 : Int32) (z2 : Int32), k11 u z0 z1 z2 → (∀ (i : ι) (ro : Int32) (uo : MS), k11v i ro uo u z0 z1 z2 → P ro uo) → k11' u z0 z1 z2), (∀ (i : ι) (ro : Int32) (uo : MS), (∃ n8, v_X9_isRedirected_L30 ro uo (k11v i ro uo) n8 U30 v30_1 v30_2 v30_3 v30_4 v30_5) → P ro uo) → w_X9_isRedirected_L30 Q k11 n U30 v30_1 v30_2 v30_3 v30_4 v30_5 → w_X9_isRedirected_L30 (fun r u => Q r u ∧ P r u) k11' n U30 v30_1 v30_2 v30_3 v30_4 v30_5 := by
  intro n
  induction n with
  | zero => intro U30 v30_1 v30_2 v30_3 v30_4 v30_5 i0 hk11 K h; unfold w_X9_isRedirected_L30 at h; exact h.elim
  | succ n ih =>
    intro U30 v30_1 v30_2 v30_3 v30_4 v30_5 i0 hk11 K h
    unfold w_X9_isRedirected_L30 at h ⊢
    replace K := fun (i : ι × Nat) ro uo (z : v_X9_isRedirected_L30 ro uo (k11v i.1 ro uo) (i.2 + 1) U30 v30_1 v30_2 v30_3 v30_4 v30_5) => K i.1 ro uo ⟨i.2 + 1, z⟩
    have i00 := i0
    replace i0 : ι × Nat := (i0, 0)
    intro y9_
    replace h := h y9_
    replace K := fun i ro uo z => K i ro uo ⟨y9_, z⟩
    obtain ⟨g10_, h⟩ := h
    refine ⟨g10_, ?_⟩
    replace K := fun i ro uo z => K i ro uo ⟨g10_, z⟩
    refine ⟨fun c => ?_, fun c => ?_⟩
    · replace h := h.1 c
      replace K := fun i ro uo z => K i ro uo (Or.inl ⟨c, z⟩)
      refine ⟨fun c => ?_, fun c => ?_⟩
      · replace h := h.1 c
        replace K := fun i ro uo z => K i ro uo (Or.inl ⟨c, z⟩)
        exact ru_X9_isRedirected_J75 i0 (fun _ _ _ _ h K => hk11 _ _ _ _ h (fun i ro uo z => K (i, 0) ro uo z)) K h
      · replace h := h.2 c
        replace K := fun i ro uo z => K i ro uo (Or.inr ⟨c, z⟩)
        obtain ⟨g11_, h⟩ := h
        refine ⟨g11_, ?_⟩
        replace K := fun i ro uo z => K i ro uo ⟨g11_, z⟩
        intro a38 ea38 
        replace h := h a38 ea38 
        replace K := fun i ro uo z => K i ro uo ⟨a38, ea38, z⟩
        intro a39 ea39 
        replace h := h a39 ea39 
        replace K := fun i ro uo z => K i ro uo ⟨a39, ea39, z⟩
        exact ih i00 hk11 (fun i ro uo ⟨n8, z⟩ => K (i, n8) ro uo z) h
    · replace h := h.2 c
      replace K := fun i ro uo z => K i ro uo (Or.inr ⟨c, z⟩)
      exact ru_X9_isRedirected_J75 i0 (fun _ _ _ _ h K => hk11 _ _ _ _ h (fun i ro uo z => K (i, 0) ro uo z)) K h
set_option maxRecDepth 100000 in
theorem ru_X9_isRedirected_L11 {ι : Type} {P Q : Int32 → MS → Prop} : ∀ (n : Nat) {U11 : MS} {v11_1 : Int32} {v11_2 : Int32} {v11_3 : Int32} (i0 : ι), (∀ (i : ι) (ro : Int32) (uo : MS), (∃ n8, v_X9_isRedirected_L11 ro uo n8 U11 v11_1 v11_2 v11_3) → P ro uo) → w_X9_isRedirected_L11 Q n U11 v11_1 v11_2 v11_3 → w_X9_isRedirected_L11 (fun r u => Q r u ∧ P r u) n U11 v11_1 v11_2 v11_3 := by
  intro n
  induction n with
  | zero => intro U11 v11_1 v11_2 v11_3 i0 K h; unfold w_X9_isRedirected_L11 at h; exact h.elim
  | succ n ih =>
    intro U11 v11_1 v11_2 v11_3 i0 K h
    unfold w_X9_isRedirected_L11 at h ⊢
    replace K := fun (i : ι × Nat) ro uo (z : v_X9_isRedirected_L11 ro uo (i.2 + 1) U11 v11_1 v11_2 v11_3) => K i.1 ro uo ⟨i.2 + 1, z⟩
    have i00 := i0
    replace i0 : ι × Nat := (i0, 0)
    intro y12_
    replace h := h y12_
    replace K := fun i ro uo z => K i ro uo ⟨y12_, z⟩
    refine ⟨fun c => ?_, fun c => ?_⟩
    · replace h := h.1 c
      replace K := fun i ro uo z => K i ro uo (Or.inl ⟨c, z⟩)
      exact ⟨h, K i0 _ _ ⟨rfl, rfl⟩⟩
    · replace h := h.2 c
      replace K := fun i ro uo z => K i ro uo (Or.inr ⟨c, z⟩)
      obtain ⟨g13_, h⟩ := h
      refine ⟨g13_, ?_⟩
      replace K := fun i ro uo z => K i ro uo ⟨g13_, z⟩
      intro a11 ea11 
      replace h := h a11 ea11 
      replace K := fun i ro uo z => K i ro uo ⟨a11, ea11, z⟩
      obtain ⟨n9, h⟩ := h
      exact ⟨n9, ru_X9_isRedirected_L30 n9 i0 (fun _ _ _ _ h K => ih i00 (fun i ro uo ⟨n8, z⟩ => K (i, n8) ro uo z) h) K h⟩
set_option maxRecDepth 100000 in
theorem ruX9_isRedirected {S : MS} {x1 : Int32} {Q : Int32 → MS → Prop} (h : wX9_isRedirected S x1 Q) : wX9_isRedirected S x1 (fun r u => Q r u ∧ vX9_isRedirected S x1 r u) := by
  have i0 : Unit := ()
  have K : ∀ (i : Unit) (ro : Int32) (uo : MS), vX9_isRedirected S x1 ro uo → vX9_isRedirected S x1 ro uo := fun _ _ _ z => z
  unfold wX9_isRedirected at h ⊢
  obtain ⟨g14_, h⟩ := h
  refine ⟨g14_, ?_⟩
  replace K := fun i ro uo z => K i ro uo ⟨g14_, z⟩
  intro a5 ea5 
  replace h := h a5 ea5 
  replace K := fun i ro uo z => K i ro uo ⟨a5, ea5, z⟩
  obtain ⟨n9, h⟩ := h
  exact ⟨n9, ru_X9_isRedirected_L11 n9 i0 K h⟩
set_option maxRecDepth 100000 in
theorem vw_X9_isRedirected_J117 {ro : Int32} {uo : MS} {k11 k11v : MS → Int32 → Int32 → Int32 → Prop} {U117 : MS} {v117_1 : Int32} {v117_2 : Int32} {v117_3 : Int32} (hk11 : ∀ (u : MS) (z0 : Int32) (z1 : Int32) (z2 : Int32), k11v u z0 z1 z2 → k11 u z0 z1 z2) (h : v_X9_isRedirected_J117 ro uo k11v U117 v117_1 v117_2 v117_3) : w_X9_isRedirected_J117 (fun r u => r = ro ∧ u = uo) k11 U117 v117_1 v117_2 v117_3 := by
  unfold v_X9_isRedirected_J117 at h
  unfold w_X9_isRedirected_J117
  intro _
  replace h := h.2
  obtain ⟨v9, e9, h⟩ := h
  intro x9 d9 
  have c9 : v9 = x9 := e9.trans d9.symm
  subst c9
  exact hk11 _ _ _ _ h
set_option maxRecDepth 100000 in
theorem vp_X9_isRedirected_J117 {ro : Int32} {uo : MS} {P : Int32 → MS → Prop} {k11 k11v : MS → Int32 → Int32 → Int32 → Prop} {U117 : MS} {v117_1 : Int32} {v117_2 : Int32} {v117_3 : Int32} (hk11 : ∀ (u : MS) (z0 : Int32) (z1 : Int32) (z2 : Int32), k11v u z0 z1 z2 → k11 u z0 z1 z2 → P ro uo) (h : v_X9_isRedirected_J117 ro uo k11v U117 v117_1 v117_2 v117_3) (w : w_X9_isRedirected_J117 P k11 U117 v117_1 v117_2 v117_3) : P ro uo := by
  unfold v_X9_isRedirected_J117 at h
  unfold w_X9_isRedirected_J117 at w
  obtain ⟨y1_, h⟩ := h
  replace w := w y1_
  obtain ⟨v9, e9, h⟩ := h
  replace w := w v9 e9 
  exact hk11 _ _ _ _ h w
set_option maxRecDepth 100000 in
theorem vw_X9_isRedirected_J75 {ro : Int32} {uo : MS} {k11 k11v : MS → Int32 → Int32 → Int32 → Prop} {U75 : MS} {v75_1 : Int32} {v75_2 : Int32} {v75_3 : Int32} {v75_4 : Int32} (hk11 : ∀ (u : MS) (z0 : Int32) (z1 : Int32) (z2 : Int32), k11v u z0 z1 z2 → k11 u z0 z1 z2) (h : v_X9_isRedirected_J75 ro uo k11v U75 v75_1 v75_2 v75_3 v75_4) : w_X9_isRedirected_J75 (fun r u => r = ro ∧ u = uo) k11 U75 v75_1 v75_2 v75_3 v75_4 := by
  unfold v_X9_isRedirected_J75 at h
  unfold w_X9_isRedirected_J75
  intro _
  replace h := h.2
  obtain ⟨g9, h⟩ := h
  refine ⟨g9, ?_⟩
  rcases h with ⟨c, h⟩ | ⟨c, h⟩
  · refine ⟨fun _ => ?_, fun c2 => absurd c c2⟩
    exact vw_X9_isRedirected_J117 hk11 h
  · refine ⟨fun c2 => absurd c2 c, fun _ => ?_⟩
    obtain ⟨g9, h⟩ := h
    refine ⟨g9, ?_⟩
    rcases h with ⟨c, h⟩ | ⟨c, h⟩
    · refine ⟨fun _ => ?_, fun c2 => absurd c c2⟩
      exact vw_X9_isRedirected_J117 hk11 h
    · refine ⟨fun c2 => absurd c2 c, fun _ => ?_⟩
      intro _
      replace h := h.2
      obtain ⟨q9, z9, h⟩ := h
      refine ⟨_, vwX8_setTarget z9, ?_⟩
      intro q8 d9 _ _
      subst d9
      replace h := h.2.2
      exact ⟨h.1.symm, h.2.symm⟩
set_option maxRecDepth 100000 in
theorem vp_X9_isRedirected_J75 {ro : Int32} {uo : MS} {P : Int32 → MS → Prop} {k11 k11v : MS → Int32 → Int32 → Int32 → Prop} {U75 : MS} {v75_1 : Int32} {v75_2 : Int32} {v75_3 : Int32} {v75_4 : Int32} (hk11 : ∀ (u : MS) (z0 : Int32) (z1 : Int32) (z2 : Int32), k11v u z0 z1 z2 → k11 u z0 z1 z2 → P ro uo) (h : v_X9_isRedirected_J75 ro uo k11v U75 v75_1 v75_2 v75_3 v75_4) (w : w_X9_isRedirected_J75 P k11 U75 v75_1 v75_2 v75_3 v75_4) : P ro uo := by
  unfold v_X9_isRedirected_J75 at h
  unfold w_X9_isRedirected_J75 at w
  obtain ⟨y2_, h⟩ := h
  replace w := w y2_
  replace h := h.2
  replace w := w.2
  rcases h with ⟨c, h⟩ | ⟨c, h⟩
  · replace w := w.1 c
    exact vp_X9_isRedirected_J117 hk11 h w
  · replace w := w.2 c
    replace h := h.2
    replace w := w.2
    rcases h with ⟨c, h⟩ | ⟨c, h⟩
    · replace w := w.1 c
      exact vp_X9_isRedirected_J117 hk11 h w
    · replace w := w.2 c
      obtain ⟨y3_, h⟩ := h
      replace w := w y3_
      obtain ⟨q9, z9, y4_, y5_, h⟩ := h
      obtain ⟨Q9, w0, w⟩ := w
      replace w := w q9 (vpX8_setTarget z9 w0) y4_ y5_
      rw [h.1, h.2]
      exact w
set_option maxRecDepth 100000 in
theorem vw_X9_isRedirected_L30 {ro : Int32} {uo : MS} {k11 k11v : MS → Int32 → Int32 → Int32 → Prop} : ∀ (n : Nat) {U30 : MS} {v30_1 : Int32} {v30_2 : Int32} {v30_3 : Int32} {v30_4 : Int32} {v30_5 : Int32} (hk11 : ∀ (u : MS) (z0 : Int32) (z1 : Int32) (z2 : Int32), k11v u z0 z1 z2 → k11 u z0 z1 z2), v_X9_isRedirected_L30 ro uo k11v n U30 v30_1 v30_2 v30_3 v30_4 v30_5 → w_X9_isRedirected_L30 (fun r u => r = ro ∧ u = uo) k11 n U30 v30_1 v30_2 v30_3 v30_4 v30_5 := by
  intro n
  induction n with
  | zero => intro U30 v30_1 v30_2 v30_3 v30_4 v30_5 hk11 h; unfold v_X9_isRedirected_L30 at h; exact h.elim
  | succ n ih =>
    intro U30 v30_1 v30_2 v30_3 v30_4 v30_5 hk11 h
    unfold v_X9_isRedirected_L30 at h
    unfold w_X9_isRedirected_L30
    intro _
    replace h := h.2
    obtain ⟨g9, h⟩ := h
    refine ⟨g9, ?_⟩
    rcases h with ⟨c, h⟩ | ⟨c, h⟩
    · refine ⟨fun _ => ?_, fun c2 => absurd c c2⟩
      rcases h with ⟨c, h⟩ | ⟨c, h⟩
      · refine ⟨fun _ => ?_, fun c2 => absurd c c2⟩
        exact vw_X9_isRedirected_J75 hk11 h
      · refine ⟨fun c2 => absurd c2 c, fun _ => ?_⟩
        obtain ⟨g9, h⟩ := h
        refine ⟨g9, ?_⟩
        obtain ⟨v9, e9, h⟩ := h
        intro x9 d9 
        have c9 : v9 = x9 := e9.trans d9.symm
        subst c9
        obtain ⟨v9, e9, h⟩ := h
        intro x9 d9 
        have c9 : v9 = x9 := e9.trans d9.symm
        subst c9
        exact ih hk11 h
    · refine ⟨fun c2 => absurd c2 c, fun _ => ?_⟩
      exact vw_X9_isRedirected_J75 hk11 h
set_option maxRecDepth 100000 in
theorem vp_X9_isRedirected_L30 {ro : Int32} {uo : MS} {P : Int32 → MS → Prop} {k11 k11v : MS → Int32 → Int32 → Int32 → Prop} : ∀ (n m : Nat) {U30 : MS} {v30_1 : Int32} {v30_2 : Int32} {v30_3 : Int32} {v30_4 : Int32} {v30_5 : Int32} (hk11 : ∀ (u : MS) (z0 : Int32) (z1 : Int32) (z2 : Int32), k11v u z0 z1 z2 → k11 u z0 z1 z2 → P ro uo), v_X9_isRedirected_L30 ro uo k11v n U30 v30_1 v30_2 v30_3 v30_4 v30_5 → w_X9_isRedirected_L30 P k11 m U30 v30_1 v30_2 v30_3 v30_4 v30_5 → P ro uo := by
  intro n
  induction n with
  | zero => intro m U30 v30_1 v30_2 v30_3 v30_4 v30_5 hk11 h; unfold v_X9_isRedirected_L30 at h; exact h.elim
  | succ n ih =>
    intro m U30 v30_1 v30_2 v30_3 v30_4 v30_5 hk11 h w
    cases m with
    | zero => unfold w_X9_isRedirected_L30 at w; exact w.elim
    | succ m =>
      unfold v_X9_isRedirected_L30 at h
      unfold w_X9_isRedirected_L30 at w
      obtain ⟨y6_, h⟩ := h
      replace w := w y6_
      replace h := h.2
      replace w := w.2
      rcases h with ⟨c, h⟩ | ⟨c, h⟩
      · replace w := w.1 c
        rcases h with ⟨c, h⟩ | ⟨c, h⟩
        · replace w := w.1 c
          exact vp_X9_isRedirected_J75 hk11 h w
        · replace w := w.2 c
          replace h := h.2
          replace w := w.2
          obtain ⟨v9, e9, h⟩ := h
          replace w := w v9 e9 
          obtain ⟨v9, e9, h⟩ := h
          replace w := w v9 e9 
          exact ih m hk11 h w
      · replace w := w.2 c
        exact vp_X9_isRedirected_J75 hk11 h w
set_option maxRecDepth 100000 in
theorem vw_X9_isRedirected_L11 {ro : Int32} {uo : MS} : ∀ (n : Nat) {U11 : MS} {v11_1 : Int32} {v11_2 : Int32} {v11_3 : Int32}, v_X9_isRedirected_L11 ro uo n U11 v11_1 v11_2 v11_3 → w_X9_isRedirected_L11 (fun r u => r = ro ∧ u = uo) n U11 v11_1 v11_2 v11_3 := by
  intro n
  induction n with
  | zero => intro U11 v11_1 v11_2 v11_3 h; unfold v_X9_isRedirected_L11 at h; exact h.elim
  | succ n ih =>
    intro U11 v11_1 v11_2 v11_3 h
    unfold v_X9_isRedirected_L11 at h
    unfold w_X9_isRedirected_L11
    intro _
    replace h := h.2
    rcases h with ⟨c, h⟩ | ⟨c, h⟩
    · refine ⟨fun _ => ?_, fun c2 => absurd c c2⟩
      exact ⟨h.1.symm, h.2.symm⟩
    · refine ⟨fun c2 => absurd c2 c, fun _ => ?_⟩
      obtain ⟨g9, h⟩ := h
      refine ⟨g9, ?_⟩
      obtain ⟨v9, e9, h⟩ := h
      intro x9 d9 
      have c9 : v9 = x9 := e9.trans d9.symm
      subst c9
      obtain ⟨n9, h⟩ := h
      exact ⟨n9, vw_X9_isRedirected_L30 n9 (fun _ _ _ _ h => ih h) h⟩
set_option maxRecDepth 100000 in
theorem vp_X9_isRedirected_L11 {ro : Int32} {uo : MS} {P : Int32 → MS → Prop} : ∀ (n m : Nat) {U11 : MS} {v11_1 : Int32} {v11_2 : Int32} {v11_3 : Int32}, v_X9_isRedirected_L11 ro uo n U11 v11_1 v11_2 v11_3 → w_X9_isRedirected_L11 P m U11 v11_1 v11_2 v11_3 → P ro uo := by
  intro n
  induction n with
  | zero => intro m U11 v11_1 v11_2 v11_3 h; unfold v_X9_isRedirected_L11 at h; exact h.elim
  | succ n ih =>
    intro m U11 v11_1 v11_2 v11_3 h w
    cases m with
    | zero => unfold w_X9_isRedirected_L11 at w; exact w.elim
    | succ m =>
      unfold v_X9_isRedirected_L11 at h
      unfold w_X9_isRedirected_L11 at w
      obtain ⟨y7_, h⟩ := h
      replace w := w y7_
      rcases h with ⟨c, h⟩ | ⟨c, h⟩
      · replace w := w.1 c
        rw [h.1, h.2]
        exact w
      · replace w := w.2 c
        replace h := h.2
        replace w := w.2
        obtain ⟨v9, e9, h⟩ := h
        replace w := w v9 e9 
        obtain ⟨n9, h⟩ := h
        obtain ⟨n8, w⟩ := w
        exact vp_X9_isRedirected_L30 n9 n8 (fun _ _ _ _ h w => ih m h w) h w
set_option maxRecDepth 100000 in
theorem vwX9_isRedirected {S : MS} {x1 : Int32} {ro : Int32} {uo : MS} (h : vX9_isRedirected S x1 ro uo) : wX9_isRedirected S x1 (fun r u => r = ro ∧ u = uo) := by
  unfold vX9_isRedirected at h
  unfold wX9_isRedirected
  obtain ⟨g9, h⟩ := h
  refine ⟨g9, ?_⟩
  obtain ⟨v9, e9, h⟩ := h
  intro x9 d9 
  have c9 : v9 = x9 := e9.trans d9.symm
  subst c9
  obtain ⟨n9, h⟩ := h
  exact ⟨n9, vw_X9_isRedirected_L11 n9 h⟩
set_option maxRecDepth 100000 in
theorem vpX9_isRedirected {S : MS} {x1 : Int32} {ro : Int32} {uo : MS} {P : Int32 → MS → Prop} (h : vX9_isRedirected S x1 ro uo) (w : wX9_isRedirected S x1 P) : P ro uo := by
  unfold vX9_isRedirected at h
  unfold wX9_isRedirected at w
  replace h := h.2
  replace w := w.2
  obtain ⟨v9, e9, h⟩ := h
  replace w := w v9 e9 
  obtain ⟨n9, h⟩ := h
  obtain ⟨n8, w⟩ := w
  exact vp_X9_isRedirected_L11 n9 n8 h w
def vX9_mark (S : MS) (x1 : Int32) (uo : MS) : Prop := ((x1.toInt < 0 ∧ (uo = S)) ∨ (¬ x1.toInt < 0 ∧ (((qN S (qO S 66 2) : Int) ≤ x1.toInt ∧ (uo = S)) ∨ (¬ (qN S (qO S 66 2) : Int) ≤ x1.toInt ∧ (((0 : Int) ≤ x1.toInt ∧ x1.toInt < (qN S (qO S 66 2) : Int)) ∧ (∃ S7 : MS, S7 = wI S (qO S 66 2) x1.toInt.toNat (vp_nar .boolean (1 : Int32)) ∧ qT S (qO S 66 2) = 305 ∧ wfC S7 ∧ (uo = S7)))))))
set_option maxRecDepth 100000 in
theorem ruX9_mark {S : MS} {x1 : Int32} {Q : MS → Prop} (h : wX9_mark S x1 Q) : wX9_mark S x1 (fun u => Q u ∧ vX9_mark S x1 u) := by
  have i0 : Unit := ()
  have K : ∀ (i : Unit) (uo : MS), vX9_mark S x1 uo → vX9_mark S x1 uo := fun _ _ z => z
  unfold wX9_mark at h ⊢
  refine ⟨fun c => ?_, fun c => ?_⟩
  · replace h := h.1 c
    replace K := fun i uo z => K i uo (Or.inl ⟨c, z⟩)
    exact ⟨h, K i0 _ rfl⟩
  · replace h := h.2 c
    replace K := fun i uo z => K i uo (Or.inr ⟨c, z⟩)
    refine ⟨fun c => ?_, fun c => ?_⟩
    · replace h := h.1 c
      replace K := fun i uo z => K i uo (Or.inl ⟨c, z⟩)
      exact ⟨h, K i0 _ rfl⟩
    · replace h := h.2 c
      replace K := fun i uo z => K i uo (Or.inr ⟨c, z⟩)
      obtain ⟨g1_, h⟩ := h
      refine ⟨g1_, ?_⟩
      replace K := fun i uo z => K i uo ⟨g1_, z⟩
      intro S7 eS7 y2_ y3_
      replace h := h S7 eS7 y2_ y3_
      replace K := fun i uo z => K i uo ⟨S7, eS7, y2_, y3_, z⟩
      exact ⟨h, K i0 _ rfl⟩
set_option maxRecDepth 100000 in
theorem vwX9_mark {S : MS} {x1 : Int32} {uo : MS} (h : vX9_mark S x1 uo) : wX9_mark S x1 (fun u => u = uo) := by
  unfold vX9_mark at h
  unfold wX9_mark
  rcases h with ⟨c, h⟩ | ⟨c, h⟩
  · refine ⟨fun _ => ?_, fun c2 => absurd c c2⟩
    exact h.symm
  · refine ⟨fun c2 => absurd c2 c, fun _ => ?_⟩
    rcases h with ⟨c, h⟩ | ⟨c, h⟩
    · refine ⟨fun _ => ?_, fun c2 => absurd c c2⟩
      exact h.symm
    · refine ⟨fun c2 => absurd c2 c, fun _ => ?_⟩
      obtain ⟨g9, h⟩ := h
      refine ⟨g9, ?_⟩
      obtain ⟨v9, e9, h⟩ := h
      intro x9 d9 _ _
      have c9 : v9 = x9 := e9.trans d9.symm
      subst c9
      replace h := h.2.2
      exact h.symm
set_option maxRecDepth 100000 in
theorem vpX9_mark {S : MS} {x1 : Int32} {uo : MS} {P : MS → Prop} (h : vX9_mark S x1 uo) (w : wX9_mark S x1 P) : P uo := by
  unfold vX9_mark at h
  unfold wX9_mark at w
  rcases h with ⟨c, h⟩ | ⟨c, h⟩
  · replace w := w.1 c
    rw [h]
    exact w
  · replace w := w.2 c
    rcases h with ⟨c, h⟩ | ⟨c, h⟩
    · replace w := w.1 c
      rw [h]
      exact w
    · replace w := w.2 c
      replace h := h.2
      replace w := w.2
      obtain ⟨v9, e9, y1_, y2_, h⟩ := h
      replace w := w v9 e9 y1_ y2_
      rw [h]
      exact w
def vX9_putPush (S : MS) (x1 : Int32) (x2 : Int32) (y3 : Int64) (uo : MS) : Prop := ((x2.toInt = 2 ∧ (qT S (qO S 66 0) = 47 ∧ (∃ (S7 : MS), vX8_set S (qO S 66 0) x1 (20 : Int32) y3 S7 ∧ wfC S7 ∧ shy S S7 ∧ (uo = S7)))) ∨ (¬ x2.toInt = 2 ∧ (qT S (qO S 66 0) = 47 ∧ (∃ (S4 : MS), vX8_set S (qO S 66 0) x1 (17 : Int32) y3 S4 ∧ wfC S4 ∧ shy S S4 ∧ (uo = S4)))))
set_option maxRecDepth 100000 in
theorem ruX9_putPush {S : MS} {x1 : Int32} {x2 : Int32} {y3 : Int64} {Q : MS → Prop} (h : wX9_putPush S x1 x2 y3 Q) : wX9_putPush S x1 x2 y3 (fun u => Q u ∧ vX9_putPush S x1 x2 y3 u) := by
  have i0 : Unit := ()
  have K : ∀ (i : Unit) (uo : MS), vX9_putPush S x1 x2 y3 uo → vX9_putPush S x1 x2 y3 uo := fun _ _ z => z
  unfold wX9_putPush at h ⊢
  refine ⟨fun c => ?_, fun c => ?_⟩
  · replace h := h.1 c
    replace K := fun i uo z => K i uo (Or.inl ⟨c, z⟩)
    intro y1_
    replace h := h y1_
    replace K := fun i uo z => K i uo ⟨y1_, z⟩
    obtain ⟨Q9, h0, h⟩ := h
    refine ⟨_, ruX8_set h0, ?_⟩
    intro S7 q2_ y3_ y4_
    replace h := h S7 q2_.1 y3_ y4_
    replace K := fun i uo z => K i uo ⟨S7, q2_.2, y3_, y4_, z⟩
    exact ⟨h, K i0 _ rfl⟩
  · replace h := h.2 c
    replace K := fun i uo z => K i uo (Or.inr ⟨c, z⟩)
    intro y5_
    replace h := h y5_
    replace K := fun i uo z => K i uo ⟨y5_, z⟩
    obtain ⟨Q9, h0, h⟩ := h
    refine ⟨_, ruX8_set h0, ?_⟩
    intro S4 q6_ y7_ y8_
    replace h := h S4 q6_.1 y7_ y8_
    replace K := fun i uo z => K i uo ⟨S4, q6_.2, y7_, y8_, z⟩
    exact ⟨h, K i0 _ rfl⟩
set_option maxRecDepth 100000 in
theorem vwX9_putPush {S : MS} {x1 : Int32} {x2 : Int32} {y3 : Int64} {uo : MS} (h : vX9_putPush S x1 x2 y3 uo) : wX9_putPush S x1 x2 y3 (fun u => u = uo) := by
  unfold vX9_putPush at h
  unfold wX9_putPush
  rcases h with ⟨c, h⟩ | ⟨c, h⟩
  · refine ⟨fun _ => ?_, fun c2 => absurd c c2⟩
    intro _
    replace h := h.2
    obtain ⟨q9, z9, h⟩ := h
    refine ⟨_, vwX8_set z9, ?_⟩
    intro q8 d9 _ _
    subst d9
    replace h := h.2.2
    exact h.symm
  · refine ⟨fun c2 => absurd c2 c, fun _ => ?_⟩
    intro _
    replace h := h.2
    obtain ⟨q9, z9, h⟩ := h
    refine ⟨_, vwX8_set z9, ?_⟩
    intro q8 d9 _ _
    subst d9
    replace h := h.2.2
    exact h.symm
set_option maxRecDepth 100000 in
theorem vpX9_putPush {S : MS} {x1 : Int32} {x2 : Int32} {y3 : Int64} {uo : MS} {P : MS → Prop} (h : vX9_putPush S x1 x2 y3 uo) (w : wX9_putPush S x1 x2 y3 P) : P uo := by
  unfold vX9_putPush at h
  unfold wX9_putPush at w
  rcases h with ⟨c, h⟩ | ⟨c, h⟩
  · replace w := w.1 c
    obtain ⟨y1_, h⟩ := h
    replace w := w y1_
    obtain ⟨q9, z9, y2_, y3_, h⟩ := h
    obtain ⟨Q9, w0, w⟩ := w
    replace w := w q9 (vpX8_set z9 w0) y2_ y3_
    rw [h]
    exact w
  · replace w := w.2 c
    obtain ⟨y4_, h⟩ := h
    replace w := w y4_
    obtain ⟨q9, z9, y5_, y6_, h⟩ := h
    obtain ⟨Q9, w0, w⟩ := w
    replace w := w q9 (vpX8_set z9 w0) y5_ y6_
    rw [h]
    exact w
def vX10_init (S : MS) (p0 : Nat) (p1 : Nat) (x2 : Int32) (x3 : Int32) (uo : MS) : Prop := (∃ S1 : MS, S1 = wI S p0 16 (-1 : Int32) ∧ qT S p0 = 49 ∧ wfC S1 ∧ (∃ S2 : MS, S2 = wI S1 p0 17 (-1 : Int32) ∧ qT S1 p0 = 49 ∧ wfC S2 ∧ ((p1 = p0 + 1) ∧ (∃ S4 : MS, S4 = wR S2 p0 0 (some p1) ∧ qT S2 p0 = 49 ∧ wfC S4 ∧ (∃ S5 : MS, S5 = wI S4 p0 4 x2 ∧ qT S4 p0 = 49 ∧ wfC S5 ∧ (((0 : Int) ≤ x2.toInt ∧ (qn S5 + 1 ≤ KCC ∧ qu S5 + x2.toInt.toNat ≤ KSC)) ∧ (∃ S9 : MS, S9 = wN S5 231 x2.toInt.toNat x2.toInt.toNat ∧ wfC S9 ∧ (((qn S5) = p0 + 2) ∧ (∃ S12 : MS, S12 = wR S9 p0 5 (some (qn S5)) ∧ qT S9 p0 = 49 ∧ wfC S12 ∧ (((0 : Int) ≤ x2.toInt ∧ (qn S12 + 1 ≤ KCC ∧ qu S12 + x2.toInt.toNat ≤ KSC)) ∧ (∃ S16 : MS, S16 = wN S12 232 x2.toInt.toNat x2.toInt.toNat ∧ wfC S16 ∧ (((qn S12) = p0 + 3) ∧ (∃ S19 : MS, S19 = wR S16 p0 6 (some (qn S12)) ∧ qT S16 p0 = 49 ∧ wfC S19 ∧ (((0 : Int) ≤ x2.toInt ∧ (qn S19 + 1 ≤ KCC ∧ qu S19 + x2.toInt.toNat ≤ KSC)) ∧ (∃ S23 : MS, S23 = wN S19 233 x2.toInt.toNat x2.toInt.toNat ∧ wfC S23 ∧ (((qn S19) = p0 + 4) ∧ (∃ S26 : MS, S26 = wR S23 p0 7 (some (qn S19)) ∧ qT S23 p0 = 49 ∧ wfC S26 ∧ (∃ S27 : MS, S27 = wI S26 p0 8 x3 ∧ qT S26 p0 = 49 ∧ wfC S27 ∧ (((0 : Int) ≤ x3.toInt ∧ (qn S27 + 1 ≤ KCC ∧ qu S27 + x3.toInt.toNat ≤ KSC)) ∧ (∃ S31 : MS, S31 = wN S27 234 x3.toInt.toNat x3.toInt.toNat ∧ wfC S31 ∧ (((qn S27) = p0 + 5) ∧ (∃ S34 : MS, S34 = wR S31 p0 9 (some (qn S27)) ∧ qT S31 p0 = 49 ∧ wfC S34 ∧ (((0 : Int) ≤ x3.toInt ∧ (qn S34 + 1 ≤ KCC ∧ qu S34 + x3.toInt.toNat ≤ KSC)) ∧ (∃ S38 : MS, S38 = wN S34 235 x3.toInt.toNat x3.toInt.toNat ∧ wfC S38 ∧ (((qn S34) = p0 + 6) ∧ (∃ S41 : MS, S41 = wR S38 p0 10 (some (qn S34)) ∧ qT S38 p0 = 49 ∧ wfC S41 ∧ (((0 : Int) ≤ x3.toInt ∧ (qn S41 + 1 ≤ KCC ∧ qu S41 + x3.toInt.toNat ≤ KSC)) ∧ (∃ S45 : MS, S45 = wN S41 236 x3.toInt.toNat x3.toInt.toNat ∧ wfC S45 ∧ (((qn S41) = p0 + 7) ∧ (∃ S48 : MS, S48 = wR S45 p0 11 (some (qn S41)) ∧ qT S45 p0 = 49 ∧ wfC S48 ∧ (((0 : Int) ≤ x3.toInt ∧ (qn S48 + 1 ≤ KCC ∧ qu S48 + x3.toInt.toNat ≤ KSC)) ∧ (∃ S52 : MS, S52 = wN S48 237 x3.toInt.toNat x3.toInt.toNat ∧ wfC S52 ∧ (((qn S48) = p0 + 8) ∧ (∃ S55 : MS, S55 = wR S52 p0 12 (some (qn S48)) ∧ qT S52 p0 = 49 ∧ wfC S55 ∧ (((0 : Int) ≤ x3.toInt ∧ (qn S55 + 1 ≤ KCC ∧ qu S55 + x3.toInt.toNat ≤ KSC)) ∧ (∃ S59 : MS, S59 = wN S55 6 x3.toInt.toNat x3.toInt.toNat ∧ wfC S59 ∧ (((qn S55) = p0 + 9) ∧ (∃ S62 : MS, S62 = wR S59 p0 13 (some (qn S55)) ∧ qT S59 p0 = 49 ∧ wfC S62 ∧ (uo = S62)))))))))))))))))))))))))))))))))))))))
set_option maxRecDepth 100000 in
theorem ruX10_init {S : MS} {p0 : Nat} {p1 : Nat} {x2 : Int32} {x3 : Int32} {Q : MS → Prop} (h : wX10_init S p0 p1 x2 x3 Q) : wX10_init S p0 p1 x2 x3 (fun u => Q u ∧ vX10_init S p0 p1 x2 x3 u) := by
  have i0 : Unit := ()
  have K : ∀ (i : Unit) (uo : MS), vX10_init S p0 p1 x2 x3 uo → vX10_init S p0 p1 x2 x3 uo := fun _ _ z => z
  unfold wX10_init at h ⊢
  intro S1 eS1 y1_ y2_
  replace h := h S1 eS1 y1_ y2_
  replace K := fun i uo z => K i uo ⟨S1, eS1, y1_, y2_, z⟩
  intro S2 eS2 y3_ y4_
  replace h := h S2 eS2 y3_ y4_
  replace K := fun i uo z => K i uo ⟨S2, eS2, y3_, y4_, z⟩
  obtain ⟨g5_, h⟩ := h
  refine ⟨g5_, ?_⟩
  replace K := fun i uo z => K i uo ⟨g5_, z⟩
  intro S4 eS4 y6_ y7_
  replace h := h S4 eS4 y6_ y7_
  replace K := fun i uo z => K i uo ⟨S4, eS4, y6_, y7_, z⟩
  intro S5 eS5 y8_ y9_
  replace h := h S5 eS5 y8_ y9_
  replace K := fun i uo z => K i uo ⟨S5, eS5, y8_, y9_, z⟩
  obtain ⟨g10_, h⟩ := h
  refine ⟨g10_, ?_⟩
  replace K := fun i uo z => K i uo ⟨g10_, z⟩
  intro S9 eS9 y11_
  replace h := h S9 eS9 y11_
  replace K := fun i uo z => K i uo ⟨S9, eS9, y11_, z⟩
  obtain ⟨g12_, h⟩ := h
  refine ⟨g12_, ?_⟩
  replace K := fun i uo z => K i uo ⟨g12_, z⟩
  intro S12 eS12 y13_ y14_
  replace h := h S12 eS12 y13_ y14_
  replace K := fun i uo z => K i uo ⟨S12, eS12, y13_, y14_, z⟩
  obtain ⟨g15_, h⟩ := h
  refine ⟨g15_, ?_⟩
  replace K := fun i uo z => K i uo ⟨g15_, z⟩
  intro S16 eS16 y16_
  replace h := h S16 eS16 y16_
  replace K := fun i uo z => K i uo ⟨S16, eS16, y16_, z⟩
  obtain ⟨g17_, h⟩ := h
  refine ⟨g17_, ?_⟩
  replace K := fun i uo z => K i uo ⟨g17_, z⟩
  intro S19 eS19 y18_ y19_
  replace h := h S19 eS19 y18_ y19_
  replace K := fun i uo z => K i uo ⟨S19, eS19, y18_, y19_, z⟩
  obtain ⟨g20_, h⟩ := h
  refine ⟨g20_, ?_⟩
  replace K := fun i uo z => K i uo ⟨g20_, z⟩
  intro S23 eS23 y21_
  replace h := h S23 eS23 y21_
  replace K := fun i uo z => K i uo ⟨S23, eS23, y21_, z⟩
  obtain ⟨g22_, h⟩ := h
  refine ⟨g22_, ?_⟩
  replace K := fun i uo z => K i uo ⟨g22_, z⟩
  intro S26 eS26 y23_ y24_
  replace h := h S26 eS26 y23_ y24_
  replace K := fun i uo z => K i uo ⟨S26, eS26, y23_, y24_, z⟩
  intro S27 eS27 y25_ y26_
  replace h := h S27 eS27 y25_ y26_
  replace K := fun i uo z => K i uo ⟨S27, eS27, y25_, y26_, z⟩
  obtain ⟨g27_, h⟩ := h
  refine ⟨g27_, ?_⟩
  replace K := fun i uo z => K i uo ⟨g27_, z⟩
  intro S31 eS31 y28_
  replace h := h S31 eS31 y28_
  replace K := fun i uo z => K i uo ⟨S31, eS31, y28_, z⟩
  obtain ⟨g29_, h⟩ := h
  refine ⟨g29_, ?_⟩
  replace K := fun i uo z => K i uo ⟨g29_, z⟩
  intro S34 eS34 y30_ y31_
  replace h := h S34 eS34 y30_ y31_
  replace K := fun i uo z => K i uo ⟨S34, eS34, y30_, y31_, z⟩
  obtain ⟨g32_, h⟩ := h
  refine ⟨g32_, ?_⟩
  replace K := fun i uo z => K i uo ⟨g32_, z⟩
  intro S38 eS38 y33_
  replace h := h S38 eS38 y33_
  replace K := fun i uo z => K i uo ⟨S38, eS38, y33_, z⟩
  obtain ⟨g34_, h⟩ := h
  refine ⟨g34_, ?_⟩
  replace K := fun i uo z => K i uo ⟨g34_, z⟩
  intro S41 eS41 y35_ y36_
  replace h := h S41 eS41 y35_ y36_
  replace K := fun i uo z => K i uo ⟨S41, eS41, y35_, y36_, z⟩
  obtain ⟨g37_, h⟩ := h
  refine ⟨g37_, ?_⟩
  replace K := fun i uo z => K i uo ⟨g37_, z⟩
  intro S45 eS45 y38_
  replace h := h S45 eS45 y38_
  replace K := fun i uo z => K i uo ⟨S45, eS45, y38_, z⟩
  obtain ⟨g39_, h⟩ := h
  refine ⟨g39_, ?_⟩
  replace K := fun i uo z => K i uo ⟨g39_, z⟩
  intro S48 eS48 y40_ y41_
  replace h := h S48 eS48 y40_ y41_
  replace K := fun i uo z => K i uo ⟨S48, eS48, y40_, y41_, z⟩
  obtain ⟨g42_, h⟩ := h
  refine ⟨g42_, ?_⟩
  replace K := fun i uo z => K i uo ⟨g42_, z⟩
  intro S52 eS52 y43_
  replace h := h S52 eS52 y43_
  replace K := fun i uo z => K i uo ⟨S52, eS52, y43_, z⟩
  obtain ⟨g44_, h⟩ := h
  refine ⟨g44_, ?_⟩
  replace K := fun i uo z => K i uo ⟨g44_, z⟩
  intro S55 eS55 y45_ y46_
  replace h := h S55 eS55 y45_ y46_
  replace K := fun i uo z => K i uo ⟨S55, eS55, y45_, y46_, z⟩
  obtain ⟨g47_, h⟩ := h
  refine ⟨g47_, ?_⟩
  replace K := fun i uo z => K i uo ⟨g47_, z⟩
  intro S59 eS59 y48_
  replace h := h S59 eS59 y48_
  replace K := fun i uo z => K i uo ⟨S59, eS59, y48_, z⟩
  obtain ⟨g49_, h⟩ := h
  refine ⟨g49_, ?_⟩
  replace K := fun i uo z => K i uo ⟨g49_, z⟩
  intro S62 eS62 y50_ y51_
  replace h := h S62 eS62 y50_ y51_
  replace K := fun i uo z => K i uo ⟨S62, eS62, y50_, y51_, z⟩
  exact ⟨h, K i0 _ rfl⟩
set_option maxRecDepth 100000 in
theorem vwX10_init {S : MS} {p0 : Nat} {p1 : Nat} {x2 : Int32} {x3 : Int32} {uo : MS} (h : vX10_init S p0 p1 x2 x3 uo) : wX10_init S p0 p1 x2 x3 (fun u => u = uo) := by
  unfold vX10_init at h
  unfold wX10_init
  obtain ⟨v9, e9, h⟩ := h
  intro x9 d9 _ _
  have c9 : v9 = x9 := e9.trans d9.symm
  subst c9
  replace h := h.2.2
  obtain ⟨v9, e9, h⟩ := h
  intro x9 d9 _ _
  have c9 : v9 = x9 := e9.trans d9.symm
  subst c9
  replace h := h.2.2
  obtain ⟨g9, h⟩ := h
  refine ⟨g9, ?_⟩
  obtain ⟨v9, e9, h⟩ := h
  intro x9 d9 _ _
  have c9 : v9 = x9 := e9.trans d9.symm
  subst c9
  replace h := h.2.2
  obtain ⟨v9, e9, h⟩ := h
  intro x9 d9 _ _
  have c9 : v9 = x9 := e9.trans d9.symm
  subst c9
  replace h := h.2.2
  obtain ⟨g9, h⟩ := h
  refine ⟨g9, ?_⟩
  obtain ⟨v9, e9, h⟩ := h
  intro x9 d9 _
  have c9 : v9 = x9 := e9.trans d9.symm
  subst c9
  replace h := h.2
  obtain ⟨g9, h⟩ := h
  refine ⟨g9, ?_⟩
  obtain ⟨v9, e9, h⟩ := h
  intro x9 d9 _ _
  have c9 : v9 = x9 := e9.trans d9.symm
  subst c9
  replace h := h.2.2
  obtain ⟨g9, h⟩ := h
  refine ⟨g9, ?_⟩
  obtain ⟨v9, e9, h⟩ := h
  intro x9 d9 _
  have c9 : v9 = x9 := e9.trans d9.symm
  subst c9
  replace h := h.2
  obtain ⟨g9, h⟩ := h
  refine ⟨g9, ?_⟩
  obtain ⟨v9, e9, h⟩ := h
  intro x9 d9 _ _
  have c9 : v9 = x9 := e9.trans d9.symm
  subst c9
  replace h := h.2.2
  obtain ⟨g9, h⟩ := h
  refine ⟨g9, ?_⟩
  obtain ⟨v9, e9, h⟩ := h
  intro x9 d9 _
  have c9 : v9 = x9 := e9.trans d9.symm
  subst c9
  replace h := h.2
  obtain ⟨g9, h⟩ := h
  refine ⟨g9, ?_⟩
  obtain ⟨v9, e9, h⟩ := h
  intro x9 d9 _ _
  have c9 : v9 = x9 := e9.trans d9.symm
  subst c9
  replace h := h.2.2
  obtain ⟨v9, e9, h⟩ := h
  intro x9 d9 _ _
  have c9 : v9 = x9 := e9.trans d9.symm
  subst c9
  replace h := h.2.2
  obtain ⟨g9, h⟩ := h
  refine ⟨g9, ?_⟩
  obtain ⟨v9, e9, h⟩ := h
  intro x9 d9 _
  have c9 : v9 = x9 := e9.trans d9.symm
  subst c9
  replace h := h.2
  obtain ⟨g9, h⟩ := h
  refine ⟨g9, ?_⟩
  obtain ⟨v9, e9, h⟩ := h
  intro x9 d9 _ _
  have c9 : v9 = x9 := e9.trans d9.symm
  subst c9
  replace h := h.2.2
  obtain ⟨g9, h⟩ := h
  refine ⟨g9, ?_⟩
  obtain ⟨v9, e9, h⟩ := h
  intro x9 d9 _
  have c9 : v9 = x9 := e9.trans d9.symm
  subst c9
  replace h := h.2
  obtain ⟨g9, h⟩ := h
  refine ⟨g9, ?_⟩
  obtain ⟨v9, e9, h⟩ := h
  intro x9 d9 _ _
  have c9 : v9 = x9 := e9.trans d9.symm
  subst c9
  replace h := h.2.2
  obtain ⟨g9, h⟩ := h
  refine ⟨g9, ?_⟩
  obtain ⟨v9, e9, h⟩ := h
  intro x9 d9 _
  have c9 : v9 = x9 := e9.trans d9.symm
  subst c9
  replace h := h.2
  obtain ⟨g9, h⟩ := h
  refine ⟨g9, ?_⟩
  obtain ⟨v9, e9, h⟩ := h
  intro x9 d9 _ _
  have c9 : v9 = x9 := e9.trans d9.symm
  subst c9
  replace h := h.2.2
  obtain ⟨g9, h⟩ := h
  refine ⟨g9, ?_⟩
  obtain ⟨v9, e9, h⟩ := h
  intro x9 d9 _
  have c9 : v9 = x9 := e9.trans d9.symm
  subst c9
  replace h := h.2
  obtain ⟨g9, h⟩ := h
  refine ⟨g9, ?_⟩
  obtain ⟨v9, e9, h⟩ := h
  intro x9 d9 _ _
  have c9 : v9 = x9 := e9.trans d9.symm
  subst c9
  replace h := h.2.2
  obtain ⟨g9, h⟩ := h
  refine ⟨g9, ?_⟩
  obtain ⟨v9, e9, h⟩ := h
  intro x9 d9 _
  have c9 : v9 = x9 := e9.trans d9.symm
  subst c9
  replace h := h.2
  obtain ⟨g9, h⟩ := h
  refine ⟨g9, ?_⟩
  obtain ⟨v9, e9, h⟩ := h
  intro x9 d9 _ _
  have c9 : v9 = x9 := e9.trans d9.symm
  subst c9
  replace h := h.2.2
  exact h.symm
set_option maxRecDepth 100000 in
theorem vpX10_init {S : MS} {p0 : Nat} {p1 : Nat} {x2 : Int32} {x3 : Int32} {uo : MS} {P : MS → Prop} (h : vX10_init S p0 p1 x2 x3 uo) (w : wX10_init S p0 p1 x2 x3 P) : P uo := by
  unfold vX10_init at h
  unfold wX10_init at w
  obtain ⟨v9, e9, y1_, y2_, h⟩ := h
  replace w := w v9 e9 y1_ y2_
  obtain ⟨v9, e9, y3_, y4_, h⟩ := h
  replace w := w v9 e9 y3_ y4_
  replace h := h.2
  replace w := w.2
  obtain ⟨v9, e9, y5_, y6_, h⟩ := h
  replace w := w v9 e9 y5_ y6_
  obtain ⟨v9, e9, y7_, y8_, h⟩ := h
  replace w := w v9 e9 y7_ y8_
  replace h := h.2
  replace w := w.2
  obtain ⟨v9, e9, y9_, h⟩ := h
  replace w := w v9 e9 y9_
  replace h := h.2
  replace w := w.2
  obtain ⟨v9, e9, y10_, y11_, h⟩ := h
  replace w := w v9 e9 y10_ y11_
  replace h := h.2
  replace w := w.2
  obtain ⟨v9, e9, y12_, h⟩ := h
  replace w := w v9 e9 y12_
  replace h := h.2
  replace w := w.2
  obtain ⟨v9, e9, y13_, y14_, h⟩ := h
  replace w := w v9 e9 y13_ y14_
  replace h := h.2
  replace w := w.2
  obtain ⟨v9, e9, y15_, h⟩ := h
  replace w := w v9 e9 y15_
  replace h := h.2
  replace w := w.2
  obtain ⟨v9, e9, y16_, y17_, h⟩ := h
  replace w := w v9 e9 y16_ y17_
  obtain ⟨v9, e9, y18_, y19_, h⟩ := h
  replace w := w v9 e9 y18_ y19_
  replace h := h.2
  replace w := w.2
  obtain ⟨v9, e9, y20_, h⟩ := h
  replace w := w v9 e9 y20_
  replace h := h.2
  replace w := w.2
  obtain ⟨v9, e9, y21_, y22_, h⟩ := h
  replace w := w v9 e9 y21_ y22_
  replace h := h.2
  replace w := w.2
  obtain ⟨v9, e9, y23_, h⟩ := h
  replace w := w v9 e9 y23_
  replace h := h.2
  replace w := w.2
  obtain ⟨v9, e9, y24_, y25_, h⟩ := h
  replace w := w v9 e9 y24_ y25_
  replace h := h.2
  replace w := w.2
  obtain ⟨v9, e9, y26_, h⟩ := h
  replace w := w v9 e9 y26_
  replace h := h.2
  replace w := w.2
  obtain ⟨v9, e9, y27_, y28_, h⟩ := h
  replace w := w v9 e9 y27_ y28_
  replace h := h.2
  replace w := w.2
  obtain ⟨v9, e9, y29_, h⟩ := h
  replace w := w v9 e9 y29_
  replace h := h.2
  replace w := w.2
  obtain ⟨v9, e9, y30_, y31_, h⟩ := h
  replace w := w v9 e9 y30_ y31_
  replace h := h.2
  replace w := w.2
  obtain ⟨v9, e9, y32_, h⟩ := h
  replace w := w v9 e9 y32_
  replace h := h.2
  replace w := w.2
  obtain ⟨v9, e9, y33_, y34_, h⟩ := h
  replace w := w v9 e9 y33_ y34_
  rw [h]
  exact w
