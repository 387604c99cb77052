def vX1_takeUp (S : MS) (x1 : Int32) (uo : MS) : Prop := (d_X4_heightAt S 17 x1 ∧ (∃ S6 : MS, S6 = wI S 16 5 (if (0 : Int32) < (if (24 : Int32) < (fX4_heightAt S 17 x1) then (24 : Int32) else (fX4_heightAt S 17 x1)) then (if (24 : Int32) < (fX4_heightAt S 17 x1) then (24 : Int32) else (fX4_heightAt S 17 x1)) else (0 : Int32)) ∧ qT S 16 = 41 ∧ wfC S6 ∧ ((¬ (x1 * (48 : Int32)) < 0 ∧ ¬ (0 : Int32) < 0 ∧ ¬ (48 : Int32) < 0 ∧ (x1 * (48 : Int32)).toNatClampNeg + (48 : Int32).toNatClampNeg ≤ qN S6 (qO S6 16 1) ∧ (0 : Int32).toNatClampNeg + (48 : Int32).toNatClampNeg ≤ qN S6 24) ∧ (∃ S10 : MS, S10 = wC S6 24 (va_cpy (qI S6 (qO S6 16 1)) (qI S6 24) (x1 * (48 : Int32)).toNatClampNeg (0 : Int32).toNatClampNeg (48 : Int32).toNatClampNeg) ∧ qT S6 24 = 103 ∧ wfC S10 ∧ (uo = S10)))))
set_option maxRecDepth 100000 in
theorem ruX1_takeUp {S : MS} {x1 : Int32} {Q : MS → Prop} (h : wX1_takeUp S x1 Q) : wX1_takeUp S x1 (fun u => Q u ∧ vX1_takeUp S x1 u) := by
  have i0 : Unit := ()
  have K : ∀ (i : Unit) (uo : MS), vX1_takeUp S x1 uo → vX1_takeUp S x1 uo := fun _ _ z => z
  unfold wX1_takeUp at h ⊢
  obtain ⟨g1_, h⟩ := h
  refine ⟨g1_, ?_⟩
  replace K := fun i uo z => K i uo ⟨g1_, z⟩
  intro S6 eS6 y2_ y3_
  replace h := h S6 eS6 y2_ y3_
  replace K := fun i uo z => K i uo ⟨S6, eS6, y2_, y3_, z⟩
  obtain ⟨g4_, h⟩ := h
  refine ⟨g4_, ?_⟩
  replace K := fun i uo z => K i uo ⟨g4_, z⟩
  intro S10 eS10 y5_ y6_
  replace h := h S10 eS10 y5_ y6_
  replace K := fun i uo z => K i uo ⟨S10, eS10, y5_, y6_, z⟩
  exact ⟨h, K i0 _ rfl⟩
set_option maxRecDepth 100000 in
theorem vwX1_takeUp {S : MS} {x1 : Int32} {uo : MS} (h : vX1_takeUp S x1 uo) : wX1_takeUp S x1 (fun u => u = uo) := by
  unfold vX1_takeUp at h
  unfold wX1_takeUp
  obtain ⟨g9, h⟩ := h
  refine ⟨g9, ?_⟩
  obtain ⟨v9, e9, h⟩ := h
  intro x9 d9 _ _
  have c9 : v9 = x9 := e9.trans d9.symm
  subst c9
  replace h := h.2.2
  obtain ⟨g9, h⟩ := h
  refine ⟨g9, ?_⟩
  obtain ⟨v9, e9, h⟩ := h
  intro x9 d9 _ _
  have c9 : v9 = x9 := e9.trans d9.symm
  subst c9
  replace h := h.2.2
  exact h.symm
set_option maxRecDepth 100000 in
theorem vpX1_takeUp {S : MS} {x1 : Int32} {uo : MS} {P : MS → Prop} (h : vX1_takeUp S x1 uo) (w : wX1_takeUp S x1 P) : P uo := by
  unfold vX1_takeUp at h
  unfold wX1_takeUp at w
  replace h := h.2
  replace w := w.2
  obtain ⟨v9, e9, y1_, y2_, h⟩ := h
  replace w := w v9 e9 y1_ y2_
  replace h := h.2
  replace w := w.2
  obtain ⟨v9, e9, y3_, y4_, h⟩ := h
  replace w := w v9 e9 y3_ y4_
  rw [h]
  exact w
def v_X1_load_J95 (uo : MS) (U95 : MS) (t95_0 : Int32) (t95_1 : Int32) (v95_1 : Int32) : Prop := (wfC U95 ∧ (t95_0 = 0 ∨ t95_0 = 1) ∧ (((t95_1 ||| t95_0) = 0 ∨ (t95_1 ||| t95_0) = 1) ∧ (∃ S9 : MS, S9 = wI U95 16 6 (t95_1 ||| t95_0) ∧ qT U95 16 = 41 ∧ wfC S9 ∧ (d_X6_gives S9 v95_1 ∧ (∃ a13 : Int32, a13 = (fX6_gives S9 v95_1) ∧ (∃ (S15 : MS), vX1_give S9 a13 S15 ∧ wfC S15 ∧ shy S9 S15 ∧ (uo = S15)))))))
def v_X1_load_J90 (uo : MS) (U90 : MS) (t90_0 : Int32) (v90_1 : Int32) : Prop := (wfC U90 ∧ (v_X1_load_J95 uo U90 1 t90_0 v90_1))
def v_X1_load_J29 (uo : MS) (U29 : MS) (t29_0 : Int32) (t29_1 : Int32) (v29_3 : Int32) : Prop := (wfC U29 ∧ (t29_0 = 0 ∨ t29_0 = 1) ∧ (((t29_1 ||| t29_0) = 0 ∨ (t29_1 ||| t29_0) = 1) ∧ (∃ S33 : MS, S33 = wI U29 16 6 (t29_1 ||| t29_0) ∧ qT U29 16 = 41 ∧ wfC S33 ∧ (d_X1_isReference S33 v29_3 ∧ (∃ a37 : Int32, a37 = (fX1_isReference S33 v29_3) ∧ ((a37.toInt = 0 ∧ (∃ (S40 : MS), vX1_push S33 (0 : Int32) S40 ∧ wfC S40 ∧ shy S33 S40 ∧ (uo = S40))) ∨ (¬ a37.toInt = 0 ∧ (∃ (S43 : MS), vX1_push S33 v29_3 S43 ∧ wfC S43 ∧ shy S33 S43 ∧ (uo = S43)))))))))
def vX1_load (S : MS) (x1 : Int32) (x2 : Int32) (uo : MS) : Prop := (d_X1_placeAt S x2 ∧ (∃ a4 : Int32, a4 = (fX1_placeAt S x2) ∧ ((x1.toInt = 25 ∧ (d_X1_isReference S a4 ∧ (∃ a30 : Int32, a30 = (fX1_isReference S a4) ∧ ((a30.toInt = 0 ∧ (v_X1_load_J29 uo S 1 (qI S 16 6) a4)) ∨ (¬ a30.toInt = 0 ∧ (v_X1_load_J29 uo S 0 (qI S 16 6) a4)))))) ∨ (¬ x1.toInt = 25 ∧ ((x1.toInt = 21 ∧ ((a4.toInt = 1 ∧ (v_X1_load_J95 uo S 0 (qI S 16 6) x1)) ∨ (¬ a4.toInt = 1 ∧ (v_X1_load_J95 uo S 1 (qI S 16 6) x1)))) ∨ (¬ x1.toInt = 21 ∧ ((a4.toInt = 2 ∧ (d_X1_placeAt S (x2 + (1 : Int32)) ∧ (∃ a23 : Int32, a23 = (fX1_placeAt S (x2 + (1 : Int32))) ∧ ((a23.toInt = 3 ∧ (v_X1_load_J95 uo S 0 (qI S 16 6) x1)) ∨ (¬ a23.toInt = 3 ∧ (v_X1_load_J90 uo S (qI S 16 6) x1)))))) ∨ (¬ a4.toInt = 2 ∧ (v_X1_load_J90 uo S (qI S 16 6) x1)))))))))
set_option maxRecDepth 100000 in
theorem ru_X1_load_J95 {ι : Type} {P Q : MS → Prop} {U95 : MS} {t95_0 : Int32} {t95_1 : Int32} {v95_1 : Int32} (i0 : ι) (K : ∀ (i : ι) (uo : MS), v_X1_load_J95 uo U95 t95_0 t95_1 v95_1 → P uo) (h : w_X1_load_J95 Q U95 t95_0 t95_1 v95_1) : w_X1_load_J95 (fun u => Q u ∧ P u) U95 t95_0 t95_1 v95_1 := by
  unfold w_X1_load_J95 at h ⊢
  intro y1_ y2_
  replace h := h y1_ y2_
  replace K := fun i uo z => K i uo ⟨y1_, y2_, z⟩
  obtain ⟨g3_, h⟩ := h
  refine ⟨g3_, ?_⟩
  replace K := fun i uo z => K i uo ⟨g3_, z⟩
  intro S9 eS9 y4_ y5_
  replace h := h S9 eS9 y4_ y5_
  replace K := fun i uo z => K i uo ⟨S9, eS9, y4_, y5_, z⟩
  obtain ⟨g6_, h⟩ := h
  refine ⟨g6_, ?_⟩
  replace K := fun i uo z => K i uo ⟨g6_, z⟩
  intro a13 ea13 
  replace h := h a13 ea13 
  replace K := fun i uo z => K i uo ⟨a13, ea13, z⟩
  obtain ⟨Q9, h0, h⟩ := h
  refine ⟨_, ruX1_give h0, ?_⟩
  intro S15 q7_ y8_ y9_
  replace h := h S15 q7_.1 y8_ y9_
  replace K := fun i uo z => K i uo ⟨S15, q7_.2, y8_, y9_, z⟩
  exact ⟨h, K i0 _ rfl⟩
set_option maxRecDepth 100000 in
theorem ru_X1_load_J90 {ι : Type} {P Q : MS → Prop} {U90 : MS} {t90_0 : Int32} {v90_1 : Int32} (i0 : ι) (K : ∀ (i : ι) (uo : MS), v_X1_load_J90 uo U90 t90_0 v90_1 → P uo) (h : w_X1_load_J90 Q U90 t90_0 v90_1) : w_X1_load_J90 (fun u => Q u ∧ P u) U90 t90_0 v90_1 := by
  unfold w_X1_load_J90 at h ⊢
  intro y10_
  replace h := h y10_
  replace K := fun i uo z => K i uo ⟨y10_, z⟩
  exact ru_X1_load_J95 i0 K h
set_option maxRecDepth 100000 in
theorem ru_X1_load_J29 {ι : Type} {P Q : MS → Prop} {U29 : MS} {t29_0 : Int32} {t29_1 : Int32} {v29_3 : Int32} (i0 : ι) (K : ∀ (i : ι) (uo : MS), v_X1_load_J29 uo U29 t29_0 t29_1 v29_3 → P uo) (h : w_X1_load_J29 Q U29 t29_0 t29_1 v29_3) : w_X1_load_J29 (fun u => Q u ∧ P u) U29 t29_0 t29_1 v29_3 := by
  unfold w_X1_load_J29 at h ⊢
  intro y11_ y12_
  replace h := h y11_ y12_
  replace K := fun i uo z => K i uo ⟨y11_, y12_, z⟩
  obtain ⟨g13_, h⟩ := h
  refine ⟨g13_, ?_⟩
  replace K := fun i uo z => K i uo ⟨g13_, z⟩
  intro S33 eS33 y14_ y15_
  replace h := h S33 eS33 y14_ y15_
  replace K := fun i uo z => K i uo ⟨S33, eS33, y14_, y15_, z⟩
  obtain ⟨g16_, h⟩ := h
  refine ⟨g16_, ?_⟩
  replace K := fun i uo z => K i uo ⟨g16_, z⟩
  intro a37 ea37 
  replace h := h a37 ea37 
  replace K := fun i uo z => K i uo ⟨a37, ea37, z⟩
  refine ⟨fun c => ?_, fun c => ?_⟩
  · replace h := h.1 c
    replace K := fun i uo z => K i uo (Or.inl ⟨c, z⟩)
    obtain ⟨Q9, h0, h⟩ := h
    refine ⟨_, ruX1_push h0, ?_⟩
    intro S40 q17_ y18_ y19_
    replace h := h S40 q17_.1 y18_ y19_
    replace K := fun i uo z => K i uo ⟨S40, q17_.2, y18_, y19_, z⟩
    exact ⟨h, K i0 _ rfl⟩
  · replace h := h.2 c
    replace K := fun i uo z => K i uo (Or.inr ⟨c, z⟩)
    obtain ⟨Q9, h0, h⟩ := h
    refine ⟨_, ruX1_push h0, ?_⟩
    intro S43 q20_ y21_ y22_
    replace h := h S43 q20_.1 y21_ y22_
    replace K := fun i uo z => K i uo ⟨S43, q20_.2, y21_, y22_, z⟩
    exact ⟨h, K i0 _ rfl⟩
set_option maxRecDepth 100000 in
theorem ruX1_load {S : MS} {x1 : Int32} {x2 : Int32} {Q : MS → Prop} (h : wX1_load S x1 x2 Q) : wX1_load S x1 x2 (fun u => Q u ∧ vX1_load S x1 x2 u) := by
  have i0 : Unit := ()
  have K : ∀ (i : Unit) (uo : MS), vX1_load S x1 x2 uo → vX1_load S x1 x2 uo := fun _ _ z => z
  unfold wX1_load at h ⊢
  obtain ⟨g23_, h⟩ := h
  refine ⟨g23_, ?_⟩
  replace K := fun i uo z => K i uo ⟨g23_, z⟩
  intro a4 ea4 
  replace h := h a4 ea4 
  replace K := fun i uo z => K i uo ⟨a4, ea4, z⟩
  refine ⟨fun c => ?_, fun c => ?_⟩
  · replace h := h.1 c
    replace K := fun i uo z => K i uo (Or.inl ⟨c, z⟩)
    obtain ⟨g24_, h⟩ := h
    refine ⟨g24_, ?_⟩
    replace K := fun i uo z => K i uo ⟨g24_, z⟩
    intro a30 ea30 
    replace h := h a30 ea30 
    replace K := fun i uo z => K i uo ⟨a30, ea30, z⟩
    refine ⟨fun c => ?_, fun c => ?_⟩
    · replace h := h.1 c
      replace K := fun i uo z => K i uo (Or.inl ⟨c, z⟩)
      exact ru_X1_load_J29 i0 K h
    · replace h := h.2 c
      replace K := fun i uo z => K i uo (Or.inr ⟨c, z⟩)
      exact ru_X1_load_J29 i0 K h
  · replace h := h.2 c
    replace K := fun i uo z => K i uo (Or.inr ⟨c, z⟩)
    refine ⟨fun c => ?_, fun c => ?_⟩
    · replace h := h.1 c
      replace K := fun i uo z => K i uo (Or.inl ⟨c, z⟩)
      refine ⟨fun c => ?_, fun c => ?_⟩
      · replace h := h.1 c
        replace K := fun i uo z => K i uo (Or.inl ⟨c, z⟩)
        exact ru_X1_load_J95 i0 K h
      · replace h := h.2 c
        replace K := fun i uo z => K i uo (Or.inr ⟨c, z⟩)
        exact ru_X1_load_J95 i0 K h
    · replace h := h.2 c
      replace K := fun i uo z => K i uo (Or.inr ⟨c, z⟩)
      refine ⟨fun c => ?_, fun c => ?_⟩
      · replace h := h.1 c
        replace K := fun i uo z => K i uo (Or.inl ⟨c, z⟩)
        obtain ⟨g25_, h⟩ := h
        refine ⟨g25_, ?_⟩
        replace K := fun i uo z => K i uo ⟨g25_, z⟩
        intro a23 ea23 
        replace h := h a23 ea23 
        replace K := fun i uo z => K i uo ⟨a23, ea23, z⟩
        refine ⟨fun c => ?_, fun c => ?_⟩
        · replace h := h.1 c
          replace K := fun i uo z => K i uo (Or.inl ⟨c, z⟩)
          exact ru_X1_load_J95 i0 K h
        · replace h := h.2 c
          replace K := fun i uo z => K i uo (Or.inr ⟨c, z⟩)
          exact ru_X1_load_J90 i0 K h
      · replace h := h.2 c
        replace K := fun i uo z => K i uo (Or.inr ⟨c, z⟩)
        exact ru_X1_load_J90 i0 K h
set_option maxRecDepth 100000 in
theorem vw_X1_load_J95 {uo : MS} {U95 : MS} {t95_0 : Int32} {t95_1 : Int32} {v95_1 : Int32} (h : v_X1_load_J95 uo U95 t95_0 t95_1 v95_1) : w_X1_load_J95 (fun u => u = uo) U95 t95_0 t95_1 v95_1 := by
  unfold v_X1_load_J95 at h
  unfold w_X1_load_J95
  intro _ _
  replace h := h.2.2
  obtain ⟨g9, h⟩ := h
  refine ⟨g9, ?_⟩
  obtain ⟨v9, e9, h⟩ := h
  intro x9 d9 _ _
  have c9 : v9 = x9 := e9.trans d9.symm
  subst c9
  replace h := h.2.2
  obtain ⟨g9, h⟩ := h
  refine ⟨g9, ?_⟩
  obtain ⟨v9, e9, h⟩ := h
  intro x9 d9 
  have c9 : v9 = x9 := e9.trans d9.symm
  subst c9
  obtain ⟨q9, z9, h⟩ := h
  refine ⟨_, vwX1_give z9, ?_⟩
  intro q8 d9 _ _
  subst d9
  replace h := h.2.2
  exact h.symm
set_option maxRecDepth 100000 in
theorem vp_X1_load_J95 {uo : MS} {P : MS → Prop} {U95 : MS} {t95_0 : Int32} {t95_1 : Int32} {v95_1 : Int32} (h : v_X1_load_J95 uo U95 t95_0 t95_1 v95_1) (w : w_X1_load_J95 P U95 t95_0 t95_1 v95_1) : P uo := by
  unfold v_X1_load_J95 at h
  unfold w_X1_load_J95 at w
  obtain ⟨y1_, y2_, h⟩ := h
  replace w := w y1_ y2_
  replace h := h.2
  replace w := w.2
  obtain ⟨v9, e9, y3_, y4_, h⟩ := h
  replace w := w v9 e9 y3_ y4_
  replace h := h.2
  replace w := w.2
  obtain ⟨v9, e9, h⟩ := h
  replace w := w v9 e9 
  obtain ⟨q9, z9, y5_, y6_, h⟩ := h
  obtain ⟨Q9, w0, w⟩ := w
  replace w := w q9 (vpX1_give z9 w0) y5_ y6_
  rw [h]
  exact w
set_option maxRecDepth 100000 in
theorem vw_X1_load_J90 {uo : MS} {U90 : MS} {t90_0 : Int32} {v90_1 : Int32} (h : v_X1_load_J90 uo U90 t90_0 v90_1) : w_X1_load_J90 (fun u => u = uo) U90 t90_0 v90_1 := by
  unfold v_X1_load_J90 at h
  unfold w_X1_load_J90
  intro _
  replace h := h.2
  exact vw_X1_load_J95 h
set_option maxRecDepth 100000 in
theorem vp_X1_load_J90 {uo : MS} {P : MS → Prop} {U90 : MS} {t90_0 : Int32} {v90_1 : Int32} (h : v_X1_load_J90 uo U90 t90_0 v90_1) (w : w_X1_load_J90 P U90 t90_0 v90_1) : P uo := by
  unfold v_X1_load_J90 at h
  unfold w_X1_load_J90 at w
  obtain ⟨y7_, h⟩ := h
  replace w := w y7_
  exact vp_X1_load_J95 h w
set_option maxRecDepth 100000 in
theorem vw_X1_load_J29 {uo : MS} {U29 : MS} {t29_0 : Int32} {t29_1 : Int32} {v29_3 : Int32} (h : v_X1_load_J29 uo U29 t29_0 t29_1 v29_3) : w_X1_load_J29 (fun u => u = uo) U29 t29_0 t29_1 v29_3 := by
  unfold v_X1_load_J29 at h
  unfold w_X1_load_J29
  intro _ _
  replace h := h.2.2
  obtain ⟨g9, h⟩ := h
  refine ⟨g9, ?_⟩
  obtain ⟨v9, e9, h⟩ := h
  intro x9 d9 _ _
  have c9 : v9 = x9 := e9.trans d9.symm
  subst c9
  replace h := h.2.2
  obtain ⟨g9, h⟩ := h
  refine ⟨g9, ?_⟩
  obtain ⟨v9, e9, h⟩ := h
  intro x9 d9 
  have c9 : v9 = x9 := e9.trans d9.symm
  subst c9
  rcases h with ⟨c, h⟩ | ⟨c, h⟩
  · refine ⟨fun _ => ?_, fun c2 => absurd c c2⟩
    obtain ⟨q9, z9, h⟩ := h
    refine ⟨_, vwX1_push z9, ?_⟩
    intro q8 d9 _ _
    subst d9
    replace h := h.2.2
    exact h.symm
  · refine ⟨fun c2 => absurd c2 c, fun _ => ?_⟩
    obtain ⟨q9, z9, h⟩ := h
    refine ⟨_, vwX1_push z9, ?_⟩
    intro q8 d9 _ _
    subst d9
    replace h := h.2.2
    exact h.symm
set_option maxRecDepth 100000 in
theorem vp_X1_load_J29 {uo : MS} {P : MS → Prop} {U29 : MS} {t29_0 : Int32} {t29_1 : Int32} {v29_3 : Int32} (h : v_X1_load_J29 uo U29 t29_0 t29_1 v29_3) (w : w_X1_load_J29 P U29 t29_0 t29_1 v29_3) : P uo := by
  unfold v_X1_load_J29 at h
  unfold w_X1_load_J29 at w
  obtain ⟨y8_, y9_, h⟩ := h
  replace w := w y8_ y9_
  replace h := h.2
  replace w := w.2
  obtain ⟨v9, e9, y10_, y11_, h⟩ := h
  replace w := w v9 e9 y10_ y11_
  replace h := h.2
  replace w := w.2
  obtain ⟨v9, e9, h⟩ := h
  replace w := w v9 e9 
  rcases h with ⟨c, h⟩ | ⟨c, h⟩
  · replace w := w.1 c
    obtain ⟨q9, z9, y12_, y13_, h⟩ := h
    obtain ⟨Q9, w0, w⟩ := w
    replace w := w q9 (vpX1_push z9 w0) y12_ y13_
    rw [h]
    exact w
  · replace w := w.2 c
    obtain ⟨q9, z9, y14_, y15_, h⟩ := h
    obtain ⟨Q9, w0, w⟩ := w
    replace w := w q9 (vpX1_push z9 w0) y14_ y15_
    rw [h]
    exact w
set_option maxRecDepth 100000 in
theorem vwX1_load {S : MS} {x1 : Int32} {x2 : Int32} {uo : MS} (h : vX1_load S x1 x2 uo) : wX1_load S x1 x2 (fun u => u = uo) := by
  unfold vX1_load at h
  unfold wX1_load
  obtain ⟨g9, h⟩ := h
  refine ⟨g9, ?_⟩
  obtain ⟨v9, e9, h⟩ := h
  intro x9 d9 
  have c9 : v9 = x9 := e9.trans d9.symm
  subst c9
  rcases h with ⟨c, h⟩ | ⟨c, h⟩
  · refine ⟨fun _ => ?_, fun c2 => absurd c c2⟩
    obtain ⟨g9, h⟩ := h
    refine ⟨g9, ?_⟩
    obtain ⟨v9, e9, h⟩ := h
    intro x9 d9 
    have c9 : v9 = x9 := e9.trans d9.symm
    subst c9
    rcases h with ⟨c, h⟩ | ⟨c, h⟩
    · refine ⟨fun _ => ?_, fun c2 => absurd c c2⟩
      exact vw_X1_load_J29 h
    · refine ⟨fun c2 => absurd c2 c, fun _ => ?_⟩
      exact vw_X1_load_J29 h
  · refine ⟨fun c2 => absurd c2 c, fun _ => ?_⟩
    rcases h with ⟨c, h⟩ | ⟨c, h⟩
    · refine ⟨fun _ => ?_, fun c2 => absurd c c2⟩
      rcases h with ⟨c, h⟩ | ⟨c, h⟩
      · refine ⟨fun _ => ?_, fun c2 => absurd c c2⟩
        exact vw_X1_load_J95 h
      · refine ⟨fun c2 => absurd c2 c, fun _ => ?_⟩
        exact vw_X1_load_J95 h
    · refine ⟨fun c2 => absurd c2 c, fun _ => ?_⟩
      rcases h with ⟨c, h⟩ | ⟨c, h⟩
      · refine ⟨fun _ => ?_, fun c2 => absurd c c2⟩
        obtain ⟨g9, h⟩ := h
        refine ⟨g9, ?_⟩
        obtain ⟨v9, e9, h⟩ := h
        intro x9 d9 
        have c9 : v9 = x9 := e9.trans d9.symm
        subst c9
        rcases h with ⟨c, h⟩ | ⟨c, h⟩
        · refine ⟨fun _ => ?_, fun c2 => absurd c c2⟩
          exact vw_X1_load_J95 h
        · refine ⟨fun c2 => absurd c2 c, fun _ => ?_⟩
          exact vw_X1_load_J90 h
      · refine ⟨fun c2 => absurd c2 c, fun _ => ?_⟩
        exact vw_X1_load_J90 h
set_option maxRecDepth 100000 in
theorem vpX1_load {S : MS} {x1 : Int32} {x2 : Int32} {uo : MS} {P : MS → Prop} (h : vX1_load S x1 x2 uo) (w : wX1_load S x1 x2 P) : P uo := by
  unfold vX1_load at h
  unfold wX1_load at w
  replace h := h.2
  replace w := w.2
  obtain ⟨v9, e9, h⟩ := h
  replace w := w v9 e9 
  rcases h with ⟨c, h⟩ | ⟨c, h⟩
  · replace w := w.1 c
    replace h := h.2
    replace w := w.2
    obtain ⟨v9, e9, h⟩ := h
    replace w := w v9 e9 
    rcases h with ⟨c, h⟩ | ⟨c, h⟩
    · replace w := w.1 c
      exact vp_X1_load_J29 h w
    · replace w := w.2 c
      exact vp_X1_load_J29 h w
  · replace w := w.2 c
    rcases h with ⟨c, h⟩ | ⟨c, h⟩
    · replace w := w.1 c
      rcases h with ⟨c, h⟩ | ⟨c, h⟩
      · replace w := w.1 c
        exact vp_X1_load_J95 h w
      · replace w := w.2 c
        exact vp_X1_load_J95 h w
    · replace w := w.2 c
      rcases h with ⟨c, h⟩ | ⟨c, h⟩
      · replace w := w.1 c
        replace h := h.2
        replace w := w.2
        obtain ⟨v9, e9, h⟩ := h
        replace w := w v9 e9 
        rcases h with ⟨c, h⟩ | ⟨c, h⟩
        · replace w := w.1 c
          exact vp_X1_load_J95 h w
        · replace w := w.2 c
          exact vp_X1_load_J90 h w
      · replace w := w.2 c
        exact vp_X1_load_J90 h w
def v_X1_store_J67 (uo : MS) (U67 : MS) (v67_1 : Int32) (v67_2 : Int32) (v67_3 : Int32) (v67_4 : Int32) : Prop := (wfC U67 ∧ ((v67_1.toInt = 58 ∧ (d_X1_isReference U67 v67_4 ∧ (∃ a31 : Int32, a31 = (fX1_isReference U67 v67_4) ∧ ((a31.toInt = 0 ∧ (∃ (S34 : MS), vX1_setPlace U67 v67_2 (0 : Int32) S34 ∧ wfC S34 ∧ shy U67 S34 ∧ (uo = S34))) ∨ (¬ a31.toInt = 0 ∧ (∃ (S37 : MS), vX1_setPlace U67 v67_2 v67_4 S37 ∧ wfC S37 ∧ shy U67 S37 ∧ (uo = S37))))))) ∨ (¬ v67_1.toInt = 58 ∧ (d_X1_lowerType U67 v67_3 ∧ (∃ a19 : Int32, a19 = (fX1_lowerType U67 v67_3) ∧ (∃ (S21 : MS), vX1_setPlace U67 v67_2 a19 S21 ∧ wfC S21 ∧ shy U67 S21 ∧ ((v67_1.toInt = 55 ∧ (∃ (S26 : MS), vX1_setPlace S21 (v67_2 + (1 : Int32)) (3 : Int32) S26 ∧ wfC S26 ∧ shy S21 S26 ∧ (uo = S26))) ∨ (¬ v67_1.toInt = 55 ∧ (uo = S21)))))))))
def v_X1_store_J43 (uo : MS) (U43 : MS) (v43_1 : Int32) (v43_2 : Int32) (v43_3 : Int32) (v43_4 : Int32) (v43_5 : Int32) : Prop := (wfC U43 ∧ ((24 ≤ v43_5.toInt ∧ (v_X1_store_J67 uo U43 v43_1 v43_2 v43_3 v43_4)) ∨ (¬ 24 ≤ v43_5.toInt ∧ (d_X1_placeAt U43 v43_5 ∧ (∃ a43 : Int32, a43 = (fX1_placeAt U43 v43_5) ∧ ((a43.toInt = 3 ∧ (∃ (S46 : MS), vX1_setPlace U43 v43_5 (0 : Int32) S46 ∧ wfC S46 ∧ shy U43 S46 ∧ (v_X1_store_J67 uo S46 v43_1 v43_2 v43_3 v43_4))) ∨ (¬ a43.toInt = 3 ∧ (v_X1_store_J67 uo U43 v43_1 v43_2 v43_3 v43_4))))))))
def vX1_store (S : MS) (x1 : Int32) (x2 : Int32) (uo : MS) : Prop := (d_X6_takes S x1 ∧ (∃ a4 : Int32, a4 = (fX6_takes S x1) ∧ (∃ (r6 : Int32) (S7 : MS), vX1_take S a4 r6 S7 ∧ wfC S7 ∧ shy S S7 ∧ (d_X6_localWidth S7 x1 ∧ (∃ a12 : Int32, a12 = (fX6_localWidth S7 x1) ∧ (∃ a14 : Int32, a14 = (x2 + a12) ∧ ((x2.toInt ≤ 0 ∧ (v_X1_store_J43 uo S7 x1 x2 a4 r6 a14)) ∨ (¬ x2.toInt ≤ 0 ∧ (d_X1_placeAt S7 (x2 - (1 : Int32)) ∧ (∃ a53 : Int32, a53 = (fX1_placeAt S7 (x2 - (1 : Int32))) ∧ ((a53.toInt = 2 ∧ (∃ (S57 : MS), vX1_setPlace S7 (x2 - (1 : Int32)) (0 : Int32) S57 ∧ wfC S57 ∧ shy S7 S57 ∧ (v_X1_store_J43 uo S57 x1 x2 a4 r6 a14))) ∨ (¬ a53.toInt = 2 ∧ (v_X1_store_J43 uo S7 x1 x2 a4 r6 a14)))))))))))))
set_option maxRecDepth 100000 in
theorem ru_X1_store_J67 {ι : Type} {P Q : MS → Prop} {U67 : MS} {v67_1 : Int32} {v67_2 : Int32} {v67_3 : Int32} {v67_4 : Int32} (i0 : ι) (K : ∀ (i : ι) (uo : MS), v_X1_store_J67 uo U67 v67_1 v67_2 v67_3 v67_4 → P uo) (h : w_X1_store_J67 Q U67 v67_1 v67_2 v67_3 v67_4) : w_X1_store_J67 (fun u => Q u ∧ P u) U67 v67_1 v67_2 v67_3 v67_4 := by
  unfold w_X1_store_J67 at h ⊢
  intro y1_
  replace h := h y1_
  replace K := fun i uo z => K i uo ⟨y1_, z⟩
  refine ⟨fun c => ?_, fun c => ?_⟩
  · replace h := h.1 c
    replace K := fun i uo z => K i uo (Or.inl ⟨c, z⟩)
    obtain ⟨g2_, h⟩ := h
    refine ⟨g2_, ?_⟩
    replace K := fun i uo z => K i uo ⟨g2_, z⟩
    intro a31 ea31 
    replace h := h a31 ea31 
    replace K := fun i uo z => K i uo ⟨a31, ea31, z⟩
    refine ⟨fun c => ?_, fun c => ?_⟩
    · replace h := h.1 c
      replace K := fun i uo z => K i uo (Or.inl ⟨c, z⟩)
      obtain ⟨Q9, h0, h⟩ := h
      refine ⟨_, ruX1_setPlace h0, ?_⟩
      intro S34 q3_ y4_ y5_
      replace h := h S34 q3_.1 y4_ y5_
      replace K := fun i uo z => K i uo ⟨S34, q3_.2, y4_, y5_, z⟩
      exact ⟨h, K i0 _ rfl⟩
    · replace h := h.2 c
      replace K := fun i uo z => K i uo (Or.inr ⟨c, z⟩)
      obtain ⟨Q9, h0, h⟩ := h
      refine ⟨_, ruX1_setPlace h0, ?_⟩
      intro S37 q6_ y7_ y8_
      replace h := h S37 q6_.1 y7_ y8_
      replace K := fun i uo z => K i uo ⟨S37, q6_.2, y7_, y8_, z⟩
      exact ⟨h, K i0 _ rfl⟩
  · replace h := h.2 c
    replace K := fun i uo z => K i uo (Or.inr ⟨c, z⟩)
    obtain ⟨g9_, h⟩ := h
    refine ⟨g9_, ?_⟩
    replace K := fun i uo z => K i uo ⟨g9_, z⟩
    intro a19 ea19 
    replace h := h a19 ea19 
    replace K := fun i uo z => K i uo ⟨a19, ea19, z⟩
    obtain ⟨Q9, h0, h⟩ := h
    refine ⟨_, ruX1_setPlace h0, ?_⟩
    intro S21 q10_ y11_ y12_
    replace h := h S21 q10_.1 y11_ y12_
    replace K := fun i uo z => K i uo ⟨S21, q10_.2, y11_, y12_, z⟩
    refine ⟨fun c => ?_, fun c => ?_⟩
    · replace h := h.1 c
      replace K := fun i uo z => K i uo (Or.inl ⟨c, z⟩)
      obtain ⟨Q9, h0, h⟩ := h
      refine ⟨_, ruX1_setPlace h0, ?_⟩
      intro S26 q13_ y14_ y15_
      replace h := h S26 q13_.1 y14_ y15_
      replace K := fun i uo z => K i uo ⟨S26, q13_.2, y14_, y15_, z⟩
      exact ⟨h, K i0 _ rfl⟩
    · replace h := h.2 c
      replace K := fun i uo z => K i uo (Or.inr ⟨c, z⟩)
      exact ⟨h, K i0 _ rfl⟩
set_option maxRecDepth 100000 in
theorem ru_X1_store_J43 {ι : Type} {P Q : MS → Prop} {U43 : MS} {v43_1 : Int32} {v43_2 : Int32} {v43_3 : Int32} {v43_4 : Int32} {v43_5 : Int32} (i0 : ι) (K : ∀ (i : ι) (uo : MS), v_X1_store_J43 uo U43 v43_1 v43_2 v43_3 v43_4 v43_5 → P uo) (h : w_X1_store_J43 Q U43 v43_1 v43_2 v43_3 v43_4 v43_5) : w_X1_store_J43 (fun u => Q u ∧ P u) U43 v43_1 v43_2 v43_3 v43_4 v43_5 := by
  unfold w_X1_store_J43 at h ⊢
  intro y16_
  replace h := h y16_
  replace K := fun i uo z => K i uo ⟨y16_, z⟩
  refine ⟨fun c => ?_, fun c => ?_⟩
  · replace h := h.1 c
    replace K := fun i uo z => K i uo (Or.inl ⟨c, z⟩)
    exact ru_X1_store_J67 i0 K h
  · replace h := h.2 c
    replace K := fun i uo z => K i uo (Or.inr ⟨c, z⟩)
    obtain ⟨g17_, h⟩ := h
    refine ⟨g17_, ?_⟩
    replace K := fun i uo z => K i uo ⟨g17_, z⟩
    intro a43 ea43 
    replace h := h a43 ea43 
    replace K := fun i uo z => K i uo ⟨a43, ea43, z⟩
    refine ⟨fun c => ?_, fun c => ?_⟩
    · replace h := h.1 c
      replace K := fun i uo z => K i uo (Or.inl ⟨c, z⟩)
      obtain ⟨Q9, h0, h⟩ := h
      refine ⟨_, ruX1_setPlace h0, ?_⟩
      intro S46 q18_ y19_ y20_
      replace h := h S46 q18_.1 y19_ y20_
      replace K := fun i uo z => K i uo ⟨S46, q18_.2, y19_, y20_, z⟩
      exact ru_X1_store_J67 i0 K h
    · replace h := h.2 c
      replace K := fun i uo z => K i uo (Or.inr ⟨c, z⟩)
      exact ru_X1_store_J67 i0 K h
set_option maxRecDepth 100000 in
theorem ruX1_store {S : MS} {x1 : Int32} {x2 : Int32} {Q : MS → Prop} (h : wX1_store S x1 x2 Q) : wX1_store S x1 x2 (fun u => Q u ∧ vX1_store S x1 x2 u) := by
  have i0 : Unit := ()
  have K : ∀ (i : Unit) (uo : MS), vX1_store S x1 x2 uo → vX1_store S x1 x2 uo := fun _ _ z => z
  unfold wX1_store at h ⊢
  obtain ⟨g21_, h⟩ := h
  refine ⟨g21_, ?_⟩
  replace K := fun i uo z => K i uo ⟨g21_, z⟩
  intro a4 ea4 
  replace h := h a4 ea4 
  replace K := fun i uo z => K i uo ⟨a4, ea4, z⟩
  obtain ⟨Q9, h0, h⟩ := h
  refine ⟨_, ruX1_take h0, ?_⟩
  intro r6 S7 q22_ y23_ y24_
  replace h := h r6 S7 q22_.1 y23_ y24_
  replace K := fun i uo z => K i uo ⟨r6, S7, q22_.2, y23_, y24_, z⟩
  obtain ⟨g25_, h⟩ := h
  refine ⟨g25_, ?_⟩
  replace K := fun i uo z => K i uo ⟨g25_, z⟩
  intro a12 ea12 
  replace h := h a12 ea12 
  replace K := fun i uo z => K i uo ⟨a12, ea12, z⟩
  intro a14 ea14 
  replace h := h a14 ea14 
  replace K := fun i uo z => K i uo ⟨a14, ea14, z⟩
  refine ⟨fun c => ?_, fun c => ?_⟩
  · replace h := h.1 c
    replace K := fun i uo z => K i uo (Or.inl ⟨c, z⟩)
    exact ru_X1_store_J43 i0 K h
  · replace h := h.2 c
    replace K := fun i uo z => K i uo (Or.inr ⟨c, z⟩)
    obtain ⟨g26_, h⟩ := h
    refine ⟨g26_, ?_⟩
    replace K := fun i uo z => K i uo ⟨g26_, z⟩
    intro a53 ea53 
    replace h := h a53 ea53 
    replace K := fun i uo z => K i uo ⟨a53, ea53, z⟩
    refine ⟨fun c => ?_, fun c => ?_⟩
    · replace h := h.1 c
      replace K := fun i uo z => K i uo (Or.inl ⟨c, z⟩)
      obtain ⟨Q9, h0, h⟩ := h
      refine ⟨_, ruX1_setPlace h0, ?_⟩
      intro S57 q27_ y28_ y29_
      replace h := h S57 q27_.1 y28_ y29_
      replace K := fun i uo z => K i uo ⟨S57, q27_.2, y28_, y29_, z⟩
      exact ru_X1_store_J43 i0 K h
    · replace h := h.2 c
      replace K := fun i uo z => K i uo (Or.inr ⟨c, z⟩)
      exact ru_X1_store_J43 i0 K h
set_option maxRecDepth 100000 in
theorem vw_X1_store_J67 {uo : MS} {U67 : MS} {v67_1 : Int32} {v67_2 : Int32} {v67_3 : Int32} {v67_4 : Int32} (h : v_X1_store_J67 uo U67 v67_1 v67_2 v67_3 v67_4) : w_X1_store_J67 (fun u => u = uo) U67 v67_1 v67_2 v67_3 v67_4 := by
  unfold v_X1_store_J67 at h
  unfold w_X1_store_J67
  intro _
  replace h := h.2
  rcases h with ⟨c, h⟩ | ⟨c, h⟩
  · refine ⟨fun _ => ?_, fun c2 => absurd c c2⟩
    obtain ⟨g9, h⟩ := h
    refine ⟨g9, ?_⟩
    obtain ⟨v9, e9, h⟩ := h
    intro x9 d9 
    have c9 : v9 = x9 := e9.trans d9.symm
    subst c9
    rcases h with ⟨c, h⟩ | ⟨c, h⟩
    · refine ⟨fun _ => ?_, fun c2 => absurd c c2⟩
      obtain ⟨q9, z9, h⟩ := h
      refine ⟨_, vwX1_setPlace z9, ?_⟩
      intro q8 d9 _ _
      subst d9
      replace h := h.2.2
      exact h.symm
    · refine ⟨fun c2 => absurd c2 c, fun _ => ?_⟩
      obtain ⟨q9, z9, h⟩ := h
      refine ⟨_, vwX1_setPlace z9, ?_⟩
      intro q8 d9 _ _
      subst d9
      replace h := h.2.2
      exact h.symm
  · refine ⟨fun c2 => absurd c2 c, fun _ => ?_⟩
    obtain ⟨g9, h⟩ := h
    refine ⟨g9, ?_⟩
    obtain ⟨v9, e9, h⟩ := h
    intro x9 d9 
    have c9 : v9 = x9 := e9.trans d9.symm
    subst c9
    obtain ⟨q9, z9, h⟩ := h
    refine ⟨_, vwX1_setPlace z9, ?_⟩
    intro q8 d9 _ _
    subst d9
    replace h := h.2.2
    rcases h with ⟨c, h⟩ | ⟨c, h⟩
    · refine ⟨fun _ => ?_, fun c2 => absurd c c2⟩
      obtain ⟨q9, z9, h⟩ := h
      refine ⟨_, vwX1_setPlace z9, ?_⟩
      intro q8 d9 _ _
      subst d9
      replace h := h.2.2
      exact h.symm
    · refine ⟨fun c2 => absurd c2 c, fun _ => ?_⟩
      exact h.symm
set_option maxRecDepth 100000 in
theorem vp_X1_store_J67 {uo : MS} {P : MS → Prop} {U67 : MS} {v67_1 : Int32} {v67_2 : Int32} {v67_3 : Int32} {v67_4 : Int32} (h : v_X1_store_J67 uo U67 v67_1 v67_2 v67_3 v67_4) (w : w_X1_store_J67 P U67 v67_1 v67_2 v67_3 v67_4) : P uo := by
  unfold v_X1_store_J67 at h
  unfold w_X1_store_J67 at w
  obtain ⟨y1_, h⟩ := h
  replace w := w y1_
  rcases h with ⟨c, h⟩ | ⟨c, h⟩
  · replace w := w.1 c
    replace h := h.2
    replace w := w.2
    obtain ⟨v9, e9, h⟩ := h
    replace w := w v9 e9 
    rcases h with ⟨c, h⟩ | ⟨c, h⟩
    · replace w := w.1 c
      obtain ⟨q9, z9, y2_, y3_, h⟩ := h
      obtain ⟨Q9, w0, w⟩ := w
      replace w := w q9 (vpX1_setPlace z9 w0) y2_ y3_
      rw [h]
      exact w
    · replace w := w.2 c
      obtain ⟨q9, z9, y4_, y5_, h⟩ := h
      obtain ⟨Q9, w0, w⟩ := w
      replace w := w q9 (vpX1_setPlace z9 w0) y4_ y5_
      rw [h]
      exact w
  · replace w := w.2 c
    replace h := h.2
    replace w := w.2
    obtain ⟨v9, e9, h⟩ := h
    replace w := w v9 e9 
    obtain ⟨q9, z9, y6_, y7_, h⟩ := h
    obtain ⟨Q9, w0, w⟩ := w
    replace w := w q9 (vpX1_setPlace z9 w0) y6_ y7_
    rcases h with ⟨c, h⟩ | ⟨c, h⟩
    · replace w := w.1 c
      obtain ⟨q9, z9, y8_, y9_, h⟩ := h
      obtain ⟨Q9, w0, w⟩ := w
      replace w := w q9 (vpX1_setPlace z9 w0) y8_ y9_
      rw [h]
      exact w
    · replace w := w.2 c
      rw [h]
      exact w
set_option maxRecDepth 100000 in
theorem vw_X1_store_J43 {uo : MS} {U43 : MS} {v43_1 : Int32} {v43_2 : Int32} {v43_3 : Int32} {v43_4 : Int32} {v43_5 : Int32} (h : v_X1_store_J43 uo U43 v43_1 v43_2 v43_3 v43_4 v43_5) : w_X1_store_J43 (fun u => u = uo) U43 v43_1 v43_2 v43_3 v43_4 v43_5 := by
  unfold v_X1_store_J43 at h
  unfold w_X1_store_J43
  intro _
  replace h := h.2
  rcases h with ⟨c, h⟩ | ⟨c, h⟩
  · refine ⟨fun _ => ?_, fun c2 => absurd c c2⟩
    exact vw_X1_store_J67 h
  · refine ⟨fun c2 => absurd c2 c, fun _ => ?_⟩
    obtain ⟨g9, h⟩ := h
    refine ⟨g9, ?_⟩
    obtain ⟨v9, e9, h⟩ := h
    intro x9 d9 
    have c9 : v9 = x9 := e9.trans d9.symm
    subst c9
    rcases h with ⟨c, h⟩ | ⟨c, h⟩
    · refine ⟨fun _ => ?_, fun c2 => absurd c c2⟩
      obtain ⟨q9, z9, h⟩ := h
      refine ⟨_, vwX1_setPlace z9, ?_⟩
      intro q8 d9 _ _
      subst d9
      replace h := h.2.2
      exact vw_X1_store_J67 h
    · refine ⟨fun c2 => absurd c2 c, fun _ => ?_⟩
      exact vw_X1_store_J67 h
set_option maxRecDepth 100000 in
theorem vp_X1_store_J43 {uo : MS} {P : MS → Prop} {U43 : MS} {v43_1 : Int32} {v43_2 : Int32} {v43_3 : Int32} {v43_4 : Int32} {v43_5 : Int32} (h : v_X1_store_J43 uo U43 v43_1 v43_2 v43_3 v43_4 v43_5) (w : w_X1_store_J43 P U43 v43_1 v43_2 v43_3 v43_4 v43_5) : P uo := by
  unfold v_X1_store_J43 at h
  unfold w_X1_store_J43 at w
  obtain ⟨y10_, h⟩ := h
  replace w := w y10_
  rcases h with ⟨c, h⟩ | ⟨c, h⟩
  · replace w := w.1 c
    exact vp_X1_store_J67 h w
  · replace w := w.2 c
    replace h := h.2
    replace w := w.2
    obtain ⟨v9, e9, h⟩ := h
    replace w := w v9 e9 
    rcases h with ⟨c, h⟩ | ⟨c, h⟩
    · replace w := w.1 c
      obtain ⟨q9, z9, y11_, y12_, h⟩ := h
      obtain ⟨Q9, w0, w⟩ := w
      replace w := w q9 (vpX1_setPlace z9 w0) y11_ y12_
      exact vp_X1_store_J67 h w
    · replace w := w.2 c
      exact vp_X1_store_J67 h w
set_option maxRecDepth 100000 in
theorem vwX1_store {S : MS} {x1 : Int32} {x2 : Int32} {uo : MS} (h : vX1_store S x1 x2 uo) : wX1_store S x1 x2 (fun u => u = uo) := by
  unfold vX1_store at h
  unfold wX1_store
  obtain ⟨g9, h⟩ := h
  refine ⟨g9, ?_⟩
  obtain ⟨v9, e9, h⟩ := h
  intro x9 d9 
  have c9 : v9 = x9 := e9.trans d9.symm
  subst c9
  obtain ⟨p9, q9, z9, h⟩ := h
  refine ⟨_, vwX1_take z9, ?_⟩
  rintro p8 q8 ⟨d8, d9⟩ _ _
  subst d8
  subst d9
  replace h := h.2.2
  obtain ⟨g9, h⟩ := h
  refine ⟨g9, ?_⟩
  obtain ⟨v9, e9, h⟩ := h
  intro x9 d9 
  have c9 : v9 = x9 := e9.trans d9.symm
  subst c9
  obtain ⟨v9, e9, h⟩ := h
  intro x9 d9 
  have c9 : v9 = x9 := e9.trans d9.symm
  subst c9
  rcases h with ⟨c, h⟩ | ⟨c, h⟩
  · refine ⟨fun _ => ?_, fun c2 => absurd c c2⟩
    exact vw_X1_store_J43 h
  · refine ⟨fun c2 => absurd c2 c, fun _ => ?_⟩
    obtain ⟨g9, h⟩ := h
    refine ⟨g9, ?_⟩
    obtain ⟨v9, e9, h⟩ := h
    intro x9 d9 
    have c9 : v9 = x9 := e9.trans d9.symm
    subst c9
    rcases h with ⟨c, h⟩ | ⟨c, h⟩
    · refine ⟨fun _ => ?_, fun c2 => absurd c c2⟩
      obtain ⟨q9, z9, h⟩ := h
      refine ⟨_, vwX1_setPlace z9, ?_⟩
      intro q8 d9 _ _
      subst d9
      replace h := h.2.2
      exact vw_X1_store_J43 h
    · refine ⟨fun c2 => absurd c2 c, fun _ => ?_⟩
      exact vw_X1_store_J43 h
set_option maxRecDepth 100000 in
theorem vpX1_store {S : MS} {x1 : Int32} {x2 : Int32} {uo : MS} {P : MS → Prop} (h : vX1_store S x1 x2 uo) (w : wX1_store S x1 x2 P) : P uo := by
  unfold vX1_store at h
  unfold wX1_store at w
  replace h := h.2
  replace w := w.2
  obtain ⟨v9, e9, h⟩ := h
  replace w := w v9 e9 
  obtain ⟨p9, q9, z9, y13_, y14_, h⟩ := h
  obtain ⟨Q9, w0, w⟩ := w
  replace w := w p9 q9 (vpX1_take z9 w0) y13_ y14_
  replace h := h.2
  replace w := w.2
  obtain ⟨v9, e9, h⟩ := h
  replace w := w v9 e9 
  obtain ⟨v9, e9, h⟩ := h
  replace w := w v9 e9 
  rcases h with ⟨c, h⟩ | ⟨c, h⟩
  · replace w := w.1 c
    exact vp_X1_store_J43 h w
  · replace w := w.2 c
    replace h := h.2
    replace w := w.2
    obtain ⟨v9, e9, h⟩ := h
    replace w := w v9 e9 
    rcases h with ⟨c, h⟩ | ⟨c, h⟩
    · replace w := w.1 c
      obtain ⟨q9, z9, y15_, y16_, h⟩ := h
      obtain ⟨Q9, w0, w⟩ := w
      replace w := w q9 (vpX1_setPlace z9 w0) y15_ y16_
      exact vp_X1_store_J43 h w
    · replace w := w.2 c
      exact vp_X1_store_J43 h w
def v_X1_keepTypes_J161 (uo : MS) (k50 : MS → Int32 → Prop) (U161 : MS) (v161_1 : Int32) : Prop := (wfC U161 ∧ (∃ a47 : Int32, a47 = (v161_1 + Int32.ofInt 1) ∧ (k50 U161 a47)))
def v_X1_keepTypes_J155 (uo : MS) (k81 : MS → Int32 → Int32 → Prop) (U155 : MS) (v155_1 : Int32) (v155_2 : Int32) : Prop := (wfC U155 ∧ (∃ a56 : Int32, a56 = (v155_2 + Int32.ofInt 1) ∧ (k81 U155 v155_1 a56)))
def v_X1_keepTypes_L81 (uo : MS) (k50 : MS → Int32 → Prop) : Nat → MS → Int32 → Int32 → Prop
  | 0, _, _, _ => False
  | n81 + 1, U81, v81_1, v81_2 => (wfC U81 ∧ (((0 : Int) ≤ v81_1.toInt ∧ v81_1.toInt < (qN U81 (qO U81 16 2) : Int)) ∧ (((qI U81 (qO U81 16 2) v81_1.toInt.toNat).toInt = 0 ∧ (v_X1_keepTypes_J161 uo k50 U81 v81_1)) ∨ (¬ (qI U81 (qO U81 16 2) v81_1.toInt.toNat).toInt = 0 ∧ ((24 ≤ v81_2.toInt ∧ (v_X1_keepTypes_J161 uo k50 U81 v81_1)) ∨ (¬ 24 ≤ v81_2.toInt ∧ (((0 : Int) ≤ ((v81_1 * (48 : Int32)) + v81_2).toInt ∧ ((v81_1 * (48 : Int32)) + v81_2).toInt < (qN U81 (qO U81 16 1) : Int)) ∧ (∃ a55 : Int64, a55 = ((qI U81 (qO U81 16 1) ((((v81_1 * (48 : Int32)) + v81_2).toInt).toNat)).toInt64) ∧ ((16 ≤ v81_2.toInt ∧ ((qR U81 16 9 = some (qO U81 16 9)) ∧ ((qR U81 (qO U81 16 9) 14 = some (qO U81 (qO U81 16 9) 14)) ∧ (((0 : Int) ≤ v81_1.toInt ∧ v81_1.toInt < (qN U81 (qO U81 (qO U81 16 9) 14) : Int)) ∧ (((0 : Int) ≤ v81_1.toInt ∧ v81_1.toInt < (qN U81 (qO U81 (qO U81 16 9) 14) : Int)) ∧ (∃ S68 : MS, S68 = wJ U81 (qO U81 (qO U81 16 9) 14) v81_1.toInt.toNat ((qJ U81 (qO U81 (qO U81 16 9) 14) v81_1.toInt.toNat) ||| (a55 <<< (((4 : Int32) * (v81_2 - (16 : Int32))).toInt64 &&& 63))) ∧ qT U81 (qO U81 (qO U81 16 9) 14) = 408 ∧ wfC S68 ∧ (v_X1_keepTypes_J155 uo (v_X1_keepTypes_L81 uo k50 n81) S68 v81_1 v81_2))))))) ∨ (¬ 16 ≤ v81_2.toInt ∧ ((qR U81 16 9 = some (qO U81 16 9)) ∧ ((qR U81 (qO U81 16 9) 13 = some (qO U81 (qO U81 16 9) 13)) ∧ (((0 : Int) ≤ v81_1.toInt ∧ v81_1.toInt < (qN U81 (qO U81 (qO U81 16 9) 13) : Int)) ∧ (((0 : Int) ≤ v81_1.toInt ∧ v81_1.toInt < (qN U81 (qO U81 (qO U81 16 9) 13) : Int)) ∧ (∃ S78 : MS, S78 = wJ U81 (qO U81 (qO U81 16 9) 13) v81_1.toInt.toNat ((qJ U81 (qO U81 (qO U81 16 9) 13) v81_1.toInt.toNat) ||| (a55 <<< (((4 : Int32) * v81_2).toInt64 &&& 63))) ∧ qT U81 (qO U81 (qO U81 16 9) 13) = 407 ∧ wfC S78 ∧ (v_X1_keepTypes_J155 uo (v_X1_keepTypes_L81 uo k50 n81) S78 v81_1 v81_2))))))))))))))))
def v_X1_keepTypes_L50 (uo : MS) : Nat → MS → Int32 → Prop
  | 0, _, _ => False
  | n50 + 1, U50, v50_1 => (wfC U50 ∧ ((qR U50 16 9 = some (qO U50 16 9)) ∧ (((qI U50 (qO U50 16 9) 2).toInt ≤ v50_1.toInt ∧ (uo = U50)) ∨ (¬ (qI U50 (qO U50 16 9) 2).toInt ≤ v50_1.toInt ∧ ((qR U50 16 9 = some (qO U50 16 9)) ∧ ((qR U50 (qO U50 16 9) 12 = some (qO U50 (qO U50 16 9) 12)) ∧ (d_X4_heightAt U50 17 v50_1 ∧ (((0 : Int) ≤ v50_1.toInt ∧ v50_1.toInt < (qN U50 (qO U50 (qO U50 16 9) 12) : Int)) ∧ (∃ S42 : MS, S42 = wI U50 (qO U50 (qO U50 16 9) 12) v50_1.toInt.toNat (vp_nar .byte ((fX4_heightAt U50 17 v50_1).toInt8.toInt32)) ∧ qT U50 (qO U50 (qO U50 16 9) 12) = 104 ∧ wfC S42 ∧ (∃ n, v_X1_keepTypes_L81 uo (v_X1_keepTypes_L50 uo n50) n S42 v50_1 0))))))))))
def vX1_keepTypes (S : MS) (uo : MS) : Prop := ((qR S 16 9 = some (qO S 16 9)) ∧ ((qR S 16 9 = some (qO S 16 9)) ∧ (((0 : Int) ≤ (qI S (qO S 16 9) 2).toInt ∧ (qn S + 1 ≤ KCC ∧ qu S + (qI S (qO S 16 9) 2).toInt.toNat ≤ KSC)) ∧ (∃ S8 : MS, S8 = wN S 104 ((qI S (qO S 16 9) 2).toInt.toNat) ((qI S (qO S 16 9) 2).toInt.toNat) ∧ wfC S8 ∧ (∃ S10 : MS, S10 = wR S8 (qO S 16 9) 12 (some (qn S)) ∧ qT S8 (qO S 16 9) = 47 ∧ wfC S10 ∧ ((qR S10 16 9 = some (qO S10 16 9)) ∧ ((qR S10 16 9 = some (qO S10 16 9)) ∧ (((0 : Int) ≤ (qI S10 (qO S10 16 9) 2).toInt ∧ (qn S10 + 1 ≤ KCC ∧ qu S10 + (qI S10 (qO S10 16 9) 2).toInt.toNat ≤ KSC)) ∧ (∃ S18 : MS, S18 = wN S10 407 ((qI S10 (qO S10 16 9) 2).toInt.toNat) ((qI S10 (qO S10 16 9) 2).toInt.toNat) ∧ wfC S18 ∧ (∃ S20 : MS, S20 = wR S18 (qO S10 16 9) 13 (some (qn S10)) ∧ qT S18 (qO S10 16 9) = 47 ∧ wfC S20 ∧ ((qR S20 16 9 = some (qO S20 16 9)) ∧ ((qR S20 16 9 = some (qO S20 16 9)) ∧ (((0 : Int) ≤ (qI S20 (qO S20 16 9) 2).toInt ∧ (qn S20 + 1 ≤ KCC ∧ qu S20 + (qI S20 (qO S20 16 9) 2).toInt.toNat ≤ KSC)) ∧ (∃ S28 : MS, S28 = wN S20 408 ((qI S20 (qO S20 16 9) 2).toInt.toNat) ((qI S20 (qO S20 16 9) 2).toInt.toNat) ∧ wfC S28 ∧ (∃ S30 : MS, S30 = wR S28 (qO S20 16 9) 14 (some (qn S20)) ∧ qT S28 (qO S20 16 9) = 47 ∧ wfC S30 ∧ (∃ n, v_X1_keepTypes_L50 uo n S30 0))))))))))))))))
set_option maxRecDepth 100000 in
theorem ru_X1_keepTypes_J161 {ι : Type} {P Q : MS → Prop} {k50 k50' : MS → Int32 → Prop} {k50v : ι → MS → MS → Int32 → Prop} {U161 : MS} {v161_1 : Int32} (i0 : ι) (hk50 : ∀ (u : MS) (z0 : Int32), k50 u z0 → (∀ (i : ι) (uo : MS), k50v i uo u z0 → P uo) → k50' u z0) (K : ∀ (i : ι) (uo : MS), v_X1_keepTypes_J161 uo (k50v i uo) U161 v161_1 → P uo) (h : w_X1_keepTypes_J161 Q k50 U161 v161_1) : w_X1_keepTypes_J161 (fun u => Q u ∧ P u) k50' U161 v161_1 := by
  unfold w_X1_keepTypes_J161 at h ⊢
  intro y1_
  replace h := h y1_
  replace K := fun i uo z => K i uo ⟨y1_, z⟩
  intro a47 ea47 
  replace h := h a47 ea47 
  replace K := fun i uo z => K i uo ⟨a47, ea47, z⟩
  exact hk50 _ _ h K
set_option maxRecDepth 100000 in
theorem ru_X1_keepTypes_J155 {ι : Type} {P Q : MS → Prop} {k81 k81' : MS → Int32 → Int32 → Prop} {k81v : ι → MS → MS → Int32 → Int32 → Prop} {U155 : MS} {v155_1 : Int32} {v155_2 : Int32} (i0 : ι) (hk81 : ∀ (u : MS) (z0 : Int32) (z1 : Int32), k81 u z0 z1 → (∀ (i : ι) (uo : MS), k81v i uo u z0 z1 → P uo) → k81' u z0 z1) (K : ∀ (i : ι) (uo : MS), v_X1_keepTypes_J155 uo (k81v i uo) U155 v155_1 v155_2 → P uo) (h : w_X1_keepTypes_J155 Q k81 U155 v155_1 v155_2) : w_X1_keepTypes_J155 (fun u => Q u ∧ P u) k81' U155 v155_1 v155_2 := by
  unfold w_X1_keepTypes_J155 at h ⊢
  intro y2_
  replace h := h y2_
  replace K := fun i uo z => K i uo ⟨y2_, z⟩
  intro a56 ea56 
  replace h := h a56 ea56 
  replace K := fun i uo z => K i uo ⟨a56, ea56, z⟩
  exact hk81 _ _ _ h K
set_option maxRecDepth 100000 in
theorem ru_X1_keepTypes_L81 {ι : Type} {P Q : MS → Prop} {k50 k50' : MS → Int32 → Prop} {k50v : ι → MS → MS → Int32 → Prop} : ∀ (n : Nat) {U81 : MS} {v81_1 : Int32} {v81_2 : Int32} (i0 : ι) (hk50 : ∀ (u : MS) (z0 : Int32), k50 u z0 → (∀ (i : ι) (uo : MS), k50v i uo u z0 → P uo) → k50' u z0), (∀ (i : ι) (uo : MS), (∃ n8, v_X1_keepTypes_L81 uo (k50v i uo) n8 U81 v81_1 v81_2) → P uo) → w_X1_keepTypes_L81 Q k50 n U81 v81_1 v81_2 → w_X1_keepTypes_L81 (fun u => Q u ∧ P u) k50' n U81 v81_1 v81_2 := by
  intro n
  induction n with
  | zero => intro U81 v81_1 v81_2 i0 hk50 K h; unfold w_X1_keepTypes_L81 at h; exact h.elim
  | succ n ih =>
    intro U81 v81_1 v81_2 i0 hk50 K h
    unfold w_X1_keepTypes_L81 at h ⊢
    replace K := fun (i : ι × Nat) uo (z : v_X1_keepTypes_L81 uo (k50v i.1 uo) (i.2 + 1) U81 v81_1 v81_2) => K i.1 uo ⟨i.2 + 1, z⟩
    have i00 := i0
    replace i0 : ι × Nat := (i0, 0)
    intro y3_
    replace h := h y3_
    replace K := fun i uo z => K i uo ⟨y3_, z⟩
    obtain ⟨g4_, h⟩ := h
    refine ⟨g4_, ?_⟩
    replace K := fun i uo z => K i uo ⟨g4_, z⟩
    refine ⟨fun c => ?_, fun c => ?_⟩
    · replace h := h.1 c
      replace K := fun i uo z => K i uo (Or.inl ⟨c, z⟩)
      exact ru_X1_keepTypes_J161 i0 (fun _ _ h K => hk50 _ _ h (fun i uo z => K (i, 0) uo z)) K h
    · replace h := h.2 c
      replace K := fun i uo z => K i uo (Or.inr ⟨c, z⟩)
      refine ⟨fun c => ?_, fun c => ?_⟩
      · replace h := h.1 c
        replace K := fun i uo z => K i uo (Or.inl ⟨c, z⟩)
        exact ru_X1_keepTypes_J161 i0 (fun _ _ h K => hk50 _ _ h (fun i uo z => K (i, 0) uo z)) K h
      · replace h := h.2 c
        replace K := fun i uo z => K i uo (Or.inr ⟨c, z⟩)
        obtain ⟨g5_, h⟩ := h
        refine ⟨g5_, ?_⟩
        replace K := fun i uo z => K i uo ⟨g5_, z⟩
        intro a55 ea55 
        replace h := h a55 ea55 
        replace K := fun i uo z => K i uo ⟨a55, ea55, z⟩
        refine ⟨fun c => ?_, fun c => ?_⟩
        · replace h := h.1 c
          replace K := fun i uo z => K i uo (Or.inl ⟨c, z⟩)
          obtain ⟨g6_, h⟩ := h
          refine ⟨g6_, ?_⟩
          replace K := fun i uo z => K i uo ⟨g6_, z⟩
          obtain ⟨g7_, h⟩ := h
          refine ⟨g7_, ?_⟩
          replace K := fun i uo z => K i uo ⟨g7_, z⟩
          obtain ⟨g8_, h⟩ := h
          refine ⟨g8_, ?_⟩
          replace K := fun i uo z => K i uo ⟨g8_, z⟩
          obtain ⟨g9_, h⟩ := h
          refine ⟨g9_, ?_⟩
          replace K := fun i uo z => K i uo ⟨g9_, z⟩
          intro S68 eS68 y10_ y11_
          replace h := h S68 eS68 y10_ y11_
          replace K := fun i uo z => K i uo ⟨S68, eS68, y10_, y11_, z⟩
          exact ru_X1_keepTypes_J155 i0 (fun _ _ _ h K => ih i00 hk50 (fun i uo ⟨n8, z⟩ => K (i, n8) uo z) h) K h
        · replace h := h.2 c
          replace K := fun i uo z => K i uo (Or.inr ⟨c, z⟩)
          obtain ⟨g12_, h⟩ := h
          refine ⟨g12_, ?_⟩
          replace K := fun i uo z => K i uo ⟨g12_, z⟩
          obtain ⟨g13_, h⟩ := h
          refine ⟨g13_, ?_⟩
          replace K := fun i uo z => K i uo ⟨g13_, z⟩
          obtain ⟨g14_, h⟩ := h
          refine ⟨g14_, ?_⟩
          replace K := fun i uo z => K i uo ⟨g14_, z⟩
          obtain ⟨g15_, h⟩ := h
          refine ⟨g15_, ?_⟩
          replace K := fun i uo z => K i uo ⟨g15_, z⟩
          intro S78 eS78 y16_ y17_
          replace h := h S78 eS78 y16_ y17_
          replace K := fun i uo z => K i uo ⟨S78, eS78, y16_, y17_, z⟩
          exact ru_X1_keepTypes_J155 i0 (fun _ _ _ h K => ih i00 hk50 (fun i uo ⟨n8, z⟩ => K (i, n8) uo z) h) K h
set_option maxRecDepth 100000 in
theorem ru_X1_keepTypes_L50 {ι : Type} {P Q : MS → Prop} : ∀ (n : Nat) {U50 : MS} {v50_1 : Int32} (i0 : ι), (∀ (i : ι) (uo : MS), (∃ n8, v_X1_keepTypes_L50 uo n8 U50 v50_1) → P uo) → w_X1_keepTypes_L50 Q n U50 v50_1 → w_X1_keepTypes_L50 (fun u => Q u ∧ P u) n U50 v50_1 := by
  intro n
  induction n with
  | zero => intro U50 v50_1 i0 K h; unfold w_X1_keepTypes_L50 at h; exact h.elim
  | succ n ih =>
    intro U50 v50_1 i0 K h
    unfold w_X1_keepTypes_L50 at h ⊢
    replace K := fun (i : ι × Nat) uo (z : v_X1_keepTypes_L50 uo (i.2 + 1) U50 v50_1) => K i.1 uo ⟨i.2 + 1, z⟩
    have i00 := i0
    replace i0 : ι × Nat := (i0, 0)
    intro y18_
    replace h := h y18_
    replace K := fun i uo z => K i uo ⟨y18_, z⟩
    obtain ⟨g19_, h⟩ := h
    refine ⟨g19_, ?_⟩
    replace K := fun i uo z => K i uo ⟨g19_, z⟩
    refine ⟨fun c => ?_, fun c => ?_⟩
    · replace h := h.1 c
      replace K := fun i uo z => K i uo (Or.inl ⟨c, z⟩)
      exact ⟨h, K i0 _ rfl⟩
    · replace h := h.2 c
      replace K := fun i uo z => K i uo (Or.inr ⟨c, z⟩)
      obtain ⟨g20_, h⟩ := h
      refine ⟨g20_, ?_⟩
      replace K := fun i uo z => K i uo ⟨g20_, z⟩
      obtain ⟨g21_, h⟩ := h
      refine ⟨g21_, ?_⟩
      replace K := fun i uo z => K i uo ⟨g21_, z⟩
      obtain ⟨g22_, h⟩ := h
      refine ⟨g22_, ?_⟩
      replace K := fun i uo z => K i uo ⟨g22_, z⟩
      obtain ⟨g23_, h⟩ := h
      refine ⟨g23_, ?_⟩
      replace K := fun i uo z => K i uo ⟨g23_, z⟩
      intro S42 eS42 y24_ y25_
      replace h := h S42 eS42 y24_ y25_
      replace K := fun i uo z => K i uo ⟨S42, eS42, y24_, y25_, z⟩
      obtain ⟨n9, h⟩ := h
      exact ⟨n9, ru_X1_keepTypes_L81 n9 i0 (fun _ _ h K => ih i00 (fun i uo ⟨n8, z⟩ => K (i, n8) uo z) h) K h⟩
set_option maxRecDepth 100000 in
theorem ruX1_keepTypes {S : MS} {Q : MS → Prop} (h : wX1_keepTypes S Q) : wX1_keepTypes S (fun u => Q u ∧ vX1_keepTypes S u) := by
  have i0 : Unit := ()
  have K : ∀ (i : Unit) (uo : MS), vX1_keepTypes S uo → vX1_keepTypes S uo := fun _ _ z => z
  unfold wX1_keepTypes at h ⊢
  obtain ⟨g26_, h⟩ := h
  refine ⟨g26_, ?_⟩
  replace K := fun i uo z => K i uo ⟨g26_, z⟩
  obtain ⟨g27_, h⟩ := h
  refine ⟨g27_, ?_⟩
  replace K := fun i uo z => K i uo ⟨g27_, z⟩
  obtain ⟨g28_, h⟩ := h
  refine ⟨g28_, ?_⟩
  replace K := fun i uo z => K i uo ⟨g28_, z⟩
  intro S8 eS8 y29_
  replace h := h S8 eS8 y29_
  replace K := fun i uo z => K i uo ⟨S8, eS8, y29_, z⟩
  intro S10 eS10 y30_ y31_
  replace h := h S10 eS10 y30_ y31_
  replace K := fun i uo z => K i uo ⟨S10, eS10, y30_, y31_, z⟩
  obtain ⟨g32_, h⟩ := h
  refine ⟨g32_, ?_⟩
  replace K := fun i uo z => K i uo ⟨g32_, z⟩
  obtain ⟨g33_, h⟩ := h
  refine ⟨g33_, ?_⟩
  replace K := fun i uo z => K i uo ⟨g33_, z⟩
  obtain ⟨g34_, h⟩ := h
  refine ⟨g34_, ?_⟩
  replace K := fun i uo z => K i uo ⟨g34_, z⟩
  intro S18 eS18 y35_
  replace h := h S18 eS18 y35_
  replace K := fun i uo z => K i uo ⟨S18, eS18, y35_, z⟩
  intro S20 eS20 y36_ y37_
  replace h := h S20 eS20 y36_ y37_
  replace K := fun i uo z => K i uo ⟨S20, eS20, y36_, y37_, z⟩
  obtain ⟨g38_, h⟩ := h
  refine ⟨g38_, ?_⟩
  replace K := fun i uo z => K i uo ⟨g38_, z⟩
  obtain ⟨g39_, h⟩ := h
  refine ⟨g39_, ?_⟩
  replace K := fun i uo z => K i uo ⟨g39_, z⟩
  obtain ⟨g40_, h⟩ := h
  refine ⟨g40_, ?_⟩
  replace K := fun i uo z => K i uo ⟨g40_, z⟩
  intro S28 eS28 y41_
  replace h := h S28 eS28 y41_
  replace K := fun i uo z => K i uo ⟨S28, eS28, y41_, z⟩
  intro S30 eS30 y42_ y43_
  replace h := h S30 eS30 y42_ y43_
  replace K := fun i uo z => K i uo ⟨S30, eS30, y42_, y43_, z⟩
  obtain ⟨n9, h⟩ := h
  exact ⟨n9, ru_X1_keepTypes_L50 n9 i0 K h⟩
set_option maxRecDepth 100000 in
theorem vw_X1_keepTypes_J161 {uo : MS} {k50 k50v : MS → Int32 → Prop} {U161 : MS} {v161_1 : Int32} (hk50 : ∀ (u : MS) (z0 : Int32), k50v u z0 → k50 u z0) (h : v_X1_keepTypes_J161 uo k50v U161 v161_1) : w_X1_keepTypes_J161 (fun u => u = uo) k50 U161 v161_1 := by
  unfold v_X1_keepTypes_J161 at h
  unfold w_X1_keepTypes_J161
  intro _
  replace h := h.2
  obtain ⟨v9, e9, h⟩ := h
  intro x9 d9 
  have c9 : v9 = x9 := e9.trans d9.symm
  subst c9
  exact hk50 _ _ h
set_option maxRecDepth 100000 in
theorem vp_X1_keepTypes_J161 {uo : MS} {P : MS → Prop} {k50 k50v : MS → Int32 → Prop} {U161 : MS} {v161_1 : Int32} (hk50 : ∀ (u : MS) (z0 : Int32), k50v u z0 → k50 u z0 → P uo) (h : v_X1_keepTypes_J161 uo k50v U161 v161_1) (w : w_X1_keepTypes_J161 P k50 U161 v161_1) : P uo := by
  unfold v_X1_keepTypes_J161 at h
  unfold w_X1_keepTypes_J161 at w
  obtain ⟨y1_, h⟩ := h
  replace w := w y1_
  obtain ⟨v9, e9, h⟩ := h
  replace w := w v9 e9 
  exact hk50 _ _ h w
set_option maxRecDepth 100000 in
theorem vw_X1_keepTypes_J155 {uo : MS} {k81 k81v : MS → Int32 → Int32 → Prop} {U155 : MS} {v155_1 : Int32} {v155_2 : Int32} (hk81 : ∀ (u : MS) (z0 : Int32) (z1 : Int32), k81v u z0 z1 → k81 u z0 z1) (h : v_X1_keepTypes_J155 uo k81v U155 v155_1 v155_2) : w_X1_keepTypes_J155 (fun u => u = uo) k81 U155 v155_1 v155_2 := by
  unfold v_X1_keepTypes_J155 at h
  unfold w_X1_keepTypes_J155
  intro _
  replace h := h.2
  obtain ⟨v9, e9, h⟩ := h
  intro x9 d9 
  have c9 : v9 = x9 := e9.trans d9.symm
  subst c9
  exact hk81 _ _ _ h
set_option maxRecDepth 100000 in
theorem vp_X1_keepTypes_J155 {uo : MS} {P : MS → Prop} {k81 k81v : MS → Int32 → Int32 → Prop} {U155 : MS} {v155_1 : Int32} {v155_2 : Int32} (hk81 : ∀ (u : MS) (z0 : Int32) (z1 : Int32), k81v u z0 z1 → k81 u z0 z1 → P uo) (h : v_X1_keepTypes_J155 uo k81v U155 v155_1 v155_2) (w : w_X1_keepTypes_J155 P k81 U155 v155_1 v155_2) : P uo := by
  unfold v_X1_keepTypes_J155 at h
  unfold w_X1_keepTypes_J155 at w
  obtain ⟨y2_, h⟩ := h
  replace w := w y2_
  obtain ⟨v9, e9, h⟩ := h
  replace w := w v9 e9 
  exact hk81 _ _ _ h w
set_option maxRecDepth 100000 in
theorem vw_X1_keepTypes_L81 {uo : MS} {k50 k50v : MS → Int32 → Prop} : ∀ (n : Nat) {U81 : MS} {v81_1 : Int32} {v81_2 : Int32} (hk50 : ∀ (u : MS) (z0 : Int32), k50v u z0 → k50 u z0), v_X1_keepTypes_L81 uo k50v n U81 v81_1 v81_2 → w_X1_keepTypes_L81 (fun u => u = uo) k50 n U81 v81_1 v81_2 := by
  intro n
  induction n with
  | zero => intro U81 v81_1 v81_2 hk50 h; unfold v_X1_keepTypes_L81 at h; exact h.elim
  | succ n ih =>
    intro U81 v81_1 v81_2 hk50 h
    unfold v_X1_keepTypes_L81 at h
    unfold w_X1_keepTypes_L81
    intro _
    replace h := h.2
    obtain ⟨g9, h⟩ := h
    refine ⟨g9, ?_⟩
    rcases h with ⟨c, h⟩ | ⟨c, h⟩
    · refine ⟨fun _ => ?_, fun c2 => absurd c c2⟩
      exact vw_X1_keepTypes_J161 hk50 h
    · refine ⟨fun c2 => absurd c2 c, fun _ => ?_⟩
      rcases h with ⟨c, h⟩ | ⟨c, h⟩
      · refine ⟨fun _ => ?_, fun c2 => absurd c c2⟩
        exact vw_X1_keepTypes_J161 hk50 h
      · refine ⟨fun c2 => absurd c2 c, fun _ => ?_⟩
        obtain ⟨g9, h⟩ := h
        refine ⟨g9, ?_⟩
        obtain ⟨v9, e9, h⟩ := h
        intro x9 d9 
        have c9 : v9 = x9 := e9.trans d9.symm
        subst c9
        rcases h with ⟨c, h⟩ | ⟨c, h⟩
        · refine ⟨fun _ => ?_, fun c2 => absurd c c2⟩
          obtain ⟨g9, h⟩ := h
          refine ⟨g9, ?_⟩
          obtain ⟨g9, h⟩ := h
          refine ⟨g9, ?_⟩
          obtain ⟨g9, h⟩ := h
          refine ⟨g9, ?_⟩
          obtain ⟨g9, h⟩ := h
          refine ⟨g9, ?_⟩
          obtain ⟨v9, e9, h⟩ := h
          intro x9 d9 _ _
          have c9 : v9 = x9 := e9.trans d9.symm
          subst c9
          replace h := h.2.2
          exact vw_X1_keepTypes_J155 (fun _ _ _ h => ih hk50 h) h
        · refine ⟨fun c2 => absurd c2 c, fun _ => ?_⟩
          obtain ⟨g9, h⟩ := h
          refine ⟨g9, ?_⟩
          obtain ⟨g9, h⟩ := h
          refine ⟨g9, ?_⟩
          obtain ⟨g9, h⟩ := h
          refine ⟨g9, ?_⟩
          obtain ⟨g9, h⟩ := h
          refine ⟨g9, ?_⟩
          obtain ⟨v9, e9, h⟩ := h
          intro x9 d9 _ _
          have c9 : v9 = x9 := e9.trans d9.symm
          subst c9
          replace h := h.2.2
          exact vw_X1_keepTypes_J155 (fun _ _ _ h => ih hk50 h) h
set_option maxRecDepth 100000 in
theorem vp_X1_keepTypes_L81 {uo : MS} {P : MS → Prop} {k50 k50v : MS → Int32 → Prop} : ∀ (n m : Nat) {U81 : MS} {v81_1 : Int32} {v81_2 : Int32} (hk50 : ∀ (u : MS) (z0 : Int32), k50v u z0 → k50 u z0 → P uo), v_X1_keepTypes_L81 uo k50v n U81 v81_1 v81_2 → w_X1_keepTypes_L81 P k50 m U81 v81_1 v81_2 → P uo := by
  intro n
  induction n with
  | zero => intro m U81 v81_1 v81_2 hk50 h; unfold v_X1_keepTypes_L81 at h; exact h.elim
  | succ n ih =>
    intro m U81 v81_1 v81_2 hk50 h w
    cases m with
    | zero => unfold w_X1_keepTypes_L81 at w; exact w.elim
    | succ m =>
      unfold v_X1_keepTypes_L81 at h
      unfold w_X1_keepTypes_L81 at w
      obtain ⟨y3_, h⟩ := h
      replace w := w y3_
      replace h := h.2
      replace w := w.2
      rcases h with ⟨c, h⟩ | ⟨c, h⟩
      · replace w := w.1 c
        exact vp_X1_keepTypes_J161 hk50 h w
      · replace w := w.2 c
        rcases h with ⟨c, h⟩ | ⟨c, h⟩
        · replace w := w.1 c
          exact vp_X1_keepTypes_J161 hk50 h w
        · replace w := w.2 c
          replace h := h.2
          replace w := w.2
          obtain ⟨v9, e9, h⟩ := h
          replace w := w v9 e9 
          rcases h with ⟨c, h⟩ | ⟨c, h⟩
          · replace w := w.1 c
            replace h := h.2
            replace w := w.2
            replace h := h.2
            replace w := w.2
            replace h := h.2
            replace w := w.2
            replace h := h.2
            replace w := w.2
            obtain ⟨v9, e9, y4_, y5_, h⟩ := h
            replace w := w v9 e9 y4_ y5_
            exact vp_X1_keepTypes_J155 (fun _ _ _ h w => ih m hk50 h w) h w
          · replace w := w.2 c
            replace h := h.2
            replace w := w.2
            replace h := h.2
            replace w := w.2
            replace h := h.2
            replace w := w.2
            replace h := h.2
            replace w := w.2
            obtain ⟨v9, e9, y6_, y7_, h⟩ := h
            replace w := w v9 e9 y6_ y7_
            exact vp_X1_keepTypes_J155 (fun _ _ _ h w => ih m hk50 h w) h w
set_option maxRecDepth 100000 in
theorem vw_X1_keepTypes_L50 {uo : MS} : ∀ (n : Nat) {U50 : MS} {v50_1 : Int32}, v_X1_keepTypes_L50 uo n U50 v50_1 → w_X1_keepTypes_L50 (fun u => u = uo) n U50 v50_1 := by
  intro n
  induction n with
  | zero => intro U50 v50_1 h; unfold v_X1_keepTypes_L50 at h; exact h.elim
  | succ n ih =>
    intro U50 v50_1 h
    unfold v_X1_keepTypes_L50 at h
    unfold w_X1_keepTypes_L50
    intro _
    replace h := h.2
    obtain ⟨g9, h⟩ := h
    refine ⟨g9, ?_⟩
    rcases h with ⟨c, h⟩ | ⟨c, h⟩
    · refine ⟨fun _ => ?_, fun c2 => absurd c c2⟩
      exact h.symm
    · refine ⟨fun c2 => absurd c2 c, fun _ => ?_⟩
      obtain ⟨g9, h⟩ := h
      refine ⟨g9, ?_⟩
      obtain ⟨g9, h⟩ := h
      refine ⟨g9, ?_⟩
      obtain ⟨g9, h⟩ := h
      refine ⟨g9, ?_⟩
      obtain ⟨g9, h⟩ := h
      refine ⟨g9, ?_⟩
      obtain ⟨v9, e9, h⟩ := h
      intro x9 d9 _ _
      have c9 : v9 = x9 := e9.trans d9.symm
      subst c9
      replace h := h.2.2
      obtain ⟨n9, h⟩ := h
      exact ⟨n9, vw_X1_keepTypes_L81 n9 (fun _ _ h => ih h) h⟩
set_option maxRecDepth 100000 in
theorem vp_X1_keepTypes_L50 {uo : MS} {P : MS → Prop} : ∀ (n m : Nat) {U50 : MS} {v50_1 : Int32}, v_X1_keepTypes_L50 uo n U50 v50_1 → w_X1_keepTypes_L50 P m U50 v50_1 → P uo := by
  intro n
  induction n with
  | zero => intro m U50 v50_1 h; unfold v_X1_keepTypes_L50 at h; exact h.elim
  | succ n ih =>
    intro m U50 v50_1 h w
    cases m with
    | zero => unfold w_X1_keepTypes_L50 at w; exact w.elim
    | succ m =>
      unfold v_X1_keepTypes_L50 at h
      unfold w_X1_keepTypes_L50 at w
      obtain ⟨y8_, h⟩ := h
      replace w := w y8_
      replace h := h.2
      replace w := w.2
      rcases h with ⟨c, h⟩ | ⟨c, h⟩
      · replace w := w.1 c
        rw [h]
        exact w
      · replace w := w.2 c
        replace h := h.2
        replace w := w.2
        replace h := h.2
        replace w := w.2
        replace h := h.2
        replace w := w.2
        replace h := h.2
        replace w := w.2
        obtain ⟨v9, e9, y9_, y10_, h⟩ := h
        replace w := w v9 e9 y9_ y10_
        obtain ⟨n9, h⟩ := h
        obtain ⟨n8, w⟩ := w
        exact vp_X1_keepTypes_L81 n9 n8 (fun _ _ h w => ih m h w) h w
set_option maxRecDepth 100000 in
theorem vwX1_keepTypes {S : MS} {uo : MS} (h : vX1_keepTypes S uo) : wX1_keepTypes S (fun u => u = uo) := by
  unfold vX1_keepTypes at h
  unfold wX1_keepTypes
  obtain ⟨g9, h⟩ := h
  refine ⟨g9, ?_⟩
  obtain ⟨g9, h⟩ := h
  refine ⟨g9, ?_⟩
  obtain ⟨g9, h⟩ := h
  refine ⟨g9, ?_⟩
  obtain ⟨v9, e9, h⟩ := h
  intro x9 d9 _
  have c9 : v9 = x9 := e9.trans d9.symm
  subst c9
  replace h := h.2
  obtain ⟨v9, e9, h⟩ := h
  intro x9 d9 _ _
  have c9 : v9 = x9 := e9.trans d9.symm
  subst c9
  replace h := h.2.2
  obtain ⟨g9, h⟩ := h
  refine ⟨g9, ?_⟩
  obtain ⟨g9, h⟩ := h
  refine ⟨g9, ?_⟩
  obtain ⟨g9, h⟩ := h
  refine ⟨g9, ?_⟩
  obtain ⟨v9, e9, h⟩ := h
  intro x9 d9 _
  have c9 : v9 = x9 := e9.trans d9.symm
  subst c9
  replace h := h.2
  obtain ⟨v9, e9, h⟩ := h
  intro x9 d9 _ _
  have c9 : v9 = x9 := e9.trans d9.symm
  subst c9
  replace h := h.2.2
  obtain ⟨g9, h⟩ := h
  refine ⟨g9, ?_⟩
  obtain ⟨g9, h⟩ := h
  refine ⟨g9, ?_⟩
  obtain ⟨g9, h⟩ := h
  refine ⟨g9, ?_⟩
  obtain ⟨v9, e9, h⟩ := h
  intro x9 d9 _
  have c9 : v9 = x9 := e9.trans d9.symm
  subst c9
  replace h := h.2
  obtain ⟨v9, e9, h⟩ := h
  intro x9 d9 _ _
  have c9 : v9 = x9 := e9.trans d9.symm
  subst c9
  replace h := h.2.2
  obtain ⟨n9, h⟩ := h
  exact ⟨n9, vw_X1_keepTypes_L50 n9 h⟩
set_option maxRecDepth 100000 in
theorem vpX1_keepTypes {S : MS} {uo : MS} {P : MS → Prop} (h : vX1_keepTypes S uo) (w : wX1_keepTypes S P) : P uo := by
  unfold vX1_keepTypes at h
  unfold wX1_keepTypes at w
  replace h := h.2
  replace w := w.2
  replace h := h.2
  replace w := w.2
  replace h := h.2
  replace w := w.2
  obtain ⟨v9, e9, y11_, h⟩ := h
  replace w := w v9 e9 y11_
  obtain ⟨v9, e9, y12_, y13_, h⟩ := h
  replace w := w v9 e9 y12_ y13_
  replace h := h.2
  replace w := w.2
  replace h := h.2
  replace w := w.2
  replace h := h.2
  replace w := w.2
  obtain ⟨v9, e9, y14_, h⟩ := h
  replace w := w v9 e9 y14_
  obtain ⟨v9, e9, y15_, y16_, h⟩ := h
  replace w := w v9 e9 y15_ y16_
  replace h := h.2
  replace w := w.2
  replace h := h.2
  replace w := w.2
  replace h := h.2
  replace w := w.2
  obtain ⟨v9, e9, y17_, h⟩ := h
  replace w := w v9 e9 y17_
  obtain ⟨v9, e9, y18_, y19_, h⟩ := h
  replace w := w v9 e9 y18_ y19_
  obtain ⟨n9, h⟩ := h
  obtain ⟨n8, w⟩ := w
  exact vp_X1_keepTypes_L50 n9 n8 h w
def v_X2_catchesHold_J185 (ro : Int32) (uo : MS) (U185 : MS) : Prop := (wfC U185 ∧ (ro = (1 : Int32) ∧ uo = U185))
def v_X2_catchesHold_J129 (ro : Int32) (uo : MS) (U129 : MS) (v129_2 : Int32) : Prop := (wfC U129 ∧ (∃ (r28 : Int32) (S29 : MS), vX7_breaks U129 (14 : Int32) v129_2 r28 S29 ∧ wfC S29 ∧ shy U129 S29 ∧ (ro = r28 ∧ uo = S29)))
def v_X2_catchesHold_L90 (ro : Int32) (uo : MS) : Nat → MS → Int32 → Int32 → Int32 → Int32 → Prop
  | 0, _, _, _, _, _ => False
  | n90 + 1, U90, v90_2, v90_4, v90_5, v90_6 => (wfC U90 ∧ ((v90_5.toInt ≤ v90_6.toInt ∧ ((v90_4.toInt = v90_2.toInt ∧ (v_X2_catchesHold_J185 ro uo U90)) ∨ (¬ v90_4.toInt = v90_2.toInt ∧ (∃ (r22 : Int32) (S23 : MS), vX7_breaks U90 (14 : Int32) v90_4 r22 S23 ∧ wfC S23 ∧ shy U90 S23 ∧ ((r22.toInt = 0 ∧ (ro = (0 : Int32) ∧ uo = S23)) ∨ (¬ r22.toInt = 0 ∧ (v_X2_catchesHold_J185 ro uo S23))))))) ∨ (¬ v90_5.toInt ≤ v90_6.toInt ∧ ((v90_2.toInt < (v90_4 + (6 : Int32)).toInt ∧ (v_X2_catchesHold_J129 ro uo U90 v90_2)) ∨ (¬ v90_2.toInt < (v90_4 + (6 : Int32)).toInt ∧ (d_X7_u4 U90 (v90_4 + (2 : Int32)) ∧ (((lg_cmp (fX7_u4 U90 (v90_4 + (2 : Int32))) (((v90_2 - v90_4) - (6 : Int32)).toInt64)).toInt ≤ 0 ∧ (d_X7_s4 U90 (v90_4 + (2 : Int32)) ∧ (∃ a46 : Int32, a46 = (v90_4 + ((6 : Int32) + (fX7_s4 U90 (v90_4 + (2 : Int32))))) ∧ (∃ a47 : Int32, a47 = (v90_6 + Int32.ofInt 1) ∧ ((v_X2_catchesHold_L90 ro uo n90) U90 v90_2 a46 v90_5 a47))))) ∨ (¬ (lg_cmp (fX7_u4 U90 (v90_4 + (2 : Int32))) (((v90_2 - v90_4) - (6 : Int32)).toInt64)).toInt ≤ 0 ∧ (v_X2_catchesHold_J129 ro uo U90 v90_2)))))))))
def vX2_catchesHold (S : MS) (x1 : Int32) (x2 : Int32) (ro : Int32) (uo : MS) : Prop := (((x1 + (2 : Int32)).toInt ≤ x2.toInt ∧ (d_X7_u2 S x1 ∧ (∃ a6 : Int32, a6 = (fX7_u2 S x1) ∧ ((a6.toInt ≤ 16 ∧ (∃ a11 : Int32, a11 = ((x1 + (2 : Int32)) + ((8 : Int32) * a6)) ∧ (((a11 + (2 : Int32)).toInt ≤ x2.toInt ∧ (d_X7_u2 S a11 ∧ (∃ a17 : Int32, a17 = (fX7_u2 S a11) ∧ (∃ a18 : Int32, a18 = (a11 + Int32.ofInt 2) ∧ (∃ n, v_X2_catchesHold_L90 ro uo n S x2 a18 a17 0))))) ∨ (¬ (a11 + (2 : Int32)).toInt ≤ x2.toInt ∧ (∃ (r49 : Int32) (S50 : MS), vX7_breaks S (14 : Int32) x2 r49 S50 ∧ wfC S50 ∧ shy S S50 ∧ (ro = r49 ∧ uo = S50)))))) ∨ (¬ a6.toInt ≤ 16 ∧ (∃ (r53 : Int32) (S54 : MS), vX7_breaks S (13 : Int32) x1 r53 S54 ∧ wfC S54 ∧ shy S S54 ∧ (ro = r53 ∧ uo = S54))))))) ∨ (¬ (x1 + (2 : Int32)).toInt ≤ x2.toInt ∧ (∃ (r57 : Int32) (S58 : MS), vX7_breaks S (14 : Int32) x2 r57 S58 ∧ wfC S58 ∧ shy S S58 ∧ (ro = r57 ∧ uo = S58))))
set_option maxRecDepth 100000 in
theorem ru_X2_catchesHold_J185 {ι : Type} {P Q : Int32 → MS → Prop} {U185 : MS} (i0 : ι) (K : ∀ (i : ι) (ro : Int32) (uo : MS), v_X2_catchesHold_J185 ro uo U185 → P ro uo) (h : w_X2_catchesHold_J185 Q U185) : w_X2_catchesHold_J185 (fun r u => Q r u ∧ P r u) U185 := by
  unfold w_X2_catchesHold_J185 at h ⊢
  intro y1_
  replace h := h y1_
  replace K := fun i ro uo z => K i ro uo ⟨y1_, z⟩
  exact ⟨h, K i0 _ _ ⟨rfl, rfl⟩⟩
set_option maxRecDepth 100000 in
theorem ru_X2_catchesHold_J129 {ι : Type} {P Q : Int32 → MS → Prop} {U129 : MS} {v129_2 : Int32} (i0 : ι) (K : ∀ (i : ι) (ro : Int32) (uo : MS), v_X2_catchesHold_J129 ro uo U129 v129_2 → P ro uo) (h : w_X2_catchesHold_J129 Q U129 v129_2) : w_X2_catchesHold_J129 (fun r u => Q r u ∧ P r u) U129 v129_2 := by
  unfold w_X2_catchesHold_J129 at h ⊢
  intro y2_
  replace h := h y2_
  replace K := fun i ro uo z => K i ro uo ⟨y2_, z⟩
  obtain ⟨Q9, h0, h⟩ := h
  refine ⟨_, ruX7_breaks h0, ?_⟩
  intro r28 S29 q3_ y4_ y5_
  replace h := h r28 S29 q3_.1 y4_ y5_
  replace K := fun i ro uo z => K i ro uo ⟨r28, S29, q3_.2, y4_, y5_, z⟩
  exact ⟨h, K i0 _ _ ⟨rfl, rfl⟩⟩
set_option maxRecDepth 100000 in
theorem ru_X2_catchesHold_L90 {ι : Type} {P Q : Int32 → MS → Prop} : ∀ (n : Nat) {U90 : MS} {v90_2 : Int32} {v90_4 : Int32} {v90_5 : Int32} {v90_6 : Int32} (i0 : ι), (∀ (i : ι) (ro : Int32) (uo : MS), (∃ n8, v_X2_catchesHold_L90 ro uo n8 U90 v90_2 v90_4 v90_5 v90_6) → P ro uo) → w_X2_catchesHold_L90 Q n U90 v90_2 v90_4 v90_5 v90_6 → w_X2_catchesHold_L90 (fun r u => Q r u ∧ P r u) n U90 v90_2 v90_4 v90_5 v90_6 := by
  intro n
  induction n with
  | zero => intro U90 v90_2 v90_4 v90_5 v90_6 i0 K h; unfold w_X2_catchesHold_L90 at h; exact h.elim
  | succ n ih =>
    intro U90 v90_2 v90_4 v90_5 v90_6 i0 K h
    unfold w_X2_catchesHold_L90 at h ⊢
    replace K := fun (i : ι × Nat) ro uo (z : v_X2_catchesHold_L90 ro uo (i.2 + 1) U90 v90_2 v90_4 v90_5 v90_6) => K i.1 ro uo ⟨i.2 + 1, z⟩
    have i00 := i0
    replace i0 : ι × Nat := (i0, 0)
    intro y6_
    replace h := h y6_
    replace K := fun i ro uo z => K i ro uo ⟨y6_, z⟩
    refine ⟨fun c => ?_, fun c => ?_⟩
    · replace h := h.1 c
      replace K := fun i ro uo z => K i ro uo (Or.inl ⟨c, z⟩)
      refine ⟨fun c => ?_, fun c => ?_⟩
      · replace h := h.1 c
        replace K := fun i ro uo z => K i ro uo (Or.inl ⟨c, z⟩)
        exact ru_X2_catchesHold_J185 i0 K h
      · replace h := h.2 c
        replace K := fun i ro uo z => K i ro uo (Or.inr ⟨c, z⟩)
        obtain ⟨Q9, h0, h⟩ := h
        refine ⟨_, ruX7_breaks h0, ?_⟩
        intro r22 S23 q7_ y8_ y9_
        replace h := h r22 S23 q7_.1 y8_ y9_
        replace K := fun i ro uo z => K i ro uo ⟨r22, S23, q7_.2, y8_, y9_, z⟩
        refine ⟨fun c => ?_, fun c => ?_⟩
        · replace h := h.1 c
          replace K := fun i ro uo z => K i ro uo (Or.inl ⟨c, z⟩)
          exact ⟨h, K i0 _ _ ⟨rfl, rfl⟩⟩
        · replace h := h.2 c
          replace K := fun i ro uo z => K i ro uo (Or.inr ⟨c, z⟩)
          exact ru_X2_catchesHold_J185 i0 K h
    · replace h := h.2 c
      replace K := fun i ro uo z => K i ro uo (Or.inr ⟨c, z⟩)
      refine ⟨fun c => ?_, fun c => ?_⟩
      · replace h := h.1 c
        replace K := fun i ro uo z => K i ro uo (Or.inl ⟨c, z⟩)
        exact ru_X2_catchesHold_J129 i0 K h
      · replace h := h.2 c
        replace K := fun i ro uo z => K i ro uo (Or.inr ⟨c, z⟩)
        obtain ⟨g10_, h⟩ := h
        refine ⟨g10_, ?_⟩
        replace K := fun i ro uo z => K i ro uo ⟨g10_, z⟩
        refine ⟨fun c => ?_, fun c => ?_⟩
        · replace h := h.1 c
          replace K := fun i ro uo z => K i ro uo (Or.inl ⟨c, z⟩)
          obtain ⟨g11_, h⟩ := h
          refine ⟨g11_, ?_⟩
          replace K := fun i ro uo z => K i ro uo ⟨g11_, z⟩
          intro a46 ea46 
          replace h := h a46 ea46 
          replace K := fun i ro uo z => K i ro uo ⟨a46, ea46, z⟩
          intro a47 ea47 
          replace h := h a47 ea47 
          replace K := fun i ro uo z => K i ro uo ⟨a47, ea47, z⟩
          exact ih i00 (fun i ro uo ⟨n8, z⟩ => K (i, n8) ro uo z) h
        · replace h := h.2 c
          replace K := fun i ro uo z => K i ro uo (Or.inr ⟨c, z⟩)
          exact ru_X2_catchesHold_J129 i0 K h
set_option maxRecDepth 100000 in
theorem ruX2_catchesHold {S : MS} {x1 : Int32} {x2 : Int32} {Q : Int32 → MS → Prop} (h : wX2_catchesHold S x1 x2 Q) : wX2_catchesHold S x1 x2 (fun r u => Q r u ∧ vX2_catchesHold S x1 x2 r u) := by
  have i0 : Unit := ()
  have K : ∀ (i : Unit) (ro : Int32) (uo : MS), vX2_catchesHold S x1 x2 ro uo → vX2_catchesHold S x1 x2 ro uo := fun _ _ _ z => z
  unfold wX2_catchesHold at h ⊢
  refine ⟨fun c => ?_, fun c => ?_⟩
  · replace h := h.1 c
    replace K := fun i ro uo z => K i ro uo (Or.inl ⟨c, z⟩)
    obtain ⟨g12_, h⟩ := h
    refine ⟨g12_, ?_⟩
    replace K := fun i ro uo z => K i ro uo ⟨g12_, z⟩
    intro a6 ea6 
    replace h := h a6 ea6 
    replace K := fun i ro uo z => K i ro uo ⟨a6, ea6, z⟩
    refine ⟨fun c => ?_, fun c => ?_⟩
    · replace h := h.1 c
      replace K := fun i ro uo z => K i ro uo (Or.inl ⟨c, z⟩)
      intro a11 ea11 
      replace h := h a11 ea11 
      replace K := fun i ro uo z => K i ro uo ⟨a11, ea11, z⟩
      refine ⟨fun c => ?_, fun c => ?_⟩
      · replace h := h.1 c
        replace K := fun i ro uo z => K i ro uo (Or.inl ⟨c, z⟩)
        obtain ⟨g13_, h⟩ := h
        refine ⟨g13_, ?_⟩
        replace K := fun i ro uo z => K i ro uo ⟨g13_, z⟩
        intro a17 ea17 
        replace h := h a17 ea17 
        replace K := fun i ro uo z => K i ro uo ⟨a17, ea17, z⟩
        intro a18 ea18 
        replace h := h a18 ea18 
        replace K := fun i ro uo z => K i ro uo ⟨a18, ea18, z⟩
        obtain ⟨n9, h⟩ := h
        exact ⟨n9, ru_X2_catchesHold_L90 n9 i0 K h⟩
      · replace h := h.2 c
        replace K := fun i ro uo z => K i ro uo (Or.inr ⟨c, z⟩)
        obtain ⟨Q9, h0, h⟩ := h
        refine ⟨_, ruX7_breaks h0, ?_⟩
        intro r49 S50 q14_ y15_ y16_
        replace h := h r49 S50 q14_.1 y15_ y16_
        replace K := fun i ro uo z => K i ro uo ⟨r49, S50, q14_.2, y15_, y16_, z⟩
        exact ⟨h, K i0 _ _ ⟨rfl, rfl⟩⟩
    · replace h := h.2 c
      replace K := fun i ro uo z => K i ro uo (Or.inr ⟨c, z⟩)
      obtain ⟨Q9, h0, h⟩ := h
      refine ⟨_, ruX7_breaks h0, ?_⟩
      intro r53 S54 q17_ y18_ y19_
      replace h := h r53 S54 q17_.1 y18_ y19_
      replace K := fun i ro uo z => K i ro uo ⟨r53, S54, q17_.2, y18_, y19_, z⟩
      exact ⟨h, K i0 _ _ ⟨rfl, rfl⟩⟩
  · replace h := h.2 c
    replace K := fun i ro uo z => K i ro uo (Or.inr ⟨c, z⟩)
    obtain ⟨Q9, h0, h⟩ := h
    refine ⟨_, ruX7_breaks h0, ?_⟩
    intro r57 S58 q20_ y21_ y22_
    replace h := h r57 S58 q20_.1 y21_ y22_
    replace K := fun i ro uo z => K i ro uo ⟨r57, S58, q20_.2, y21_, y22_, z⟩
    exact ⟨h, K i0 _ _ ⟨rfl, rfl⟩⟩
set_option maxRecDepth 100000 in
theorem vw_X2_catchesHold_J185 {ro : Int32} {uo : MS} {U185 : MS} (h : v_X2_catchesHold_J185 ro uo U185) : w_X2_catchesHold_J185 (fun r u => r = ro ∧ u = uo) U185 := by
  unfold v_X2_catchesHold_J185 at h
  unfold w_X2_catchesHold_J185
  intro _
  replace h := h.2
  exact ⟨h.1.symm, h.2.symm⟩
set_option maxRecDepth 100000 in
theorem vp_X2_catchesHold_J185 {ro : Int32} {uo : MS} {P : Int32 → MS → Prop} {U185 : MS} (h : v_X2_catchesHold_J185 ro uo U185) (w : w_X2_catchesHold_J185 P U185) : P ro uo := by
  unfold v_X2_catchesHold_J185 at h
  unfold w_X2_catchesHold_J185 at w
  obtain ⟨y1_, h⟩ := h
  replace w := w y1_
  rw [h.1, h.2]
  exact w
set_option maxRecDepth 100000 in
theorem vw_X2_catchesHold_J129 {ro : Int32} {uo : MS} {U129 : MS} {v129_2 : Int32} (h : v_X2_catchesHold_J129 ro uo U129 v129_2) : w_X2_catchesHold_J129 (fun r u => r = ro ∧ u = uo) U129 v129_2 := by
  unfold v_X2_catchesHold_J129 at h
  unfold w_X2_catchesHold_J129
  intro _
  replace h := h.2
  obtain ⟨p9, q9, z9, h⟩ := h
  refine ⟨_, vwX7_breaks z9, ?_⟩
  rintro p8 q8 ⟨d8, d9⟩ _ _
  subst d8
  subst d9
  replace h := h.2.2
  exact ⟨h.1.symm, h.2.symm⟩
set_option maxRecDepth 100000 in
theorem vp_X2_catchesHold_J129 {ro : Int32} {uo : MS} {P : Int32 → MS → Prop} {U129 : MS} {v129_2 : Int32} (h : v_X2_catchesHold_J129 ro uo U129 v129_2) (w : w_X2_catchesHold_J129 P U129 v129_2) : P ro uo := by
  unfold v_X2_catchesHold_J129 at h
  unfold w_X2_catchesHold_J129 at w
  obtain ⟨y2_, h⟩ := h
  replace w := w y2_
  obtain ⟨p9, q9, z9, y3_, y4_, h⟩ := h
  obtain ⟨Q9, w0, w⟩ := w
  replace w := w p9 q9 (vpX7_breaks z9 w0) y3_ y4_
  rw [h.1, h.2]
  exact w
set_option maxRecDepth 100000 in
theorem vw_X2_catchesHold_L90 {ro : Int32} {uo : MS} : ∀ (n : Nat) {U90 : MS} {v90_2 : Int32} {v90_4 : Int32} {v90_5 : Int32} {v90_6 : Int32}, v_X2_catchesHold_L90 ro uo n U90 v90_2 v90_4 v90_5 v90_6 → w_X2_catchesHold_L90 (fun r u => r = ro ∧ u = uo) n U90 v90_2 v90_4 v90_5 v90_6 := by
  intro n
  induction n with
  | zero => intro U90 v90_2 v90_4 v90_5 v90_6 h; unfold v_X2_catchesHold_L90 at h; exact h.elim
  | succ n ih =>
    intro U90 v90_2 v90_4 v90_5 v90_6 h
    unfold v_X2_catchesHold_L90 at h
    unfold w_X2_catchesHold_L90
    intro _
    replace h := h.2
    rcases h with ⟨c, h⟩ | ⟨c, h⟩
    · refine ⟨fun _ => ?_, fun c2 => absurd c c2⟩
      rcases h with ⟨c, h⟩ | ⟨c, h⟩
      · refine ⟨fun _ => ?_, fun c2 => absurd c c2⟩
        exact vw_X2_catchesHold_J185 h
      · refine ⟨fun c2 => absurd c2 c, fun _ => ?_⟩
        obtain ⟨p9, q9, z9, h⟩ := h
        refine ⟨_, vwX7_breaks z9, ?_⟩
        rintro p8 q8 ⟨d8, d9⟩ _ _
        subst d8
        subst d9
        replace h := h.2.2
        rcases h with ⟨c, h⟩ | ⟨c, h⟩
        · refine ⟨fun _ => ?_, fun c2 => absurd c c2⟩
          exact ⟨h.1.symm, h.2.symm⟩
        · refine ⟨fun c2 => absurd c2 c, fun _ => ?_⟩
          exact vw_X2_catchesHold_J185 h
    · refine ⟨fun c2 => absurd c2 c, fun _ => ?_⟩
      rcases h with ⟨c, h⟩ | ⟨c, h⟩
      · refine ⟨fun _ => ?_, fun c2 => absurd c c2⟩
        exact vw_X2_catchesHold_J129 h
      · refine ⟨fun c2 => absurd c2 c, fun _ => ?_⟩
        obtain ⟨g9, h⟩ := h
        refine ⟨g9, ?_⟩
        rcases h with ⟨c, h⟩ | ⟨c, h⟩
        · refine ⟨fun _ => ?_, fun c2 => absurd c c2⟩
          obtain ⟨g9, h⟩ := h
          refine ⟨g9, ?_⟩
          obtain ⟨v9, e9, h⟩ := h
          intro x9 d9 
          have c9 : v9 = x9 := e9.trans d9.symm
          subst c9
          obtain ⟨v9, e9, h⟩ := h
          intro x9 d9 
          have c9 : v9 = x9 := e9.trans d9.symm
          subst c9
          exact ih h
        · refine ⟨fun c2 => absurd c2 c, fun _ => ?_⟩
          exact vw_X2_catchesHold_J129 h
set_option maxRecDepth 100000 in
theorem vp_X2_catchesHold_L90 {ro : Int32} {uo : MS} {P : Int32 → MS → Prop} : ∀ (n m : Nat) {U90 : MS} {v90_2 : Int32} {v90_4 : Int32} {v90_5 : Int32} {v90_6 : Int32}, v_X2_catchesHold_L90 ro uo n U90 v90_2 v90_4 v90_5 v90_6 → w_X2_catchesHold_L90 P m U90 v90_2 v90_4 v90_5 v90_6 → P ro uo := by
  intro n
  induction n with
  | zero => intro m U90 v90_2 v90_4 v90_5 v90_6 h; unfold v_X2_catchesHold_L90 at h; exact h.elim
  | succ n ih =>
    intro m U90 v90_2 v90_4 v90_5 v90_6 h w
    cases m with
    | zero => unfold w_X2_catchesHold_L90 at w; exact w.elim
    | succ m =>
      unfold v_X2_catchesHold_L90 at h
      unfold w_X2_catchesHold_L90 at w
      obtain ⟨y5_, h⟩ := h
      replace w := w y5_
      rcases h with ⟨c, h⟩ | ⟨c, h⟩
      · replace w := w.1 c
        rcases h with ⟨c, h⟩ | ⟨c, h⟩
        · replace w := w.1 c
          exact vp_X2_catchesHold_J185 h w
        · replace w := w.2 c
          obtain ⟨p9, q9, z9, y6_, y7_, h⟩ := h
          obtain ⟨Q9, w0, w⟩ := w
          replace w := w p9 q9 (vpX7_breaks z9 w0) y6_ y7_
          rcases h with ⟨c, h⟩ | ⟨c, h⟩
          · replace w := w.1 c
            rw [h.1, h.2]
            exact w
          · replace w := w.2 c
            exact vp_X2_catchesHold_J185 h w
      · replace w := w.2 c
        rcases h with ⟨c, h⟩ | ⟨c, h⟩
        · replace w := w.1 c
          exact vp_X2_catchesHold_J129 h w
        · replace w := w.2 c
          replace h := h.2
          replace w := w.2
          rcases h with ⟨c, h⟩ | ⟨c, h⟩
          · replace w := w.1 c
            replace h := h.2
            replace w := w.2
            obtain ⟨v9, e9, h⟩ := h
            replace w := w v9 e9 
            obtain ⟨v9, e9, h⟩ := h
            replace w := w v9 e9 
            exact ih m h w
          · replace w := w.2 c
            exact vp_X2_catchesHold_J129 h w
set_option maxRecDepth 100000 in
theorem vwX2_catchesHold {S : MS} {x1 : Int32} {x2 : Int32} {ro : Int32} {uo : MS} (h : vX2_catchesHold S x1 x2 ro uo) : wX2_catchesHold S x1 x2 (fun r u => r = ro ∧ u = uo) := by
  unfold vX2_catchesHold at h
  unfold wX2_catchesHold
  rcases h with ⟨c, h⟩ | ⟨c, h⟩
  · refine ⟨fun _ => ?_, fun c2 => absurd c c2⟩
    obtain ⟨g9, h⟩ := h
    refine ⟨g9, ?_⟩
    obtain ⟨v9, e9, h⟩ := h
    intro x9 d9 
    have c9 : v9 = x9 := e9.trans d9.symm
    subst c9
    rcases h with ⟨c, h⟩ | ⟨c, h⟩
    · refine ⟨fun _ => ?_, fun c2 => absurd c c2⟩
      obtain ⟨v9, e9, h⟩ := h
      intro x9 d9 
      have c9 : v9 = x9 := e9.trans d9.symm
      subst c9
      rcases h with ⟨c, h⟩ | ⟨c, h⟩
      · refine ⟨fun _ => ?_, fun c2 => absurd c c2⟩
        obtain ⟨g9, h⟩ := h
        refine ⟨g9, ?_⟩
        obtain ⟨v9, e9, h⟩ := h
        intro x9 d9 
        have c9 : v9 = x9 := e9.trans d9.symm
        subst c9
        obtain ⟨v9, e9, h⟩ := h
        intro x9 d9 
        have c9 : v9 = x9 := e9.trans d9.symm
        subst c9
        obtain ⟨n9, h⟩ := h
        exact ⟨n9, vw_X2_catchesHold_L90 n9 h⟩
      · refine ⟨fun c2 => absurd c2 c, fun _ => ?_⟩
        obtain ⟨p9, q9, z9, h⟩ := h
        refine ⟨_, vwX7_breaks z9, ?_⟩
        rintro p8 q8 ⟨d8, d9⟩ _ _
        subst d8
        subst d9
        replace h := h.2.2
        exact ⟨h.1.symm, h.2.symm⟩
    · refine ⟨fun c2 => absurd c2 c, fun _ => ?_⟩
      obtain ⟨p9, q9, z9, h⟩ := h
      refine ⟨_, vwX7_breaks z9, ?_⟩
      rintro p8 q8 ⟨d8, d9⟩ _ _
      subst d8
      subst d9
      replace h := h.2.2
      exact ⟨h.1.symm, h.2.symm⟩
  · refine ⟨fun c2 => absurd c2 c, fun _ => ?_⟩
    obtain ⟨p9, q9, z9, h⟩ := h
    refine ⟨_, vwX7_breaks z9, ?_⟩
    rintro p8 q8 ⟨d8, d9⟩ _ _
    subst d8
    subst d9
    replace h := h.2.2
    exact ⟨h.1.symm, h.2.symm⟩
set_option maxRecDepth 100000 in
theorem vpX2_catchesHold {S : MS} {x1 : Int32} {x2 : Int32} {ro : Int32} {uo : MS} {P : Int32 → MS → Prop} (h : vX2_catchesHold S x1 x2 ro uo) (w : wX2_catchesHold S x1 x2 P) : P ro uo := by
  unfold vX2_catchesHold at h
  unfold wX2_catchesHold at w
  rcases h with ⟨c, h⟩ | ⟨c, h⟩
  · replace w := w.1 c
    replace h := h.2
    replace w := w.2
    obtain ⟨v9, e9, h⟩ := h
    replace w := w v9 e9 
    rcases h with ⟨c, h⟩ | ⟨c, h⟩
    · replace w := w.1 c
      obtain ⟨v9, e9, h⟩ := h
      replace w := w v9 e9 
      rcases h with ⟨c, h⟩ | ⟨c, h⟩
      · replace w := w.1 c
        replace h := h.2
        replace w := w.2
        obtain ⟨v9, e9, h⟩ := h
        replace w := w v9 e9 
        obtain ⟨v9, e9, h⟩ := h
        replace w := w v9 e9 
        obtain ⟨n9, h⟩ := h
        obtain ⟨n8, w⟩ := w
        exact vp_X2_catchesHold_L90 n9 n8 h w
      · replace w := w.2 c
        obtain ⟨p9, q9, z9, y8_, y9_, h⟩ := h
        obtain ⟨Q9, w0, w⟩ := w
        replace w := w p9 q9 (vpX7_breaks z9 w0) y8_ y9_
        rw [h.1, h.2]
        exact w
    · replace w := w.2 c
      obtain ⟨p9, q9, z9, y10_, y11_, h⟩ := h
      obtain ⟨Q9, w0, w⟩ := w
      replace w := w p9 q9 (vpX7_breaks z9 w0) y10_ y11_
      rw [h.1, h.2]
      exact w
  · replace w := w.2 c
    obtain ⟨p9, q9, z9, y12_, y13_, h⟩ := h
    obtain ⟨Q9, w0, w⟩ := w
    replace w := w p9 q9 (vpX7_breaks z9 w0) y12_ y13_
    rw [h.1, h.2]
    exact w
def v_X2_lookAt_J23 (uo : MS) (U23 : MS) (t23_0 : Int32) : Prop := (wfC U23 ∧ (d_X7_u2 U23 t23_0 ∧ (∃ S4 : MS, S4 = wI U23 8 3 (fX7_u2 U23 t23_0) ∧ qT U23 8 = 42 ∧ wfC S4 ∧ (d_X7_u2 S4 (t23_0 + (2 : Int32)) ∧ (∃ S9 : MS, S9 = wI S4 8 4 (fX7_u2 S4 (t23_0 + (2 : Int32))) ∧ qT S4 8 = 42 ∧ wfC S9 ∧ (d_X7_s4 S9 (t23_0 + (4 : Int32)) ∧ (∃ S15 : MS, S15 = wI S9 8 2 (if (1200 : Int32) < (fX7_s4 S9 (t23_0 + (4 : Int32))) then (1200 : Int32) else (fX7_s4 S9 (t23_0 + (4 : Int32)))) ∧ qT S9 8 = 42 ∧ wfC S15 ∧ (∃ S17 : MS, S17 = wI S15 8 1 (t23_0 + (8 : Int32)) ∧ qT S15 8 = 42 ∧ wfC S17 ∧ (∃ S20 : MS, S20 = wI S17 8 5 (((qI S17 8 1) + (qI S17 8 2)) + (2 : Int32)) ∧ qT S17 8 = 42 ∧ wfC S20 ∧ (d_X7_u2 S20 ((qI S20 8 1) + (qI S20 8 2)) ∧ (∃ S25 : MS, S25 = wI S20 8 6 (fX7_u2 S20 ((qI S20 8 1) + (qI S20 8 2))) ∧ qT S20 8 = 42 ∧ wfC S25 ∧ (uo = S25))))))))))))
def v_X2_lookAt_J10 (uo : MS) (U10 : MS) : Prop := (wfC U10 ∧ (v_X2_lookAt_J23 uo U10 0))
def vX2_lookAt (S : MS) (x1 : Int32) (uo : MS) : Prop := ((x1.toInt < 0 ∧ (v_X2_lookAt_J10 uo S)) ∨ (¬ x1.toInt < 0 ∧ ((x1.toInt < 24 ∧ (((0 : Int) ≤ x1.toInt ∧ x1.toInt < 24) ∧ (v_X2_lookAt_J23 uo S (qI S 13 x1.toInt.toNat)))) ∨ (¬ x1.toInt < 24 ∧ (v_X2_lookAt_J10 uo S)))))
set_option maxRecDepth 100000 in
theorem ru_X2_lookAt_J23 {ι : Type} {P Q : MS → Prop} {U23 : MS} {t23_0 : Int32} (i0 : ι) (K : ∀ (i : ι) (uo : MS), v_X2_lookAt_J23 uo U23 t23_0 → P uo) (h : w_X2_lookAt_J23 Q U23 t23_0) : w_X2_lookAt_J23 (fun u => Q u ∧ P u) U23 t23_0 := by
  unfold w_X2_lookAt_J23 at h ⊢
  intro y1_
  replace h := h y1_
  replace K := fun i uo z => K i uo ⟨y1_, z⟩
  obtain ⟨g2_, h⟩ := h
  refine ⟨g2_, ?_⟩
  replace K := fun i uo z => K i uo ⟨g2_, z⟩
  intro S4 eS4 y3_ y4_
  replace h := h S4 eS4 y3_ y4_
  replace K := fun i uo z => K i uo ⟨S4, eS4, y3_, y4_, z⟩
  obtain ⟨g5_, h⟩ := h
  refine ⟨g5_, ?_⟩
  replace K := fun i uo z => K i uo ⟨g5_, z⟩
  intro S9 eS9 y6_ y7_
  replace h := h S9 eS9 y6_ y7_
  replace K := fun i uo z => K i uo ⟨S9, eS9, y6_, y7_, z⟩
  obtain ⟨g8_, h⟩ := h
  refine ⟨g8_, ?_⟩
  replace K := fun i uo z => K i uo ⟨g8_, z⟩
  intro S15 eS15 y9_ y10_
  replace h := h S15 eS15 y9_ y10_
  replace K := fun i uo z => K i uo ⟨S15, eS15, y9_, y10_, z⟩
  intro S17 eS17 y11_ y12_
  replace h := h S17 eS17 y11_ y12_
  replace K := fun i uo z => K i uo ⟨S17, eS17, y11_, y12_, z⟩
  intro S20 eS20 y13_ y14_
  replace h := h S20 eS20 y13_ y14_
  replace K := fun i uo z => K i uo ⟨S20, eS20, y13_, y14_, z⟩
  obtain ⟨g15_, h⟩ := h
  refine ⟨g15_, ?_⟩
  replace K := fun i uo z => K i uo ⟨g15_, z⟩
  intro S25 eS25 y16_ y17_
  replace h := h S25 eS25 y16_ y17_
  replace K := fun i uo z => K i uo ⟨S25, eS25, y16_, y17_, z⟩
  exact ⟨h, K i0 _ rfl⟩
set_option maxRecDepth 100000 in
theorem ru_X2_lookAt_J10 {ι : Type} {P Q : MS → Prop} {U10 : MS} (i0 : ι) (K : ∀ (i : ι) (uo : MS), v_X2_lookAt_J10 uo U10 → P uo) (h : w_X2_lookAt_J10 Q U10) : w_X2_lookAt_J10 (fun u => Q u ∧ P u) U10 := by
  unfold w_X2_lookAt_J10 at h ⊢
  intro y18_
  replace h := h y18_
  replace K := fun i uo z => K i uo ⟨y18_, z⟩
  exact ru_X2_lookAt_J23 i0 K h
set_option maxRecDepth 100000 in
theorem ruX2_lookAt {S : MS} {x1 : Int32} {Q : MS → Prop} (h : wX2_lookAt S x1 Q) : wX2_lookAt S x1 (fun u => Q u ∧ vX2_lookAt S x1 u) := by
  have i0 : Unit := ()
  have K : ∀ (i : Unit) (uo : MS), vX2_lookAt S x1 uo → vX2_lookAt S x1 uo := fun _ _ z => z
  unfold wX2_lookAt at h ⊢
  refine ⟨fun c => ?_, fun c => ?_⟩
  · replace h := h.1 c
    replace K := fun i uo z => K i uo (Or.inl ⟨c, z⟩)
    exact ru_X2_lookAt_J10 i0 K h
  · replace h := h.2 c
    replace K := fun i uo z => K i uo (Or.inr ⟨c, z⟩)
    refine ⟨fun c => ?_, fun c => ?_⟩
    · replace h := h.1 c
      replace K := fun i uo z => K i uo (Or.inl ⟨c, z⟩)
      obtain ⟨g19_, h⟩ := h
      refine ⟨g19_, ?_⟩
      replace K := fun i uo z => K i uo ⟨g19_, z⟩
      exact ru_X2_lookAt_J23 i0 K h
    · replace h := h.2 c
      replace K := fun i uo z => K i uo (Or.inr ⟨c, z⟩)
      exact ru_X2_lookAt_J10 i0 K h
set_option maxRecDepth 100000 in
theorem vw_X2_lookAt_J23 {uo : MS} {U23 : MS} {t23_0 : Int32} (h : v_X2_lookAt_J23 uo U23 t23_0) : w_X2_lookAt_J23 (fun u => u = uo) U23 t23_0 := by
  unfold v_X2_lookAt_J23 at h
  unfold w_X2_lookAt_J23
  intro _
  replace h := h.2
  obtain ⟨g9, h⟩ := h
  refine ⟨g9, ?_⟩
  obtain ⟨v9, e9, h⟩ := h
  intro x9 d9 _ _
  have c9 : v9 = x9 := e9.trans d9.symm
  subst c9
  replace h := h.2.2
  obtain ⟨g9, h⟩ := h
  refine ⟨g9, ?_⟩
  obtain ⟨v9, e9, h⟩ := h
  intro x9 d9 _ _
  have c9 : v9 = x9 := e9.trans d9.symm
  subst c9
  replace h := h.2.2
  obtain ⟨g9, h⟩ := h
  refine ⟨g9, ?_⟩
  obtain ⟨v9, e9, h⟩ := h
  intro x9 d9 _ _
  have c9 : v9 = x9 := e9.trans d9.symm
  subst c9
  replace h := h.2.2
  obtain ⟨v9, e9, h⟩ := h
  intro x9 d9 _ _
  have c9 : v9 = x9 := e9.trans d9.symm
  subst c9
  replace h := h.2.2
  obtain ⟨v9, e9, h⟩ := h
  intro x9 d9 _ _
  have c9 : v9 = x9 := e9.trans d9.symm
  subst c9
  replace h := h.2.2
  obtain ⟨g9, h⟩ := h
  refine ⟨g9, ?_⟩
  obtain ⟨v9, e9, h⟩ := h
  intro x9 d9 _ _
  have c9 : v9 = x9 := e9.trans d9.symm
  subst c9
  replace h := h.2.2
  exact h.symm
set_option maxRecDepth 100000 in
theorem vp_X2_lookAt_J23 {uo : MS} {P : MS → Prop} {U23 : MS} {t23_0 : Int32} (h : v_X2_lookAt_J23 uo U23 t23_0) (w : w_X2_lookAt_J23 P U23 t23_0) : P uo := by
  unfold v_X2_lookAt_J23 at h
  unfold w_X2_lookAt_J23 at w
  obtain ⟨y1_, h⟩ := h
  replace w := w y1_
  replace h := h.2
  replace w := w.2
  obtain ⟨v9, e9, y2_, y3_, h⟩ := h
  replace w := w v9 e9 y2_ y3_
  replace h := h.2
  replace w := w.2
  obtain ⟨v9, e9, y4_, y5_, h⟩ := h
  replace w := w v9 e9 y4_ y5_
  replace h := h.2
  replace w := w.2
  obtain ⟨v9, e9, y6_, y7_, h⟩ := h
  replace w := w v9 e9 y6_ y7_
  obtain ⟨v9, e9, y8_, y9_, h⟩ := h
  replace w := w v9 e9 y8_ y9_
  obtain ⟨v9, e9, y10_, y11_, h⟩ := h
  replace w := w v9 e9 y10_ y11_
  replace h := h.2
  replace w := w.2
  obtain ⟨v9, e9, y12_, y13_, h⟩ := h
  replace w := w v9 e9 y12_ y13_
  rw [h]
  exact w
set_option maxRecDepth 100000 in
theorem vw_X2_lookAt_J10 {uo : MS} {U10 : MS} (h : v_X2_lookAt_J10 uo U10) : w_X2_lookAt_J10 (fun u => u = uo) U10 := by
  unfold v_X2_lookAt_J10 at h
  unfold w_X2_lookAt_J10
  intro _
  replace h := h.2
  exact vw_X2_lookAt_J23 h
set_option maxRecDepth 100000 in
theorem vp_X2_lookAt_J10 {uo : MS} {P : MS → Prop} {U10 : MS} (h : v_X2_lookAt_J10 uo U10) (w : w_X2_lookAt_J10 P U10) : P uo := by
  unfold v_X2_lookAt_J10 at h
  unfold w_X2_lookAt_J10 at w
  obtain ⟨y14_, h⟩ := h
  replace w := w y14_
  exact vp_X2_lookAt_J23 h w
set_option maxRecDepth 100000 in
theorem vwX2_lookAt {S : MS} {x1 : Int32} {uo : MS} (h : vX2_lookAt S x1 uo) : wX2_lookAt S x1 (fun u => u = uo) := by
  unfold vX2_lookAt at h
  unfold wX2_lookAt
  rcases h with ⟨c, h⟩ | ⟨c, h⟩
  · refine ⟨fun _ => ?_, fun c2 => absurd c c2⟩
    exact vw_X2_lookAt_J10 h
  · refine ⟨fun c2 => absurd c2 c, fun _ => ?_⟩
    rcases h with ⟨c, h⟩ | ⟨c, h⟩
    · refine ⟨fun _ => ?_, fun c2 => absurd c c2⟩
      obtain ⟨g9, h⟩ := h
      refine ⟨g9, ?_⟩
      exact vw_X2_lookAt_J23 h
    · refine ⟨fun c2 => absurd c2 c, fun _ => ?_⟩
      exact vw_X2_lookAt_J10 h
set_option maxRecDepth 100000 in
theorem vpX2_lookAt {S : MS} {x1 : Int32} {uo : MS} {P : MS → Prop} (h : vX2_lookAt S x1 uo) (w : wX2_lookAt S x1 P) : P uo := by
  unfold vX2_lookAt at h
  unfold wX2_lookAt at w
  rcases h with ⟨c, h⟩ | ⟨c, h⟩
  · replace w := w.1 c
    exact vp_X2_lookAt_J10 h w
  · replace w := w.2 c
    rcases h with ⟨c, h⟩ | ⟨c, h⟩
    · replace w := w.1 c
      replace h := h.2
      replace w := w.2
      exact vp_X2_lookAt_J23 h w
    · replace w := w.2 c
      exact vp_X2_lookAt_J10 h w
def v_X2_lookupLength_L56 (ro : Int32) (uo : MS) : Nat → MS → Int32 → Int32 → Int32 → Int32 → Prop
  | 0, _, _, _, _, _ => False
  | n56 + 1, U56, v56_1, v56_2, v56_3, v56_4 => (wfC U56 ∧ ((v56_3.toInt ≤ v56_4.toInt ∧ (ro = (((v56_2 + (8 : Int32)) + ((8 : Int32) * v56_3)) - v56_1) ∧ uo = U56)) ∨ (¬ v56_3.toInt ≤ v56_4.toInt ∧ (d_X2_s4 U56 ((v56_2 + (8 : Int32)) + ((8 : Int32) * v56_4)) ∧ (d_X2_s4 U56 (v56_2 + ((8 : Int32) * v56_4)) ∧ (((fX2_s4 U56 (v56_2 + ((8 : Int32) * v56_4))).toInt < (fX2_s4 U56 ((v56_2 + (8 : Int32)) + ((8 : Int32) * v56_4))).toInt ∧ (∃ a35 : Int32, a35 = (v56_4 + Int32.ofInt 1) ∧ ((v_X2_lookupLength_L56 ro uo n56) U56 v56_1 v56_2 v56_3 a35))) ∨ (¬ (fX2_s4 U56 (v56_2 + ((8 : Int32) * v56_4))).toInt < (fX2_s4 U56 ((v56_2 + (8 : Int32)) + ((8 : Int32) * v56_4))).toInt ∧ (ro = (0 : Int32) ∧ uo = U56))))))))
def vX2_lookupLength (S : MS) (x1 : Int32) (ro : Int32) (uo : MS) : Prop := (d_X2_numbersOf S x1 ∧ (∃ a4 : Int32, a4 = (fX2_numbersOf S x1) ∧ (d_X2_s4 S (a4 + (4 : Int32)) ∧ (∃ a9 : Int32, a9 = (fX2_s4 S (a4 + (4 : Int32))) ∧ (((qI S 8 2).toInt < (a4 + (8 : Int32)).toInt ∧ (ro = (0 : Int32) ∧ uo = S)) ∨ (¬ (qI S 8 2).toInt < (a4 + (8 : Int32)).toInt ∧ ((a9.toInt < 0 ∧ (ro = (0 : Int32) ∧ uo = S)) ∨ (¬ a9.toInt < 0 ∧ ((200 < a9.toInt ∧ (ro = (0 : Int32) ∧ uo = S)) ∨ (¬ 200 < a9.toInt ∧ ((((a4 + (8 : Int32)) + ((8 : Int32) * a9)).toInt ≤ (qI S 8 2).toInt ∧ (∃ n, v_X2_lookupLength_L56 ro uo n S x1 a4 a9 1)) ∨ (¬ ((a4 + (8 : Int32)) + ((8 : Int32) * a9)).toInt ≤ (qI S 8 2).toInt ∧ (ro = (0 : Int32) ∧ uo = S)))))))))))))
set_option maxRecDepth 100000 in
theorem ru_X2_lookupLength_L56 {ι : Type} {P Q : Int32 → MS → Prop} : ∀ (n : Nat) {U56 : MS} {v56_1 : Int32} {v56_2 : Int32} {v56_3 : Int32} {v56_4 : Int32} (i0 : ι), (∀ (i : ι) (ro : Int32) (uo : MS), (∃ n8, v_X2_lookupLength_L56 ro uo n8 U56 v56_1 v56_2 v56_3 v56_4) → P ro uo) → w_X2_lookupLength_L56 Q n U56 v56_1 v56_2 v56_3 v56_4 → w_X2_lookupLength_L56 (fun r u => Q r u ∧ P r u) n U56 v56_1 v56_2 v56_3 v56_4 := by
  intro n
  induction n with
  | zero => intro U56 v56_1 v56_2 v56_3 v56_4 i0 K h; unfold w_X2_lookupLength_L56 at h; exact h.elim
  | succ n ih =>
    intro U56 v56_1 v56_2 v56_3 v56_4 i0 K h
    unfold w_X2_lookupLength_L56 at h ⊢
    replace K := fun (i : ι × Nat) ro uo (z : v_X2_lookupLength_L56 ro uo (i.2 + 1) U56 v56_1 v56_2 v56_3 v56_4) => K i.1 ro uo ⟨i.2 + 1, z⟩
    have i00 := i0
    replace i0 : ι × Nat := (i0, 0)
    intro y1_
    replace h := h y1_
    replace K := fun i ro uo z => K i ro uo ⟨y1_, z⟩
    refine ⟨fun c => ?_, fun c => ?_⟩
    · replace h := h.1 c
      replace K := fun i ro uo z => K i ro uo (Or.inl ⟨c, z⟩)
      exact ⟨h, K i0 _ _ ⟨rfl, rfl⟩⟩
    · replace h := h.2 c
      replace K := fun i ro uo z => K i ro uo (Or.inr ⟨c, z⟩)
      obtain ⟨g2_, h⟩ := h
      refine ⟨g2_, ?_⟩
      replace K := fun i ro uo z => K i ro uo ⟨g2_, z⟩
      obtain ⟨g3_, h⟩ := h
      refine ⟨g3_, ?_⟩
      replace K := fun i ro uo z => K i ro uo ⟨g3_, z⟩
      refine ⟨fun c => ?_, fun c => ?_⟩
      · replace h := h.1 c
        replace K := fun i ro uo z => K i ro uo (Or.inl ⟨c, z⟩)
        intro a35 ea35 
        replace h := h a35 ea35 
        replace K := fun i ro uo z => K i ro uo ⟨a35, ea35, z⟩
        exact ih i00 (fun i ro uo ⟨n8, z⟩ => K (i, n8) ro uo z) h
      · replace h := h.2 c
        replace K := fun i ro uo z => K i ro uo (Or.inr ⟨c, z⟩)
        exact ⟨h, K i0 _ _ ⟨rfl, rfl⟩⟩
set_option maxRecDepth 100000 in
theorem ruX2_lookupLength {S : MS} {x1 : Int32} {Q : Int32 → MS → Prop} (h : wX2_lookupLength S x1 Q) : wX2_lookupLength S x1 (fun r u => Q r u ∧ vX2_lookupLength S x1 r u) := by
  have i0 : Unit := ()
  have K : ∀ (i : Unit) (ro : Int32) (uo : MS), vX2_lookupLength S x1 ro uo → vX2_lookupLength S x1 ro uo := fun _ _ _ z => z
  unfold wX2_lookupLength at h ⊢
  obtain ⟨g4_, h⟩ := h
  refine ⟨g4_, ?_⟩
  replace K := fun i ro uo z => K i ro uo ⟨g4_, z⟩
  intro a4 ea4 
  replace h := h a4 ea4 
  replace K := fun i ro uo z => K i ro uo ⟨a4, ea4, z⟩
  obtain ⟨g5_, h⟩ := h
  refine ⟨g5_, ?_⟩
  replace K := fun i ro uo z => K i ro uo ⟨g5_, z⟩
  intro a9 ea9 
  replace h := h a9 ea9 
  replace K := fun i ro uo z => K i ro uo ⟨a9, ea9, z⟩
  refine ⟨fun c => ?_, fun c => ?_⟩
  · replace h := h.1 c
    replace K := fun i ro uo z => K i ro uo (Or.inl ⟨c, z⟩)
    exact ⟨h, K i0 _ _ ⟨rfl, rfl⟩⟩
  · replace h := h.2 c
    replace K := fun i ro uo z => K i ro uo (Or.inr ⟨c, z⟩)
    refine ⟨fun c => ?_, fun c => ?_⟩
    · replace h := h.1 c
      replace K := fun i ro uo z => K i ro uo (Or.inl ⟨c, z⟩)
      exact ⟨h, K i0 _ _ ⟨rfl, rfl⟩⟩
    · replace h := h.2 c
      replace K := fun i ro uo z => K i ro uo (Or.inr ⟨c, z⟩)
      refine ⟨fun c => ?_, fun c => ?_⟩
      · replace h := h.1 c
        replace K := fun i ro uo z => K i ro uo (Or.inl ⟨c, z⟩)
        exact ⟨h, K i0 _ _ ⟨rfl, rfl⟩⟩
      · replace h := h.2 c
        replace K := fun i ro uo z => K i ro uo (Or.inr ⟨c, z⟩)
        refine ⟨fun c => ?_, fun c => ?_⟩
        · replace h := h.1 c
          replace K := fun i ro uo z => K i ro uo (Or.inl ⟨c, z⟩)
          obtain ⟨n9, h⟩ := h
          exact ⟨n9, ru_X2_lookupLength_L56 n9 i0 K h⟩
        · replace h := h.2 c
          replace K := fun i ro uo z => K i ro uo (Or.inr ⟨c, z⟩)
          exact ⟨h, K i0 _ _ ⟨rfl, rfl⟩⟩
set_option maxRecDepth 100000 in
theorem vw_X2_lookupLength_L56 {ro : Int32} {uo : MS} : ∀ (n : Nat) {U56 : MS} {v56_1 : Int32} {v56_2 : Int32} {v56_3 : Int32} {v56_4 : Int32}, v_X2_lookupLength_L56 ro uo n U56 v56_1 v56_2 v56_3 v56_4 → w_X2_lookupLength_L56 (fun r u => r = ro ∧ u = uo) n U56 v56_1 v56_2 v56_3 v56_4 := by
  intro n
  induction n with
  | zero => intro U56 v56_1 v56_2 v56_3 v56_4 h; unfold v_X2_lookupLength_L56 at h; exact h.elim
  | succ n ih =>
    intro U56 v56_1 v56_2 v56_3 v56_4 h
    unfold v_X2_lookupLength_L56 at h
    unfold w_X2_lookupLength_L56
    intro _
    replace h := h.2
    rcases h with ⟨c, h⟩ | ⟨c, h⟩
    · refine ⟨fun _ => ?_, fun c2 => absurd c c2⟩
      exact ⟨h.1.symm, h.2.symm⟩
    · refine ⟨fun c2 => absurd c2 c, fun _ => ?_⟩
      obtain ⟨g9, h⟩ := h
      refine ⟨g9, ?_⟩
      obtain ⟨g9, h⟩ := h
      refine ⟨g9, ?_⟩
      rcases h with ⟨c, h⟩ | ⟨c, h⟩
      · refine ⟨fun _ => ?_, fun c2 => absurd c c2⟩
        obtain ⟨v9, e9, h⟩ := h
        intro x9 d9 
        have c9 : v9 = x9 := e9.trans d9.symm
        subst c9
        exact ih h
      · refine ⟨fun c2 => absurd c2 c, fun _ => ?_⟩
        exact ⟨h.1.symm, h.2.symm⟩
set_option maxRecDepth 100000 in
theorem vp_X2_lookupLength_L56 {ro : Int32} {uo : MS} {P : Int32 → MS → Prop} : ∀ (n m : Nat) {U56 : MS} {v56_1 : Int32} {v56_2 : Int32} {v56_3 : Int32} {v56_4 : Int32}, v_X2_lookupLength_L56 ro uo n U56 v56_1 v56_2 v56_3 v56_4 → w_X2_lookupLength_L56 P m U56 v56_1 v56_2 v56_3 v56_4 → P ro uo := by
  intro n
  induction n with
  | zero => intro m U56 v56_1 v56_2 v56_3 v56_4 h; unfold v_X2_lookupLength_L56 at h; exact h.elim
  | succ n ih =>
    intro m U56 v56_1 v56_2 v56_3 v56_4 h w
    cases m with
    | zero => unfold w_X2_lookupLength_L56 at w; exact w.elim
    | succ m =>
      unfold v_X2_lookupLength_L56 at h
      unfold w_X2_lookupLength_L56 at w
      obtain ⟨y1_, h⟩ := h
      replace w := w y1_
      rcases h with ⟨c, h⟩ | ⟨c, h⟩
      · replace w := w.1 c
        rw [h.1, h.2]
        exact w
      · replace w := w.2 c
        replace h := h.2
        replace w := w.2
        replace h := h.2
        replace w := w.2
        rcases h with ⟨c, h⟩ | ⟨c, h⟩
        · replace w := w.1 c
          obtain ⟨v9, e9, h⟩ := h
          replace w := w v9 e9 
          exact ih m h w
        · replace w := w.2 c
          rw [h.1, h.2]
          exact w
set_option maxRecDepth 100000 in
theorem vwX2_lookupLength {S : MS} {x1 : Int32} {ro : Int32} {uo : MS} (h : vX2_lookupLength S x1 ro uo) : wX2_lookupLength S x1 (fun r u => r = ro ∧ u = uo) := by
  unfold vX2_lookupLength at h
  unfold wX2_lookupLength
  obtain ⟨g9, h⟩ := h
  refine ⟨g9, ?_⟩
  obtain ⟨v9, e9, h⟩ := h
  intro x9 d9 
  have c9 : v9 = x9 := e9.trans d9.symm
  subst c9
  obtain ⟨g9, h⟩ := h
  refine ⟨g9, ?_⟩
  obtain ⟨v9, e9, h⟩ := h
  intro x9 d9 
  have c9 : v9 = x9 := e9.trans d9.symm
  subst c9
  rcases h with ⟨c, h⟩ | ⟨c, h⟩
  · refine ⟨fun _ => ?_, fun c2 => absurd c c2⟩
    exact ⟨h.1.symm, h.2.symm⟩
  · refine ⟨fun c2 => absurd c2 c, fun _ => ?_⟩
    rcases h with ⟨c, h⟩ | ⟨c, h⟩
    · refine ⟨fun _ => ?_, fun c2 => absurd c c2⟩
      exact ⟨h.1.symm, h.2.symm⟩
    · refine ⟨fun c2 => absurd c2 c, fun _ => ?_⟩
      rcases h with ⟨c, h⟩ | ⟨c, h⟩
      · refine ⟨fun _ => ?_, fun c2 => absurd c c2⟩
        exact ⟨h.1.symm, h.2.symm⟩
      · refine ⟨fun c2 => absurd c2 c, fun _ => ?_⟩
        rcases h with ⟨c, h⟩ | ⟨c, h⟩
        · refine ⟨fun _ => ?_, fun c2 => absurd c c2⟩
          obtain ⟨n9, h⟩ := h
          exact ⟨n9, vw_X2_lookupLength_L56 n9 h⟩
        · refine ⟨fun c2 => absurd c2 c, fun _ => ?_⟩
          exact ⟨h.1.symm, h.2.symm⟩
set_option maxRecDepth 100000 in
theorem vpX2_lookupLength {S : MS} {x1 : Int32} {ro : Int32} {uo : MS} {P : Int32 → MS → Prop} (h : vX2_lookupLength S x1 ro uo) (w : wX2_lookupLength S x1 P) : P ro uo := by
  unfold vX2_lookupLength at h
  unfold wX2_lookupLength at w
  replace h := h.2
  replace w := w.2
  obtain ⟨v9, e9, h⟩ := h
  replace w := w v9 e9 
  replace h := h.2
  replace w := w.2
  obtain ⟨v9, e9, h⟩ := h
  replace w := w v9 e9 
  rcases h with ⟨c, h⟩ | ⟨c, h⟩
  · replace w := w.1 c
    rw [h.1, h.2]
    exact w
  · replace w := w.2 c
    rcases h with ⟨c, h⟩ | ⟨c, h⟩
    · replace w := w.1 c
      rw [h.1, h.2]
      exact w
    · replace w := w.2 c
      rcases h with ⟨c, h⟩ | ⟨c, h⟩
      · replace w := w.1 c
        rw [h.1, h.2]
        exact w
      · replace w := w.2 c
        rcases h with ⟨c, h⟩ | ⟨c, h⟩
        · replace w := w.1 c
          obtain ⟨n9, h⟩ := h
          obtain ⟨n8, w⟩ := w
          exact vp_X2_lookupLength_L56 n9 n8 h w
        · replace w := w.2 c
          rw [h.1, h.2]
          exact w
def v_X2_decodeLocal_J246 (uo : MS) (U246 : MS) (v246_2 : Int32) : Prop := (wfC U246 ∧ ((v246_2.toInt < 75 ∧ (uo = U246)) ∨ (¬ v246_2.toInt < 75 ∧ ((78 < v246_2.toInt ∧ (uo = U246)) ∨ (¬ 78 < v246_2.toInt ∧ (∃ (S15 : MS), vX2_set U246 (58 : Int32) ((v246_2 - (75 : Int32)).toInt64) S15 ∧ wfC S15 ∧ shy U246 S15 ∧ (uo = S15)))))))
def v_X2_decodeLocal_J233 (uo : MS) (U233 : MS) (t233_0 : Int32) (v233_2 : Int32) : Prop := (wfC U233 ∧ (∃ (S22 : MS), vX2_set U233 t233_0 (((v233_2 - (59 : Int32)) &&& (3 : Int32)).toInt64) S22 ∧ wfC S22 ∧ shy U233 S22 ∧ (uo = S22)))
def v_X2_decodeLocal_J207 (uo : MS) (U207 : MS) (v207_2 : Int32) : Prop := (wfC U207 ∧ ((v207_2.toInt < 59 ∧ (v_X2_decodeLocal_J246 uo U207 v207_2)) ∨ (¬ v207_2.toInt < 59 ∧ ((66 < v207_2.toInt ∧ (v_X2_decodeLocal_J246 uo U207 v207_2)) ∨ (¬ 66 < v207_2.toInt ∧ ((63 ≤ v207_2.toInt ∧ (v_X2_decodeLocal_J233 uo U207 55 v207_2)) ∨ (¬ 63 ≤ v207_2.toInt ∧ (v_X2_decodeLocal_J233 uo U207 54 v207_2))))))))
def v_X2_decodeLocal_J181 (uo : MS) (U181 : MS) (v181_2 : Int32) : Prop := (wfC U181 ∧ ((v181_2.toInt < 42 ∧ (v_X2_decodeLocal_J207 uo U181 v181_2)) ∨ (¬ v181_2.toInt < 42 ∧ ((45 < v181_2.toInt ∧ (v_X2_decodeLocal_J207 uo U181 v181_2)) ∨ (¬ 45 < v181_2.toInt ∧ (∃ (S29 : MS), vX2_set U181 (25 : Int32) ((v181_2 - (42 : Int32)).toInt64) S29 ∧ wfC S29 ∧ shy U181 S29 ∧ (uo = S29)))))))
def v_X2_decodeLocal_J168 (uo : MS) (U168 : MS) (t168_0 : Int32) (v168_2 : Int32) : Prop := (wfC U168 ∧ (∃ (S36 : MS), vX2_set U168 t168_0 (((v168_2 - (26 : Int32)) &&& (3 : Int32)).toInt64) S36 ∧ wfC S36 ∧ shy U168 S36 ∧ (uo = S36)))
def v_X2_decodeLocal_J75 (uo : MS) (U75 : MS) (t75_0 : Int64) (t75_1 : Int32) : Prop := (wfC U75 ∧ (∃ (S68 : MS), vX2_set U75 t75_1 t75_0 S68 ∧ wfC S68 ∧ shy U75 S68 ∧ (uo = S68)))
def vX2_decodeLocal (S : MS) (x1 : Int32) (uo : MS) : Prop := (d_X2_u1 S x1 ∧ (∃ a4 : Int32, a4 = (fX2_u1 S x1) ∧ ((a4.toInt = 196 ∧ (d_X2_u2 S (x1 + (2 : Int32)) ∧ (∃ a62 : Int32, a62 = (fX2_u2 S (x1 + (2 : Int32))) ∧ (d_X2_u1 S (x1 + (1 : Int32)) ∧ ((a62.toInt ≤ 255 ∧ (d_X2_u1 S (x1 + (1 : Int32)) ∧ (((fX2_u1 S (x1 + (1 : Int32))).toInt = 132 ∧ (d_X2_u2 S (x1 + (4 : Int32)) ∧ (v_X2_decodeLocal_J75 uo S (((((fX2_u2 S (x1 + (4 : Int32))).toInt16.toInt32).toInt64) <<< ((8 : Int32).toInt64 &&& 63)) ||| (a62.toInt64)) (fX2_u1 S (x1 + (1 : Int32)))))) ∨ (¬ (fX2_u1 S (x1 + (1 : Int32))).toInt = 132 ∧ (v_X2_decodeLocal_J75 uo S (a62.toInt64) (fX2_u1 S (x1 + (1 : Int32)))))))) ∨ (¬ a62.toInt ≤ 255 ∧ (v_X2_decodeLocal_J75 uo S (255 : Int64) (fX2_u1 S (x1 + (1 : Int32)))))))))) ∨ (¬ a4.toInt = 196 ∧ ((a4.toInt = 132 ∧ (d_X2_u1 S (x1 + (2 : Int32)) ∧ (d_X2_u1 S (x1 + (1 : Int32)) ∧ (∃ (S56 : MS), vX2_set S (132 : Int32) (((((fX2_u1 S (x1 + (2 : Int32))).toInt8.toInt32).toInt64) <<< ((8 : Int32).toInt64 &&& 63)) ||| ((fX2_u1 S (x1 + (1 : Int32))).toInt64)) S56 ∧ wfC S56 ∧ shy S S56 ∧ (uo = S56))))) ∨ (¬ a4.toInt = 132 ∧ (d_X6_usesLocal S a4 ∧ (((fX6_usesLocal S a4).toInt = 0 ∧ ((a4.toInt < 26 ∧ (v_X2_decodeLocal_J181 uo S a4)) ∨ (¬ a4.toInt < 26 ∧ ((33 < a4.toInt ∧ (v_X2_decodeLocal_J181 uo S a4)) ∨ (¬ 33 < a4.toInt ∧ ((30 ≤ a4.toInt ∧ (v_X2_decodeLocal_J168 uo S 22 a4)) ∨ (¬ 30 ≤ a4.toInt ∧ (v_X2_decodeLocal_J168 uo S 21 a4)))))))) ∨ (¬ (fX6_usesLocal S a4).toInt = 0 ∧ (d_X2_u1 S (x1 + (1 : Int32)) ∧ (∃ (S44 : MS), vX2_set S a4 ((fX2_u1 S (x1 + (1 : Int32))).toInt64) S44 ∧ wfC S44 ∧ shy S S44 ∧ (uo = S44))))))))))))
set_option maxRecDepth 100000 in
theorem ru_X2_decodeLocal_J246 {ι : Type} {P Q : MS → Prop} {U246 : MS} {v246_2 : Int32} (i0 : ι) (K : ∀ (i : ι) (uo : MS), v_X2_decodeLocal_J246 uo U246 v246_2 → P uo) (h : w_X2_decodeLocal_J246 Q U246 v246_2) : w_X2_decodeLocal_J246 (fun u => Q u ∧ P u) U246 v246_2 := by
  unfold w_X2_decodeLocal_J246 at h ⊢
  intro y1_
  replace h := h y1_
  replace K := fun i uo z => K i uo ⟨y1_, z⟩
  refine ⟨fun c => ?_, fun c => ?_⟩
  · replace h := h.1 c
    replace K := fun i uo z => K i uo (Or.inl ⟨c, z⟩)
    exact ⟨h, K i0 _ rfl⟩
  · replace h := h.2 c
    replace K := fun i uo z => K i uo (Or.inr ⟨c, z⟩)
    refine ⟨fun c => ?_, fun c => ?_⟩
    · replace h := h.1 c
      replace K := fun i uo z => K i uo (Or.inl ⟨c, z⟩)
      exact ⟨h, K i0 _ rfl⟩
    · replace h := h.2 c
      replace K := fun i uo z => K i uo (Or.inr ⟨c, z⟩)
      obtain ⟨Q9, h0, h⟩ := h
      refine ⟨_, ruX2_set h0, ?_⟩
      intro S15 q2_ y3_ y4_
      replace h := h S15 q2_.1 y3_ y4_
      replace K := fun i uo z => K i uo ⟨S15, q2_.2, y3_, y4_, z⟩
      exact ⟨h, K i0 _ rfl⟩
set_option maxRecDepth 100000 in
theorem ru_X2_decodeLocal_J233 {ι : Type} {P Q : MS → Prop} {U233 : MS} {t233_0 : Int32} {v233_2 : Int32} (i0 : ι) (K : ∀ (i : ι) (uo : MS), v_X2_decodeLocal_J233 uo U233 t233_0 v233_2 → P uo) (h : w_X2_decodeLocal_J233 Q U233 t233_0 v233_2) : w_X2_decodeLocal_J233 (fun u => Q u ∧ P u) U233 t233_0 v233_2 := by
  unfold w_X2_decodeLocal_J233 at h ⊢
  intro y5_
  replace h := h y5_
  replace K := fun i uo z => K i uo ⟨y5_, z⟩
  obtain ⟨Q9, h0, h⟩ := h
  refine ⟨_, ruX2_set h0, ?_⟩
  intro S22 q6_ y7_ y8_
  replace h := h S22 q6_.1 y7_ y8_
  replace K := fun i uo z => K i uo ⟨S22, q6_.2, y7_, y8_, z⟩
  exact ⟨h, K i0 _ rfl⟩
set_option maxRecDepth 100000 in
theorem ru_X2_decodeLocal_J207 {ι : Type} {P Q : MS → Prop} {U207 : MS} {v207_2 : Int32} (i0 : ι) (K : ∀ (i : ι) (uo : MS), v_X2_decodeLocal_J207 uo U207 v207_2 → P uo) (h : w_X2_decodeLocal_J207 Q U207 v207_2) : w_X2_decodeLocal_J207 (fun u => Q u ∧ P u) U207 v207_2 := by
  unfold w_X2_decodeLocal_J207 at h ⊢
  intro y9_
  replace h := h y9_
  replace K := fun i uo z => K i uo ⟨y9_, z⟩
  refine ⟨fun c => ?_, fun c => ?_⟩
  · replace h := h.1 c
    replace K := fun i uo z => K i uo (Or.inl ⟨c, z⟩)
    exact ru_X2_decodeLocal_J246 i0 K h
  · replace h := h.2 c
    replace K := fun i uo z => K i uo (Or.inr ⟨c, z⟩)
    refine ⟨fun c => ?_, fun c => ?_⟩
    · replace h := h.1 c
      replace K := fun i uo z => K i uo (Or.inl ⟨c, z⟩)
      exact ru_X2_decodeLocal_J246 i0 K h
    · replace h := h.2 c
      replace K := fun i uo z => K i uo (Or.inr ⟨c, z⟩)
      refine ⟨fun c => ?_, fun c => ?_⟩
      · replace h := h.1 c
        replace K := fun i uo z => K i uo (Or.inl ⟨c, z⟩)
        exact ru_X2_decodeLocal_J233 i0 K h
      · replace h := h.2 c
        replace K := fun i uo z => K i uo (Or.inr ⟨c, z⟩)
        exact ru_X2_decodeLocal_J233 i0 K h
set_option maxRecDepth 100000 in
theorem ru_X2_decodeLocal_J181 {ι : Type} {P Q : MS → Prop} {U181 : MS} {v181_2 : Int32} (i0 : ι) (K : ∀ (i : ι) (uo : MS), v_X2_decodeLocal_J181 uo U181 v181_2 → P uo) (h : w_X2_decodeLocal_J181 Q U181 v181_2) : w_X2_decodeLocal_J181 (fun u => Q u ∧ P u) U181 v181_2 := by
  unfold w_X2_decodeLocal_J181 at h ⊢
  intro y10_
  replace h := h y10_
  replace K := fun i uo z => K i uo ⟨y10_, z⟩
  refine ⟨fun c => ?_, fun c => ?_⟩
  · replace h := h.1 c
    replace K := fun i uo z => K i uo (Or.inl ⟨c, z⟩)
    exact ru_X2_decodeLocal_J207 i0 K h
  · replace h := h.2 c
    replace K := fun i uo z => K i uo (Or.inr ⟨c, z⟩)
    refine ⟨fun c => ?_, fun c => ?_⟩
    · replace h := h.1 c
      replace K := fun i uo z => K i uo (Or.inl ⟨c, z⟩)
      exact ru_X2_decodeLocal_J207 i0 K h
    · replace h := h.2 c
      replace K := fun i uo z => K i uo (Or.inr ⟨c, z⟩)
      obtain ⟨Q9, h0, h⟩ := h
      refine ⟨_, ruX2_set h0, ?_⟩
      intro S29 q11_ y12_ y13_
      replace h := h S29 q11_.1 y12_ y13_
      replace K := fun i uo z => K i uo ⟨S29, q11_.2, y12_, y13_, z⟩
      exact ⟨h, K i0 _ rfl⟩
set_option maxRecDepth 100000 in
theorem ru_X2_decodeLocal_J168 {ι : Type} {P Q : MS → Prop} {U168 : MS} {t168_0 : Int32} {v168_2 : Int32} (i0 : ι) (K : ∀ (i : ι) (uo : MS), v_X2_decodeLocal_J168 uo U168 t168_0 v168_2 → P uo) (h : w_X2_decodeLocal_J168 Q U168 t168_0 v168_2) : w_X2_decodeLocal_J168 (fun u => Q u ∧ P u) U168 t168_0 v168_2 := by
  unfold w_X2_decodeLocal_J168 at h ⊢
  intro y14_
  replace h := h y14_
  replace K := fun i uo z => K i uo ⟨y14_, z⟩
  obtain ⟨Q9, h0, h⟩ := h
  refine ⟨_, ruX2_set h0, ?_⟩
  intro S36 q15_ y16_ y17_
  replace h := h S36 q15_.1 y16_ y17_
  replace K := fun i uo z => K i uo ⟨S36, q15_.2, y16_, y17_, z⟩
  exact ⟨h, K i0 _ rfl⟩
set_option maxRecDepth 100000 in
theorem ru_X2_decodeLocal_J75 {ι : Type} {P Q : MS → Prop} {U75 : MS} {t75_0 : Int64} {t75_1 : Int32} (i0 : ι) (K : ∀ (i : ι) (uo : MS), v_X2_decodeLocal_J75 uo U75 t75_0 t75_1 → P uo) (h : w_X2_decodeLocal_J75 Q U75 t75_0 t75_1) : w_X2_decodeLocal_J75 (fun u => Q u ∧ P u) U75 t75_0 t75_1 := by
  unfold w_X2_decodeLocal_J75 at h ⊢
  intro y18_
  replace h := h y18_
  replace K := fun i uo z => K i uo ⟨y18_, z⟩
  obtain ⟨Q9, h0, h⟩ := h
  refine ⟨_, ruX2_set h0, ?_⟩
  intro S68 q19_ y20_ y21_
  replace h := h S68 q19_.1 y20_ y21_
  replace K := fun i uo z => K i uo ⟨S68, q19_.2, y20_, y21_, z⟩
  exact ⟨h, K i0 _ rfl⟩
set_option maxRecDepth 100000 in
theorem ruX2_decodeLocal {S : MS} {x1 : Int32} {Q : MS → Prop} (h : wX2_decodeLocal S x1 Q) : wX2_decodeLocal S x1 (fun u => Q u ∧ vX2_decodeLocal S x1 u) := by
  have i0 : Unit := ()
  have K : ∀ (i : Unit) (uo : MS), vX2_decodeLocal S x1 uo → vX2_decodeLocal S x1 uo := fun _ _ z => z
  unfold wX2_decodeLocal at h ⊢
  obtain ⟨g22_, h⟩ := h
  refine ⟨g22_, ?_⟩
  replace K := fun i uo z => K i uo ⟨g22_, z⟩
  intro a4 ea4 
  replace h := h a4 ea4 
  replace K := fun i uo z => K i uo ⟨a4, ea4, z⟩
  refine ⟨fun c => ?_, fun c => ?_⟩
  · replace h := h.1 c
    replace K := fun i uo z => K i uo (Or.inl ⟨c, z⟩)
    obtain ⟨g23_, h⟩ := h
    refine ⟨g23_, ?_⟩
    replace K := fun i uo z => K i uo ⟨g23_, z⟩
    intro a62 ea62 
    replace h := h a62 ea62 
    replace K := fun i uo z => K i uo ⟨a62, ea62, z⟩
    obtain ⟨g24_, h⟩ := h
    refine ⟨g24_, ?_⟩
    replace K := fun i uo z => K i uo ⟨g24_, z⟩
    refine ⟨fun c => ?_, fun c => ?_⟩
    · replace h := h.1 c
      replace K := fun i uo z => K i uo (Or.inl ⟨c, z⟩)
      obtain ⟨g25_, h⟩ := h
      refine ⟨g25_, ?_⟩
      replace K := fun i uo z => K i uo ⟨g25_, z⟩
      refine ⟨fun c => ?_, fun c => ?_⟩
      · replace h := h.1 c
        replace K := fun i uo z => K i uo (Or.inl ⟨c, z⟩)
        obtain ⟨g26_, h⟩ := h
        refine ⟨g26_, ?_⟩
        replace K := fun i uo z => K i uo ⟨g26_, z⟩
        exact ru_X2_decodeLocal_J75 i0 K h
      · replace h := h.2 c
        replace K := fun i uo z => K i uo (Or.inr ⟨c, z⟩)
        exact ru_X2_decodeLocal_J75 i0 K h
    · replace h := h.2 c
      replace K := fun i uo z => K i uo (Or.inr ⟨c, z⟩)
      exact ru_X2_decodeLocal_J75 i0 K h
  · replace h := h.2 c
    replace K := fun i uo z => K i uo (Or.inr ⟨c, z⟩)
    refine ⟨fun c => ?_, fun c => ?_⟩
    · replace h := h.1 c
      replace K := fun i uo z => K i uo (Or.inl ⟨c, z⟩)
      obtain ⟨g27_, h⟩ := h
      refine ⟨g27_, ?_⟩
      replace K := fun i uo z => K i uo ⟨g27_, z⟩
      obtain ⟨g28_, h⟩ := h
      refine ⟨g28_, ?_⟩
      replace K := fun i uo z => K i uo ⟨g28_, z⟩
      obtain ⟨Q9, h0, h⟩ := h
      refine ⟨_, ruX2_set h0, ?_⟩
      intro S56 q29_ y30_ y31_
      replace h := h S56 q29_.1 y30_ y31_
      replace K := fun i uo z => K i uo ⟨S56, q29_.2, y30_, y31_, z⟩
      exact ⟨h, K i0 _ rfl⟩
    · replace h := h.2 c
      replace K := fun i uo z => K i uo (Or.inr ⟨c, z⟩)
      obtain ⟨g32_, h⟩ := h
      refine ⟨g32_, ?_⟩
      replace K := fun i uo z => K i uo ⟨g32_, z⟩
      refine ⟨fun c => ?_, fun c => ?_⟩
      · replace h := h.1 c
        replace K := fun i uo z => K i uo (Or.inl ⟨c, z⟩)
        refine ⟨fun c => ?_, fun c => ?_⟩
        · replace h := h.1 c
          replace K := fun i uo z => K i uo (Or.inl ⟨c, z⟩)
          exact ru_X2_decodeLocal_J181 i0 K h
        · replace h := h.2 c
          replace K := fun i uo z => K i uo (Or.inr ⟨c, z⟩)
          refine ⟨fun c => ?_, fun c => ?_⟩
          · replace h := h.1 c
            replace K := fun i uo z => K i uo (Or.inl ⟨c, z⟩)
            exact ru_X2_decodeLocal_J181 i0 K h
          · replace h := h.2 c
            replace K := fun i uo z => K i uo (Or.inr ⟨c, z⟩)
            refine ⟨fun c => ?_, fun c => ?_⟩
            · replace h := h.1 c
              replace K := fun i uo z => K i uo (Or.inl ⟨c, z⟩)
              exact ru_X2_decodeLocal_J168 i0 K h
            · replace h := h.2 c
              replace K := fun i uo z => K i uo (Or.inr ⟨c, z⟩)
              exact ru_X2_decodeLocal_J168 i0 K h
      · replace h := h.2 c
        replace K := fun i uo z => K i uo (Or.inr ⟨c, z⟩)
        obtain ⟨g33_, h⟩ := h
        refine ⟨g33_, ?_⟩
        replace K := fun i uo z => K i uo ⟨g33_, z⟩
        obtain ⟨Q9, h0, h⟩ := h
        refine ⟨_, ruX2_set h0, ?_⟩
        intro S44 q34_ y35_ y36_
        replace h := h S44 q34_.1 y35_ y36_
        replace K := fun i uo z => K i uo ⟨S44, q34_.2, y35_, y36_, z⟩
        exact ⟨h, K i0 _ rfl⟩
set_option maxRecDepth 100000 in
theorem vw_X2_decodeLocal_J246 {uo : MS} {U246 : MS} {v246_2 : Int32} (h : v_X2_decodeLocal_J246 uo U246 v246_2) : w_X2_decodeLocal_J246 (fun u => u = uo) U246 v246_2 := by
  unfold v_X2_decodeLocal_J246 at h
  unfold w_X2_decodeLocal_J246
  intro _
  replace h := h.2
  rcases h with ⟨c, h⟩ | ⟨c, h⟩
  · refine ⟨fun _ => ?_, fun c2 => absurd c c2⟩
    exact h.symm
  · refine ⟨fun c2 => absurd c2 c, fun _ => ?_⟩
    rcases h with ⟨c, h⟩ | ⟨c, h⟩
    · refine ⟨fun _ => ?_, fun c2 => absurd c c2⟩
      exact h.symm
    · refine ⟨fun c2 => absurd c2 c, fun _ => ?_⟩
      obtain ⟨q9, z9, h⟩ := h
      refine ⟨_, vwX2_set z9, ?_⟩
      intro q8 d9 _ _
      subst d9
      replace h := h.2.2
      exact h.symm
set_option maxRecDepth 100000 in
theorem vp_X2_decodeLocal_J246 {uo : MS} {P : MS → Prop} {U246 : MS} {v246_2 : Int32} (h : v_X2_decodeLocal_J246 uo U246 v246_2) (w : w_X2_decodeLocal_J246 P U246 v246_2) : P uo := by
  unfold v_X2_decodeLocal_J246 at h
  unfold w_X2_decodeLocal_J246 at w
  obtain ⟨y1_, h⟩ := h
  replace w := w y1_
  rcases h with ⟨c, h⟩ | ⟨c, h⟩
  · replace w := w.1 c
    rw [h]
    exact w
  · replace w := w.2 c
    rcases h with ⟨c, h⟩ | ⟨c, h⟩
    · replace w := w.1 c
      rw [h]
      exact w
    · replace w := w.2 c
      obtain ⟨q9, z9, y2_, y3_, h⟩ := h
      obtain ⟨Q9, w0, w⟩ := w
      replace w := w q9 (vpX2_set z9 w0) y2_ y3_
      rw [h]
      exact w
set_option maxRecDepth 100000 in
theorem vw_X2_decodeLocal_J233 {uo : MS} {U233 : MS} {t233_0 : Int32} {v233_2 : Int32} (h : v_X2_decodeLocal_J233 uo U233 t233_0 v233_2) : w_X2_decodeLocal_J233 (fun u => u = uo) U233 t233_0 v233_2 := by
  unfold v_X2_decodeLocal_J233 at h
  unfold w_X2_decodeLocal_J233
  intro _
  replace h := h.2
  obtain ⟨q9, z9, h⟩ := h
  refine ⟨_, vwX2_set z9, ?_⟩
  intro q8 d9 _ _
  subst d9
  replace h := h.2.2
  exact h.symm
set_option maxRecDepth 100000 in
theorem vp_X2_decodeLocal_J233 {uo : MS} {P : MS → Prop} {U233 : MS} {t233_0 : Int32} {v233_2 : Int32} (h : v_X2_decodeLocal_J233 uo U233 t233_0 v233_2) (w : w_X2_decodeLocal_J233 P U233 t233_0 v233_2) : P uo := by
  unfold v_X2_decodeLocal_J233 at h
  unfold w_X2_decodeLocal_J233 at w
  obtain ⟨y4_, h⟩ := h
  replace w := w y4_
  obtain ⟨q9, z9, y5_, y6_, h⟩ := h
  obtain ⟨Q9, w0, w⟩ := w
  replace w := w q9 (vpX2_set z9 w0) y5_ y6_
  rw [h]
  exact w
set_option maxRecDepth 100000 in
theorem vw_X2_decodeLocal_J207 {uo : MS} {U207 : MS} {v207_2 : Int32} (h : v_X2_decodeLocal_J207 uo U207 v207_2) : w_X2_decodeLocal_J207 (fun u => u = uo) U207 v207_2 := by
  unfold v_X2_decodeLocal_J207 at h
  unfold w_X2_decodeLocal_J207
  intro _
  replace h := h.2
  rcases h with ⟨c, h⟩ | ⟨c, h⟩
  · refine ⟨fun _ => ?_, fun c2 => absurd c c2⟩
    exact vw_X2_decodeLocal_J246 h
  · refine ⟨fun c2 => absurd c2 c, fun _ => ?_⟩
    rcases h with ⟨c, h⟩ | ⟨c, h⟩
    · refine ⟨fun _ => ?_, fun c2 => absurd c c2⟩
      exact vw_X2_decodeLocal_J246 h
    · refine ⟨fun c2 => absurd c2 c, fun _ => ?_⟩
      rcases h with ⟨c, h⟩ | ⟨c, h⟩
      · refine ⟨fun _ => ?_, fun c2 => absurd c c2⟩
        exact vw_X2_decodeLocal_J233 h
      · refine ⟨fun c2 => absurd c2 c, fun _ => ?_⟩
        exact vw_X2_decodeLocal_J233 h
set_option maxRecDepth 100000 in
theorem vp_X2_decodeLocal_J207 {uo : MS} {P : MS → Prop} {U207 : MS} {v207_2 : Int32} (h : v_X2_decodeLocal_J207 uo U207 v207_2) (w : w_X2_decodeLocal_J207 P U207 v207_2) : P uo := by
  unfold v_X2_decodeLocal_J207 at h
  unfold w_X2_decodeLocal_J207 at w
  obtain ⟨y7_, h⟩ := h
  replace w := w y7_
  rcases h with ⟨c, h⟩ | ⟨c, h⟩
  · replace w := w.1 c
    exact vp_X2_decodeLocal_J246 h w
  · replace w := w.2 c
    rcases h with ⟨c, h⟩ | ⟨c, h⟩
    · replace w := w.1 c
      exact vp_X2_decodeLocal_J246 h w
    · replace w := w.2 c
      rcases h with ⟨c, h⟩ | ⟨c, h⟩
      · replace w := w.1 c
        exact vp_X2_decodeLocal_J233 h w
      · replace w := w.2 c
        exact vp_X2_decodeLocal_J233 h w
set_option maxRecDepth 100000 in
theorem vw_X2_decodeLocal_J181 {uo : MS} {U181 : MS} {v181_2 : Int32} (h : v_X2_decodeLocal_J181 uo U181 v181_2) : w_X2_decodeLocal_J181 (fun u => u = uo) U181 v181_2 := by
  unfold v_X2_decodeLocal_J181 at h
  unfold w_X2_decodeLocal_J181
  intro _
  replace h := h.2
  rcases h with ⟨c, h⟩ | ⟨c, h⟩
  · refine ⟨fun _ => ?_, fun c2 => absurd c c2⟩
    exact vw_X2_decodeLocal_J207 h
  · refine ⟨fun c2 => absurd c2 c, fun _ => ?_⟩
    rcases h with ⟨c, h⟩ | ⟨c, h⟩
    · refine ⟨fun _ => ?_, fun c2 => absurd c c2⟩
      exact vw_X2_decodeLocal_J207 h
    · refine ⟨fun c2 => absurd c2 c, fun _ => ?_⟩
      obtain ⟨q9, z9, h⟩ := h
      refine ⟨_, vwX2_set z9, ?_⟩
      intro q8 d9 _ _
      subst d9
      replace h := h.2.2
      exact h.symm
set_option maxRecDepth 100000 in
theorem vp_X2_decodeLocal_J181 {uo : MS} {P : MS → Prop} {U181 : MS} {v181_2 : Int32} (h : v_X2_decodeLocal_J181 uo U181 v181_2) (w : w_X2_decodeLocal_J181 P U181 v181_2) : P uo := by
  unfold v_X2_decodeLocal_J181 at h
  unfold w_X2_decodeLocal_J181 at w
  obtain ⟨y8_, h⟩ := h
  replace w := w y8_
  rcases h with ⟨c, h⟩ | ⟨c, h⟩
  · replace w := w.1 c
    exact vp_X2_decodeLocal_J207 h w
  · replace w := w.2 c
    rcases h with ⟨c, h⟩ | ⟨c, h⟩
    · replace w := w.1 c
      exact vp_X2_decodeLocal_J207 h w
    · replace w := w.2 c
      obtain ⟨q9, z9, y9_, y10_, h⟩ := h
      obtain ⟨Q9, w0, w⟩ := w
      replace w := w q9 (vpX2_set z9 w0) y9_ y10_
      rw [h]
      exact w
set_option maxRecDepth 100000 in
theorem vw_X2_decodeLocal_J168 {uo : MS} {U168 : MS} {t168_0 : Int32} {v168_2 : Int32} (h : v_X2_decodeLocal_J168 uo U168 t168_0 v168_2) : w_X2_decodeLocal_J168 (fun u => u = uo) U168 t168_0 v168_2 := by
  unfold v_X2_decodeLocal_J168 at h
  unfold w_X2_decodeLocal_J168
  intro _
  replace h := h.2
  obtain ⟨q9, z9, h⟩ := h
  refine ⟨_, vwX2_set z9, ?_⟩
  intro q8 d9 _ _
  subst d9
  replace h := h.2.2
  exact h.symm
set_option maxRecDepth 100000 in
theorem vp_X2_decodeLocal_J168 {uo : MS} {P : MS → Prop} {U168 : MS} {t168_0 : Int32} {v168_2 : Int32} (h : v_X2_decodeLocal_J168 uo U168 t168_0 v168_2) (w : w_X2_decodeLocal_J168 P U168 t168_0 v168_2) : P uo := by
  unfold v_X2_decodeLocal_J168 at h
  unfold w_X2_decodeLocal_J168 at w
  obtain ⟨y11_, h⟩ := h
  replace w := w y11_
  obtain ⟨q9, z9, y12_, y13_, h⟩ := h
  obtain ⟨Q9, w0, w⟩ := w
  replace w := w q9 (vpX2_set z9 w0) y12_ y13_
  rw [h]
  exact w
set_option maxRecDepth 100000 in
theorem vw_X2_decodeLocal_J75 {uo : MS} {U75 : MS} {t75_0 : Int64} {t75_1 : Int32} (h : v_X2_decodeLocal_J75 uo U75 t75_0 t75_1) : w_X2_decodeLocal_J75 (fun u => u = uo) U75 t75_0 t75_1 := by
  unfold v_X2_decodeLocal_J75 at h
  unfold w_X2_decodeLocal_J75
  intro _
  replace h := h.2
  obtain ⟨q9, z9, h⟩ := h
  refine ⟨_, vwX2_set z9, ?_⟩
  intro q8 d9 _ _
  subst d9
  replace h := h.2.2
  exact h.symm
set_option maxRecDepth 100000 in
theorem vp_X2_decodeLocal_J75 {uo : MS} {P : MS → Prop} {U75 : MS} {t75_0 : Int64} {t75_1 : Int32} (h : v_X2_decodeLocal_J75 uo U75 t75_0 t75_1) (w : w_X2_decodeLocal_J75 P U75 t75_0 t75_1) : P uo := by
  unfold v_X2_decodeLocal_J75 at h
  unfold w_X2_decodeLocal_J75 at w
  obtain ⟨y14_, h⟩ := h
  replace w := w y14_
  obtain ⟨q9, z9, y15_, y16_, h⟩ := h
  obtain ⟨Q9, w0, w⟩ := w
  replace w := w q9 (vpX2_set z9 w0) y15_ y16_
  rw [h]
  exact w
set_option maxRecDepth 100000 in
theorem vwX2_decodeLocal {S : MS} {x1 : Int32} {uo : MS} (h : vX2_decodeLocal S x1 uo) : wX2_decodeLocal S x1 (fun u => u = uo) := by
  unfold vX2_decodeLocal at h
  unfold wX2_decodeLocal
  obtain ⟨g9, h⟩ := h
  refine ⟨g9, ?_⟩
  obtain ⟨v9, e9, h⟩ := h
  intro x9 d9 
  have c9 : v9 = x9 := e9.trans d9.symm
  subst c9
  rcases h with ⟨c, h⟩ | ⟨c, h⟩
  · refine ⟨fun _ => ?_, fun c2 => absurd c c2⟩
    obtain ⟨g9, h⟩ := h
    refine ⟨g9, ?_⟩
    obtain ⟨v9, e9, h⟩ := h
    intro x9 d9 
    have c9 : v9 = x9 := e9.trans d9.symm
    subst c9
    obtain ⟨g9, h⟩ := h
    refine ⟨g9, ?_⟩
    rcases h with ⟨c, h⟩ | ⟨c, h⟩
    · refine ⟨fun _ => ?_, fun c2 => absurd c c2⟩
      obtain ⟨g9, h⟩ := h
      refine ⟨g9, ?_⟩
      rcases h with ⟨c, h⟩ | ⟨c, h⟩
      · refine ⟨fun _ => ?_, fun c2 => absurd c c2⟩
        obtain ⟨g9, h⟩ := h
        refine ⟨g9, ?_⟩
        exact vw_X2_decodeLocal_J75 h
      · refine ⟨fun c2 => absurd c2 c, fun _ => ?_⟩
        exact vw_X2_decodeLocal_J75 h
    · refine ⟨fun c2 => absurd c2 c, fun _ => ?_⟩
      exact vw_X2_decodeLocal_J75 h
  · refine ⟨fun c2 => absurd c2 c, fun _ => ?_⟩
    rcases h with ⟨c, h⟩ | ⟨c, h⟩
    · refine ⟨fun _ => ?_, fun c2 => absurd c c2⟩
      obtain ⟨g9, h⟩ := h
      refine ⟨g9, ?_⟩
      obtain ⟨g9, h⟩ := h
      refine ⟨g9, ?_⟩
      obtain ⟨q9, z9, h⟩ := h
      refine ⟨_, vwX2_set z9, ?_⟩
      intro q8 d9 _ _
      subst d9
      replace h := h.2.2
      exact h.symm
    · refine ⟨fun c2 => absurd c2 c, fun _ => ?_⟩
      obtain ⟨g9, h⟩ := h
      refine ⟨g9, ?_⟩
      rcases h with ⟨c, h⟩ | ⟨c, h⟩
      · refine ⟨fun _ => ?_, fun c2 => absurd c c2⟩
        rcases h with ⟨c, h⟩ | ⟨c, h⟩
        · refine ⟨fun _ => ?_, fun c2 => absurd c c2⟩
          exact vw_X2_decodeLocal_J181 h
        · refine ⟨fun c2 => absurd c2 c, fun _ => ?_⟩
          rcases h with ⟨c, h⟩ | ⟨c, h⟩
          · refine ⟨fun _ => ?_, fun c2 => absurd c c2⟩
            exact vw_X2_decodeLocal_J181 h
          · refine ⟨fun c2 => absurd c2 c, fun _ => ?_⟩
            rcases h with ⟨c, h⟩ | ⟨c, h⟩
            · refine ⟨fun _ => ?_, fun c2 => absurd c c2⟩
              exact vw_X2_decodeLocal_J168 h
            · refine ⟨fun c2 => absurd c2 c, fun _ => ?_⟩
              exact vw_X2_decodeLocal_J168 h
      · refine ⟨fun c2 => absurd c2 c, fun _ => ?_⟩
        obtain ⟨g9, h⟩ := h
        refine ⟨g9, ?_⟩
        obtain ⟨q9, z9, h⟩ := h
        refine ⟨_, vwX2_set z9, ?_⟩
        intro q8 d9 _ _
        subst d9
        replace h := h.2.2
        exact h.symm
set_option maxRecDepth 100000 in
theorem vpX2_decodeLocal {S : MS} {x1 : Int32} {uo : MS} {P : MS → Prop} (h : vX2_decodeLocal S x1 uo) (w : wX2_decodeLocal S x1 P) : P uo := by
  unfold vX2_decodeLocal at h
  unfold wX2_decodeLocal at w
  replace h := h.2
  replace w := w.2
  obtain ⟨v9, e9, h⟩ := h
  replace w := w v9 e9 
  rcases h with ⟨c, h⟩ | ⟨c, h⟩
  · replace w := w.1 c
    replace h := h.2
    replace w := w.2
    obtain ⟨v9, e9, h⟩ := h
    replace w := w v9 e9 
    replace h := h.2
    replace w := w.2
    rcases h with ⟨c, h⟩ | ⟨c, h⟩
    · replace w := w.1 c
      replace h := h.2
      replace w := w.2
      rcases h with ⟨c, h⟩ | ⟨c, h⟩
      · replace w := w.1 c
        replace h := h.2
        replace w := w.2
        exact vp_X2_decodeLocal_J75 h w
      · replace w := w.2 c
        exact vp_X2_decodeLocal_J75 h w
    · replace w := w.2 c
      exact vp_X2_decodeLocal_J75 h w
  · replace w := w.2 c
    rcases h with ⟨c, h⟩ | ⟨c, h⟩
    · replace w := w.1 c
      replace h := h.2
      replace w := w.2
      replace h := h.2
      replace w := w.2
      obtain ⟨q9, z9, y17_, y18_, h⟩ := h
      obtain ⟨Q9, w0, w⟩ := w
      replace w := w q9 (vpX2_set z9 w0) y17_ y18_
      rw [h]
      exact w
    · replace w := w.2 c
      replace h := h.2
      replace w := w.2
      rcases h with ⟨c, h⟩ | ⟨c, h⟩
      · replace w := w.1 c
        rcases h with ⟨c, h⟩ | ⟨c, h⟩
        · replace w := w.1 c
          exact vp_X2_decodeLocal_J181 h w
        · replace w := w.2 c
          rcases h with ⟨c, h⟩ | ⟨c, h⟩
          · replace w := w.1 c
            exact vp_X2_decodeLocal_J181 h w
          · replace w := w.2 c
            rcases h with ⟨c, h⟩ | ⟨c, h⟩
            · replace w := w.1 c
              exact vp_X2_decodeLocal_J168 h w
            · replace w := w.2 c
              exact vp_X2_decodeLocal_J168 h w
      · replace w := w.2 c
        replace h := h.2
        replace w := w.2
        obtain ⟨q9, z9, y19_, y20_, h⟩ := h
        obtain ⟨Q9, w0, w⟩ := w
        replace w := w q9 (vpX2_set z9 w0) y19_ y20_
        rw [h]
        exact w
def v_X2_targetsHold_L14 (ro : Int32) (uo : MS) : Nat → MS → Int32 → Int32 → Int32 → Prop
  | 0, _, _, _, _ => False
  | n14 + 1, U14, v14_1, v14_2, v14_3 => (wfC U14 ∧ ((v14_2.toInt ≤ v14_3.toInt ∧ (ro = (1 : Int32) ∧ uo = U14)) ∨ (¬ v14_2.toInt ≤ v14_3.toInt ∧ (d_X2_switchTarget U14 v14_1 v14_3 ∧ (∃ a10 : Int64, a10 = (fX2_switchTarget U14 v14_1 v14_3) ∧ (d_X2_isInstruction U14 a10 ∧ (∃ a14 : Int32, a14 = (fX2_isInstruction U14 a10) ∧ ((a14.toInt = 0 ∧ (ro = (0 : Int32) ∧ uo = U14)) ∨ (¬ a14.toInt = 0 ∧ (∃ a16 : Int32, a16 = (v14_3 + Int32.ofInt 1) ∧ ((v_X2_targetsHold_L14 ro uo n14) U14 v14_1 v14_2 a16)))))))))))
def vX2_targetsHold (S : MS) (ro : Int32) (uo : MS) : Prop := (∃ a1 : Int32, a1 = ((qJ S 8 10).toInt32) ∧ (d_X2_switchCount S a1 ∧ (∃ a5 : Int32, a5 = (fX2_switchCount S a1) ∧ (∃ n, v_X2_targetsHold_L14 ro uo n S a1 a5 (-1)))))
set_option maxRecDepth 100000 in
theorem ru_X2_targetsHold_L14 {ι : Type} {P Q : Int32 → MS → Prop} : ∀ (n : Nat) {U14 : MS} {v14_1 : Int32} {v14_2 : Int32} {v14_3 : Int32} (i0 : ι), (∀ (i : ι) (ro : Int32) (uo : MS), (∃ n8, v_X2_targetsHold_L14 ro uo n8 U14 v14_1 v14_2 v14_3) → P ro uo) → w_X2_targetsHold_L14 Q n U14 v14_1 v14_2 v14_3 → w_X2_targetsHold_L14 (fun r u => Q r u ∧ P r u) n U14 v14_1 v14_2 v14_3 := by
  intro n
  induction n with
  | zero => intro U14 v14_1 v14_2 v14_3 i0 K h; unfold w_X2_targetsHold_L14 at h; exact h.elim
  | succ n ih =>
    intro U14 v14_1 v14_2 v14_3 i0 K h
    unfold w_X2_targetsHold_L14 at h ⊢
    replace K := fun (i : ι × Nat) ro uo (z : v_X2_targetsHold_L14 ro uo (i.2 + 1) U14 v14_1 v14_2 v14_3) => K i.1 ro uo ⟨i.2 + 1, z⟩
    have i00 := i0
    replace i0 : ι × Nat := (i0, 0)
    intro y1_
    replace h := h y1_
    replace K := fun i ro uo z => K i ro uo ⟨y1_, z⟩
    refine ⟨fun c => ?_, fun c => ?_⟩
    · replace h := h.1 c
      replace K := fun i ro uo z => K i ro uo (Or.inl ⟨c, z⟩)
      exact ⟨h, K i0 _ _ ⟨rfl, rfl⟩⟩
    · replace h := h.2 c
      replace K := fun i ro uo z => K i ro uo (Or.inr ⟨c, z⟩)
      obtain ⟨g2_, h⟩ := h
      refine ⟨g2_, ?_⟩
      replace K := fun i ro uo z => K i ro uo ⟨g2_, z⟩
      intro a10 ea10 
      replace h := h a10 ea10 
      replace K := fun i ro uo z => K i ro uo ⟨a10, ea10, z⟩
      obtain ⟨g3_, h⟩ := h
      refine ⟨g3_, ?_⟩
      replace K := fun i ro uo z => K i ro uo ⟨g3_, z⟩
      intro a14 ea14 
      replace h := h a14 ea14 
      replace K := fun i ro uo z => K i ro uo ⟨a14, ea14, z⟩
      refine ⟨fun c => ?_, fun c => ?_⟩
      · replace h := h.1 c
        replace K := fun i ro uo z => K i ro uo (Or.inl ⟨c, z⟩)
        exact ⟨h, K i0 _ _ ⟨rfl, rfl⟩⟩
      · replace h := h.2 c
        replace K := fun i ro uo z => K i ro uo (Or.inr ⟨c, z⟩)
        intro a16 ea16 
        replace h := h a16 ea16 
        replace K := fun i ro uo z => K i ro uo ⟨a16, ea16, z⟩
        exact ih i00 (fun i ro uo ⟨n8, z⟩ => K (i, n8) ro uo z) h
set_option maxRecDepth 100000 in
theorem ruX2_targetsHold {S : MS} {Q : Int32 → MS → Prop} (h : wX2_targetsHold S Q) : wX2_targetsHold S (fun r u => Q r u ∧ vX2_targetsHold S r u) := by
  have i0 : Unit := ()
  have K : ∀ (i : Unit) (ro : Int32) (uo : MS), vX2_targetsHold S ro uo → vX2_targetsHold S ro uo := fun _ _ _ z => z
  unfold wX2_targetsHold at h ⊢
  intro a1 ea1 
  replace h := h a1 ea1 
  replace K := fun i ro uo z => K i ro uo ⟨a1, ea1, z⟩
  obtain ⟨g4_, h⟩ := h
  refine ⟨g4_, ?_⟩
  replace K := fun i ro uo z => K i ro uo ⟨g4_, z⟩
  intro a5 ea5 
  replace h := h a5 ea5 
  replace K := fun i ro uo z => K i ro uo ⟨a5, ea5, z⟩
  obtain ⟨n9, h⟩ := h
  exact ⟨n9, ru_X2_targetsHold_L14 n9 i0 K h⟩
set_option maxRecDepth 100000 in
theorem vw_X2_targetsHold_L14 {ro : Int32} {uo : MS} : ∀ (n : Nat) {U14 : MS} {v14_1 : Int32} {v14_2 : Int32} {v14_3 : Int32}, v_X2_targetsHold_L14 ro uo n U14 v14_1 v14_2 v14_3 → w_X2_targetsHold_L14 (fun r u => r = ro ∧ u = uo) n U14 v14_1 v14_2 v14_3 := by
  intro n
  induction n with
  | zero => intro U14 v14_1 v14_2 v14_3 h; unfold v_X2_targetsHold_L14 at h; exact h.elim
  | succ n ih =>
    intro U14 v14_1 v14_2 v14_3 h
    unfold v_X2_targetsHold_L14 at h
    unfold w_X2_targetsHold_L14
    intro _
    replace h := h.2
    rcases h with ⟨c, h⟩ | ⟨c, h⟩
    · refine ⟨fun _ => ?_, fun c2 => absurd c c2⟩
      exact ⟨h.1.symm, h.2.symm⟩
    · refine ⟨fun c2 => absurd c2 c, fun _ => ?_⟩
      obtain ⟨g9, h⟩ := h
      refine ⟨g9, ?_⟩
      obtain ⟨v9, e9, h⟩ := h
      intro x9 d9 
      have c9 : v9 = x9 := e9.trans d9.symm
      subst c9
      obtain ⟨g9, h⟩ := h
      refine ⟨g9, ?_⟩
      obtain ⟨v9, e9, h⟩ := h
      intro x9 d9 
      have c9 : v9 = x9 := e9.trans d9.symm
      subst c9
      rcases h with ⟨c, h⟩ | ⟨c, h⟩
      · refine ⟨fun _ => ?_, fun c2 => absurd c c2⟩
        exact ⟨h.1.symm, h.2.symm⟩
      · refine ⟨fun c2 => absurd c2 c, fun _ => ?_⟩
        obtain ⟨v9, e9, h⟩ := h
        intro x9 d9 
        have c9 : v9 = x9 := e9.trans d9.symm
        subst c9
        exact ih h
set_option maxRecDepth 100000 in
theorem vp_X2_targetsHold_L14 {ro : Int32} {uo : MS} {P : Int32 → MS → Prop} : ∀ (n m : Nat) {U14 : MS} {v14_1 : Int32} {v14_2 : Int32} {v14_3 : Int32}, v_X2_targetsHold_L14 ro uo n U14 v14_1 v14_2 v14_3 → w_X2_targetsHold_L14 P m U14 v14_1 v14_2 v14_3 → P ro uo := by
  intro n
  induction n with
  | zero => intro m U14 v14_1 v14_2 v14_3 h; unfold v_X2_targetsHold_L14 at h; exact h.elim
  | succ n ih =>
    intro m U14 v14_1 v14_2 v14_3 h w
    cases m with
    | zero => unfold w_X2_targetsHold_L14 at w; exact w.elim
    | succ m =>
      unfold v_X2_targetsHold_L14 at h
      unfold w_X2_targetsHold_L14 at w
      obtain ⟨y1_, h⟩ := h
      replace w := w y1_
      rcases h with ⟨c, h⟩ | ⟨c, h⟩
      · replace w := w.1 c
        rw [h.1, h.2]
        exact w
      · replace w := w.2 c
        replace h := h.2
        replace w := w.2
        obtain ⟨v9, e9, h⟩ := h
        replace w := w v9 e9 
        replace h := h.2
        replace w := w.2
        obtain ⟨v9, e9, h⟩ := h
        replace w := w v9 e9 
        rcases h with ⟨c, h⟩ | ⟨c, h⟩
        · replace w := w.1 c
          rw [h.1, h.2]
          exact w
        · replace w := w.2 c
          obtain ⟨v9, e9, h⟩ := h
          replace w := w v9 e9 
          exact ih m h w
set_option maxRecDepth 100000 in
theorem vwX2_targetsHold {S : MS} {ro : Int32} {uo : MS} (h : vX2_targetsHold S ro uo) : wX2_targetsHold S (fun r u => r = ro ∧ u = uo) := by
  unfold vX2_targetsHold at h
  unfold wX2_targetsHold
  obtain ⟨v9, e9, h⟩ := h
  intro x9 d9 
  have c9 : v9 = x9 := e9.trans d9.symm
  subst c9
  obtain ⟨g9, h⟩ := h
  refine ⟨g9, ?_⟩
  obtain ⟨v9, e9, h⟩ := h
  intro x9 d9 
  have c9 : v9 = x9 := e9.trans d9.symm
  subst c9
  obtain ⟨n9, h⟩ := h
  exact ⟨n9, vw_X2_targetsHold_L14 n9 h⟩
set_option maxRecDepth 100000 in
theorem vpX2_targetsHold {S : MS} {ro : Int32} {uo : MS} {P : Int32 → MS → Prop} (h : vX2_targetsHold S ro uo) (w : wX2_targetsHold S P) : P ro uo := by
  unfold vX2_targetsHold at h
  unfold wX2_targetsHold at w
  obtain ⟨v9, e9, h⟩ := h
  replace w := w v9 e9 
  replace h := h.2
  replace w := w.2
  obtain ⟨v9, e9, h⟩ := h
  replace w := w v9 e9 
  obtain ⟨n9, h⟩ := h
  obtain ⟨n8, w⟩ := w
  exact vp_X2_targetsHold_L14 n9 n8 h w
def v_X2_errorOf_J50 (ro : Int32) (uo : MS) (k8 : MS → Int32 → Int32 → Prop) (U50 : MS) (v50_1 : Int32) (v50_2 : Int32) : Prop := (wfC U50 ∧ (∃ a7 : Int32, a7 = (v50_2 + Int32.ofInt 1) ∧ (k8 U50 v50_1 a7)))
def v_X2_errorOf_L8 (ro : Int32) (uo : MS) : Nat → MS → Int32 → Int32 → Prop
  | 0, _, _, _ => False
  | n8 + 1, U8, v8_1, v8_2 => (wfC U8 ∧ ((3 < v8_2.toInt ∧ (ro = (-2 : Int32) ∧ uo = U8)) ∨ (¬ 3 < v8_2.toInt ∧ (d_X7_tagOf U8 v8_1 ∧ (∃ a6 : Int32, a6 = (fX7_tagOf U8 v8_1) ∧ ((a6.toInt = 7 ∧ (d_X7_firstOf U8 v8_1 ∧ (∃ a12 : Int32, a12 = (fX7_firstOf U8 v8_1) ∧ (d_X6_errorName U8 v8_2 ∧ (qT U8 (fX6_errorName U8 v8_2) = 12 ∧ (∃ (r17 : Int32) (S18 : MS), vX7_isText U8 a12 (fX6_errorName U8 v8_2) r17 S18 ∧ wfC S18 ∧ shy U8 S18 ∧ ((r17.toInt = 0 ∧ (v_X2_errorOf_J50 ro uo (v_X2_errorOf_L8 ro uo n8) S18 v8_1 v8_2)) ∨ (¬ r17.toInt = 0 ∧ (ro = v8_2 ∧ uo = S18))))))))) ∨ (¬ a6.toInt = 7 ∧ (v_X2_errorOf_J50 ro uo (v_X2_errorOf_L8 ro uo n8) U8 v8_1 v8_2))))))))
def vX2_errorOf (S : MS) (x1 : Int32) (ro : Int32) (uo : MS) : Prop := ((x1.toInt = 0 ∧ (ro = (-1 : Int32) ∧ uo = S)) ∨ (¬ x1.toInt = 0 ∧ (∃ n, v_X2_errorOf_L8 ro uo n S x1 0)))
set_option maxRecDepth 100000 in
theorem ru_X2_errorOf_J50 {ι : Type} {P Q : Int32 → MS → Prop} {k8 k8' : MS → Int32 → Int32 → Prop} {k8v : ι → Int32 → MS → MS → Int32 → Int32 → Prop} {U50 : MS} {v50_1 : Int32} {v50_2 : Int32} (i0 : ι) (hk8 : ∀ (u : MS) (z0 : Int32) (z1 : Int32), k8 u z0 z1 → (∀ (i : ι) (ro : Int32) (uo : MS), k8v i ro uo u z0 z1 → P ro uo) → k8' u z0 z1) (K : ∀ (i : ι) (ro : Int32) (uo : MS), v_X2_errorOf_J50 ro uo (k8v i ro uo) U50 v50_1 v50_2 → P ro uo) (h : w_X2_errorOf_J50 Q k8 U50 v50_1 v50_2) : w_X2_errorOf_J50 (fun r u => Q r u ∧ P r u) k8' U50 v50_1 v50_2 := by
  unfold w_X2_errorOf_J50 at h ⊢
  intro y1_
  replace h := h y1_
  replace K := fun i ro uo z => K i ro uo ⟨y1_, z⟩
  intro a7 ea7 
  replace h := h a7 ea7 
  replace K := fun i ro uo z => K i ro uo ⟨a7, ea7, z⟩
  exact hk8 _ _ _ h K
set_option maxRecDepth 100000 in
theorem ru_X2_errorOf_L8 {ι : Type} {P Q : Int32 → MS → Prop} : ∀ (n : Nat) {U8 : MS} {v8_1 : Int32} {v8_2 : Int32} (i0 : ι), (∀ (i : ι) (ro : Int32) (uo : MS), (∃ n8, v_X2_errorOf_L8 ro uo n8 U8 v8_1 v8_2) → P ro uo) → w_X2_errorOf_L8 Q n U8 v8_1 v8_2 → w_X2_errorOf_L8 (fun r u => Q r u ∧ P r u) n U8 v8_1 v8_2 := by
  intro n
  induction n with
  | zero => intro U8 v8_1 v8_2 i0 K h; unfold w_X2_errorOf_L8 at h; exact h.elim
  | succ n ih =>
    intro U8 v8_1 v8_2 i0 K h
    unfold w_X2_errorOf_L8 at h ⊢
    replace K := fun (i : ι × Nat) ro uo (z : v_X2_errorOf_L8 ro uo (i.2 + 1) U8 v8_1 v8_2) => K i.1 ro uo ⟨i.2 + 1, z⟩
    have i00 := i0
    replace i0 : ι × Nat := (i0, 0)
    intro y2_
    replace h := h y2_
    replace K := fun i ro uo z => K i ro uo ⟨y2_, z⟩
    refine ⟨fun c => ?_, fun c => ?_⟩
    · replace h := h.1 c
      replace K := fun i ro uo z => K i ro uo (Or.inl ⟨c, z⟩)
      exact ⟨h, K i0 _ _ ⟨rfl, rfl⟩⟩
    · replace h := h.2 c
      replace K := fun i ro uo z => K i ro uo (Or.inr ⟨c, z⟩)
      obtain ⟨g3_, h⟩ := h
      refine ⟨g3_, ?_⟩
      replace K := fun i ro uo z => K i ro uo ⟨g3_, z⟩
      intro a6 ea6 
      replace h := h a6 ea6 
      replace K := fun i ro uo z => K i ro uo ⟨a6, ea6, z⟩
      refine ⟨fun c => ?_, fun c => ?_⟩
      · replace h := h.1 c
        replace K := fun i ro uo z => K i ro uo (Or.inl ⟨c, z⟩)
        obtain ⟨g4_, h⟩ := h
        refine ⟨g4_, ?_⟩
        replace K := fun i ro uo z => K i ro uo ⟨g4_, z⟩
        intro a12 ea12 
        replace h := h a12 ea12 
        replace K := fun i ro uo z => K i ro uo ⟨a12, ea12, z⟩
        obtain ⟨g5_, h⟩ := h
        refine ⟨g5_, ?_⟩
        replace K := fun i ro uo z => K i ro uo ⟨g5_, z⟩
        intro y6_
        replace h := h y6_
        replace K := fun i ro uo z => K i ro uo ⟨y6_, z⟩
        obtain ⟨Q9, h0, h⟩ := h
        refine ⟨_, ruX7_isText h0, ?_⟩
        intro r17 S18 q7_ y8_ y9_
        replace h := h r17 S18 q7_.1 y8_ y9_
        replace K := fun i ro uo z => K i ro uo ⟨r17, S18, q7_.2, y8_, y9_, z⟩
        refine ⟨fun c => ?_, fun c => ?_⟩
        · replace h := h.1 c
          replace K := fun i ro uo z => K i ro uo (Or.inl ⟨c, z⟩)
          exact ru_X2_errorOf_J50 i0 (fun _ _ _ h K => ih i00 (fun i ro uo ⟨n8, z⟩ => K (i, n8) ro uo z) h) K h
        · replace h := h.2 c
          replace K := fun i ro uo z => K i ro uo (Or.inr ⟨c, z⟩)
          exact ⟨h, K i0 _ _ ⟨rfl, rfl⟩⟩
      · replace h := h.2 c
        replace K := fun i ro uo z => K i ro uo (Or.inr ⟨c, z⟩)
        exact ru_X2_errorOf_J50 i0 (fun _ _ _ h K => ih i00 (fun i ro uo ⟨n8, z⟩ => K (i, n8) ro uo z) h) K h
set_option maxRecDepth 100000 in
theorem ruX2_errorOf {S : MS} {x1 : Int32} {Q : Int32 → MS → Prop} (h : wX2_errorOf S x1 Q) : wX2_errorOf S x1 (fun r u => Q r u ∧ vX2_errorOf S x1 r u) := by
  have i0 : Unit := ()
  have K : ∀ (i : Unit) (ro : Int32) (uo : MS), vX2_errorOf S x1 ro uo → vX2_errorOf S x1 ro uo := fun _ _ _ z => z
  unfold wX2_errorOf at h ⊢
  refine ⟨fun c => ?_, fun c => ?_⟩
  · replace h := h.1 c
    replace K := fun i ro uo z => K i ro uo (Or.inl ⟨c, z⟩)
    exact ⟨h, K i0 _ _ ⟨rfl, rfl⟩⟩
  · replace h := h.2 c
    replace K := fun i ro uo z => K i ro uo (Or.inr ⟨c, z⟩)
    obtain ⟨n9, h⟩ := h
    exact ⟨n9, ru_X2_errorOf_L8 n9 i0 K h⟩
set_option maxRecDepth 100000 in
theorem vw_X2_errorOf_J50 {ro : Int32} {uo : MS} {k8 k8v : MS → Int32 → Int32 → Prop} {U50 : MS} {v50_1 : Int32} {v50_2 : Int32} (hk8 : ∀ (u : MS) (z0 : Int32) (z1 : Int32), k8v u z0 z1 → k8 u z0 z1) (h : v_X2_errorOf_J50 ro uo k8v U50 v50_1 v50_2) : w_X2_errorOf_J50 (fun r u => r = ro ∧ u = uo) k8 U50 v50_1 v50_2 := by
  unfold v_X2_errorOf_J50 at h
  unfold w_X2_errorOf_J50
  intro _
  replace h := h.2
  obtain ⟨v9, e9, h⟩ := h
  intro x9 d9 
  have c9 : v9 = x9 := e9.trans d9.symm
  subst c9
  exact hk8 _ _ _ h
set_option maxRecDepth 100000 in
theorem vp_X2_errorOf_J50 {ro : Int32} {uo : MS} {P : Int32 → MS → Prop} {k8 k8v : MS → Int32 → Int32 → Prop} {U50 : MS} {v50_1 : Int32} {v50_2 : Int32} (hk8 : ∀ (u : MS) (z0 : Int32) (z1 : Int32), k8v u z0 z1 → k8 u z0 z1 → P ro uo) (h : v_X2_errorOf_J50 ro uo k8v U50 v50_1 v50_2) (w : w_X2_errorOf_J50 P k8 U50 v50_1 v50_2) : P ro uo := by
  unfold v_X2_errorOf_J50 at h
  unfold w_X2_errorOf_J50 at w
  obtain ⟨y1_, h⟩ := h
  replace w := w y1_
  obtain ⟨v9, e9, h⟩ := h
  replace w := w v9 e9 
  exact hk8 _ _ _ h w
set_option maxRecDepth 100000 in
theorem vw_X2_errorOf_L8 {ro : Int32} {uo : MS} : ∀ (n : Nat) {U8 : MS} {v8_1 : Int32} {v8_2 : Int32}, v_X2_errorOf_L8 ro uo n U8 v8_1 v8_2 → w_X2_errorOf_L8 (fun r u => r = ro ∧ u = uo) n U8 v8_1 v8_2 := by
  intro n
  induction n with
  | zero => intro U8 v8_1 v8_2 h; unfold v_X2_errorOf_L8 at h; exact h.elim
  | succ n ih =>
    intro U8 v8_1 v8_2 h
    unfold v_X2_errorOf_L8 at h
    unfold w_X2_errorOf_L8
    intro _
    replace h := h.2
    rcases h with ⟨c, h⟩ | ⟨c, h⟩
    · refine ⟨fun _ => ?_, fun c2 => absurd c c2⟩
      exact ⟨h.1.symm, h.2.symm⟩
    · refine ⟨fun c2 => absurd c2 c, fun _ => ?_⟩
      obtain ⟨g9, h⟩ := h
      refine ⟨g9, ?_⟩
      obtain ⟨v9, e9, h⟩ := h
      intro x9 d9 
      have c9 : v9 = x9 := e9.trans d9.symm
      subst c9
      rcases h with ⟨c, h⟩ | ⟨c, h⟩
      · refine ⟨fun _ => ?_, fun c2 => absurd c c2⟩
        obtain ⟨g9, h⟩ := h
        refine ⟨g9, ?_⟩
        obtain ⟨v9, e9, h⟩ := h
        intro x9 d9 
        have c9 : v9 = x9 := e9.trans d9.symm
        subst c9
        obtain ⟨g9, h⟩ := h
        refine ⟨g9, ?_⟩
        intro _
        replace h := h.2
        obtain ⟨p9, q9, z9, h⟩ := h
        refine ⟨_, vwX7_isText z9, ?_⟩
        rintro p8 q8 ⟨d8, d9⟩ _ _
        subst d8
        subst d9
        replace h := h.2.2
        rcases h with ⟨c, h⟩ | ⟨c, h⟩
        · refine ⟨fun _ => ?_, fun c2 => absurd c c2⟩
          exact vw_X2_errorOf_J50 (fun _ _ _ h => ih h) h
        · refine ⟨fun c2 => absurd c2 c, fun _ => ?_⟩
          exact ⟨h.1.symm, h.2.symm⟩
      · refine ⟨fun c2 => absurd c2 c, fun _ => ?_⟩
        exact vw_X2_errorOf_J50 (fun _ _ _ h => ih h) h
set_option maxRecDepth 100000 in
theorem vp_X2_errorOf_L8 {ro : Int32} {uo : MS} {P : Int32 → MS → Prop} : ∀ (n m : Nat) {U8 : MS} {v8_1 : Int32} {v8_2 : Int32}, v_X2_errorOf_L8 ro uo n U8 v8_1 v8_2 → w_X2_errorOf_L8 P m U8 v8_1 v8_2 → P ro uo := by
  intro n
  induction n with
  | zero => intro m U8 v8_1 v8_2 h; unfold v_X2_errorOf_L8 at h; exact h.elim
  | succ n ih =>
    intro m U8 v8_1 v8_2 h w
    cases m with
    | zero => unfold w_X2_errorOf_L8 at w; exact w.elim
    | succ m =>
      unfold v_X2_errorOf_L8 at h
      unfold w_X2_errorOf_L8 at w
      obtain ⟨y2_, h⟩ := h
      replace w := w y2_
      rcases h with ⟨c, h⟩ | ⟨c, h⟩
      · replace w := w.1 c
        rw [h.1, h.2]
        exact w
      · replace w := w.2 c
        replace h := h.2
        replace w := w.2
        obtain ⟨v9, e9, h⟩ := h
        replace w := w v9 e9 
        rcases h with ⟨c, h⟩ | ⟨c, h⟩
        · replace w := w.1 c
          replace h := h.2
          replace w := w.2
          obtain ⟨v9, e9, h⟩ := h
          replace w := w v9 e9 
          replace h := h.2
          replace w := w.2
          obtain ⟨y3_, h⟩ := h
          replace w := w y3_
          obtain ⟨p9, q9, z9, y4_, y5_, h⟩ := h
          obtain ⟨Q9, w0, w⟩ := w
          replace w := w p9 q9 (vpX7_isText z9 w0) y4_ y5_
          rcases h with ⟨c, h⟩ | ⟨c, h⟩
          · replace w := w.1 c
            exact vp_X2_errorOf_J50 (fun _ _ _ h w => ih m h w) h w
          · replace w := w.2 c
            rw [h.1, h.2]
            exact w
        · replace w := w.2 c
          exact vp_X2_errorOf_J50 (fun _ _ _ h w => ih m h w) h w
set_option maxRecDepth 100000 in
theorem vwX2_errorOf {S : MS} {x1 : Int32} {ro : Int32} {uo : MS} (h : vX2_errorOf S x1 ro uo) : wX2_errorOf S x1 (fun r u => r = ro ∧ u = uo) := by
  unfold vX2_errorOf at h
  unfold wX2_errorOf
  rcases h with ⟨c, h⟩ | ⟨c, h⟩
  · refine ⟨fun _ => ?_, fun c2 => absurd c c2⟩
    exact ⟨h.1.symm, h.2.symm⟩
  · refine ⟨fun c2 => absurd c2 c, fun _ => ?_⟩
    obtain ⟨n9, h⟩ := h
    exact ⟨n9, vw_X2_errorOf_L8 n9 h⟩
set_option maxRecDepth 100000 in
theorem vpX2_errorOf {S : MS} {x1 : Int32} {ro : Int32} {uo : MS} {P : Int32 → MS → Prop} (h : vX2_errorOf S x1 ro uo) (w : wX2_errorOf S x1 P) : P ro uo := by
  unfold vX2_errorOf at h
  unfold wX2_errorOf at w
  rcases h with ⟨c, h⟩ | ⟨c, h⟩
  · replace w := w.1 c
    rw [h.1, h.2]
    exact w
  · replace w := w.2 c
    obtain ⟨n9, h⟩ := h
    obtain ⟨n8, w⟩ := w
    exact vp_X2_errorOf_L8 n9 n8 h w
def v_X2_memberOf_J195 (ro : Int32) (uo : MS) (k123 : MS → Int32 → Int32 → Int32 → Int32 → Prop) (U195 : MS) (v195_4 : Int32) (v195_5 : Int32) (v195_6 : Int32) (v195_7 : Int32) : Prop := (wfC U195 ∧ (∃ a46 : Int32, a46 = (v195_7 + Int32.ofInt 1) ∧ (k123 U195 v195_4 v195_5 v195_6 a46)))
def v_X2_memberOf_L123 (ro : Int32) (uo : MS) : Nat → MS → Int32 → Int32 → Int32 → Int32 → Prop
  | 0, _, _, _, _, _ => False
  | n123 + 1, U123, v123_4, v123_5, v123_6, v123_7 => (wfC U123 ∧ ((v123_6.toInt ≤ v123_7.toInt ∧ (ro = (-1 : Int32) ∧ uo = U123)) ∨ (¬ v123_6.toInt ≤ v123_7.toInt ∧ (d_X7_nameOf U123 (v123_5 + v123_7) ∧ (∃ a37 : Int32, a37 = (fX7_nameOf U123 (v123_5 + v123_7)) ∧ (d_X7_firstOf U123 v123_4 ∧ (∃ a41 : Int32, a41 = (fX7_firstOf U123 v123_4) ∧ (∃ (r43 : Int32) (S44 : MS), vX7_isSameName U123 a37 a41 r43 S44 ∧ wfC S44 ∧ shy U123 S44 ∧ ((r43.toInt = 0 ∧ (v_X2_memberOf_J195 ro uo (v_X2_memberOf_L123 ro uo n123) S44 v123_4 v123_5 v123_6 v123_7)) ∨ (¬ r43.toInt = 0 ∧ (d_X7_typeOf S44 (v123_5 + v123_7) ∧ (∃ a52 : Int32, a52 = (fX7_typeOf S44 (v123_5 + v123_7)) ∧ (d_X7_secondOf S44 v123_4 ∧ (∃ a56 : Int32, a56 = (fX7_secondOf S44 v123_4) ∧ (∃ (r58 : Int32) (S59 : MS), vX7_isSameName S44 a52 a56 r58 S59 ∧ wfC S59 ∧ shy S44 S59 ∧ ((r58.toInt = 0 ∧ (v_X2_memberOf_J195 ro uo (v_X2_memberOf_L123 ro uo n123) S59 v123_4 v123_5 v123_6 v123_7)) ∨ (¬ r58.toInt = 0 ∧ (ro = v123_7 ∧ uo = S59))))))))))))))))))
def v_X2_memberOf_J118 (ro : Int32) (uo : MS) (U118 : MS) (t118_0 : Int32) (v118_4 : Int32) (v118_5 : Int32) : Prop := (wfC U118 ∧ (∃ n, v_X2_memberOf_L123 ro uo n U118 v118_4 v118_5 t118_0 0))
def v_X2_memberOf_J93 (ro : Int32) (uo : MS) (U93 : MS) (t93_0 : Int32) (v93_2 : Int32) (v93_4 : Int32) : Prop := (wfC U93 ∧ ((v93_2.toInt = 9 ∧ (v_X2_memberOf_J118 ro uo U93 (qI U93 9 7) v93_4 t93_0)) ∨ (¬ v93_2.toInt = 9 ∧ (v_X2_memberOf_J118 ro uo U93 (qI U93 9 8) v93_4 t93_0))))
def vX2_memberOf (S : MS) (x1 : Int32) (x2 : Int32) (ro : Int32) (uo : MS) : Prop := (d_X7_tagOf S x1 ∧ (∃ a4 : Int32, a4 = (fX7_tagOf S x1) ∧ ((a4.toInt = x2.toInt ∧ (d_X7_u2 S ((qI S 9 6) + (2 : Int32)) ∧ (∃ a10 : Int32, a10 = (fX7_u2 S ((qI S 9 6) + (2 : Int32))) ∧ (d_X7_firstOf S x1 ∧ (∃ a14 : Int32, a14 = (fX7_firstOf S x1) ∧ (d_X7_firstOf S a14 ∧ (∃ a18 : Int32, a18 = (fX7_firstOf S a14) ∧ (d_X7_firstOf S a10 ∧ (∃ a22 : Int32, a22 = (fX7_firstOf S a10) ∧ (∃ (r24 : Int32) (S25 : MS), vX7_isSameName S a18 a22 r24 S25 ∧ wfC S25 ∧ shy S S25 ∧ ((r24.toInt = 0 ∧ (ro = (-1 : Int32) ∧ uo = S25)) ∨ (¬ r24.toInt = 0 ∧ (d_X7_secondOf S25 x1 ∧ (∃ a31 : Int32, a31 = (fX7_secondOf S25 x1) ∧ ((x2.toInt = 9 ∧ (v_X2_memberOf_J93 ro uo S25 0 x2 a31)) ∨ (¬ x2.toInt = 9 ∧ (v_X2_memberOf_J93 ro uo S25 (qI S25 9 7) x2 a31))))))))))))))))) ∨ (¬ a4.toInt = x2.toInt ∧ (ro = (-1 : Int32) ∧ uo = S)))))
set_option maxRecDepth 100000 in
theorem ru_X2_memberOf_J195 {ι : Type} {P Q : Int32 → MS → Prop} {k123 k123' : MS → Int32 → Int32 → Int32 → Int32 → Prop} {k123v : ι → Int32 → MS → MS → Int32 → Int32 → Int32 → Int32 → Prop} {U195 : MS} {v195_4 : Int32} {v195_5 : Int32} {v195_6 : Int32} {v195_7 : Int32} (i0 : ι) (hk123 : ∀ (u : MS) (z0 : Int32) (z1 : Int32) (z2 : Int32) (z3 : Int32), k123 u z0 z1 z2 z3 → (∀ (i : ι) (ro : Int32) (uo : MS), k123v i ro uo u z0 z1 z2 z3 → P ro uo) → k123' u z0 z1 z2 z3) (K : ∀ (i : ι) (ro : Int32) (uo : MS), v_X2_memberOf_J195 ro uo (k123v i ro uo) U195 v195_4 v195_5 v195_6 v195_7 → P ro uo) (h : w_X2_memberOf_J195 Q k123 U195 v195_4 v195_5 v195_6 v195_7) : w_X2_memberOf_J195 (fun r u => Q r u ∧ P r u) k123' U195 v195_4 v195_5 v195_6 v195_7 := by
  unfold w_X2_memberOf_J195 at h ⊢
  intro y1_
  replace h := h y1_
  replace K := fun i ro uo z => K i ro uo ⟨y1_, z⟩
  intro a46 ea46 
  replace h := h a46 ea46 
  replace K := fun i ro uo z => K i ro uo ⟨a46, ea46, z⟩
  exact hk123 _ _ _ _ _ h K
set_option maxRecDepth 100000 in
theorem ru_X2_memberOf_L123 {ι : Type} {P Q : Int32 → MS → Prop} : ∀ (n : Nat) {U123 : MS} {v123_4 : Int32} {v123_5 : Int32} {v123_6 : Int32} {v123_7 : Int32} (i0 : ι), (∀ (i : ι) (ro : Int32) (uo : MS), (∃ n8, v_X2_memberOf_L123 ro uo n8 U123 v123_4 v123_5 v123_6 v123_7) → P ro uo) → w_X2_memberOf_L123 Q n U123 v123_4 v123_5 v123_6 v123_7 → w_X2_memberOf_L123 (fun r u => Q r u ∧ P r u) n U123 v123_4 v123_5 v123_6 v123_7 := by
  intro n
  induction n with
  | zero => intro U123 v123_4 v123_5 v123_6 v123_7 i0 K h; unfold w_X2_memberOf_L123 at h; exact h.elim
  | succ n ih =>
    intro U123 v123_4 v123_5 v123_6 v123_7 i0 K h
    unfold w_X2_memberOf_L123 at h ⊢
    replace K := fun (i : ι × Nat) ro uo (z : v_X2_memberOf_L123 ro uo (i.2 + 1) U123 v123_4 v123_5 v123_6 v123_7) => K i.1 ro uo ⟨i.2 + 1, z⟩
    have i00 := i0
    replace i0 : ι × Nat := (i0, 0)
    intro y2_
    replace h := h y2_
    replace K := fun i ro uo z => K i ro uo ⟨y2_, z⟩
    refine ⟨fun c => ?_, fun c => ?_⟩
    · replace h := h.1 c
      replace K := fun i ro uo z => K i ro uo (Or.inl ⟨c, z⟩)
      exact ⟨h, K i0 _ _ ⟨rfl, rfl⟩⟩
    · replace h := h.2 c
      replace K := fun i ro uo z => K i ro uo (Or.inr ⟨c, z⟩)
      obtain ⟨g3_, h⟩ := h
      refine ⟨g3_, ?_⟩
      replace K := fun i ro uo z => K i ro uo ⟨g3_, z⟩
      intro a37 ea37 
      replace h := h a37 ea37 
      replace K := fun i ro uo z => K i ro uo ⟨a37, ea37, z⟩
      obtain ⟨g4_, h⟩ := h
      refine ⟨g4_, ?_⟩
      replace K := fun i ro uo z => K i ro uo ⟨g4_, z⟩
      intro a41 ea41 
      replace h := h a41 ea41 
      replace K := fun i ro uo z => K i ro uo ⟨a41, ea41, z⟩
      obtain ⟨Q9, h0, h⟩ := h
      refine ⟨_, ruX7_isSameName h0, ?_⟩
      intro r43 S44 q5_ y6_ y7_
      replace h := h r43 S44 q5_.1 y6_ y7_
      replace K := fun i ro uo z => K i ro uo ⟨r43, S44, q5_.2, y6_, y7_, z⟩
      refine ⟨fun c => ?_, fun c => ?_⟩
      · replace h := h.1 c
        replace K := fun i ro uo z => K i ro uo (Or.inl ⟨c, z⟩)
        exact ru_X2_memberOf_J195 i0 (fun _ _ _ _ _ h K => ih i00 (fun i ro uo ⟨n8, z⟩ => K (i, n8) ro uo z) h) K h
      · replace h := h.2 c
        replace K := fun i ro uo z => K i ro uo (Or.inr ⟨c, z⟩)
        obtain ⟨g8_, h⟩ := h
        refine ⟨g8_, ?_⟩
        replace K := fun i ro uo z => K i ro uo ⟨g8_, z⟩
        intro a52 ea52 
        replace h := h a52 ea52 
        replace K := fun i ro uo z => K i ro uo ⟨a52, ea52, z⟩
        obtain ⟨g9_, h⟩ := h
        refine ⟨g9_, ?_⟩
        replace K := fun i ro uo z => K i ro uo ⟨g9_, z⟩
        intro a56 ea56 
        replace h := h a56 ea56 
        replace K := fun i ro uo z => K i ro uo ⟨a56, ea56, z⟩
        obtain ⟨Q9, h0, h⟩ := h
        refine ⟨_, ruX7_isSameName h0, ?_⟩
        intro r58 S59 q10_ y11_ y12_
        replace h := h r58 S59 q10_.1 y11_ y12_
        replace K := fun i ro uo z => K i ro uo ⟨r58, S59, q10_.2, y11_, y12_, z⟩
        refine ⟨fun c => ?_, fun c => ?_⟩
        · replace h := h.1 c
          replace K := fun i ro uo z => K i ro uo (Or.inl ⟨c, z⟩)
          exact ru_X2_memberOf_J195 i0 (fun _ _ _ _ _ h K => ih i00 (fun i ro uo ⟨n8, z⟩ => K (i, n8) ro uo z) h) K h
        · replace h := h.2 c
          replace K := fun i ro uo z => K i ro uo (Or.inr ⟨c, z⟩)
          exact ⟨h, K i0 _ _ ⟨rfl, rfl⟩⟩
set_option maxRecDepth 100000 in
theorem ru_X2_memberOf_J118 {ι : Type} {P Q : Int32 → MS → Prop} {U118 : MS} {t118_0 : Int32} {v118_4 : Int32} {v118_5 : Int32} (i0 : ι) (K : ∀ (i : ι) (ro : Int32) (uo : MS), v_X2_memberOf_J118 ro uo U118 t118_0 v118_4 v118_5 → P ro uo) (h : w_X2_memberOf_J118 Q U118 t118_0 v118_4 v118_5) : w_X2_memberOf_J118 (fun r u => Q r u ∧ P r u) U118 t118_0 v118_4 v118_5 := by
  unfold w_X2_memberOf_J118 at h ⊢
  intro y13_
  replace h := h y13_
  replace K := fun i ro uo z => K i ro uo ⟨y13_, z⟩
  obtain ⟨n9, h⟩ := h
  exact ⟨n9, ru_X2_memberOf_L123 n9 i0 K h⟩
set_option maxRecDepth 100000 in
theorem ru_X2_memberOf_J93 {ι : Type} {P Q : Int32 → MS → Prop} {U93 : MS} {t93_0 : Int32} {v93_2 : Int32} {v93_4 : Int32} (i0 : ι) (K : ∀ (i : ι) (ro : Int32) (uo : MS), v_X2_memberOf_J93 ro uo U93 t93_0 v93_2 v93_4 → P ro uo) (h : w_X2_memberOf_J93 Q U93 t93_0 v93_2 v93_4) : w_X2_memberOf_J93 (fun r u => Q r u ∧ P r u) U93 t93_0 v93_2 v93_4 := by
  unfold w_X2_memberOf_J93 at h ⊢
  intro y14_
  replace h := h y14_
  replace K := fun i ro uo z => K i ro uo ⟨y14_, z⟩
  refine ⟨fun c => ?_, fun c => ?_⟩
  · replace h := h.1 c
    replace K := fun i ro uo z => K i ro uo (Or.inl ⟨c, z⟩)
    exact ru_X2_memberOf_J118 i0 K h
  · replace h := h.2 c
    replace K := fun i ro uo z => K i ro uo (Or.inr ⟨c, z⟩)
    exact ru_X2_memberOf_J118 i0 K h
set_option maxRecDepth 100000 in
theorem ruX2_memberOf {S : MS} {x1 : Int32} {x2 : Int32} {Q : Int32 → MS → Prop} (h : wX2_memberOf S x1 x2 Q) : wX2_memberOf S x1 x2 (fun r u => Q r u ∧ vX2_memberOf S x1 x2 r u) := by
  have i0 : Unit := ()
  have K : ∀ (i : Unit) (ro : Int32) (uo : MS), vX2_memberOf S x1 x2 ro uo → vX2_memberOf S x1 x2 ro uo := fun _ _ _ z => z
  unfold wX2_memberOf at h ⊢
  obtain ⟨g15_, h⟩ := h
  refine ⟨g15_, ?_⟩
  replace K := fun i ro uo z => K i ro uo ⟨g15_, z⟩
  intro a4 ea4 
  replace h := h a4 ea4 
  replace K := fun i ro uo z => K i ro uo ⟨a4, ea4, z⟩
  refine ⟨fun c => ?_, fun c => ?_⟩
  · replace h := h.1 c
    replace K := fun i ro uo z => K i ro uo (Or.inl ⟨c, z⟩)
    obtain ⟨g16_, h⟩ := h
    refine ⟨g16_, ?_⟩
    replace K := fun i ro uo z => K i ro uo ⟨g16_, z⟩
    intro a10 ea10 
    replace h := h a10 ea10 
    replace K := fun i ro uo z => K i ro uo ⟨a10, ea10, z⟩
    obtain ⟨g17_, h⟩ := h
    refine ⟨g17_, ?_⟩
    replace K := fun i ro uo z => K i ro uo ⟨g17_, z⟩
    intro a14 ea14 
    replace h := h a14 ea14 
    replace K := fun i ro uo z => K i ro uo ⟨a14, ea14, z⟩
    obtain ⟨g18_, h⟩ := h
    refine ⟨g18_, ?_⟩
    replace K := fun i ro uo z => K i ro uo ⟨g18_, z⟩
    intro a18 ea18 
    replace h := h a18 ea18 
    replace K := fun i ro uo z => K i ro uo ⟨a18, ea18, z⟩
    obtain ⟨g19_, h⟩ := h
    refine ⟨g19_, ?_⟩
    replace K := fun i ro uo z => K i ro uo ⟨g19_, z⟩
    intro a22 ea22 
    replace h := h a22 ea22 
    replace K := fun i ro uo z => K i ro uo ⟨a22, ea22, z⟩
    obtain ⟨Q9, h0, h⟩ := h
    refine ⟨_, ruX7_isSameName h0, ?_⟩
    intro r24 S25 q20_ y21_ y22_
    replace h := h r24 S25 q20_.1 y21_ y22_
    replace K := fun i ro uo z => K i ro uo ⟨r24, S25, q20_.2, y21_, y22_, z⟩
    refine ⟨fun c => ?_, fun c => ?_⟩
    · replace h := h.1 c
      replace K := fun i ro uo z => K i ro uo (Or.inl ⟨c, z⟩)
      exact ⟨h, K i0 _ _ ⟨rfl, rfl⟩⟩
    · replace h := h.2 c
      replace K := fun i ro uo z => K i ro uo (Or.inr ⟨c, z⟩)
      obtain ⟨g23_, h⟩ := h
      refine ⟨g23_, ?_⟩
      replace K := fun i ro uo z => K i ro uo ⟨g23_, z⟩
      intro a31 ea31 
      replace h := h a31 ea31 
      replace K := fun i ro uo z => K i ro uo ⟨a31, ea31, z⟩
      refine ⟨fun c => ?_, fun c => ?_⟩
      · replace h := h.1 c
        replace K := fun i ro uo z => K i ro uo (Or.inl ⟨c, z⟩)
        exact ru_X2_memberOf_J93 i0 K h
      · replace h := h.2 c
        replace K := fun i ro uo z => K i ro uo (Or.inr ⟨c, z⟩)
        exact ru_X2_memberOf_J93 i0 K h
  · replace h := h.2 c
    replace K := fun i ro uo z => K i ro uo (Or.inr ⟨c, z⟩)
    exact ⟨h, K i0 _ _ ⟨rfl, rfl⟩⟩
set_option maxRecDepth 100000 in
theorem vw_X2_memberOf_J195 {ro : Int32} {uo : MS} {k123 k123v : MS → Int32 → Int32 → Int32 → Int32 → Prop} {U195 : MS} {v195_4 : Int32} {v195_5 : Int32} {v195_6 : Int32} {v195_7 : Int32} (hk123 : ∀ (u : MS) (z0 : Int32) (z1 : Int32) (z2 : Int32) (z3 : Int32), k123v u z0 z1 z2 z3 → k123 u z0 z1 z2 z3) (h : v_X2_memberOf_J195 ro uo k123v U195 v195_4 v195_5 v195_6 v195_7) : w_X2_memberOf_J195 (fun r u => r = ro ∧ u = uo) k123 U195 v195_4 v195_5 v195_6 v195_7 := by
  unfold v_X2_memberOf_J195 at h
  unfold w_X2_memberOf_J195
  intro _
  replace h := h.2
  obtain ⟨v9, e9, h⟩ := h
  intro x9 d9 
  have c9 : v9 = x9 := e9.trans d9.symm
  subst c9
  exact hk123 _ _ _ _ _ h
set_option maxRecDepth 100000 in
theorem vp_X2_memberOf_J195 {ro : Int32} {uo : MS} {P : Int32 → MS → Prop} {k123 k123v : MS → Int32 → Int32 → Int32 → Int32 → Prop} {U195 : MS} {v195_4 : Int32} {v195_5 : Int32} {v195_6 : Int32} {v195_7 : Int32} (hk123 : ∀ (u : MS) (z0 : Int32) (z1 : Int32) (z2 : Int32) (z3 : Int32), k123v u z0 z1 z2 z3 → k123 u z0 z1 z2 z3 → P ro uo) (h : v_X2_memberOf_J195 ro uo k123v U195 v195_4 v195_5 v195_6 v195_7) (w : w_X2_memberOf_J195 P k123 U195 v195_4 v195_5 v195_6 v195_7) : P ro uo := by
  unfold v_X2_memberOf_J195 at h
  unfold w_X2_memberOf_J195 at w
  obtain ⟨y1_, h⟩ := h
  replace w := w y1_
  obtain ⟨v9, e9, h⟩ := h
  replace w := w v9 e9 
  exact hk123 _ _ _ _ _ h w
set_option maxRecDepth 100000 in
theorem vw_X2_memberOf_L123 {ro : Int32} {uo : MS} : ∀ (n : Nat) {U123 : MS} {v123_4 : Int32} {v123_5 : Int32} {v123_6 : Int32} {v123_7 : Int32}, v_X2_memberOf_L123 ro uo n U123 v123_4 v123_5 v123_6 v123_7 → w_X2_memberOf_L123 (fun r u => r = ro ∧ u = uo) n U123 v123_4 v123_5 v123_6 v123_7 := by
  intro n
  induction n with
  | zero => intro U123 v123_4 v123_5 v123_6 v123_7 h; unfold v_X2_memberOf_L123 at h; exact h.elim
  | succ n ih =>
    intro U123 v123_4 v123_5 v123_6 v123_7 h
    unfold v_X2_memberOf_L123 at h
    unfold w_X2_memberOf_L123
    intro _
    replace h := h.2
    rcases h with ⟨c, h⟩ | ⟨c, h⟩
    · refine ⟨fun _ => ?_, fun c2 => absurd c c2⟩
      exact ⟨h.1.symm, h.2.symm⟩
    · refine ⟨fun c2 => absurd c2 c, fun _ => ?_⟩
      obtain ⟨g9, h⟩ := h
      refine ⟨g9, ?_⟩
      obtain ⟨v9, e9, h⟩ := h
      intro x9 d9 
      have c9 : v9 = x9 := e9.trans d9.symm
      subst c9
      obtain ⟨g9, h⟩ := h
      refine ⟨g9, ?_⟩
      obtain ⟨v9, e9, h⟩ := h
      intro x9 d9 
      have c9 : v9 = x9 := e9.trans d9.symm
      subst c9
      obtain ⟨p9, q9, z9, h⟩ := h
      refine ⟨_, vwX7_isSameName z9, ?_⟩
      rintro p8 q8 ⟨d8, d9⟩ _ _
      subst d8
      subst d9
      replace h := h.2.2
      rcases h with ⟨c, h⟩ | ⟨c, h⟩
      · refine ⟨fun _ => ?_, fun c2 => absurd c c2⟩
        exact vw_X2_memberOf_J195 (fun _ _ _ _ _ h => ih h) h
      · refine ⟨fun c2 => absurd c2 c, fun _ => ?_⟩
        obtain ⟨g9, h⟩ := h
        refine ⟨g9, ?_⟩
        obtain ⟨v9, e9, h⟩ := h
        intro x9 d9 
        have c9 : v9 = x9 := e9.trans d9.symm
        subst c9
        obtain ⟨g9, h⟩ := h
        refine ⟨g9, ?_⟩
        obtain ⟨v9, e9, h⟩ := h
        intro x9 d9 
        have c9 : v9 = x9 := e9.trans d9.symm
        subst c9
        obtain ⟨p9, q9, z9, h⟩ := h
        refine ⟨_, vwX7_isSameName z9, ?_⟩
        rintro p8 q8 ⟨d8, d9⟩ _ _
        subst d8
        subst d9
        replace h := h.2.2
        rcases h with ⟨c, h⟩ | ⟨c, h⟩
        · refine ⟨fun _ => ?_, fun c2 => absurd c c2⟩
          exact vw_X2_memberOf_J195 (fun _ _ _ _ _ h => ih h) h
        · refine ⟨fun c2 => absurd c2 c, fun _ => ?_⟩
          exact ⟨h.1.symm, h.2.symm⟩
set_option maxRecDepth 100000 in
theorem vp_X2_memberOf_L123 {ro : Int32} {uo : MS} {P : Int32 → MS → Prop} : ∀ (n m : Nat) {U123 : MS} {v123_4 : Int32} {v123_5 : Int32} {v123_6 : Int32} {v123_7 : Int32}, v_X2_memberOf_L123 ro uo n U123 v123_4 v123_5 v123_6 v123_7 → w_X2_memberOf_L123 P m U123 v123_4 v123_5 v123_6 v123_7 → P ro uo := by
  intro n
  induction n with
  | zero => intro m U123 v123_4 v123_5 v123_6 v123_7 h; unfold v_X2_memberOf_L123 at h; exact h.elim
  | succ n ih =>
    intro m U123 v123_4 v123_5 v123_6 v123_7 h w
    cases m with
    | zero => unfold w_X2_memberOf_L123 at w; exact w.elim
    | succ m =>
      unfold v_X2_memberOf_L123 at h
      unfold w_X2_memberOf_L123 at w
      obtain ⟨y2_, h⟩ := h
      replace w := w y2_
      rcases h with ⟨c, h⟩ | ⟨c, h⟩
      · replace w := w.1 c
        rw [h.1, h.2]
        exact w
      · replace w := w.2 c
        replace h := h.2
        replace w := w.2
        obtain ⟨v9, e9, h⟩ := h
        replace w := w v9 e9 
        replace h := h.2
        replace w := w.2
        obtain ⟨v9, e9, h⟩ := h
        replace w := w v9 e9 
        obtain ⟨p9, q9, z9, y3_, y4_, h⟩ := h
        obtain ⟨Q9, w0, w⟩ := w
        replace w := w p9 q9 (vpX7_isSameName z9 w0) y3_ y4_
        rcases h with ⟨c, h⟩ | ⟨c, h⟩
        · replace w := w.1 c
          exact vp_X2_memberOf_J195 (fun _ _ _ _ _ h w => ih m h w) h w
        · replace w := w.2 c
          replace h := h.2
          replace w := w.2
          obtain ⟨v9, e9, h⟩ := h
          replace w := w v9 e9 
          replace h := h.2
          replace w := w.2
          obtain ⟨v9, e9, h⟩ := h
          replace w := w v9 e9 
          obtain ⟨p9, q9, z9, y5_, y6_, h⟩ := h
          obtain ⟨Q9, w0, w⟩ := w
          replace w := w p9 q9 (vpX7_isSameName z9 w0) y5_ y6_
          rcases h with ⟨c, h⟩ | ⟨c, h⟩
          · replace w := w.1 c
            exact vp_X2_memberOf_J195 (fun _ _ _ _ _ h w => ih m h w) h w
          · replace w := w.2 c
            rw [h.1, h.2]
            exact w
set_option maxRecDepth 100000 in
theorem vw_X2_memberOf_J118 {ro : Int32} {uo : MS} {U118 : MS} {t118_0 : Int32} {v118_4 : Int32} {v118_5 : Int32} (h : v_X2_memberOf_J118 ro uo U118 t118_0 v118_4 v118_5) : w_X2_memberOf_J118 (fun r u => r = ro ∧ u = uo) U118 t118_0 v118_4 v118_5 := by
  unfold v_X2_memberOf_J118 at h
  unfold w_X2_memberOf_J118
  intro _
  replace h := h.2
  obtain ⟨n9, h⟩ := h
  exact ⟨n9, vw_X2_memberOf_L123 n9 h⟩
set_option maxRecDepth 100000 in
theorem vp_X2_memberOf_J118 {ro : Int32} {uo : MS} {P : Int32 → MS → Prop} {U118 : MS} {t118_0 : Int32} {v118_4 : Int32} {v118_5 : Int32} (h : v_X2_memberOf_J118 ro uo U118 t118_0 v118_4 v118_5) (w : w_X2_memberOf_J118 P U118 t118_0 v118_4 v118_5) : P ro uo := by
  unfold v_X2_memberOf_J118 at h
  unfold w_X2_memberOf_J118 at w
  obtain ⟨y7_, h⟩ := h
  replace w := w y7_
  obtain ⟨n9, h⟩ := h
  obtain ⟨n8, w⟩ := w
  exact vp_X2_memberOf_L123 n9 n8 h w
set_option maxRecDepth 100000 in
theorem vw_X2_memberOf_J93 {ro : Int32} {uo : MS} {U93 : MS} {t93_0 : Int32} {v93_2 : Int32} {v93_4 : Int32} (h : v_X2_memberOf_J93 ro uo U93 t93_0 v93_2 v93_4) : w_X2_memberOf_J93 (fun r u => r = ro ∧ u = uo) U93 t93_0 v93_2 v93_4 := by
  unfold v_X2_memberOf_J93 at h
  unfold w_X2_memberOf_J93
  intro _
  replace h := h.2
  rcases h with ⟨c, h⟩ | ⟨c, h⟩
  · refine ⟨fun _ => ?_, fun c2 => absurd c c2⟩
    exact vw_X2_memberOf_J118 h
  · refine ⟨fun c2 => absurd c2 c, fun _ => ?_⟩
    exact vw_X2_memberOf_J118 h
set_option maxRecDepth 100000 in
theorem vp_X2_memberOf_J93 {ro : Int32} {uo : MS} {P : Int32 → MS → Prop} {U93 : MS} {t93_0 : Int32} {v93_2 : Int32} {v93_4 : Int32} (h : v_X2_memberOf_J93 ro uo U93 t93_0 v93_2 v93_4) (w : w_X2_memberOf_J93 P U93 t93_0 v93_2 v93_4) : P ro uo := by
  unfold v_X2_memberOf_J93 at h
  unfold w_X2_memberOf_J93 at w
  obtain ⟨y8_, h⟩ := h
  replace w := w y8_
  rcases h with ⟨c, h⟩ | ⟨c, h⟩
  · replace w := w.1 c
    exact vp_X2_memberOf_J118 h w
  · replace w := w.2 c
    exact vp_X2_memberOf_J118 h w
set_option maxRecDepth 100000 in
theorem vwX2_memberOf {S : MS} {x1 : Int32} {x2 : Int32} {ro : Int32} {uo : MS} (h : vX2_memberOf S x1 x2 ro uo) : wX2_memberOf S x1 x2 (fun r u => r = ro ∧ u = uo) := by
  unfold vX2_memberOf at h
  unfold wX2_memberOf
  obtain ⟨g9, h⟩ := h
  refine ⟨g9, ?_⟩
  obtain ⟨v9, e9, h⟩ := h
  intro x9 d9 
  have c9 : v9 = x9 := e9.trans d9.symm
  subst c9
  rcases h with ⟨c, h⟩ | ⟨c, h⟩
  · refine ⟨fun _ => ?_, fun c2 => absurd c c2⟩
    obtain ⟨g9, h⟩ := h
    refine ⟨g9, ?_⟩
    obtain ⟨v9, e9, h⟩ := h
    intro x9 d9 
    have c9 : v9 = x9 := e9.trans d9.symm
    subst c9
    obtain ⟨g9, h⟩ := h
    refine ⟨g9, ?_⟩
    obtain ⟨v9, e9, h⟩ := h
    intro x9 d9 
    have c9 : v9 = x9 := e9.trans d9.symm
    subst c9
    obtain ⟨g9, h⟩ := h
    refine ⟨g9, ?_⟩
    obtain ⟨v9, e9, h⟩ := h
    intro x9 d9 
    have c9 : v9 = x9 := e9.trans d9.symm
    subst c9
    obtain ⟨g9, h⟩ := h
    refine ⟨g9, ?_⟩
    obtain ⟨v9, e9, h⟩ := h
    intro x9 d9 
    have c9 : v9 = x9 := e9.trans d9.symm
    subst c9
    obtain ⟨p9, q9, z9, h⟩ := h
    refine ⟨_, vwX7_isSameName z9, ?_⟩
    rintro p8 q8 ⟨d8, d9⟩ _ _
    subst d8
    subst d9
    replace h := h.2.2
    rcases h with ⟨c, h⟩ | ⟨c, h⟩
    · refine ⟨fun _ => ?_, fun c2 => absurd c c2⟩
      exact ⟨h.1.symm, h.2.symm⟩
    · refine ⟨fun c2 => absurd c2 c, fun _ => ?_⟩
      obtain ⟨g9, h⟩ := h
      refine ⟨g9, ?_⟩
      obtain ⟨v9, e9, h⟩ := h
      intro x9 d9 
      have c9 : v9 = x9 := e9.trans d9.symm
      subst c9
      rcases h with ⟨c, h⟩ | ⟨c, h⟩
      · refine ⟨fun _ => ?_, fun c2 => absurd c c2⟩
        exact vw_X2_memberOf_J93 h
      · refine ⟨fun c2 => absurd c2 c, fun _ => ?_⟩
        exact vw_X2_memberOf_J93 h
  · refine ⟨fun c2 => absurd c2 c, fun _ => ?_⟩
    exact ⟨h.1.symm, h.2.symm⟩
set_option maxRecDepth 100000 in
theorem vpX2_memberOf {S : MS} {x1 : Int32} {x2 : Int32} {ro : Int32} {uo : MS} {P : Int32 → MS → Prop} (h : vX2_memberOf S x1 x2 ro uo) (w : wX2_memberOf S x1 x2 P) : P ro uo := by
  unfold vX2_memberOf at h
  unfold wX2_memberOf at w
  replace h := h.2
  replace w := w.2
  obtain ⟨v9, e9, h⟩ := h
  replace w := w v9 e9 
  rcases h with ⟨c, h⟩ | ⟨c, h⟩
  · replace w := w.1 c
    replace h := h.2
    replace w := w.2
    obtain ⟨v9, e9, h⟩ := h
    replace w := w v9 e9 
    replace h := h.2
    replace w := w.2
    obtain ⟨v9, e9, h⟩ := h
    replace w := w v9 e9 
    replace h := h.2
    replace w := w.2
    obtain ⟨v9, e9, h⟩ := h
    replace w := w v9 e9 
    replace h := h.2
    replace w := w.2
    obtain ⟨v9, e9, h⟩ := h
    replace w := w v9 e9 
    obtain ⟨p9, q9, z9, y9_, y10_, h⟩ := h
    obtain ⟨Q9, w0, w⟩ := w
    replace w := w p9 q9 (vpX7_isSameName z9 w0) y9_ y10_
    rcases h with ⟨c, h⟩ | ⟨c, h⟩
    · replace w := w.1 c
      rw [h.1, h.2]
      exact w
    · replace w := w.2 c
      replace h := h.2
      replace w := w.2
      obtain ⟨v9, e9, h⟩ := h
      replace w := w v9 e9 
      rcases h with ⟨c, h⟩ | ⟨c, h⟩
      · replace w := w.1 c
        exact vp_X2_memberOf_J93 h w
      · replace w := w.2 c
        exact vp_X2_memberOf_J93 h w
  · replace w := w.2 c
    rw [h.1, h.2]
    exact w
