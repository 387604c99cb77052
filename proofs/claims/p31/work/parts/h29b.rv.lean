def v_X3_addEdge_J59 (ro : Int32) (uo : MS) (U59 : MS) (v59_1 : Int32) (v59_2 : Int32) (v59_3 : Int32) : Prop := (wfC U59 ∧ (((0 : Int) ≤ v59_2.toInt ∧ v59_2.toInt < (qN U59 (qO U59 52 3) : Int)) ∧ (((0 : Int) ≤ (qI U59 (qO U59 52 3) v59_2.toInt.toNat).toInt ∧ (qI U59 (qO U59 52 3) v59_2.toInt.toNat).toInt < (qN U59 (qO U59 52 14) : Int)) ∧ (∃ S19 : MS, S19 = wI U59 (qO U59 52 14) (((qI U59 (qO U59 52 3) v59_2.toInt.toNat).toInt).toNat) v59_1 ∧ qT U59 (qO U59 52 14) = 211 ∧ wfC S19 ∧ (((0 : Int) ≤ v59_2.toInt ∧ v59_2.toInt < (qN S19 (qO S19 52 3) : Int)) ∧ (((0 : Int) ≤ v59_3.toInt ∧ v59_3.toInt < (qN S19 (qO S19 52 5) : Int)) ∧ (∃ S25 : MS, S25 = wI S19 (qO S19 52 5) v59_3.toInt.toNat (qI S19 (qO S19 52 3) v59_2.toInt.toNat) ∧ qT S19 (qO S19 52 5) = 205 ∧ wfC S25 ∧ (ro = (v59_3 + (1 : Int32)) ∧ uo = S25))))))))
def vX3_addEdge (S : MS) (x1 : Int32) (x2 : Int32) (x3 : Int32) (ro : Int32) (uo : MS) : Prop := ((x2.toInt < 0 ∧ (ro = x3 ∧ uo = S)) ∨ (¬ x2.toInt < 0 ∧ ((qR S 52 0 = some (qO S 52 0)) ∧ (((qI S (qO S 52 0) 2).toInt ≤ x2.toInt ∧ (ro = x3 ∧ uo = S)) ∨ (¬ (qI S (qO S 52 0) 2).toInt ≤ x2.toInt ∧ (((0 : Int) ≤ x2.toInt ∧ x2.toInt < (qN S (qO S 52 3) : Int)) ∧ (((0 : Int) ≤ (qI S (qO S 52 3) x2.toInt.toNat).toInt ∧ (qI S (qO S 52 3) x2.toInt.toNat).toInt < (qN S (qO S 52 14) : Int)) ∧ (((qI S (qO S 52 14) (((qI S (qO S 52 3) x2.toInt.toNat).toInt).toNat)).toInt = x1.toInt ∧ (ro = x3 ∧ uo = S)) ∨ (¬ (qI S (qO S 52 14) (((qI S (qO S 52 3) x2.toInt.toNat).toInt).toNat)).toInt = x1.toInt ∧ ((x3.toInt < (qN S (qO S 52 5) : Int) ∧ (v_X3_addEdge_J59 ro uo S x1 x2 x3)) ∨ (¬ x3.toInt < (qN S (qO S 52 5) : Int) ∧ (qT S (qO S 52 5) = 205 ∧ (∃ (b37 : Nat) (S34 : MS), vJ7_copyOf_59c91 S 205 (qO S 52 5) ((2 : Int32) * (Int32.ofNat (qN S (qO S 52 5)))) b37 S34 ∧ wfC S34 ∧ shx S S34 ∧ qT S34 b37 = 205 ∧ (∃ S38 : MS, S38 = wR S34 52 5 (some b37) ∧ qT S34 52 = 43 ∧ wfC S38 ∧ (v_X3_addEdge_J59 ro uo S38 x1 x2 x3)))))))))))))))
set_option maxRecDepth 100000 in
theorem ru_X3_addEdge_J59 {ι : Type} {P Q : Int32 → MS → Prop} {U59 : MS} {v59_1 : Int32} {v59_2 : Int32} {v59_3 : Int32} (i0 : ι) (K : ∀ (i : ι) (ro : Int32) (uo : MS), v_X3_addEdge_J59 ro uo U59 v59_1 v59_2 v59_3 → P ro uo) (h : w_X3_addEdge_J59 Q U59 v59_1 v59_2 v59_3) : w_X3_addEdge_J59 (fun r u => Q r u ∧ P r u) U59 v59_1 v59_2 v59_3 := by
  unfold w_X3_addEdge_J59 at h ⊢
  intro y1_
  replace h := h y1_
  replace K := fun i ro uo z => K i ro uo ⟨y1_, z⟩
  obtain ⟨g2_, h⟩ := h
  refine ⟨g2_, ?_⟩
  replace K := fun i ro uo z => K i ro uo ⟨g2_, z⟩
  obtain ⟨g3_, h⟩ := h
  refine ⟨g3_, ?_⟩
  replace K := fun i ro uo z => K i ro uo ⟨g3_, z⟩
  intro S19 eS19 y4_ y5_
  replace h := h S19 eS19 y4_ y5_
  replace K := fun i ro uo z => K i ro uo ⟨S19, eS19, y4_, y5_, z⟩
  obtain ⟨g6_, h⟩ := h
  refine ⟨g6_, ?_⟩
  replace K := fun i ro uo z => K i ro uo ⟨g6_, z⟩
  obtain ⟨g7_, h⟩ := h
  refine ⟨g7_, ?_⟩
  replace K := fun i ro uo z => K i ro uo ⟨g7_, z⟩
  intro S25 eS25 y8_ y9_
  replace h := h S25 eS25 y8_ y9_
  replace K := fun i ro uo z => K i ro uo ⟨S25, eS25, y8_, y9_, z⟩
  exact ⟨h, K i0 _ _ ⟨rfl, rfl⟩⟩
set_option maxRecDepth 100000 in
theorem ruX3_addEdge {S : MS} {x1 : Int32} {x2 : Int32} {x3 : Int32} {Q : Int32 → MS → Prop} (h : wX3_addEdge S x1 x2 x3 Q) : wX3_addEdge S x1 x2 x3 (fun r u => Q r u ∧ vX3_addEdge S x1 x2 x3 r u) := by
  have i0 : Unit := ()
  have K : ∀ (i : Unit) (ro : Int32) (uo : MS), vX3_addEdge S x1 x2 x3 ro uo → vX3_addEdge S x1 x2 x3 ro uo := fun _ _ _ z => z
  unfold wX3_addEdge at h ⊢
  refine ⟨fun c => ?_, fun c => ?_⟩
  · replace h := h.1 c
    replace K := fun i ro uo z => K i ro uo (Or.inl ⟨c, z⟩)
    exact ⟨h, K i0 _ _ ⟨rfl, rfl⟩⟩
  · replace h := h.2 c
    replace K := fun i ro uo z => K i ro uo (Or.inr ⟨c, z⟩)
    obtain ⟨g10_, h⟩ := h
    refine ⟨g10_, ?_⟩
    replace K := fun i ro uo z => K i ro uo ⟨g10_, z⟩
    refine ⟨fun c => ?_, fun c => ?_⟩
    · replace h := h.1 c
      replace K := fun i ro uo z => K i ro uo (Or.inl ⟨c, z⟩)
      exact ⟨h, K i0 _ _ ⟨rfl, rfl⟩⟩
    · replace h := h.2 c
      replace K := fun i ro uo z => K i ro uo (Or.inr ⟨c, z⟩)
      obtain ⟨g11_, h⟩ := h
      refine ⟨g11_, ?_⟩
      replace K := fun i ro uo z => K i ro uo ⟨g11_, z⟩
      obtain ⟨g12_, h⟩ := h
      refine ⟨g12_, ?_⟩
      replace K := fun i ro uo z => K i ro uo ⟨g12_, z⟩
      refine ⟨fun c => ?_, fun c => ?_⟩
      · replace h := h.1 c
        replace K := fun i ro uo z => K i ro uo (Or.inl ⟨c, z⟩)
        exact ⟨h, K i0 _ _ ⟨rfl, rfl⟩⟩
      · replace h := h.2 c
        replace K := fun i ro uo z => K i ro uo (Or.inr ⟨c, z⟩)
        refine ⟨fun c => ?_, fun c => ?_⟩
        · replace h := h.1 c
          replace K := fun i ro uo z => K i ro uo (Or.inl ⟨c, z⟩)
          exact ru_X3_addEdge_J59 i0 K h
        · replace h := h.2 c
          replace K := fun i ro uo z => K i ro uo (Or.inr ⟨c, z⟩)
          intro y13_
          replace h := h y13_
          replace K := fun i ro uo z => K i ro uo ⟨y13_, z⟩
          obtain ⟨Q9, h0, h⟩ := h
          refine ⟨_, ruJ7_copyOf_59c91 h0, ?_⟩
          intro b37 S34 q14_ y15_ y16_ y17_
          replace h := h b37 S34 q14_.1 y15_ y16_ y17_
          replace K := fun i ro uo z => K i ro uo ⟨b37, S34, q14_.2, y15_, y16_, y17_, z⟩
          intro S38 eS38 y18_ y19_
          replace h := h S38 eS38 y18_ y19_
          replace K := fun i ro uo z => K i ro uo ⟨S38, eS38, y18_, y19_, z⟩
          exact ru_X3_addEdge_J59 i0 K h
set_option maxRecDepth 100000 in
theorem vw_X3_addEdge_J59 {ro : Int32} {uo : MS} {U59 : MS} {v59_1 : Int32} {v59_2 : Int32} {v59_3 : Int32} (h : v_X3_addEdge_J59 ro uo U59 v59_1 v59_2 v59_3) : w_X3_addEdge_J59 (fun r u => r = ro ∧ u = uo) U59 v59_1 v59_2 v59_3 := by
  unfold v_X3_addEdge_J59 at h
  unfold w_X3_addEdge_J59
  intro _
  replace h := h.2
  obtain ⟨g9, h⟩ := h
  refine ⟨g9, ?_⟩
  obtain ⟨g9, h⟩ := h
  refine ⟨g9, ?_⟩
  obtain ⟨v9, e9, h⟩ := h
  intro x9 d9 _ _
  have c9 : v9 = x9 := e9.trans d9.symm
  subst c9
  replace h := h.2.2
  obtain ⟨g9, h⟩ := h
  refine ⟨g9, ?_⟩
  obtain ⟨g9, h⟩ := h
  refine ⟨g9, ?_⟩
  obtain ⟨v9, e9, h⟩ := h
  intro x9 d9 _ _
  have c9 : v9 = x9 := e9.trans d9.symm
  subst c9
  replace h := h.2.2
  exact ⟨h.1.symm, h.2.symm⟩
set_option maxRecDepth 100000 in
theorem vp_X3_addEdge_J59 {ro : Int32} {uo : MS} {P : Int32 → MS → Prop} {U59 : MS} {v59_1 : Int32} {v59_2 : Int32} {v59_3 : Int32} (h : v_X3_addEdge_J59 ro uo U59 v59_1 v59_2 v59_3) (w : w_X3_addEdge_J59 P U59 v59_1 v59_2 v59_3) : P ro uo := by
  unfold v_X3_addEdge_J59 at h
  unfold w_X3_addEdge_J59 at w
  obtain ⟨y1_, h⟩ := h
  replace w := w y1_
  replace h := h.2
  replace w := w.2
  replace h := h.2
  replace w := w.2
  obtain ⟨v9, e9, y2_, y3_, h⟩ := h
  replace w := w v9 e9 y2_ y3_
  replace h := h.2
  replace w := w.2
  replace h := h.2
  replace w := w.2
  obtain ⟨v9, e9, y4_, y5_, h⟩ := h
  replace w := w v9 e9 y4_ y5_
  rw [h.1, h.2]
  exact w
set_option maxRecDepth 100000 in
theorem vwX3_addEdge {S : MS} {x1 : Int32} {x2 : Int32} {x3 : Int32} {ro : Int32} {uo : MS} (h : vX3_addEdge S x1 x2 x3 ro uo) : wX3_addEdge S x1 x2 x3 (fun r u => r = ro ∧ u = uo) := by
  unfold vX3_addEdge at h
  unfold wX3_addEdge
  rcases h with ⟨c, h⟩ | ⟨c, h⟩
  · refine ⟨fun _ => ?_, fun c2 => absurd c c2⟩
    exact ⟨h.1.symm, h.2.symm⟩
  · refine ⟨fun c2 => absurd c2 c, fun _ => ?_⟩
    obtain ⟨g9, h⟩ := h
    refine ⟨g9, ?_⟩
    rcases h with ⟨c, h⟩ | ⟨c, h⟩
    · refine ⟨fun _ => ?_, fun c2 => absurd c c2⟩
      exact ⟨h.1.symm, h.2.symm⟩
    · refine ⟨fun c2 => absurd c2 c, fun _ => ?_⟩
      obtain ⟨g9, h⟩ := h
      refine ⟨g9, ?_⟩
      obtain ⟨g9, h⟩ := h
      refine ⟨g9, ?_⟩
      rcases h with ⟨c, h⟩ | ⟨c, h⟩
      · refine ⟨fun _ => ?_, fun c2 => absurd c c2⟩
        exact ⟨h.1.symm, h.2.symm⟩
      · refine ⟨fun c2 => absurd c2 c, fun _ => ?_⟩
        rcases h with ⟨c, h⟩ | ⟨c, h⟩
        · refine ⟨fun _ => ?_, fun c2 => absurd c c2⟩
          exact vw_X3_addEdge_J59 h
        · refine ⟨fun c2 => absurd c2 c, fun _ => ?_⟩
          intro _
          replace h := h.2
          obtain ⟨p9, q9, z9, h⟩ := h
          refine ⟨_, vwJ7_copyOf_59c91 z9, ?_⟩
          rintro p8 q8 ⟨d8, d9⟩ _ _ _
          subst d8
          subst d9
          replace h := h.2.2.2
          obtain ⟨v9, e9, h⟩ := h
          intro x9 d9 _ _
          have c9 : v9 = x9 := e9.trans d9.symm
          subst c9
          replace h := h.2.2
          exact vw_X3_addEdge_J59 h
set_option maxRecDepth 100000 in
theorem vpX3_addEdge {S : MS} {x1 : Int32} {x2 : Int32} {x3 : Int32} {ro : Int32} {uo : MS} {P : Int32 → MS → Prop} (h : vX3_addEdge S x1 x2 x3 ro uo) (w : wX3_addEdge S x1 x2 x3 P) : P ro uo := by
  unfold vX3_addEdge at h
  unfold wX3_addEdge at w
  rcases h with ⟨c, h⟩ | ⟨c, h⟩
  · replace w := w.1 c
    rw [h.1, h.2]
    exact w
  · replace w := w.2 c
    replace h := h.2
    replace w := w.2
    rcases h with ⟨c, h⟩ | ⟨c, h⟩
    · replace w := w.1 c
      rw [h.1, h.2]
      exact w
    · replace w := w.2 c
      replace h := h.2
      replace w := w.2
      replace h := h.2
      replace w := w.2
      rcases h with ⟨c, h⟩ | ⟨c, h⟩
      · replace w := w.1 c
        rw [h.1, h.2]
        exact w
      · replace w := w.2 c
        rcases h with ⟨c, h⟩ | ⟨c, h⟩
        · replace w := w.1 c
          exact vp_X3_addEdge_J59 h w
        · replace w := w.2 c
          obtain ⟨y6_, h⟩ := h
          replace w := w y6_
          obtain ⟨p9, q9, z9, y7_, y8_, y9_, h⟩ := h
          obtain ⟨Q9, w0, w⟩ := w
          replace w := w p9 q9 (vpJ7_copyOf_59c91 z9 w0) y7_ y8_ y9_
          obtain ⟨v9, e9, y10_, y11_, h⟩ := h
          replace w := w v9 e9 y10_ y11_
          exact vp_X3_addEdge_J59 h w
def v_X3_findBacks_L135 (uo : MS) (k120 : MS → Int32 → Prop) : Nat → MS → Int32 → Int32 → Prop
  | 0, _, _, _ => False
  | n135 + 1, U135, v135_2, v135_3 => (wfC U135 ∧ (((0 : Int) ≤ (v135_2 + (1 : Int32)).toInt ∧ (v135_2 + (1 : Int32)).toInt < (qN U135 (qO U135 52 4) : Int)) ∧ (((qI U135 (qO U135 52 4) (((v135_2 + (1 : Int32)).toInt).toNat)).toInt ≤ v135_3.toInt ∧ (∃ a27 : Int32, a27 = (v135_2 + Int32.ofInt 1) ∧ (k120 U135 a27))) ∨ (¬ (qI U135 (qO U135 52 4) (((v135_2 + (1 : Int32)).toInt).toNat)).toInt ≤ v135_3.toInt ∧ (((0 : Int) ≤ v135_3.toInt ∧ v135_3.toInt < (qN U135 (qO U135 52 5) : Int)) ∧ (((0 : Int) ≤ (qI U135 (qO U135 52 5) v135_3.toInt.toNat).toInt ∧ (qI U135 (qO U135 52 5) v135_3.toInt.toNat).toInt < (qN U135 (qO U135 52 14) : Int)) ∧ (∃ a34 : Int32, a34 = (qI U135 (qO U135 52 14) (((qI U135 (qO U135 52 5) v135_3.toInt.toNat).toInt).toNat)) ∧ (((0 : Int) ≤ a34.toInt ∧ a34.toInt < (qN U135 (qO U135 52 7) : Int)) ∧ (∃ S37 : MS, S37 = wI U135 (qO U135 52 7) a34.toInt.toNat v135_2 ∧ qT U135 (qO U135 52 7) = 207 ∧ wfC S37 ∧ (((0 : Int) ≤ v135_3.toInt ∧ v135_3.toInt < (qN S37 (qO S37 52 5) : Int)) ∧ (((0 : Int) ≤ (qI S37 (qO S37 52 5) v135_3.toInt.toNat).toInt ∧ (qI S37 (qO S37 52 5) v135_3.toInt.toNat).toInt < (qN S37 (qO S37 52 14) : Int)) ∧ (((0 : Int) ≤ (qI S37 (qO S37 52 5) v135_3.toInt.toNat).toInt ∧ (qI S37 (qO S37 52 5) v135_3.toInt.toNat).toInt < (qN S37 (qO S37 52 14) : Int)) ∧ (∃ S46 : MS, S46 = wI S37 (qO S37 52 14) (((qI S37 (qO S37 52 5) v135_3.toInt.toNat).toInt).toNat) ((qI S37 (qO S37 52 14) (((qI S37 (qO S37 52 5) v135_3.toInt.toNat).toInt).toNat)) + (1 : Int32)) ∧ qT S37 (qO S37 52 14) = 211 ∧ wfC S46 ∧ (∃ a47 : Int32, a47 = (v135_3 + Int32.ofInt 1) ∧ ((v_X3_findBacks_L135 uo k120 n135) S46 v135_2 a47)))))))))))))))
def v_X3_findBacks_L120 (uo : MS) : Nat → MS → Int32 → Prop
  | 0, _, _ => False
  | n120 + 1, U120, v120_2 => (wfC U120 ∧ (((qI U120 52 1).toInt ≤ v120_2.toInt ∧ (uo = U120)) ∨ (¬ (qI U120 52 1).toInt ≤ v120_2.toInt ∧ (((0 : Int) ≤ v120_2.toInt ∧ v120_2.toInt < (qN U120 (qO U120 52 4) : Int)) ∧ (∃ a21 : Int32, a21 = (qI U120 (qO U120 52 4) v120_2.toInt.toNat) ∧ (∃ n, v_X3_findBacks_L135 uo (v_X3_findBacks_L120 uo n120) n U120 v120_2 a21))))))
def v_X3_findBacks_L70 (uo : MS) : Nat → MS → Int32 → Prop
  | 0, _, _ => False
  | n70 + 1, U70, v70_2 => (wfC U70 ∧ (((qI U70 52 1).toInt ≤ v70_2.toInt ∧ ((¬ (0 : Int32) < 0 ∧ ¬ (0 : Int32) < 0 ∧ ¬ (qI U70 52 1) < 0 ∧ (0 : Int32).toNatClampNeg + (qI U70 52 1).toNatClampNeg ≤ qN U70 (qO U70 52 6) ∧ (0 : Int32).toNatClampNeg + (qI U70 52 1).toNatClampNeg ≤ qN U70 (qO U70 52 14)) ∧ (∃ S16 : MS, S16 = wC U70 (qO U70 52 14) (va_cpy (qI U70 (qO U70 52 6)) (qI U70 (qO U70 52 14)) (0 : Int32).toNatClampNeg (0 : Int32).toNatClampNeg (qI U70 52 1).toNatClampNeg) ∧ qT U70 (qO U70 52 14) = 211 ∧ wfC S16 ∧ (∃ n, v_X3_findBacks_L120 uo n S16 0)))) ∨ (¬ (qI U70 52 1).toInt ≤ v70_2.toInt ∧ (((0 : Int) ≤ (v70_2 + (1 : Int32)).toInt ∧ (v70_2 + (1 : Int32)).toInt < (qN U70 (qO U70 52 6) : Int)) ∧ (((0 : Int) ≤ v70_2.toInt ∧ v70_2.toInt < (qN U70 (qO U70 52 6) : Int)) ∧ (((0 : Int) ≤ (v70_2 + (1 : Int32)).toInt ∧ (v70_2 + (1 : Int32)).toInt < (qN U70 (qO U70 52 6) : Int)) ∧ (∃ S57 : MS, S57 = wI U70 (qO U70 52 6) (((v70_2 + (1 : Int32)).toInt).toNat) ((qI U70 (qO U70 52 6) (((v70_2 + (1 : Int32)).toInt).toNat)) + (qI U70 (qO U70 52 6) v70_2.toInt.toNat)) ∧ qT U70 (qO U70 52 6) = 206 ∧ wfC S57 ∧ (∃ a58 : Int32, a58 = (v70_2 + Int32.ofInt 1) ∧ ((v_X3_findBacks_L70 uo n70) S57 a58)))))))))
def v_X3_findBacks_L40 (uo : MS) : Nat → MS → Int32 → Int32 → Prop
  | 0, _, _, _ => False
  | n40 + 1, U40, v40_1, v40_2 => (wfC U40 ∧ ((v40_1.toInt ≤ v40_2.toInt ∧ (∃ n, v_X3_findBacks_L70 uo n U40 0)) ∨ (¬ v40_1.toInt ≤ v40_2.toInt ∧ (((0 : Int) ≤ v40_2.toInt ∧ v40_2.toInt < (qN U40 (qO U40 52 5) : Int)) ∧ (((0 : Int) ≤ ((qI U40 (qO U40 52 5) v40_2.toInt.toNat) + (1 : Int32)).toInt ∧ ((qI U40 (qO U40 52 5) v40_2.toInt.toNat) + (1 : Int32)).toInt < (qN U40 (qO U40 52 6) : Int)) ∧ (((0 : Int) ≤ ((qI U40 (qO U40 52 5) v40_2.toInt.toNat) + (1 : Int32)).toInt ∧ ((qI U40 (qO U40 52 5) v40_2.toInt.toNat) + (1 : Int32)).toInt < (qN U40 (qO U40 52 6) : Int)) ∧ (∃ S68 : MS, S68 = wI U40 (qO U40 52 6) ((((qI U40 (qO U40 52 5) v40_2.toInt.toNat) + (1 : Int32)).toInt).toNat) ((qI U40 (qO U40 52 6) ((((qI U40 (qO U40 52 5) v40_2.toInt.toNat) + (1 : Int32)).toInt).toNat)) + (1 : Int32)) ∧ qT U40 (qO U40 52 6) = 206 ∧ wfC S68 ∧ (∃ a69 : Int32, a69 = (v40_2 + Int32.ofInt 1) ∧ ((v_X3_findBacks_L40 uo n40) S68 v40_1 a69)))))))))
def v_X3_findBacks_J30 (uo : MS) (U30 : MS) (v30_1 : Int32) : Prop := (wfC U30 ∧ (qT U30 (qO U30 52 6) = 206 ∧ (∃ (S9 : MS), vJ7_fill_53178 U30 (qO U30 52 6) (0 : Int32) S9 ∧ wfC S9 ∧ shy U30 S9 ∧ (∃ n, v_X3_findBacks_L40 uo n S9 v30_1 0))))
def vX3_findBacks (S : MS) (uo : MS) : Prop := (((0 : Int) ≤ (qI S 52 1).toInt ∧ (qI S 52 1).toInt < (qN S (qO S 52 4) : Int)) ∧ (∃ a4 : Int32, a4 = (qI S (qO S 52 4) (((qI S 52 1).toInt).toNat)) ∧ ((a4.toInt ≤ (qN S (qO S 52 7) : Int) ∧ (v_X3_findBacks_J30 uo S a4)) ∨ (¬ a4.toInt ≤ (qN S (qO S 52 7) : Int) ∧ (((0 : Int) ≤ (Int32.ofNat (qN S (qO S 52 5))).toInt ∧ (qn S + 1 ≤ KCC ∧ qu S + (Int32.ofNat (qN S (qO S 52 5))).toInt.toNat ≤ KSC)) ∧ (∃ S76 : MS, S76 = wN S 207 ((Int32.ofNat (qN S (qO S 52 5))).toInt.toNat) ((Int32.ofNat (qN S (qO S 52 5))).toInt.toNat) ∧ wfC S76 ∧ (∃ S78 : MS, S78 = wR S76 52 7 (some (qn S)) ∧ qT S76 52 = 43 ∧ wfC S78 ∧ (v_X3_findBacks_J30 uo S78 a4))))))))
set_option maxRecDepth 100000 in
theorem ru_X3_findBacks_L135 {ι : Type} {P Q : MS → Prop} {k120 k120' : MS → Int32 → Prop} {k120v : ι → MS → MS → Int32 → Prop} : ∀ (n : Nat) {U135 : MS} {v135_2 : Int32} {v135_3 : Int32} (i0 : ι) (hk120 : ∀ (u : MS) (z0 : Int32), k120 u z0 → (∀ (i : ι) (uo : MS), k120v i uo u z0 → P uo) → k120' u z0), (∀ (i : ι) (uo : MS), (∃ n8, v_X3_findBacks_L135 uo (k120v i uo) n8 U135 v135_2 v135_3) → P uo) → w_X3_findBacks_L135 Q k120 n U135 v135_2 v135_3 → w_X3_findBacks_L135 (fun u => Q u ∧ P u) k120' n U135 v135_2 v135_3 := by
  intro n
  induction n with
  | zero => intro U135 v135_2 v135_3 i0 hk120 K h; unfold w_X3_findBacks_L135 at h; exact h.elim
  | succ n ih =>
    intro U135 v135_2 v135_3 i0 hk120 K h
    unfold w_X3_findBacks_L135 at h ⊢
    replace K := fun (i : ι × Nat) uo (z : v_X3_findBacks_L135 uo (k120v i.1 uo) (i.2 + 1) U135 v135_2 v135_3) => K i.1 uo ⟨i.2 + 1, z⟩
    have i00 := i0
    replace i0 : ι × Nat := (i0, 0)
    intro y1_
    replace h := h y1_
    replace K := fun i uo z => K i uo ⟨y1_, z⟩
    obtain ⟨g2_, h⟩ := h
    refine ⟨g2_, ?_⟩
    replace K := fun i uo z => K i uo ⟨g2_, z⟩
    refine ⟨fun c => ?_, fun c => ?_⟩
    · replace h := h.1 c
      replace K := fun i uo z => K i uo (Or.inl ⟨c, z⟩)
      intro a27 ea27 
      replace h := h a27 ea27 
      replace K := fun i uo z => K i uo ⟨a27, ea27, z⟩
      exact hk120 _ _ h (fun i uo z => K (i, 0) uo z)
    · replace h := h.2 c
      replace K := fun i uo z => K i uo (Or.inr ⟨c, z⟩)
      obtain ⟨g3_, h⟩ := h
      refine ⟨g3_, ?_⟩
      replace K := fun i uo z => K i uo ⟨g3_, z⟩
      obtain ⟨g4_, h⟩ := h
      refine ⟨g4_, ?_⟩
      replace K := fun i uo z => K i uo ⟨g4_, z⟩
      intro a34 ea34 
      replace h := h a34 ea34 
      replace K := fun i uo z => K i uo ⟨a34, ea34, z⟩
      obtain ⟨g5_, h⟩ := h
      refine ⟨g5_, ?_⟩
      replace K := fun i uo z => K i uo ⟨g5_, z⟩
      intro S37 eS37 y6_ y7_
      replace h := h S37 eS37 y6_ y7_
      replace K := fun i uo z => K i uo ⟨S37, eS37, y6_, y7_, z⟩
      obtain ⟨g8_, h⟩ := h
      refine ⟨g8_, ?_⟩
      replace K := fun i uo z => K i uo ⟨g8_, z⟩
      obtain ⟨g9_, h⟩ := h
      refine ⟨g9_, ?_⟩
      replace K := fun i uo z => K i uo ⟨g9_, z⟩
      obtain ⟨g10_, h⟩ := h
      refine ⟨g10_, ?_⟩
      replace K := fun i uo z => K i uo ⟨g10_, z⟩
      intro S46 eS46 y11_ y12_
      replace h := h S46 eS46 y11_ y12_
      replace K := fun i uo z => K i uo ⟨S46, eS46, y11_, y12_, z⟩
      intro a47 ea47 
      replace h := h a47 ea47 
      replace K := fun i uo z => K i uo ⟨a47, ea47, z⟩
      exact ih i00 hk120 (fun i uo ⟨n8, z⟩ => K (i, n8) uo z) h
set_option maxRecDepth 100000 in
theorem ru_X3_findBacks_L120 {ι : Type} {P Q : MS → Prop} : ∀ (n : Nat) {U120 : MS} {v120_2 : Int32} (i0 : ι), (∀ (i : ι) (uo : MS), (∃ n8, v_X3_findBacks_L120 uo n8 U120 v120_2) → P uo) → w_X3_findBacks_L120 Q n U120 v120_2 → w_X3_findBacks_L120 (fun u => Q u ∧ P u) n U120 v120_2 := by
  intro n
  induction n with
  | zero => intro U120 v120_2 i0 K h; unfold w_X3_findBacks_L120 at h; exact h.elim
  | succ n ih =>
    intro U120 v120_2 i0 K h
    unfold w_X3_findBacks_L120 at h ⊢
    replace K := fun (i : ι × Nat) uo (z : v_X3_findBacks_L120 uo (i.2 + 1) U120 v120_2) => K i.1 uo ⟨i.2 + 1, z⟩
    have i00 := i0
    replace i0 : ι × Nat := (i0, 0)
    intro y13_
    replace h := h y13_
    replace K := fun i uo z => K i uo ⟨y13_, z⟩
    refine ⟨fun c => ?_, fun c => ?_⟩
    · replace h := h.1 c
      replace K := fun i uo z => K i uo (Or.inl ⟨c, z⟩)
      exact ⟨h, K i0 _ rfl⟩
    · replace h := h.2 c
      replace K := fun i uo z => K i uo (Or.inr ⟨c, z⟩)
      obtain ⟨g14_, h⟩ := h
      refine ⟨g14_, ?_⟩
      replace K := fun i uo z => K i uo ⟨g14_, z⟩
      intro a21 ea21 
      replace h := h a21 ea21 
      replace K := fun i uo z => K i uo ⟨a21, ea21, z⟩
      obtain ⟨n9, h⟩ := h
      exact ⟨n9, ru_X3_findBacks_L135 n9 i0 (fun _ _ h K => ih i00 (fun i uo ⟨n8, z⟩ => K (i, n8) uo z) h) K h⟩
set_option maxRecDepth 100000 in
theorem ru_X3_findBacks_L70 {ι : Type} {P Q : MS → Prop} : ∀ (n : Nat) {U70 : MS} {v70_2 : Int32} (i0 : ι), (∀ (i : ι) (uo : MS), (∃ n8, v_X3_findBacks_L70 uo n8 U70 v70_2) → P uo) → w_X3_findBacks_L70 Q n U70 v70_2 → w_X3_findBacks_L70 (fun u => Q u ∧ P u) n U70 v70_2 := by
  intro n
  induction n with
  | zero => intro U70 v70_2 i0 K h; unfold w_X3_findBacks_L70 at h; exact h.elim
  | succ n ih =>
    intro U70 v70_2 i0 K h
    unfold w_X3_findBacks_L70 at h ⊢
    replace K := fun (i : ι × Nat) uo (z : v_X3_findBacks_L70 uo (i.2 + 1) U70 v70_2) => K i.1 uo ⟨i.2 + 1, z⟩
    have i00 := i0
    replace i0 : ι × Nat := (i0, 0)
    intro y15_
    replace h := h y15_
    replace K := fun i uo z => K i uo ⟨y15_, z⟩
    refine ⟨fun c => ?_, fun c => ?_⟩
    · replace h := h.1 c
      replace K := fun i uo z => K i uo (Or.inl ⟨c, z⟩)
      obtain ⟨g16_, h⟩ := h
      refine ⟨g16_, ?_⟩
      replace K := fun i uo z => K i uo ⟨g16_, z⟩
      intro S16 eS16 y17_ y18_
      replace h := h S16 eS16 y17_ y18_
      replace K := fun i uo z => K i uo ⟨S16, eS16, y17_, y18_, z⟩
      obtain ⟨n9, h⟩ := h
      exact ⟨n9, ru_X3_findBacks_L120 n9 i0 K h⟩
    · replace h := h.2 c
      replace K := fun i uo z => K i uo (Or.inr ⟨c, z⟩)
      obtain ⟨g19_, h⟩ := h
      refine ⟨g19_, ?_⟩
      replace K := fun i uo z => K i uo ⟨g19_, z⟩
      obtain ⟨g20_, h⟩ := h
      refine ⟨g20_, ?_⟩
      replace K := fun i uo z => K i uo ⟨g20_, z⟩
      obtain ⟨g21_, h⟩ := h
      refine ⟨g21_, ?_⟩
      replace K := fun i uo z => K i uo ⟨g21_, z⟩
      intro S57 eS57 y22_ y23_
      replace h := h S57 eS57 y22_ y23_
      replace K := fun i uo z => K i uo ⟨S57, eS57, y22_, y23_, z⟩
      intro a58 ea58 
      replace h := h a58 ea58 
      replace K := fun i uo z => K i uo ⟨a58, ea58, z⟩
      exact ih i00 (fun i uo ⟨n8, z⟩ => K (i, n8) uo z) h
set_option maxRecDepth 100000 in
theorem ru_X3_findBacks_L40 {ι : Type} {P Q : MS → Prop} : ∀ (n : Nat) {U40 : MS} {v40_1 : Int32} {v40_2 : Int32} (i0 : ι), (∀ (i : ι) (uo : MS), (∃ n8, v_X3_findBacks_L40 uo n8 U40 v40_1 v40_2) → P uo) → w_X3_findBacks_L40 Q n U40 v40_1 v40_2 → w_X3_findBacks_L40 (fun u => Q u ∧ P u) n U40 v40_1 v40_2 := by
  intro n
  induction n with
  | zero => intro U40 v40_1 v40_2 i0 K h; unfold w_X3_findBacks_L40 at h; exact h.elim
  | succ n ih =>
    intro U40 v40_1 v40_2 i0 K h
    unfold w_X3_findBacks_L40 at h ⊢
    replace K := fun (i : ι × Nat) uo (z : v_X3_findBacks_L40 uo (i.2 + 1) U40 v40_1 v40_2) => K i.1 uo ⟨i.2 + 1, z⟩
    have i00 := i0
    replace i0 : ι × Nat := (i0, 0)
    intro y24_
    replace h := h y24_
    replace K := fun i uo z => K i uo ⟨y24_, z⟩
    refine ⟨fun c => ?_, fun c => ?_⟩
    · replace h := h.1 c
      replace K := fun i uo z => K i uo (Or.inl ⟨c, z⟩)
      obtain ⟨n9, h⟩ := h
      exact ⟨n9, ru_X3_findBacks_L70 n9 i0 K h⟩
    · replace h := h.2 c
      replace K := fun i uo z => K i uo (Or.inr ⟨c, z⟩)
      obtain ⟨g25_, h⟩ := h
      refine ⟨g25_, ?_⟩
      replace K := fun i uo z => K i uo ⟨g25_, z⟩
      obtain ⟨g26_, h⟩ := h
      refine ⟨g26_, ?_⟩
      replace K := fun i uo z => K i uo ⟨g26_, z⟩
      obtain ⟨g27_, h⟩ := h
      refine ⟨g27_, ?_⟩
      replace K := fun i uo z => K i uo ⟨g27_, z⟩
      intro S68 eS68 y28_ y29_
      replace h := h S68 eS68 y28_ y29_
      replace K := fun i uo z => K i uo ⟨S68, eS68, y28_, y29_, z⟩
      intro a69 ea69 
      replace h := h a69 ea69 
      replace K := fun i uo z => K i uo ⟨a69, ea69, z⟩
      exact ih i00 (fun i uo ⟨n8, z⟩ => K (i, n8) uo z) h
set_option maxRecDepth 100000 in
theorem ru_X3_findBacks_J30 {ι : Type} {P Q : MS → Prop} {U30 : MS} {v30_1 : Int32} (i0 : ι) (K : ∀ (i : ι) (uo : MS), v_X3_findBacks_J30 uo U30 v30_1 → P uo) (h : w_X3_findBacks_J30 Q U30 v30_1) : w_X3_findBacks_J30 (fun u => Q u ∧ P u) U30 v30_1 := by
  unfold w_X3_findBacks_J30 at h ⊢
  intro y30_
  replace h := h y30_
  replace K := fun i uo z => K i uo ⟨y30_, z⟩
  intro y31_
  replace h := h y31_
  replace K := fun i uo z => K i uo ⟨y31_, z⟩
  obtain ⟨Q9, h0, h⟩ := h
  refine ⟨_, ruJ7_fill_53178 h0, ?_⟩
  intro S9 q32_ y33_ y34_
  replace h := h S9 q32_.1 y33_ y34_
  replace K := fun i uo z => K i uo ⟨S9, q32_.2, y33_, y34_, z⟩
  obtain ⟨n9, h⟩ := h
  exact ⟨n9, ru_X3_findBacks_L40 n9 i0 K h⟩
set_option maxRecDepth 100000 in
theorem ruX3_findBacks {S : MS} {Q : MS → Prop} (h : wX3_findBacks S Q) : wX3_findBacks S (fun u => Q u ∧ vX3_findBacks S u) := by
  have i0 : Unit := ()
  have K : ∀ (i : Unit) (uo : MS), vX3_findBacks S uo → vX3_findBacks S uo := fun _ _ z => z
  unfold wX3_findBacks at h ⊢
  obtain ⟨g35_, h⟩ := h
  refine ⟨g35_, ?_⟩
  replace K := fun i uo z => K i uo ⟨g35_, z⟩
  intro a4 ea4 
  replace h := h a4 ea4 
  replace K := fun i uo z => K i uo ⟨a4, ea4, z⟩
  refine ⟨fun c => ?_, fun c => ?_⟩
  · replace h := h.1 c
    replace K := fun i uo z => K i uo (Or.inl ⟨c, z⟩)
    exact ru_X3_findBacks_J30 i0 K h
  · replace h := h.2 c
    replace K := fun i uo z => K i uo (Or.inr ⟨c, z⟩)
    obtain ⟨g36_, h⟩ := h
    refine ⟨g36_, ?_⟩
    replace K := fun i uo z => K i uo ⟨g36_, z⟩
    intro S76 eS76 y37_
    replace h := h S76 eS76 y37_
    replace K := fun i uo z => K i uo ⟨S76, eS76, y37_, z⟩
    intro S78 eS78 y38_ y39_
    replace h := h S78 eS78 y38_ y39_
    replace K := fun i uo z => K i uo ⟨S78, eS78, y38_, y39_, z⟩
    exact ru_X3_findBacks_J30 i0 K h
set_option maxRecDepth 100000 in
theorem vw_X3_findBacks_L135 {uo : MS} {k120 k120v : MS → Int32 → Prop} : ∀ (n : Nat) {U135 : MS} {v135_2 : Int32} {v135_3 : Int32} (hk120 : ∀ (u : MS) (z0 : Int32), k120v u z0 → k120 u z0), v_X3_findBacks_L135 uo k120v n U135 v135_2 v135_3 → w_X3_findBacks_L135 (fun u => u = uo) k120 n U135 v135_2 v135_3 := by
  intro n
  induction n with
  | zero => intro U135 v135_2 v135_3 hk120 h; unfold v_X3_findBacks_L135 at h; exact h.elim
  | succ n ih =>
    intro U135 v135_2 v135_3 hk120 h
    unfold v_X3_findBacks_L135 at h
    unfold w_X3_findBacks_L135
    intro _
    replace h := h.2
    obtain ⟨g9, h⟩ := h
    refine ⟨g9, ?_⟩
    rcases h with ⟨c, h⟩ | ⟨c, h⟩
    · refine ⟨fun _ => ?_, fun c2 => absurd c c2⟩
      obtain ⟨v9, e9, h⟩ := h
      intro x9 d9 
      have c9 : v9 = x9 := e9.trans d9.symm
      subst c9
      exact hk120 _ _ h
    · refine ⟨fun c2 => absurd c2 c, fun _ => ?_⟩
      obtain ⟨g9, h⟩ := h
      refine ⟨g9, ?_⟩
      obtain ⟨g9, h⟩ := h
      refine ⟨g9, ?_⟩
      obtain ⟨v9, e9, h⟩ := h
      intro x9 d9 
      have c9 : v9 = x9 := e9.trans d9.symm
      subst c9
      obtain ⟨g9, h⟩ := h
      refine ⟨g9, ?_⟩
      obtain ⟨v9, e9, h⟩ := h
      intro x9 d9 _ _
      have c9 : v9 = x9 := e9.trans d9.symm
      subst c9
      replace h := h.2.2
      obtain ⟨g9, h⟩ := h
      refine ⟨g9, ?_⟩
      obtain ⟨g9, h⟩ := h
      refine ⟨g9, ?_⟩
      obtain ⟨g9, h⟩ := h
      refine ⟨g9, ?_⟩
      obtain ⟨v9, e9, h⟩ := h
      intro x9 d9 _ _
      have c9 : v9 = x9 := e9.trans d9.symm
      subst c9
      replace h := h.2.2
      obtain ⟨v9, e9, h⟩ := h
      intro x9 d9 
      have c9 : v9 = x9 := e9.trans d9.symm
      subst c9
      exact ih hk120 h
set_option maxRecDepth 100000 in
theorem vp_X3_findBacks_L135 {uo : MS} {P : MS → Prop} {k120 k120v : MS → Int32 → Prop} : ∀ (n m : Nat) {U135 : MS} {v135_2 : Int32} {v135_3 : Int32} (hk120 : ∀ (u : MS) (z0 : Int32), k120v u z0 → k120 u z0 → P uo), v_X3_findBacks_L135 uo k120v n U135 v135_2 v135_3 → w_X3_findBacks_L135 P k120 m U135 v135_2 v135_3 → P uo := by
  intro n
  induction n with
  | zero => intro m U135 v135_2 v135_3 hk120 h; unfold v_X3_findBacks_L135 at h; exact h.elim
  | succ n ih =>
    intro m U135 v135_2 v135_3 hk120 h w
    cases m with
    | zero => unfold w_X3_findBacks_L135 at w; exact w.elim
    | succ m =>
      unfold v_X3_findBacks_L135 at h
      unfold w_X3_findBacks_L135 at w
      obtain ⟨y1_, h⟩ := h
      replace w := w y1_
      replace h := h.2
      replace w := w.2
      rcases h with ⟨c, h⟩ | ⟨c, h⟩
      · replace w := w.1 c
        obtain ⟨v9, e9, h⟩ := h
        replace w := w v9 e9 
        exact hk120 _ _ h w
      · replace w := w.2 c
        replace h := h.2
        replace w := w.2
        replace h := h.2
        replace w := w.2
        obtain ⟨v9, e9, h⟩ := h
        replace w := w v9 e9 
        replace h := h.2
        replace w := w.2
        obtain ⟨v9, e9, y2_, y3_, h⟩ := h
        replace w := w v9 e9 y2_ y3_
        replace h := h.2
        replace w := w.2
        replace h := h.2
        replace w := w.2
        replace h := h.2
        replace w := w.2
        obtain ⟨v9, e9, y4_, y5_, h⟩ := h
        replace w := w v9 e9 y4_ y5_
        obtain ⟨v9, e9, h⟩ := h
        replace w := w v9 e9 
        exact ih m hk120 h w
set_option maxRecDepth 100000 in
theorem vw_X3_findBacks_L120 {uo : MS} : ∀ (n : Nat) {U120 : MS} {v120_2 : Int32}, v_X3_findBacks_L120 uo n U120 v120_2 → w_X3_findBacks_L120 (fun u => u = uo) n U120 v120_2 := by
  intro n
  induction n with
  | zero => intro U120 v120_2 h; unfold v_X3_findBacks_L120 at h; exact h.elim
  | succ n ih =>
    intro U120 v120_2 h
    unfold v_X3_findBacks_L120 at h
    unfold w_X3_findBacks_L120
    intro _
    replace h := h.2
    rcases h with ⟨c, h⟩ | ⟨c, h⟩
    · refine ⟨fun _ => ?_, fun c2 => absurd c c2⟩
      exact h.symm
    · refine ⟨fun c2 => absurd c2 c, fun _ => ?_⟩
      obtain ⟨g9, h⟩ := h
      refine ⟨g9, ?_⟩
      obtain ⟨v9, e9, h⟩ := h
      intro x9 d9 
      have c9 : v9 = x9 := e9.trans d9.symm
      subst c9
      obtain ⟨n9, h⟩ := h
      exact ⟨n9, vw_X3_findBacks_L135 n9 (fun _ _ h => ih h) h⟩
set_option maxRecDepth 100000 in
theorem vp_X3_findBacks_L120 {uo : MS} {P : MS → Prop} : ∀ (n m : Nat) {U120 : MS} {v120_2 : Int32}, v_X3_findBacks_L120 uo n U120 v120_2 → w_X3_findBacks_L120 P m U120 v120_2 → P uo := by
  intro n
  induction n with
  | zero => intro m U120 v120_2 h; unfold v_X3_findBacks_L120 at h; exact h.elim
  | succ n ih =>
    intro m U120 v120_2 h w
    cases m with
    | zero => unfold w_X3_findBacks_L120 at w; exact w.elim
    | succ m =>
      unfold v_X3_findBacks_L120 at h
      unfold w_X3_findBacks_L120 at w
      obtain ⟨y6_, h⟩ := h
      replace w := w y6_
      rcases h with ⟨c, h⟩ | ⟨c, h⟩
      · replace w := w.1 c
        rw [h]
        exact w
      · replace w := w.2 c
        replace h := h.2
        replace w := w.2
        obtain ⟨v9, e9, h⟩ := h
        replace w := w v9 e9 
        obtain ⟨n9, h⟩ := h
        obtain ⟨n8, w⟩ := w
        exact vp_X3_findBacks_L135 n9 n8 (fun _ _ h w => ih m h w) h w
set_option maxRecDepth 100000 in
theorem vw_X3_findBacks_L70 {uo : MS} : ∀ (n : Nat) {U70 : MS} {v70_2 : Int32}, v_X3_findBacks_L70 uo n U70 v70_2 → w_X3_findBacks_L70 (fun u => u = uo) n U70 v70_2 := by
  intro n
  induction n with
  | zero => intro U70 v70_2 h; unfold v_X3_findBacks_L70 at h; exact h.elim
  | succ n ih =>
    intro U70 v70_2 h
    unfold v_X3_findBacks_L70 at h
    unfold w_X3_findBacks_L70
    intro _
    replace h := h.2
    rcases h with ⟨c, h⟩ | ⟨c, h⟩
    · refine ⟨fun _ => ?_, fun c2 => absurd c c2⟩
      obtain ⟨g9, h⟩ := h
      refine ⟨g9, ?_⟩
      obtain ⟨v9, e9, h⟩ := h
      intro x9 d9 _ _
      have c9 : v9 = x9 := e9.trans d9.symm
      subst c9
      replace h := h.2.2
      obtain ⟨n9, h⟩ := h
      exact ⟨n9, vw_X3_findBacks_L120 n9 h⟩
    · refine ⟨fun c2 => absurd c2 c, fun _ => ?_⟩
      obtain ⟨g9, h⟩ := h
      refine ⟨g9, ?_⟩
      obtain ⟨g9, h⟩ := h
      refine ⟨g9, ?_⟩
      obtain ⟨g9, h⟩ := h
      refine ⟨g9, ?_⟩
      obtain ⟨v9, e9, h⟩ := h
      intro x9 d9 _ _
      have c9 : v9 = x9 := e9.trans d9.symm
      subst c9
      replace h := h.2.2
      obtain ⟨v9, e9, h⟩ := h
      intro x9 d9 
      have c9 : v9 = x9 := e9.trans d9.symm
      subst c9
      exact ih h
set_option maxRecDepth 100000 in
theorem vp_X3_findBacks_L70 {uo : MS} {P : MS → Prop} : ∀ (n m : Nat) {U70 : MS} {v70_2 : Int32}, v_X3_findBacks_L70 uo n U70 v70_2 → w_X3_findBacks_L70 P m U70 v70_2 → P uo := by
  intro n
  induction n with
  | zero => intro m U70 v70_2 h; unfold v_X3_findBacks_L70 at h; exact h.elim
  | succ n ih =>
    intro m U70 v70_2 h w
    cases m with
    | zero => unfold w_X3_findBacks_L70 at w; exact w.elim
    | succ m =>
      unfold v_X3_findBacks_L70 at h
      unfold w_X3_findBacks_L70 at w
      obtain ⟨y7_, h⟩ := h
      replace w := w y7_
      rcases h with ⟨c, h⟩ | ⟨c, h⟩
      · replace w := w.1 c
        replace h := h.2
        replace w := w.2
        obtain ⟨v9, e9, y8_, y9_, h⟩ := h
        replace w := w v9 e9 y8_ y9_
        obtain ⟨n9, h⟩ := h
        obtain ⟨n8, w⟩ := w
        exact vp_X3_findBacks_L120 n9 n8 h w
      · replace w := w.2 c
        replace h := h.2
        replace w := w.2
        replace h := h.2
        replace w := w.2
        replace h := h.2
        replace w := w.2
        obtain ⟨v9, e9, y10_, y11_, h⟩ := h
        replace w := w v9 e9 y10_ y11_
        obtain ⟨v9, e9, h⟩ := h
        replace w := w v9 e9 
        exact ih m h w
set_option maxRecDepth 100000 in
theorem vw_X3_findBacks_L40 {uo : MS} : ∀ (n : Nat) {U40 : MS} {v40_1 : Int32} {v40_2 : Int32}, v_X3_findBacks_L40 uo n U40 v40_1 v40_2 → w_X3_findBacks_L40 (fun u => u = uo) n U40 v40_1 v40_2 := by
  intro n
  induction n with
  | zero => intro U40 v40_1 v40_2 h; unfold v_X3_findBacks_L40 at h; exact h.elim
  | succ n ih =>
    intro U40 v40_1 v40_2 h
    unfold v_X3_findBacks_L40 at h
    unfold w_X3_findBacks_L40
    intro _
    replace h := h.2
    rcases h with ⟨c, h⟩ | ⟨c, h⟩
    · refine ⟨fun _ => ?_, fun c2 => absurd c c2⟩
      obtain ⟨n9, h⟩ := h
      exact ⟨n9, vw_X3_findBacks_L70 n9 h⟩
    · refine ⟨fun c2 => absurd c2 c, fun _ => ?_⟩
      obtain ⟨g9, h⟩ := h
      refine ⟨g9, ?_⟩
      obtain ⟨g9, h⟩ := h
      refine ⟨g9, ?_⟩
      obtain ⟨g9, h⟩ := h
      refine ⟨g9, ?_⟩
      obtain ⟨v9, e9, h⟩ := h
      intro x9 d9 _ _
      have c9 : v9 = x9 := e9.trans d9.symm
      subst c9
      replace h := h.2.2
      obtain ⟨v9, e9, h⟩ := h
      intro x9 d9 
      have c9 : v9 = x9 := e9.trans d9.symm
      subst c9
      exact ih h
set_option maxRecDepth 100000 in
theorem vp_X3_findBacks_L40 {uo : MS} {P : MS → Prop} : ∀ (n m : Nat) {U40 : MS} {v40_1 : Int32} {v40_2 : Int32}, v_X3_findBacks_L40 uo n U40 v40_1 v40_2 → w_X3_findBacks_L40 P m U40 v40_1 v40_2 → P uo := by
  intro n
  induction n with
  | zero => intro m U40 v40_1 v40_2 h; unfold v_X3_findBacks_L40 at h; exact h.elim
  | succ n ih =>
    intro m U40 v40_1 v40_2 h w
    cases m with
    | zero => unfold w_X3_findBacks_L40 at w; exact w.elim
    | succ m =>
      unfold v_X3_findBacks_L40 at h
      unfold w_X3_findBacks_L40 at w
      obtain ⟨y12_, h⟩ := h
      replace w := w y12_
      rcases h with ⟨c, h⟩ | ⟨c, h⟩
      · replace w := w.1 c
        obtain ⟨n9, h⟩ := h
        obtain ⟨n8, w⟩ := w
        exact vp_X3_findBacks_L70 n9 n8 h w
      · replace w := w.2 c
        replace h := h.2
        replace w := w.2
        replace h := h.2
        replace w := w.2
        replace h := h.2
        replace w := w.2
        obtain ⟨v9, e9, y13_, y14_, h⟩ := h
        replace w := w v9 e9 y13_ y14_
        obtain ⟨v9, e9, h⟩ := h
        replace w := w v9 e9 
        exact ih m h w
set_option maxRecDepth 100000 in
theorem vw_X3_findBacks_J30 {uo : MS} {U30 : MS} {v30_1 : Int32} (h : v_X3_findBacks_J30 uo U30 v30_1) : w_X3_findBacks_J30 (fun u => u = uo) U30 v30_1 := by
  unfold v_X3_findBacks_J30 at h
  unfold w_X3_findBacks_J30
  intro _
  replace h := h.2
  intro _
  replace h := h.2
  obtain ⟨q9, z9, h⟩ := h
  refine ⟨_, vwJ7_fill_53178 z9, ?_⟩
  intro q8 d9 _ _
  subst d9
  replace h := h.2.2
  obtain ⟨n9, h⟩ := h
  exact ⟨n9, vw_X3_findBacks_L40 n9 h⟩
set_option maxRecDepth 100000 in
theorem vp_X3_findBacks_J30 {uo : MS} {P : MS → Prop} {U30 : MS} {v30_1 : Int32} (h : v_X3_findBacks_J30 uo U30 v30_1) (w : w_X3_findBacks_J30 P U30 v30_1) : P uo := by
  unfold v_X3_findBacks_J30 at h
  unfold w_X3_findBacks_J30 at w
  obtain ⟨y15_, h⟩ := h
  replace w := w y15_
  obtain ⟨y16_, h⟩ := h
  replace w := w y16_
  obtain ⟨q9, z9, y17_, y18_, h⟩ := h
  obtain ⟨Q9, w0, w⟩ := w
  replace w := w q9 (vpJ7_fill_53178 z9 w0) y17_ y18_
  obtain ⟨n9, h⟩ := h
  obtain ⟨n8, w⟩ := w
  exact vp_X3_findBacks_L40 n9 n8 h w
set_option maxRecDepth 100000 in
theorem vwX3_findBacks {S : MS} {uo : MS} (h : vX3_findBacks S uo) : wX3_findBacks S (fun u => u = uo) := by
  unfold vX3_findBacks at h
  unfold wX3_findBacks
  obtain ⟨g9, h⟩ := h
  refine ⟨g9, ?_⟩
  obtain ⟨v9, e9, h⟩ := h
  intro x9 d9 
  have c9 : v9 = x9 := e9.trans d9.symm
  subst c9
  rcases h with ⟨c, h⟩ | ⟨c, h⟩
  · refine ⟨fun _ => ?_, fun c2 => absurd c c2⟩
    exact vw_X3_findBacks_J30 h
  · refine ⟨fun c2 => absurd c2 c, fun _ => ?_⟩
    obtain ⟨g9, h⟩ := h
    refine ⟨g9, ?_⟩
    obtain ⟨v9, e9, h⟩ := h
    intro x9 d9 _
    have c9 : v9 = x9 := e9.trans d9.symm
    subst c9
    replace h := h.2
    obtain ⟨v9, e9, h⟩ := h
    intro x9 d9 _ _
    have c9 : v9 = x9 := e9.trans d9.symm
    subst c9
    replace h := h.2.2
    exact vw_X3_findBacks_J30 h
set_option maxRecDepth 100000 in
theorem vpX3_findBacks {S : MS} {uo : MS} {P : MS → Prop} (h : vX3_findBacks S uo) (w : wX3_findBacks S P) : P uo := by
  unfold vX3_findBacks at h
  unfold wX3_findBacks at w
  replace h := h.2
  replace w := w.2
  obtain ⟨v9, e9, h⟩ := h
  replace w := w v9 e9 
  rcases h with ⟨c, h⟩ | ⟨c, h⟩
  · replace w := w.1 c
    exact vp_X3_findBacks_J30 h w
  · replace w := w.2 c
    replace h := h.2
    replace w := w.2
    obtain ⟨v9, e9, y19_, h⟩ := h
    replace w := w v9 e9 y19_
    obtain ⟨v9, e9, y20_, y21_, h⟩ := h
    replace w := w v9 e9 y20_ y21_
    exact vp_X3_findBacks_J30 h w
def v_X3_findReached_J129 (uo : MS) (k72 : MS → Int32 → Int32 → Int32 → Int32 → Prop) (U129 : MS) (v129_1 : Int32) (v129_2 : Int32) (v129_3 : Int32) (v129_4 : Int32) : Prop := (wfC U129 ∧ (∃ a29 : Int32, a29 = (v129_4 + Int32.ofInt 1) ∧ (k72 U129 v129_1 v129_2 v129_3 a29)))
def v_X3_findReached_J24 (uo : MS) (k2 : MS → Int32 → Prop) (U24 : MS) (t24_0 : Int32) (t24_1 : Int32) (t24_2 : Nat) (v24_1 : Int32) : Prop := (wfC U24 ∧ qT U24 t24_2 = 303 ∧ (t24_0 = 0 ∨ t24_0 = 1) ∧ (((0 : Int) ≤ t24_1.toInt ∧ t24_1.toInt < (qN U24 t24_2 : Int)) ∧ (∃ S46 : MS, S46 = wI U24 t24_2 t24_1.toInt.toNat (vp_nar .boolean t24_0) ∧ qT U24 t24_2 = 303 ∧ wfC S46 ∧ (∃ a47 : Int32, a47 = (v24_1 + Int32.ofInt 1) ∧ (k2 S46 a47)))))
def v_X3_findReached_L72 (uo : MS) (k42 : MS → Int32 → Int32 → Prop) : Nat → MS → Int32 → Int32 → Int32 → Int32 → Prop
  | 0, _, _, _, _, _ => False
  | n72 + 1, U72, v72_1, v72_2, v72_3, v72_4 => (wfC U72 ∧ (((0 : Int) ≤ (v72_3 + (1 : Int32)).toInt ∧ (v72_3 + (1 : Int32)).toInt < (qN U72 (qO U72 52 4) : Int)) ∧ (((qI U72 (qO U72 52 4) (((v72_3 + (1 : Int32)).toInt).toNat)).toInt ≤ v72_4.toInt ∧ (∃ a21 : Int32, a21 = (v72_2 + Int32.ofInt 1) ∧ (k42 U72 v72_1 a21))) ∨ (¬ (qI U72 (qO U72 52 4) (((v72_3 + (1 : Int32)).toInt).toNat)).toInt ≤ v72_4.toInt ∧ (((0 : Int) ≤ v72_4.toInt ∧ v72_4.toInt < (qN U72 (qO U72 52 5) : Int)) ∧ (((0 : Int) ≤ (qI U72 (qO U72 52 5) v72_4.toInt.toNat).toInt ∧ (qI U72 (qO U72 52 5) v72_4.toInt.toNat).toInt < (qN U72 (qO U72 52 8) : Int)) ∧ (((qI U72 (qO U72 52 8) (((qI U72 (qO U72 52 5) v72_4.toInt.toNat).toInt).toNat)).toInt = 0 ∧ (((0 : Int) ≤ v72_4.toInt ∧ v72_4.toInt < (qN U72 (qO U72 52 5) : Int)) ∧ (((0 : Int) ≤ (qI U72 (qO U72 52 5) v72_4.toInt.toNat).toInt ∧ (qI U72 (qO U72 52 5) v72_4.toInt.toNat).toInt < (qN U72 (qO U72 52 8) : Int)) ∧ (∃ S36 : MS, S36 = wI U72 (qO U72 52 8) (((qI U72 (qO U72 52 5) v72_4.toInt.toNat).toInt).toNat) (vp_nar .boolean (1 : Int32)) ∧ qT U72 (qO U72 52 8) = 303 ∧ wfC S36 ∧ (((0 : Int) ≤ v72_4.toInt ∧ v72_4.toInt < (qN S36 (qO S36 52 5) : Int)) ∧ (((0 : Int) ≤ v72_1.toInt ∧ v72_1.toInt < (qN S36 (qO S36 52 15) : Int)) ∧ (∃ S42 : MS, S42 = wI S36 (qO S36 52 15) v72_1.toInt.toNat (qI S36 (qO S36 52 5) v72_4.toInt.toNat) ∧ qT S36 (qO S36 52 15) = 212 ∧ wfC S42 ∧ (∃ a43 : Int32, a43 = (v72_1 + Int32.ofInt 1) ∧ (v_X3_findReached_J129 uo (v_X3_findReached_L72 uo k42 n72) S42 a43 v72_2 v72_3 v72_4))))))))) ∨ (¬ (qI U72 (qO U72 52 8) (((qI U72 (qO U72 52 5) v72_4.toInt.toNat).toInt).toNat)).toInt = 0 ∧ (v_X3_findReached_J129 uo (v_X3_findReached_L72 uo k42 n72) U72 v72_1 v72_2 v72_3 v72_4)))))))))
def v_X3_findReached_L42 (uo : MS) : Nat → MS → Int32 → Int32 → Prop
  | 0, _, _, _ => False
  | n42 + 1, U42, v42_1, v42_2 => (wfC U42 ∧ ((v42_1.toInt ≤ 0 ∧ (uo = U42)) ∨ (¬ v42_1.toInt ≤ 0 ∧ (((qI U42 52 1).toInt ≤ v42_2.toInt ∧ (uo = U42)) ∨ (¬ (qI U42 52 1).toInt ≤ v42_2.toInt ∧ (∃ a7 : Int32, a7 = (v42_1 + Int32.ofInt (-1)) ∧ (((0 : Int) ≤ a7.toInt ∧ a7.toInt < (qN U42 (qO U42 52 15) : Int)) ∧ (∃ a11 : Int32, a11 = (qI U42 (qO U42 52 15) a7.toInt.toNat) ∧ (((0 : Int) ≤ a11.toInt ∧ a11.toInt < (qN U42 (qO U42 52 4) : Int)) ∧ (∃ a15 : Int32, a15 = (qI U42 (qO U42 52 4) a11.toInt.toNat) ∧ (∃ n, v_X3_findReached_L72 uo (v_X3_findReached_L42 uo n42) n U42 a7 v42_2 a11 a15)))))))))))
def v_X3_findReached_L2 (uo : MS) : Nat → MS → Int32 → Prop
  | 0, _, _ => False
  | n2 + 1, U2, v2_1 => (wfC U2 ∧ (((qI U2 52 1).toInt ≤ v2_1.toInt ∧ (((0 : Int) ≤ 0 ∧ 0 < (qN U2 (qO U2 52 15) : Int)) ∧ (∃ S4 : MS, S4 = wI U2 (qO U2 52 15) 0 (0 : Int32) ∧ qT U2 (qO U2 52 15) = 212 ∧ wfC S4 ∧ (∃ n, v_X3_findReached_L42 uo n S4 1 0)))) ∨ (¬ (qI U2 52 1).toInt ≤ v2_1.toInt ∧ ((v2_1.toInt = 0 ∧ (v_X3_findReached_J24 uo (v_X3_findReached_L2 uo n2) U2 1 v2_1 (qO U2 52 8) v2_1)) ∨ (¬ v2_1.toInt = 0 ∧ (v_X3_findReached_J24 uo (v_X3_findReached_L2 uo n2) U2 0 v2_1 (qO U2 52 8) v2_1))))))
def vX3_findReached (S : MS) (uo : MS) : Prop := (∃ n, v_X3_findReached_L2 uo n S 0)
set_option maxRecDepth 100000 in
theorem ru_X3_findReached_J129 {ι : Type} {P Q : MS → Prop} {k72 k72' : MS → Int32 → Int32 → Int32 → Int32 → Prop} {k72v : ι → MS → MS → Int32 → Int32 → Int32 → Int32 → Prop} {U129 : MS} {v129_1 : Int32} {v129_2 : Int32} {v129_3 : Int32} {v129_4 : Int32} (i0 : ι) (hk72 : ∀ (u : MS) (z0 : Int32) (z1 : Int32) (z2 : Int32) (z3 : Int32), k72 u z0 z1 z2 z3 → (∀ (i : ι) (uo : MS), k72v i uo u z0 z1 z2 z3 → P uo) → k72' u z0 z1 z2 z3) (K : ∀ (i : ι) (uo : MS), v_X3_findReached_J129 uo (k72v i uo) U129 v129_1 v129_2 v129_3 v129_4 → P uo) (h : w_X3_findReached_J129 Q k72 U129 v129_1 v129_2 v129_3 v129_4) : w_X3_findReached_J129 (fun u => Q u ∧ P u) k72' U129 v129_1 v129_2 v129_3 v129_4 := by
  unfold w_X3_findReached_J129 at h ⊢
  intro y1_
  replace h := h y1_
  replace K := fun i uo z => K i uo ⟨y1_, z⟩
  intro a29 ea29 
  replace h := h a29 ea29 
  replace K := fun i uo z => K i uo ⟨a29, ea29, z⟩
  exact hk72 _ _ _ _ _ h K
set_option maxRecDepth 100000 in
theorem ru_X3_findReached_J24 {ι : Type} {P Q : MS → Prop} {k2 k2' : MS → Int32 → Prop} {k2v : ι → MS → MS → Int32 → Prop} {U24 : MS} {t24_0 : Int32} {t24_1 : Int32} {t24_2 : Nat} {v24_1 : Int32} (i0 : ι) (hk2 : ∀ (u : MS) (z0 : Int32), k2 u z0 → (∀ (i : ι) (uo : MS), k2v i uo u z0 → P uo) → k2' u z0) (K : ∀ (i : ι) (uo : MS), v_X3_findReached_J24 uo (k2v i uo) U24 t24_0 t24_1 t24_2 v24_1 → P uo) (h : w_X3_findReached_J24 Q k2 U24 t24_0 t24_1 t24_2 v24_1) : w_X3_findReached_J24 (fun u => Q u ∧ P u) k2' U24 t24_0 t24_1 t24_2 v24_1 := by
  unfold w_X3_findReached_J24 at h ⊢
  intro y2_ y3_ y4_
  replace h := h y2_ y3_ y4_
  replace K := fun i uo z => K i uo ⟨y2_, y3_, y4_, z⟩
  obtain ⟨g5_, h⟩ := h
  refine ⟨g5_, ?_⟩
  replace K := fun i uo z => K i uo ⟨g5_, z⟩
  intro S46 eS46 y6_ y7_
  replace h := h S46 eS46 y6_ y7_
  replace K := fun i uo z => K i uo ⟨S46, eS46, y6_, y7_, z⟩
  intro a47 ea47 
  replace h := h a47 ea47 
  replace K := fun i uo z => K i uo ⟨a47, ea47, z⟩
  exact hk2 _ _ h K
set_option maxRecDepth 100000 in
theorem ru_X3_findReached_L72 {ι : Type} {P Q : MS → Prop} {k42 k42' : MS → Int32 → Int32 → Prop} {k42v : ι → MS → MS → Int32 → Int32 → Prop} : ∀ (n : Nat) {U72 : MS} {v72_1 : Int32} {v72_2 : Int32} {v72_3 : Int32} {v72_4 : Int32} (i0 : ι) (hk42 : ∀ (u : MS) (z0 : Int32) (z1 : Int32), k42 u z0 z1 → (∀ (i : ι) (uo : MS), k42v i uo u z0 z1 → P uo) → k42' u z0 z1), (∀ (i : ι) (uo : MS), (∃ n8, v_X3_findReached_L72 uo (k42v i uo) n8 U72 v72_1 v72_2 v72_3 v72_4) → P uo) → w_X3_findReached_L72 Q k42 n U72 v72_1 v72_2 v72_3 v72_4 → w_X3_findReached_L72 (fun u => Q u ∧ P u) k42' n U72 v72_1 v72_2 v72_3 v72_4 := by
  intro n
  induction n with
  | zero => intro U72 v72_1 v72_2 v72_3 v72_4 i0 hk42 K h; unfold w_X3_findReached_L72 at h; exact h.elim
  | succ n ih =>
    intro U72 v72_1 v72_2 v72_3 v72_4 i0 hk42 K h
    unfold w_X3_findReached_L72 at h ⊢
    replace K := fun (i : ι × Nat) uo (z : v_X3_findReached_L72 uo (k42v i.1 uo) (i.2 + 1) U72 v72_1 v72_2 v72_3 v72_4) => K i.1 uo ⟨i.2 + 1, z⟩
    have i00 := i0
    replace i0 : ι × Nat := (i0, 0)
    intro y8_
    replace h := h y8_
    replace K := fun i uo z => K i uo ⟨y8_, z⟩
    obtain ⟨g9_, h⟩ := h
    refine ⟨g9_, ?_⟩
    replace K := fun i uo z => K i uo ⟨g9_, z⟩
    refine ⟨fun c => ?_, fun c => ?_⟩
    · replace h := h.1 c
      replace K := fun i uo z => K i uo (Or.inl ⟨c, z⟩)
      intro a21 ea21 
      replace h := h a21 ea21 
      replace K := fun i uo z => K i uo ⟨a21, ea21, z⟩
      exact hk42 _ _ _ h (fun i uo z => K (i, 0) uo z)
    · replace h := h.2 c
      replace K := fun i uo z => K i uo (Or.inr ⟨c, z⟩)
      obtain ⟨g10_, h⟩ := h
      refine ⟨g10_, ?_⟩
      replace K := fun i uo z => K i uo ⟨g10_, z⟩
      obtain ⟨g11_, h⟩ := h
      refine ⟨g11_, ?_⟩
      replace K := fun i uo z => K i uo ⟨g11_, z⟩
      refine ⟨fun c => ?_, fun c => ?_⟩
      · replace h := h.1 c
        replace K := fun i uo z => K i uo (Or.inl ⟨c, z⟩)
        obtain ⟨g12_, h⟩ := h
        refine ⟨g12_, ?_⟩
        replace K := fun i uo z => K i uo ⟨g12_, z⟩
        obtain ⟨g13_, h⟩ := h
        refine ⟨g13_, ?_⟩
        replace K := fun i uo z => K i uo ⟨g13_, z⟩
        intro S36 eS36 y14_ y15_
        replace h := h S36 eS36 y14_ y15_
        replace K := fun i uo z => K i uo ⟨S36, eS36, y14_, y15_, z⟩
        obtain ⟨g16_, h⟩ := h
        refine ⟨g16_, ?_⟩
        replace K := fun i uo z => K i uo ⟨g16_, z⟩
        obtain ⟨g17_, h⟩ := h
        refine ⟨g17_, ?_⟩
        replace K := fun i uo z => K i uo ⟨g17_, z⟩
        intro S42 eS42 y18_ y19_
        replace h := h S42 eS42 y18_ y19_
        replace K := fun i uo z => K i uo ⟨S42, eS42, y18_, y19_, z⟩
        intro a43 ea43 
        replace h := h a43 ea43 
        replace K := fun i uo z => K i uo ⟨a43, ea43, z⟩
        exact ru_X3_findReached_J129 i0 (fun _ _ _ _ _ h K => ih i00 hk42 (fun i uo ⟨n8, z⟩ => K (i, n8) uo z) h) K h
      · replace h := h.2 c
        replace K := fun i uo z => K i uo (Or.inr ⟨c, z⟩)
        exact ru_X3_findReached_J129 i0 (fun _ _ _ _ _ h K => ih i00 hk42 (fun i uo ⟨n8, z⟩ => K (i, n8) uo z) h) K h
set_option maxRecDepth 100000 in
theorem ru_X3_findReached_L42 {ι : Type} {P Q : MS → Prop} : ∀ (n : Nat) {U42 : MS} {v42_1 : Int32} {v42_2 : Int32} (i0 : ι), (∀ (i : ι) (uo : MS), (∃ n8, v_X3_findReached_L42 uo n8 U42 v42_1 v42_2) → P uo) → w_X3_findReached_L42 Q n U42 v42_1 v42_2 → w_X3_findReached_L42 (fun u => Q u ∧ P u) n U42 v42_1 v42_2 := by
  intro n
  induction n with
  | zero => intro U42 v42_1 v42_2 i0 K h; unfold w_X3_findReached_L42 at h; exact h.elim
  | succ n ih =>
    intro U42 v42_1 v42_2 i0 K h
    unfold w_X3_findReached_L42 at h ⊢
    replace K := fun (i : ι × Nat) uo (z : v_X3_findReached_L42 uo (i.2 + 1) U42 v42_1 v42_2) => K i.1 uo ⟨i.2 + 1, z⟩
    have i00 := i0
    replace i0 : ι × Nat := (i0, 0)
    intro y20_
    replace h := h y20_
    replace K := fun i uo z => K i uo ⟨y20_, z⟩
    refine ⟨fun c => ?_, fun c => ?_⟩
    · replace h := h.1 c
      replace K := fun i uo z => K i uo (Or.inl ⟨c, z⟩)
      exact ⟨h, K i0 _ rfl⟩
    · replace h := h.2 c
      replace K := fun i uo z => K i uo (Or.inr ⟨c, z⟩)
      refine ⟨fun c => ?_, fun c => ?_⟩
      · replace h := h.1 c
        replace K := fun i uo z => K i uo (Or.inl ⟨c, z⟩)
        exact ⟨h, K i0 _ rfl⟩
      · replace h := h.2 c
        replace K := fun i uo z => K i uo (Or.inr ⟨c, z⟩)
        intro a7 ea7 
        replace h := h a7 ea7 
        replace K := fun i uo z => K i uo ⟨a7, ea7, z⟩
        obtain ⟨g21_, h⟩ := h
        refine ⟨g21_, ?_⟩
        replace K := fun i uo z => K i uo ⟨g21_, z⟩
        intro a11 ea11 
        replace h := h a11 ea11 
        replace K := fun i uo z => K i uo ⟨a11, ea11, z⟩
        obtain ⟨g22_, h⟩ := h
        refine ⟨g22_, ?_⟩
        replace K := fun i uo z => K i uo ⟨g22_, z⟩
        intro a15 ea15 
        replace h := h a15 ea15 
        replace K := fun i uo z => K i uo ⟨a15, ea15, z⟩
        obtain ⟨n9, h⟩ := h
        exact ⟨n9, ru_X3_findReached_L72 n9 i0 (fun _ _ _ h K => ih i00 (fun i uo ⟨n8, z⟩ => K (i, n8) uo z) h) K h⟩
set_option maxRecDepth 100000 in
theorem ru_X3_findReached_L2 {ι : Type} {P Q : MS → Prop} : ∀ (n : Nat) {U2 : MS} {v2_1 : Int32} (i0 : ι), (∀ (i : ι) (uo : MS), (∃ n8, v_X3_findReached_L2 uo n8 U2 v2_1) → P uo) → w_X3_findReached_L2 Q n U2 v2_1 → w_X3_findReached_L2 (fun u => Q u ∧ P u) n U2 v2_1 := by
  intro n
  induction n with
  | zero => intro U2 v2_1 i0 K h; unfold w_X3_findReached_L2 at h; exact h.elim
  | succ n ih =>
    intro U2 v2_1 i0 K h
    unfold w_X3_findReached_L2 at h ⊢
    replace K := fun (i : ι × Nat) uo (z : v_X3_findReached_L2 uo (i.2 + 1) U2 v2_1) => K i.1 uo ⟨i.2 + 1, z⟩
    have i00 := i0
    replace i0 : ι × Nat := (i0, 0)
    intro y23_
    replace h := h y23_
    replace K := fun i uo z => K i uo ⟨y23_, z⟩
    refine ⟨fun c => ?_, fun c => ?_⟩
    · replace h := h.1 c
      replace K := fun i uo z => K i uo (Or.inl ⟨c, z⟩)
      obtain ⟨g24_, h⟩ := h
      refine ⟨g24_, ?_⟩
      replace K := fun i uo z => K i uo ⟨g24_, z⟩
      intro S4 eS4 y25_ y26_
      replace h := h S4 eS4 y25_ y26_
      replace K := fun i uo z => K i uo ⟨S4, eS4, y25_, y26_, z⟩
      obtain ⟨n9, h⟩ := h
      exact ⟨n9, ru_X3_findReached_L42 n9 i0 K h⟩
    · replace h := h.2 c
      replace K := fun i uo z => K i uo (Or.inr ⟨c, z⟩)
      refine ⟨fun c => ?_, fun c => ?_⟩
      · replace h := h.1 c
        replace K := fun i uo z => K i uo (Or.inl ⟨c, z⟩)
        exact ru_X3_findReached_J24 i0 (fun _ _ h K => ih i00 (fun i uo ⟨n8, z⟩ => K (i, n8) uo z) h) K h
      · replace h := h.2 c
        replace K := fun i uo z => K i uo (Or.inr ⟨c, z⟩)
        exact ru_X3_findReached_J24 i0 (fun _ _ h K => ih i00 (fun i uo ⟨n8, z⟩ => K (i, n8) uo z) h) K h
set_option maxRecDepth 100000 in
theorem ruX3_findReached {S : MS} {Q : MS → Prop} (h : wX3_findReached S Q) : wX3_findReached S (fun u => Q u ∧ vX3_findReached S u) := by
  have i0 : Unit := ()
  have K : ∀ (i : Unit) (uo : MS), vX3_findReached S uo → vX3_findReached S uo := fun _ _ z => z
  unfold wX3_findReached at h ⊢
  obtain ⟨n9, h⟩ := h
  exact ⟨n9, ru_X3_findReached_L2 n9 i0 K h⟩
set_option maxRecDepth 100000 in
theorem vw_X3_findReached_J129 {uo : MS} {k72 k72v : MS → Int32 → Int32 → Int32 → Int32 → Prop} {U129 : MS} {v129_1 : Int32} {v129_2 : Int32} {v129_3 : Int32} {v129_4 : Int32} (hk72 : ∀ (u : MS) (z0 : Int32) (z1 : Int32) (z2 : Int32) (z3 : Int32), k72v u z0 z1 z2 z3 → k72 u z0 z1 z2 z3) (h : v_X3_findReached_J129 uo k72v U129 v129_1 v129_2 v129_3 v129_4) : w_X3_findReached_J129 (fun u => u = uo) k72 U129 v129_1 v129_2 v129_3 v129_4 := by
  unfold v_X3_findReached_J129 at h
  unfold w_X3_findReached_J129
  intro _
  replace h := h.2
  obtain ⟨v9, e9, h⟩ := h
  intro x9 d9 
  have c9 : v9 = x9 := e9.trans d9.symm
  subst c9
  exact hk72 _ _ _ _ _ h
set_option maxRecDepth 100000 in
theorem vp_X3_findReached_J129 {uo : MS} {P : MS → Prop} {k72 k72v : MS → Int32 → Int32 → Int32 → Int32 → Prop} {U129 : MS} {v129_1 : Int32} {v129_2 : Int32} {v129_3 : Int32} {v129_4 : Int32} (hk72 : ∀ (u : MS) (z0 : Int32) (z1 : Int32) (z2 : Int32) (z3 : Int32), k72v u z0 z1 z2 z3 → k72 u z0 z1 z2 z3 → P uo) (h : v_X3_findReached_J129 uo k72v U129 v129_1 v129_2 v129_3 v129_4) (w : w_X3_findReached_J129 P k72 U129 v129_1 v129_2 v129_3 v129_4) : P uo := by
  unfold v_X3_findReached_J129 at h
  unfold w_X3_findReached_J129 at w
  obtain ⟨y1_, h⟩ := h
  replace w := w y1_
  obtain ⟨v9, e9, h⟩ := h
  replace w := w v9 e9 
  exact hk72 _ _ _ _ _ h w
set_option maxRecDepth 100000 in
theorem vw_X3_findReached_J24 {uo : MS} {k2 k2v : MS → Int32 → Prop} {U24 : MS} {t24_0 : Int32} {t24_1 : Int32} {t24_2 : Nat} {v24_1 : Int32} (hk2 : ∀ (u : MS) (z0 : Int32), k2v u z0 → k2 u z0) (h : v_X3_findReached_J24 uo k2v U24 t24_0 t24_1 t24_2 v24_1) : w_X3_findReached_J24 (fun u => u = uo) k2 U24 t24_0 t24_1 t24_2 v24_1 := by
  unfold v_X3_findReached_J24 at h
  unfold w_X3_findReached_J24
  intro _ _ _
  replace h := h.2.2.2
  obtain ⟨g9, h⟩ := h
  refine ⟨g9, ?_⟩
  obtain ⟨v9, e9, h⟩ := h
  intro x9 d9 _ _
  have c9 : v9 = x9 := e9.trans d9.symm
  subst c9
  replace h := h.2.2
  obtain ⟨v9, e9, h⟩ := h
  intro x9 d9 
  have c9 : v9 = x9 := e9.trans d9.symm
  subst c9
  exact hk2 _ _ h
set_option maxRecDepth 100000 in
theorem vp_X3_findReached_J24 {uo : MS} {P : MS → Prop} {k2 k2v : MS → Int32 → Prop} {U24 : MS} {t24_0 : Int32} {t24_1 : Int32} {t24_2 : Nat} {v24_1 : Int32} (hk2 : ∀ (u : MS) (z0 : Int32), k2v u z0 → k2 u z0 → P uo) (h : v_X3_findReached_J24 uo k2v U24 t24_0 t24_1 t24_2 v24_1) (w : w_X3_findReached_J24 P k2 U24 t24_0 t24_1 t24_2 v24_1) : P uo := by
  unfold v_X3_findReached_J24 at h
  unfold w_X3_findReached_J24 at w
  obtain ⟨y2_, y3_, y4_, h⟩ := h
  replace w := w y2_ y3_ y4_
  replace h := h.2
  replace w := w.2
  obtain ⟨v9, e9, y5_, y6_, h⟩ := h
  replace w := w v9 e9 y5_ y6_
  obtain ⟨v9, e9, h⟩ := h
  replace w := w v9 e9 
  exact hk2 _ _ h w
set_option maxRecDepth 100000 in
theorem vw_X3_findReached_L72 {uo : MS} {k42 k42v : MS → Int32 → Int32 → Prop} : ∀ (n : Nat) {U72 : MS} {v72_1 : Int32} {v72_2 : Int32} {v72_3 : Int32} {v72_4 : Int32} (hk42 : ∀ (u : MS) (z0 : Int32) (z1 : Int32), k42v u z0 z1 → k42 u z0 z1), v_X3_findReached_L72 uo k42v n U72 v72_1 v72_2 v72_3 v72_4 → w_X3_findReached_L72 (fun u => u = uo) k42 n U72 v72_1 v72_2 v72_3 v72_4 := by
  intro n
  induction n with
  | zero => intro U72 v72_1 v72_2 v72_3 v72_4 hk42 h; unfold v_X3_findReached_L72 at h; exact h.elim
  | succ n ih =>
    intro U72 v72_1 v72_2 v72_3 v72_4 hk42 h
    unfold v_X3_findReached_L72 at h
    unfold w_X3_findReached_L72
    intro _
    replace h := h.2
    obtain ⟨g9, h⟩ := h
    refine ⟨g9, ?_⟩
    rcases h with ⟨c, h⟩ | ⟨c, h⟩
    · refine ⟨fun _ => ?_, fun c2 => absurd c c2⟩
      obtain ⟨v9, e9, h⟩ := h
      intro x9 d9 
      have c9 : v9 = x9 := e9.trans d9.symm
      subst c9
      exact hk42 _ _ _ h
    · refine ⟨fun c2 => absurd c2 c, fun _ => ?_⟩
      obtain ⟨g9, h⟩ := h
      refine ⟨g9, ?_⟩
      obtain ⟨g9, h⟩ := h
      refine ⟨g9, ?_⟩
      rcases h with ⟨c, h⟩ | ⟨c, h⟩
      · refine ⟨fun _ => ?_, fun c2 => absurd c c2⟩
        obtain ⟨g9, h⟩ := h
        refine ⟨g9, ?_⟩
        obtain ⟨g9, h⟩ := h
        refine ⟨g9, ?_⟩
        obtain ⟨v9, e9, h⟩ := h
        intro x9 d9 _ _
        have c9 : v9 = x9 := e9.trans d9.symm
        subst c9
        replace h := h.2.2
        obtain ⟨g9, h⟩ := h
        refine ⟨g9, ?_⟩
        obtain ⟨g9, h⟩ := h
        refine ⟨g9, ?_⟩
        obtain ⟨v9, e9, h⟩ := h
        intro x9 d9 _ _
        have c9 : v9 = x9 := e9.trans d9.symm
        subst c9
        replace h := h.2.2
        obtain ⟨v9, e9, h⟩ := h
        intro x9 d9 
        have c9 : v9 = x9 := e9.trans d9.symm
        subst c9
        exact vw_X3_findReached_J129 (fun _ _ _ _ _ h => ih hk42 h) h
      · refine ⟨fun c2 => absurd c2 c, fun _ => ?_⟩
        exact vw_X3_findReached_J129 (fun _ _ _ _ _ h => ih hk42 h) h
set_option maxRecDepth 100000 in
theorem vp_X3_findReached_L72 {uo : MS} {P : MS → Prop} {k42 k42v : MS → Int32 → Int32 → Prop} : ∀ (n m : Nat) {U72 : MS} {v72_1 : Int32} {v72_2 : Int32} {v72_3 : Int32} {v72_4 : Int32} (hk42 : ∀ (u : MS) (z0 : Int32) (z1 : Int32), k42v u z0 z1 → k42 u z0 z1 → P uo), v_X3_findReached_L72 uo k42v n U72 v72_1 v72_2 v72_3 v72_4 → w_X3_findReached_L72 P k42 m U72 v72_1 v72_2 v72_3 v72_4 → P uo := by
  intro n
  induction n with
  | zero => intro m U72 v72_1 v72_2 v72_3 v72_4 hk42 h; unfold v_X3_findReached_L72 at h; exact h.elim
  | succ n ih =>
    intro m U72 v72_1 v72_2 v72_3 v72_4 hk42 h w
    cases m with
    | zero => unfold w_X3_findReached_L72 at w; exact w.elim
    | succ m =>
      unfold v_X3_findReached_L72 at h
      unfold w_X3_findReached_L72 at w
      obtain ⟨y7_, h⟩ := h
      replace w := w y7_
      replace h := h.2
      replace w := w.2
      rcases h with ⟨c, h⟩ | ⟨c, h⟩
      · replace w := w.1 c
        obtain ⟨v9, e9, h⟩ := h
        replace w := w v9 e9 
        exact hk42 _ _ _ h w
      · replace w := w.2 c
        replace h := h.2
        replace w := w.2
        replace h := h.2
        replace w := w.2
        rcases h with ⟨c, h⟩ | ⟨c, h⟩
        · replace w := w.1 c
          replace h := h.2
          replace w := w.2
          replace h := h.2
          replace w := w.2
          obtain ⟨v9, e9, y8_, y9_, h⟩ := h
          replace w := w v9 e9 y8_ y9_
          replace h := h.2
          replace w := w.2
          replace h := h.2
          replace w := w.2
          obtain ⟨v9, e9, y10_, y11_, h⟩ := h
          replace w := w v9 e9 y10_ y11_
          obtain ⟨v9, e9, h⟩ := h
          replace w := w v9 e9 
          exact vp_X3_findReached_J129 (fun _ _ _ _ _ h w => ih m hk42 h w) h w
        · replace w := w.2 c
          exact vp_X3_findReached_J129 (fun _ _ _ _ _ h w => ih m hk42 h w) h w
set_option maxRecDepth 100000 in
theorem vw_X3_findReached_L42 {uo : MS} : ∀ (n : Nat) {U42 : MS} {v42_1 : Int32} {v42_2 : Int32}, v_X3_findReached_L42 uo n U42 v42_1 v42_2 → w_X3_findReached_L42 (fun u => u = uo) n U42 v42_1 v42_2 := by
  intro n
  induction n with
  | zero => intro U42 v42_1 v42_2 h; unfold v_X3_findReached_L42 at h; exact h.elim
  | succ n ih =>
    intro U42 v42_1 v42_2 h
    unfold v_X3_findReached_L42 at h
    unfold w_X3_findReached_L42
    intro _
    replace h := h.2
    rcases h with ⟨c, h⟩ | ⟨c, h⟩
    · refine ⟨fun _ => ?_, fun c2 => absurd c c2⟩
      exact h.symm
    · refine ⟨fun c2 => absurd c2 c, fun _ => ?_⟩
      rcases h with ⟨c, h⟩ | ⟨c, h⟩
      · refine ⟨fun _ => ?_, fun c2 => absurd c c2⟩
        exact h.symm
      · refine ⟨fun c2 => absurd c2 c, fun _ => ?_⟩
        obtain ⟨v9, e9, h⟩ := h
        intro x9 d9 
        have c9 : v9 = x9 := e9.trans d9.symm
        subst c9
        obtain ⟨g9, h⟩ := h
        refine ⟨g9, ?_⟩
        obtain ⟨v9, e9, h⟩ := h
        intro x9 d9 
        have c9 : v9 = x9 := e9.trans d9.symm
        subst c9
        obtain ⟨g9, h⟩ := h
        refine ⟨g9, ?_⟩
        obtain ⟨v9, e9, h⟩ := h
        intro x9 d9 
        have c9 : v9 = x9 := e9.trans d9.symm
        subst c9
        obtain ⟨n9, h⟩ := h
        exact ⟨n9, vw_X3_findReached_L72 n9 (fun _ _ _ h => ih h) h⟩
set_option maxRecDepth 100000 in
theorem vp_X3_findReached_L42 {uo : MS} {P : MS → Prop} : ∀ (n m : Nat) {U42 : MS} {v42_1 : Int32} {v42_2 : Int32}, v_X3_findReached_L42 uo n U42 v42_1 v42_2 → w_X3_findReached_L42 P m U42 v42_1 v42_2 → P uo := by
  intro n
  induction n with
  | zero => intro m U42 v42_1 v42_2 h; unfold v_X3_findReached_L42 at h; exact h.elim
  | succ n ih =>
    intro m U42 v42_1 v42_2 h w
    cases m with
    | zero => unfold w_X3_findReached_L42 at w; exact w.elim
    | succ m =>
      unfold v_X3_findReached_L42 at h
      unfold w_X3_findReached_L42 at w
      obtain ⟨y12_, h⟩ := h
      replace w := w y12_
      rcases h with ⟨c, h⟩ | ⟨c, h⟩
      · replace w := w.1 c
        rw [h]
        exact w
      · replace w := w.2 c
        rcases h with ⟨c, h⟩ | ⟨c, h⟩
        · replace w := w.1 c
          rw [h]
          exact w
        · replace w := w.2 c
          obtain ⟨v9, e9, h⟩ := h
          replace w := w v9 e9 
          replace h := h.2
          replace w := w.2
          obtain ⟨v9, e9, h⟩ := h
          replace w := w v9 e9 
          replace h := h.2
          replace w := w.2
          obtain ⟨v9, e9, h⟩ := h
          replace w := w v9 e9 
          obtain ⟨n9, h⟩ := h
          obtain ⟨n8, w⟩ := w
          exact vp_X3_findReached_L72 n9 n8 (fun _ _ _ h w => ih m h w) h w
set_option maxRecDepth 100000 in
theorem vw_X3_findReached_L2 {uo : MS} : ∀ (n : Nat) {U2 : MS} {v2_1 : Int32}, v_X3_findReached_L2 uo n U2 v2_1 → w_X3_findReached_L2 (fun u => u = uo) n U2 v2_1 := by
  intro n
  induction n with
  | zero => intro U2 v2_1 h; unfold v_X3_findReached_L2 at h; exact h.elim
  | succ n ih =>
    intro U2 v2_1 h
    unfold v_X3_findReached_L2 at h
    unfold w_X3_findReached_L2
    intro _
    replace h := h.2
    rcases h with ⟨c, h⟩ | ⟨c, h⟩
    · refine ⟨fun _ => ?_, fun c2 => absurd c c2⟩
      obtain ⟨g9, h⟩ := h
      refine ⟨g9, ?_⟩
      obtain ⟨v9, e9, h⟩ := h
      intro x9 d9 _ _
      have c9 : v9 = x9 := e9.trans d9.symm
      subst c9
      replace h := h.2.2
      obtain ⟨n9, h⟩ := h
      exact ⟨n9, vw_X3_findReached_L42 n9 h⟩
    · refine ⟨fun c2 => absurd c2 c, fun _ => ?_⟩
      rcases h with ⟨c, h⟩ | ⟨c, h⟩
      · refine ⟨fun _ => ?_, fun c2 => absurd c c2⟩
        exact vw_X3_findReached_J24 (fun _ _ h => ih h) h
      · refine ⟨fun c2 => absurd c2 c, fun _ => ?_⟩
        exact vw_X3_findReached_J24 (fun _ _ h => ih h) h
set_option maxRecDepth 100000 in
theorem vp_X3_findReached_L2 {uo : MS} {P : MS → Prop} : ∀ (n m : Nat) {U2 : MS} {v2_1 : Int32}, v_X3_findReached_L2 uo n U2 v2_1 → w_X3_findReached_L2 P m U2 v2_1 → P uo := by
  intro n
  induction n with
  | zero => intro m U2 v2_1 h; unfold v_X3_findReached_L2 at h; exact h.elim
  | succ n ih =>
    intro m U2 v2_1 h w
    cases m with
    | zero => unfold w_X3_findReached_L2 at w; exact w.elim
    | succ m =>
      unfold v_X3_findReached_L2 at h
      unfold w_X3_findReached_L2 at w
      obtain ⟨y13_, h⟩ := h
      replace w := w y13_
      rcases h with ⟨c, h⟩ | ⟨c, h⟩
      · replace w := w.1 c
        replace h := h.2
        replace w := w.2
        obtain ⟨v9, e9, y14_, y15_, h⟩ := h
        replace w := w v9 e9 y14_ y15_
        obtain ⟨n9, h⟩ := h
        obtain ⟨n8, w⟩ := w
        exact vp_X3_findReached_L42 n9 n8 h w
      · replace w := w.2 c
        rcases h with ⟨c, h⟩ | ⟨c, h⟩
        · replace w := w.1 c
          exact vp_X3_findReached_J24 (fun _ _ h w => ih m h w) h w
        · replace w := w.2 c
          exact vp_X3_findReached_J24 (fun _ _ h w => ih m h w) h w
set_option maxRecDepth 100000 in
theorem vwX3_findReached {S : MS} {uo : MS} (h : vX3_findReached S uo) : wX3_findReached S (fun u => u = uo) := by
  unfold vX3_findReached at h
  unfold wX3_findReached
  obtain ⟨n9, h⟩ := h
  exact ⟨n9, vw_X3_findReached_L2 n9 h⟩
set_option maxRecDepth 100000 in
theorem vpX3_findReached {S : MS} {uo : MS} {P : MS → Prop} (h : vX3_findReached S uo) (w : wX3_findReached S P) : P uo := by
  unfold vX3_findReached at h
  unfold wX3_findReached at w
  obtain ⟨n9, h⟩ := h
  obtain ⟨n8, w⟩ := w
  exact vp_X3_findReached_L2 n9 n8 h w
def v_X3_narrow_J95 (ro : Int32) (uo : MS) (k5 : MS → Int32 → Int32 → Int32 → Int32 → Prop) (U95 : MS) (t95_0 : Int32) (t95_1 : Int32) (v95_1 : Int32) (v95_2 : Int32) (v95_4 : Int32) (v95_7 : Int64) : Prop := (wfC U95 ∧ (t95_0 = 0 ∨ t95_0 = 1) ∧ (∃ a24 : Int32, a24 = (t95_1 ||| t95_0) ∧ (((0 : Int) ≤ ((v95_1 * (qI U95 52 10)) + v95_4).toInt ∧ ((v95_1 * (qI U95 52 10)) + v95_4).toInt < (qN U95 (qO U95 52 9) : Int)) ∧ (∃ S29 : MS, S29 = wJ U95 (qO U95 52 9) ((((v95_1 * (qI U95 52 10)) + v95_4).toInt).toNat) v95_7 ∧ qT U95 (qO U95 52 9) = 401 ∧ wfC S29 ∧ (∃ a30 : Int32, a30 = (v95_4 + Int32.ofInt 1) ∧ (k5 S29 v95_1 v95_2 a24 a30))))))
def v_X3_narrow_J33 (ro : Int32) (uo : MS) (k5 : MS → Int32 → Int32 → Int32 → Int32 → Prop) (U33 : MS) (t33_0 : Int64) (v33_1 : Int32) (v33_2 : Int32) (v33_3 : Int32) (v33_4 : Int32) : Prop := (wfC U33 ∧ (((0 : Int) ≤ ((v33_1 * (qI U33 52 10)) + v33_4).toInt ∧ ((v33_1 * (qI U33 52 10)) + v33_4).toInt < (qN U33 (qO U33 52 9) : Int)) ∧ (((0 : Int) ≤ ((v33_2 * (qI U33 52 10)) + v33_4).toInt ∧ ((v33_2 * (qI U33 52 10)) + v33_4).toInt < (qN U33 (qO U33 52 9) : Int)) ∧ (∃ a16 : Int64, a16 = ((qJ U33 (qO U33 52 9) ((((v33_1 * (qI U33 52 10)) + v33_4).toInt).toNat)) &&& ((qJ U33 (qO U33 52 9) ((((v33_2 * (qI U33 52 10)) + v33_4).toInt).toNat)) ||| t33_0)) ∧ (((0 : Int) ≤ ((v33_1 * (qI U33 52 10)) + v33_4).toInt ∧ ((v33_1 * (qI U33 52 10)) + v33_4).toInt < (qN U33 (qO U33 52 9) : Int)) ∧ (((lg_cmp a16 (qJ U33 (qO U33 52 9) ((((v33_1 * (qI U33 52 10)) + v33_4).toInt).toNat))).toInt = 0 ∧ (v_X3_narrow_J95 ro uo k5 U33 0 v33_3 v33_1 v33_2 v33_4 a16)) ∨ (¬ (lg_cmp a16 (qJ U33 (qO U33 52 9) ((((v33_1 * (qI U33 52 10)) + v33_4).toInt).toNat))).toInt = 0 ∧ (v_X3_narrow_J95 ro uo k5 U33 1 v33_3 v33_1 v33_2 v33_4 a16))))))))
def v_X3_narrow_L5 (ro : Int32) (uo : MS) : Nat → MS → Int32 → Int32 → Int32 → Int32 → Prop
  | 0, _, _, _, _, _ => False
  | n5 + 1, U5, v5_1, v5_2, v5_3, v5_4 => (wfC U5 ∧ (((qI U5 52 10).toInt ≤ v5_4.toInt ∧ ((v5_3 = 0 ∨ v5_3 = 1) ∧ (ro = v5_3 ∧ uo = U5))) ∨ (¬ (qI U5 52 10).toInt ≤ v5_4.toInt ∧ ((v5_4.toInt = (v5_1 >>> ((6 : Int32) &&& 31)).toInt ∧ (v_X3_narrow_J33 ro uo (v_X3_narrow_L5 ro uo n5) U5 ((1 : Int64) <<< ((v5_1 &&& (63 : Int32)).toInt64 &&& 63)) v5_1 v5_2 v5_3 v5_4)) ∨ (¬ v5_4.toInt = (v5_1 >>> ((6 : Int32) &&& 31)).toInt ∧ (v_X3_narrow_J33 ro uo (v_X3_narrow_L5 ro uo n5) U5 0 v5_1 v5_2 v5_3 v5_4))))))
def vX3_narrow (S : MS) (x1 : Int32) (x2 : Int32) (ro : Int32) (uo : MS) : Prop := (∃ n, v_X3_narrow_L5 ro uo n S x1 x2 0 0)
set_option maxRecDepth 100000 in
theorem ru_X3_narrow_J95 {ι : Type} {P Q : Int32 → MS → Prop} {k5 k5' : MS → Int32 → Int32 → Int32 → Int32 → Prop} {k5v : ι → Int32 → MS → MS → Int32 → Int32 → Int32 → Int32 → Prop} {U95 : MS} {t95_0 : Int32} {t95_1 : Int32} {v95_1 : Int32} {v95_2 : Int32} {v95_4 : Int32} {v95_7 : Int64} (i0 : ι) (hk5 : ∀ (u : MS) (z0 : Int32) (z1 : Int32) (z2 : Int32) (z3 : Int32), k5 u z0 z1 z2 z3 → (∀ (i : ι) (ro : Int32) (uo : MS), k5v i ro uo u z0 z1 z2 z3 → P ro uo) → k5' u z0 z1 z2 z3) (K : ∀ (i : ι) (ro : Int32) (uo : MS), v_X3_narrow_J95 ro uo (k5v i ro uo) U95 t95_0 t95_1 v95_1 v95_2 v95_4 v95_7 → P ro uo) (h : w_X3_narrow_J95 Q k5 U95 t95_0 t95_1 v95_1 v95_2 v95_4 v95_7) : w_X3_narrow_J95 (fun r u => Q r u ∧ P r u) k5' U95 t95_0 t95_1 v95_1 v95_2 v95_4 v95_7 := by
  unfold w_X3_narrow_J95 at h ⊢
  intro y1_ y2_
  replace h := h y1_ y2_
  replace K := fun i ro uo z => K i ro uo ⟨y1_, y2_, z⟩
  intro a24 ea24 
  replace h := h a24 ea24 
  replace K := fun i ro uo z => K i ro uo ⟨a24, ea24, z⟩
  obtain ⟨g3_, h⟩ := h
  refine ⟨g3_, ?_⟩
  replace K := fun i ro uo z => K i ro uo ⟨g3_, z⟩
  intro S29 eS29 y4_ y5_
  replace h := h S29 eS29 y4_ y5_
  replace K := fun i ro uo z => K i ro uo ⟨S29, eS29, y4_, y5_, z⟩
  intro a30 ea30 
  replace h := h a30 ea30 
  replace K := fun i ro uo z => K i ro uo ⟨a30, ea30, z⟩
  exact hk5 _ _ _ _ _ h K
set_option maxRecDepth 100000 in
theorem ru_X3_narrow_J33 {ι : Type} {P Q : Int32 → MS → Prop} {k5 k5' : MS → Int32 → Int32 → Int32 → Int32 → Prop} {k5v : ι → Int32 → MS → MS → Int32 → Int32 → Int32 → Int32 → Prop} {U33 : MS} {t33_0 : Int64} {v33_1 : Int32} {v33_2 : Int32} {v33_3 : Int32} {v33_4 : Int32} (i0 : ι) (hk5 : ∀ (u : MS) (z0 : Int32) (z1 : Int32) (z2 : Int32) (z3 : Int32), k5 u z0 z1 z2 z3 → (∀ (i : ι) (ro : Int32) (uo : MS), k5v i ro uo u z0 z1 z2 z3 → P ro uo) → k5' u z0 z1 z2 z3) (K : ∀ (i : ι) (ro : Int32) (uo : MS), v_X3_narrow_J33 ro uo (k5v i ro uo) U33 t33_0 v33_1 v33_2 v33_3 v33_4 → P ro uo) (h : w_X3_narrow_J33 Q k5 U33 t33_0 v33_1 v33_2 v33_3 v33_4) : w_X3_narrow_J33 (fun r u => Q r u ∧ P r u) k5' U33 t33_0 v33_1 v33_2 v33_3 v33_4 := by
  unfold w_X3_narrow_J33 at h ⊢
  intro y6_
  replace h := h y6_
  replace K := fun i ro uo z => K i ro uo ⟨y6_, z⟩
  obtain ⟨g7_, h⟩ := h
  refine ⟨g7_, ?_⟩
  replace K := fun i ro uo z => K i ro uo ⟨g7_, z⟩
  obtain ⟨g8_, h⟩ := h
  refine ⟨g8_, ?_⟩
  replace K := fun i ro uo z => K i ro uo ⟨g8_, z⟩
  intro a16 ea16 
  replace h := h a16 ea16 
  replace K := fun i ro uo z => K i ro uo ⟨a16, ea16, z⟩
  obtain ⟨g9_, h⟩ := h
  refine ⟨g9_, ?_⟩
  replace K := fun i ro uo z => K i ro uo ⟨g9_, z⟩
  refine ⟨fun c => ?_, fun c => ?_⟩
  · replace h := h.1 c
    replace K := fun i ro uo z => K i ro uo (Or.inl ⟨c, z⟩)
    exact ru_X3_narrow_J95 i0 hk5 K h
  · replace h := h.2 c
    replace K := fun i ro uo z => K i ro uo (Or.inr ⟨c, z⟩)
    exact ru_X3_narrow_J95 i0 hk5 K h
set_option maxRecDepth 100000 in
theorem ru_X3_narrow_L5 {ι : Type} {P Q : Int32 → MS → Prop} : ∀ (n : Nat) {U5 : MS} {v5_1 : Int32} {v5_2 : Int32} {v5_3 : Int32} {v5_4 : Int32} (i0 : ι), (∀ (i : ι) (ro : Int32) (uo : MS), (∃ n8, v_X3_narrow_L5 ro uo n8 U5 v5_1 v5_2 v5_3 v5_4) → P ro uo) → w_X3_narrow_L5 Q n U5 v5_1 v5_2 v5_3 v5_4 → w_X3_narrow_L5 (fun r u => Q r u ∧ P r u) n U5 v5_1 v5_2 v5_3 v5_4 := by
  intro n
  induction n with
  | zero => intro U5 v5_1 v5_2 v5_3 v5_4 i0 K h; unfold w_X3_narrow_L5 at h; exact h.elim
  | succ n ih =>
    intro U5 v5_1 v5_2 v5_3 v5_4 i0 K h
    unfold w_X3_narrow_L5 at h ⊢
    replace K := fun (i : ι × Nat) ro uo (z : v_X3_narrow_L5 ro uo (i.2 + 1) U5 v5_1 v5_2 v5_3 v5_4) => K i.1 ro uo ⟨i.2 + 1, z⟩
    have i00 := i0
    replace i0 : ι × Nat := (i0, 0)
    intro y10_
    replace h := h y10_
    replace K := fun i ro uo z => K i ro uo ⟨y10_, z⟩
    refine ⟨fun c => ?_, fun c => ?_⟩
    · replace h := h.1 c
      replace K := fun i ro uo z => K i ro uo (Or.inl ⟨c, z⟩)
      obtain ⟨g11_, h⟩ := h
      refine ⟨g11_, ?_⟩
      replace K := fun i ro uo z => K i ro uo ⟨g11_, z⟩
      exact ⟨h, K i0 _ _ ⟨rfl, rfl⟩⟩
    · replace h := h.2 c
      replace K := fun i ro uo z => K i ro uo (Or.inr ⟨c, z⟩)
      refine ⟨fun c => ?_, fun c => ?_⟩
      · replace h := h.1 c
        replace K := fun i ro uo z => K i ro uo (Or.inl ⟨c, z⟩)
        exact ru_X3_narrow_J33 i0 (fun _ _ _ _ _ h K => ih i00 (fun i ro uo ⟨n8, z⟩ => K (i, n8) ro uo z) h) K h
      · replace h := h.2 c
        replace K := fun i ro uo z => K i ro uo (Or.inr ⟨c, z⟩)
        exact ru_X3_narrow_J33 i0 (fun _ _ _ _ _ h K => ih i00 (fun i ro uo ⟨n8, z⟩ => K (i, n8) ro uo z) h) K h
set_option maxRecDepth 100000 in
theorem ruX3_narrow {S : MS} {x1 : Int32} {x2 : Int32} {Q : Int32 → MS → Prop} (h : wX3_narrow S x1 x2 Q) : wX3_narrow S x1 x2 (fun r u => Q r u ∧ vX3_narrow S x1 x2 r u) := by
  have i0 : Unit := ()
  have K : ∀ (i : Unit) (ro : Int32) (uo : MS), vX3_narrow S x1 x2 ro uo → vX3_narrow S x1 x2 ro uo := fun _ _ _ z => z
  unfold wX3_narrow at h ⊢
  obtain ⟨n9, h⟩ := h
  exact ⟨n9, ru_X3_narrow_L5 n9 i0 K h⟩
set_option maxRecDepth 100000 in
theorem vw_X3_narrow_J95 {ro : Int32} {uo : MS} {k5 k5v : MS → Int32 → Int32 → Int32 → Int32 → Prop} {U95 : MS} {t95_0 : Int32} {t95_1 : Int32} {v95_1 : Int32} {v95_2 : Int32} {v95_4 : Int32} {v95_7 : Int64} (hk5 : ∀ (u : MS) (z0 : Int32) (z1 : Int32) (z2 : Int32) (z3 : Int32), k5v u z0 z1 z2 z3 → k5 u z0 z1 z2 z3) (h : v_X3_narrow_J95 ro uo k5v U95 t95_0 t95_1 v95_1 v95_2 v95_4 v95_7) : w_X3_narrow_J95 (fun r u => r = ro ∧ u = uo) k5 U95 t95_0 t95_1 v95_1 v95_2 v95_4 v95_7 := by
  unfold v_X3_narrow_J95 at h
  unfold w_X3_narrow_J95
  intro _ _
  replace h := h.2.2
  obtain ⟨v9, e9, h⟩ := h
  intro x9 d9 
  have c9 : v9 = x9 := e9.trans d9.symm
  subst c9
  obtain ⟨g9, h⟩ := h
  refine ⟨g9, ?_⟩
  obtain ⟨v9, e9, h⟩ := h
  intro x9 d9 _ _
  have c9 : v9 = x9 := e9.trans d9.symm
  subst c9
  replace h := h.2.2
  obtain ⟨v9, e9, h⟩ := h
  intro x9 d9 
  have c9 : v9 = x9 := e9.trans d9.symm
  subst c9
  exact hk5 _ _ _ _ _ h
set_option maxRecDepth 100000 in
theorem vp_X3_narrow_J95 {ro : Int32} {uo : MS} {P : Int32 → MS → Prop} {k5 k5v : MS → Int32 → Int32 → Int32 → Int32 → Prop} {U95 : MS} {t95_0 : Int32} {t95_1 : Int32} {v95_1 : Int32} {v95_2 : Int32} {v95_4 : Int32} {v95_7 : Int64} (hk5 : ∀ (u : MS) (z0 : Int32) (z1 : Int32) (z2 : Int32) (z3 : Int32), k5v u z0 z1 z2 z3 → k5 u z0 z1 z2 z3 → P ro uo) (h : v_X3_narrow_J95 ro uo k5v U95 t95_0 t95_1 v95_1 v95_2 v95_4 v95_7) (w : w_X3_narrow_J95 P k5 U95 t95_0 t95_1 v95_1 v95_2 v95_4 v95_7) : P ro uo := by
  unfold v_X3_narrow_J95 at h
  unfold w_X3_narrow_J95 at w
  obtain ⟨y1_, y2_, h⟩ := h
  replace w := w y1_ y2_
  obtain ⟨v9, e9, h⟩ := h
  replace w := w v9 e9 
  replace h := h.2
  replace w := w.2
  obtain ⟨v9, e9, y3_, y4_, h⟩ := h
  replace w := w v9 e9 y3_ y4_
  obtain ⟨v9, e9, h⟩ := h
  replace w := w v9 e9 
  exact hk5 _ _ _ _ _ h w
set_option maxRecDepth 100000 in
theorem vw_X3_narrow_J33 {ro : Int32} {uo : MS} {k5 k5v : MS → Int32 → Int32 → Int32 → Int32 → Prop} {U33 : MS} {t33_0 : Int64} {v33_1 : Int32} {v33_2 : Int32} {v33_3 : Int32} {v33_4 : Int32} (hk5 : ∀ (u : MS) (z0 : Int32) (z1 : Int32) (z2 : Int32) (z3 : Int32), k5v u z0 z1 z2 z3 → k5 u z0 z1 z2 z3) (h : v_X3_narrow_J33 ro uo k5v U33 t33_0 v33_1 v33_2 v33_3 v33_4) : w_X3_narrow_J33 (fun r u => r = ro ∧ u = uo) k5 U33 t33_0 v33_1 v33_2 v33_3 v33_4 := by
  unfold v_X3_narrow_J33 at h
  unfold w_X3_narrow_J33
  intro _
  replace h := h.2
  obtain ⟨g9, h⟩ := h
  refine ⟨g9, ?_⟩
  obtain ⟨g9, h⟩ := h
  refine ⟨g9, ?_⟩
  obtain ⟨v9, e9, h⟩ := h
  intro x9 d9 
  have c9 : v9 = x9 := e9.trans d9.symm
  subst c9
  obtain ⟨g9, h⟩ := h
  refine ⟨g9, ?_⟩
  rcases h with ⟨c, h⟩ | ⟨c, h⟩
  · refine ⟨fun _ => ?_, fun c2 => absurd c c2⟩
    exact vw_X3_narrow_J95 hk5 h
  · refine ⟨fun c2 => absurd c2 c, fun _ => ?_⟩
    exact vw_X3_narrow_J95 hk5 h
set_option maxRecDepth 100000 in
theorem vp_X3_narrow_J33 {ro : Int32} {uo : MS} {P : Int32 → MS → Prop} {k5 k5v : MS → Int32 → Int32 → Int32 → Int32 → Prop} {U33 : MS} {t33_0 : Int64} {v33_1 : Int32} {v33_2 : Int32} {v33_3 : Int32} {v33_4 : Int32} (hk5 : ∀ (u : MS) (z0 : Int32) (z1 : Int32) (z2 : Int32) (z3 : Int32), k5v u z0 z1 z2 z3 → k5 u z0 z1 z2 z3 → P ro uo) (h : v_X3_narrow_J33 ro uo k5v U33 t33_0 v33_1 v33_2 v33_3 v33_4) (w : w_X3_narrow_J33 P k5 U33 t33_0 v33_1 v33_2 v33_3 v33_4) : P ro uo := by
  unfold v_X3_narrow_J33 at h
  unfold w_X3_narrow_J33 at w
  obtain ⟨y5_, h⟩ := h
  replace w := w y5_
  replace h := h.2
  replace w := w.2
  replace h := h.2
  replace w := w.2
  obtain ⟨v9, e9, h⟩ := h
  replace w := w v9 e9 
  replace h := h.2
  replace w := w.2
  rcases h with ⟨c, h⟩ | ⟨c, h⟩
  · replace w := w.1 c
    exact vp_X3_narrow_J95 hk5 h w
  · replace w := w.2 c
    exact vp_X3_narrow_J95 hk5 h w
set_option maxRecDepth 100000 in
theorem vw_X3_narrow_L5 {ro : Int32} {uo : MS} : ∀ (n : Nat) {U5 : MS} {v5_1 : Int32} {v5_2 : Int32} {v5_3 : Int32} {v5_4 : Int32}, v_X3_narrow_L5 ro uo n U5 v5_1 v5_2 v5_3 v5_4 → w_X3_narrow_L5 (fun r u => r = ro ∧ u = uo) n U5 v5_1 v5_2 v5_3 v5_4 := by
  intro n
  induction n with
  | zero => intro U5 v5_1 v5_2 v5_3 v5_4 h; unfold v_X3_narrow_L5 at h; exact h.elim
  | succ n ih =>
    intro U5 v5_1 v5_2 v5_3 v5_4 h
    unfold v_X3_narrow_L5 at h
    unfold w_X3_narrow_L5
    intro _
    replace h := h.2
    rcases h with ⟨c, h⟩ | ⟨c, h⟩
    · refine ⟨fun _ => ?_, fun c2 => absurd c c2⟩
      obtain ⟨g9, h⟩ := h
      refine ⟨g9, ?_⟩
      exact ⟨h.1.symm, h.2.symm⟩
    · refine ⟨fun c2 => absurd c2 c, fun _ => ?_⟩
      rcases h with ⟨c, h⟩ | ⟨c, h⟩
      · refine ⟨fun _ => ?_, fun c2 => absurd c c2⟩
        exact vw_X3_narrow_J33 (fun _ _ _ _ _ h => ih h) h
      · refine ⟨fun c2 => absurd c2 c, fun _ => ?_⟩
        exact vw_X3_narrow_J33 (fun _ _ _ _ _ h => ih h) h
set_option maxRecDepth 100000 in
theorem vp_X3_narrow_L5 {ro : Int32} {uo : MS} {P : Int32 → MS → Prop} : ∀ (n m : Nat) {U5 : MS} {v5_1 : Int32} {v5_2 : Int32} {v5_3 : Int32} {v5_4 : Int32}, v_X3_narrow_L5 ro uo n U5 v5_1 v5_2 v5_3 v5_4 → w_X3_narrow_L5 P m U5 v5_1 v5_2 v5_3 v5_4 → P ro uo := by
  intro n
  induction n with
  | zero => intro m U5 v5_1 v5_2 v5_3 v5_4 h; unfold v_X3_narrow_L5 at h; exact h.elim
  | succ n ih =>
    intro m U5 v5_1 v5_2 v5_3 v5_4 h w
    cases m with
    | zero => unfold w_X3_narrow_L5 at w; exact w.elim
    | succ m =>
      unfold v_X3_narrow_L5 at h
      unfold w_X3_narrow_L5 at w
      obtain ⟨y6_, h⟩ := h
      replace w := w y6_
      rcases h with ⟨c, h⟩ | ⟨c, h⟩
      · replace w := w.1 c
        replace h := h.2
        replace w := w.2
        rw [h.1, h.2]
        exact w
      · replace w := w.2 c
        rcases h with ⟨c, h⟩ | ⟨c, h⟩
        · replace w := w.1 c
          exact vp_X3_narrow_J33 (fun _ _ _ _ _ h w => ih m h w) h w
        · replace w := w.2 c
          exact vp_X3_narrow_J33 (fun _ _ _ _ _ h w => ih m h w) h w
set_option maxRecDepth 100000 in
theorem vwX3_narrow {S : MS} {x1 : Int32} {x2 : Int32} {ro : Int32} {uo : MS} (h : vX3_narrow S x1 x2 ro uo) : wX3_narrow S x1 x2 (fun r u => r = ro ∧ u = uo) := by
  unfold vX3_narrow at h
  unfold wX3_narrow
  obtain ⟨n9, h⟩ := h
  exact ⟨n9, vw_X3_narrow_L5 n9 h⟩
set_option maxRecDepth 100000 in
theorem vpX3_narrow {S : MS} {x1 : Int32} {x2 : Int32} {ro : Int32} {uo : MS} {P : Int32 → MS → Prop} (h : vX3_narrow S x1 x2 ro uo) (w : wX3_narrow S x1 x2 P) : P ro uo := by
  unfold vX3_narrow at h
  unfold wX3_narrow at w
  obtain ⟨n9, h⟩ := h
  obtain ⟨n8, w⟩ := w
  exact vp_X3_narrow_L5 n9 n8 h w
def v_X3_dominatorCount_L4 (ro : Int32) (uo : MS) : Nat → MS → Int32 → Int32 → Int32 → Prop
  | 0, _, _, _, _ => False
  | n4 + 1, U4, v4_1, v4_2, v4_3 => (wfC U4 ∧ (((qI U4 52 10).toInt ≤ v4_3.toInt ∧ (ro = v4_2 ∧ uo = U4)) ∨ (¬ (qI U4 52 10).toInt ≤ v4_3.toInt ∧ (((0 : Int) ≤ ((v4_1 * (qI U4 52 10)) + v4_3).toInt ∧ ((v4_1 * (qI U4 52 10)) + v4_3).toInt < (qN U4 (qO U4 52 9) : Int)) ∧ (d_J13_bitCount_95d88 U4 (qJ U4 (qO U4 52 9) ((((v4_1 * (qI U4 52 10)) + v4_3).toInt).toNat)) ∧ (∃ a11 : Int32, a11 = (v4_2 + (fJ13_bitCount_95d88 U4 (qJ U4 (qO U4 52 9) ((((v4_1 * (qI U4 52 10)) + v4_3).toInt).toNat)))) ∧ (∃ a12 : Int32, a12 = (v4_3 + Int32.ofInt 1) ∧ ((v_X3_dominatorCount_L4 ro uo n4) U4 v4_1 a11 a12))))))))
def vX3_dominatorCount (S : MS) (x1 : Int32) (ro : Int32) (uo : MS) : Prop := (∃ n, v_X3_dominatorCount_L4 ro uo n S x1 0 0)
set_option maxRecDepth 100000 in
theorem ru_X3_dominatorCount_L4 {ι : Type} {P Q : Int32 → MS → Prop} : ∀ (n : Nat) {U4 : MS} {v4_1 : Int32} {v4_2 : Int32} {v4_3 : Int32} (i0 : ι), (∀ (i : ι) (ro : Int32) (uo : MS), (∃ n8, v_X3_dominatorCount_L4 ro uo n8 U4 v4_1 v4_2 v4_3) → P ro uo) → w_X3_dominatorCount_L4 Q n U4 v4_1 v4_2 v4_3 → w_X3_dominatorCount_L4 (fun r u => Q r u ∧ P r u) n U4 v4_1 v4_2 v4_3 := by
  intro n
  induction n with
  | zero => intro U4 v4_1 v4_2 v4_3 i0 K h; unfold w_X3_dominatorCount_L4 at h; exact h.elim
  | succ n ih =>
    intro U4 v4_1 v4_2 v4_3 i0 K h
    unfold w_X3_dominatorCount_L4 at h ⊢
    replace K := fun (i : ι × Nat) ro uo (z : v_X3_dominatorCount_L4 ro uo (i.2 + 1) U4 v4_1 v4_2 v4_3) => K i.1 ro uo ⟨i.2 + 1, z⟩
    have i00 := i0
    replace i0 : ι × Nat := (i0, 0)
    intro y1_
    replace h := h y1_
    replace K := fun i ro uo z => K i ro uo ⟨y1_, z⟩
    refine ⟨fun c => ?_, fun c => ?_⟩
    · replace h := h.1 c
      replace K := fun i ro uo z => K i ro uo (Or.inl ⟨c, z⟩)
      exact ⟨h, K i0 _ _ ⟨rfl, rfl⟩⟩
    · replace h := h.2 c
      replace K := fun i ro uo z => K i ro uo (Or.inr ⟨c, z⟩)
      obtain ⟨g2_, h⟩ := h
      refine ⟨g2_, ?_⟩
      replace K := fun i ro uo z => K i ro uo ⟨g2_, z⟩
      obtain ⟨g3_, h⟩ := h
      refine ⟨g3_, ?_⟩
      replace K := fun i ro uo z => K i ro uo ⟨g3_, z⟩
      intro a11 ea11 
      replace h := h a11 ea11 
      replace K := fun i ro uo z => K i ro uo ⟨a11, ea11, z⟩
      intro a12 ea12 
      replace h := h a12 ea12 
      replace K := fun i ro uo z => K i ro uo ⟨a12, ea12, z⟩
      exact ih i00 (fun i ro uo ⟨n8, z⟩ => K (i, n8) ro uo z) h
set_option maxRecDepth 100000 in
theorem ruX3_dominatorCount {S : MS} {x1 : Int32} {Q : Int32 → MS → Prop} (h : wX3_dominatorCount S x1 Q) : wX3_dominatorCount S x1 (fun r u => Q r u ∧ vX3_dominatorCount S x1 r u) := by
  have i0 : Unit := ()
  have K : ∀ (i : Unit) (ro : Int32) (uo : MS), vX3_dominatorCount S x1 ro uo → vX3_dominatorCount S x1 ro uo := fun _ _ _ z => z
  unfold wX3_dominatorCount at h ⊢
  obtain ⟨n9, h⟩ := h
  exact ⟨n9, ru_X3_dominatorCount_L4 n9 i0 K h⟩
set_option maxRecDepth 100000 in
theorem vw_X3_dominatorCount_L4 {ro : Int32} {uo : MS} : ∀ (n : Nat) {U4 : MS} {v4_1 : Int32} {v4_2 : Int32} {v4_3 : Int32}, v_X3_dominatorCount_L4 ro uo n U4 v4_1 v4_2 v4_3 → w_X3_dominatorCount_L4 (fun r u => r = ro ∧ u = uo) n U4 v4_1 v4_2 v4_3 := by
  intro n
  induction n with
  | zero => intro U4 v4_1 v4_2 v4_3 h; unfold v_X3_dominatorCount_L4 at h; exact h.elim
  | succ n ih =>
    intro U4 v4_1 v4_2 v4_3 h
    unfold v_X3_dominatorCount_L4 at h
    unfold w_X3_dominatorCount_L4
    intro _
    replace h := h.2
    rcases h with ⟨c, h⟩ | ⟨c, h⟩
    · refine ⟨fun _ => ?_, fun c2 => absurd c c2⟩
      exact ⟨h.1.symm, h.2.symm⟩
    · refine ⟨fun c2 => absurd c2 c, fun _ => ?_⟩
      obtain ⟨g9, h⟩ := h
      refine ⟨g9, ?_⟩
      obtain ⟨g9, h⟩ := h
      refine ⟨g9, ?_⟩
      obtain ⟨v9, e9, h⟩ := h
      intro x9 d9 
      have c9 : v9 = x9 := e9.trans d9.symm
      subst c9
      obtain ⟨v9, e9, h⟩ := h
      intro x9 d9 
      have c9 : v9 = x9 := e9.trans d9.symm
      subst c9
      exact ih h
set_option maxRecDepth 100000 in
theorem vp_X3_dominatorCount_L4 {ro : Int32} {uo : MS} {P : Int32 → MS → Prop} : ∀ (n m : Nat) {U4 : MS} {v4_1 : Int32} {v4_2 : Int32} {v4_3 : Int32}, v_X3_dominatorCount_L4 ro uo n U4 v4_1 v4_2 v4_3 → w_X3_dominatorCount_L4 P m U4 v4_1 v4_2 v4_3 → P ro uo := by
  intro n
  induction n with
  | zero => intro m U4 v4_1 v4_2 v4_3 h; unfold v_X3_dominatorCount_L4 at h; exact h.elim
  | succ n ih =>
    intro m U4 v4_1 v4_2 v4_3 h w
    cases m with
    | zero => unfold w_X3_dominatorCount_L4 at w; exact w.elim
    | succ m =>
      unfold v_X3_dominatorCount_L4 at h
      unfold w_X3_dominatorCount_L4 at w
      obtain ⟨y1_, h⟩ := h
      replace w := w y1_
      rcases h with ⟨c, h⟩ | ⟨c, h⟩
      · replace w := w.1 c
        rw [h.1, h.2]
        exact w
      · replace w := w.2 c
        replace h := h.2
        replace w := w.2
        replace h := h.2
        replace w := w.2
        obtain ⟨v9, e9, h⟩ := h
        replace w := w v9 e9 
        obtain ⟨v9, e9, h⟩ := h
        replace w := w v9 e9 
        exact ih m h w
set_option maxRecDepth 100000 in
theorem vwX3_dominatorCount {S : MS} {x1 : Int32} {ro : Int32} {uo : MS} (h : vX3_dominatorCount S x1 ro uo) : wX3_dominatorCount S x1 (fun r u => r = ro ∧ u = uo) := by
  unfold vX3_dominatorCount at h
  unfold wX3_dominatorCount
  obtain ⟨n9, h⟩ := h
  exact ⟨n9, vw_X3_dominatorCount_L4 n9 h⟩
set_option maxRecDepth 100000 in
theorem vpX3_dominatorCount {S : MS} {x1 : Int32} {ro : Int32} {uo : MS} {P : Int32 → MS → Prop} (h : vX3_dominatorCount S x1 ro uo) (w : wX3_dominatorCount S x1 P) : P ro uo := by
  unfold vX3_dominatorCount at h
  unfold wX3_dominatorCount at w
  obtain ⟨n9, h⟩ := h
  obtain ⟨n8, w⟩ := w
  exact vp_X3_dominatorCount_L4 n9 n8 h w
def v_X3_nearestDominator_J43 (ro : Int32) (uo : MS) (k10 : MS → Int32 → Int32 → Int32 → Prop) (U43 : MS) (v43_1 : Int32) (v43_2 : Int32) (v43_3 : Int32) : Prop := (wfC U43 ∧ (∃ a8 : Int32, a8 = (v43_3 + Int32.ofInt 1) ∧ (k10 U43 v43_1 v43_2 a8)))
def v_X3_nearestDominator_L10 (ro : Int32) (uo : MS) : Nat → MS → Int32 → Int32 → Int32 → Prop
  | 0, _, _, _, _ => False
  | n10 + 1, U10, v10_1, v10_2, v10_3 => (wfC U10 ∧ (((qI U10 52 1).toInt ≤ v10_3.toInt ∧ (ro = (-1 : Int32) ∧ uo = U10)) ∨ (¬ (qI U10 52 1).toInt ≤ v10_3.toInt ∧ ((v10_3.toInt = v10_1.toInt ∧ (v_X3_nearestDominator_J43 ro uo (v_X3_nearestDominator_L10 ro uo n10) U10 v10_1 v10_2 v10_3)) ∨ (¬ v10_3.toInt = v10_1.toInt ∧ (d_X3_dominates U10 v10_3 v10_1 ∧ (((fX3_dominates U10 v10_3 v10_1).toInt = 0 ∧ (v_X3_nearestDominator_J43 ro uo (v_X3_nearestDominator_L10 ro uo n10) U10 v10_1 v10_2 v10_3)) ∨ (¬ (fX3_dominates U10 v10_3 v10_1).toInt = 0 ∧ (∃ (r15 : Int32) (S16 : MS), vX3_dominatorCount U10 v10_3 r15 S16 ∧ wfC S16 ∧ shy U10 S16 ∧ ((r15.toInt = v10_2.toInt ∧ (ro = v10_3 ∧ uo = S16)) ∨ (¬ r15.toInt = v10_2.toInt ∧ (v_X3_nearestDominator_J43 ro uo (v_X3_nearestDominator_L10 ro uo n10) S16 v10_1 v10_2 v10_3))))))))))))
def vX3_nearestDominator (S : MS) (x1 : Int32) (ro : Int32) (uo : MS) : Prop := (∃ (r2 : Int32) (S3 : MS), vX3_dominatorCount S x1 r2 S3 ∧ wfC S3 ∧ shy S S3 ∧ (∃ a6 : Int32, a6 = (r2 - (1 : Int32)) ∧ (∃ n, v_X3_nearestDominator_L10 ro uo n S3 x1 a6 0)))
set_option maxRecDepth 100000 in
theorem ru_X3_nearestDominator_J43 {ι : Type} {P Q : Int32 → MS → Prop} {k10 k10' : MS → Int32 → Int32 → Int32 → Prop} {k10v : ι → Int32 → MS → MS → Int32 → Int32 → Int32 → Prop} {U43 : MS} {v43_1 : Int32} {v43_2 : Int32} {v43_3 : Int32} (i0 : ι) (hk10 : ∀ (u : MS) (z0 : Int32) (z1 : Int32) (z2 : Int32), k10 u z0 z1 z2 → (∀ (i : ι) (ro : Int32) (uo : MS), k10v i ro uo u z0 z1 z2 → P ro uo) → k10' u z0 z1 z2) (K : ∀ (i : ι) (ro : Int32) (uo : MS), v_X3_nearestDominator_J43 ro uo (k10v i ro uo) U43 v43_1 v43_2 v43_3 → P ro uo) (h : w_X3_nearestDominator_J43 Q k10 U43 v43_1 v43_2 v43_3) : w_X3_nearestDominator_J43 (fun r u => Q r u ∧ P r u) k10' U43 v43_1 v43_2 v43_3 := by
  unfold w_X3_nearestDominator_J43 at h ⊢
  intro y1_
  replace h := h y1_
  replace K := fun i ro uo z => K i ro uo ⟨y1_, z⟩
  intro a8 ea8 
  replace h := h a8 ea8 
  replace K := fun i ro uo z => K i ro uo ⟨a8, ea8, z⟩
  exact hk10 _ _ _ _ h K
set_option maxRecDepth 100000 in
theorem ru_X3_nearestDominator_L10 {ι : Type} {P Q : Int32 → MS → Prop} : ∀ (n : Nat) {U10 : MS} {v10_1 : Int32} {v10_2 : Int32} {v10_3 : Int32} (i0 : ι), (∀ (i : ι) (ro : Int32) (uo : MS), (∃ n8, v_X3_nearestDominator_L10 ro uo n8 U10 v10_1 v10_2 v10_3) → P ro uo) → w_X3_nearestDominator_L10 Q n U10 v10_1 v10_2 v10_3 → w_X3_nearestDominator_L10 (fun r u => Q r u ∧ P r u) n U10 v10_1 v10_2 v10_3 := by
  intro n
  induction n with
  | zero => intro U10 v10_1 v10_2 v10_3 i0 K h; unfold w_X3_nearestDominator_L10 at h; exact h.elim
  | succ n ih =>
    intro U10 v10_1 v10_2 v10_3 i0 K h
    unfold w_X3_nearestDominator_L10 at h ⊢
    replace K := fun (i : ι × Nat) ro uo (z : v_X3_nearestDominator_L10 ro uo (i.2 + 1) U10 v10_1 v10_2 v10_3) => K i.1 ro uo ⟨i.2 + 1, z⟩
    have i00 := i0
    replace i0 : ι × Nat := (i0, 0)
    intro y2_
    replace h := h y2_
    replace K := fun i ro uo z => K i ro uo ⟨y2_, z⟩
    refine ⟨fun c => ?_, fun c => ?_⟩
    · replace h := h.1 c
      replace K := fun i ro uo z => K i ro uo (Or.inl ⟨c, z⟩)
      exact ⟨h, K i0 _ _ ⟨rfl, rfl⟩⟩
    · replace h := h.2 c
      replace K := fun i ro uo z => K i ro uo (Or.inr ⟨c, z⟩)
      refine ⟨fun c => ?_, fun c => ?_⟩
      · replace h := h.1 c
        replace K := fun i ro uo z => K i ro uo (Or.inl ⟨c, z⟩)
        exact ru_X3_nearestDominator_J43 i0 (fun _ _ _ _ h K => ih i00 (fun i ro uo ⟨n8, z⟩ => K (i, n8) ro uo z) h) K h
      · replace h := h.2 c
        replace K := fun i ro uo z => K i ro uo (Or.inr ⟨c, z⟩)
        obtain ⟨g3_, h⟩ := h
        refine ⟨g3_, ?_⟩
        replace K := fun i ro uo z => K i ro uo ⟨g3_, z⟩
        refine ⟨fun c => ?_, fun c => ?_⟩
        · replace h := h.1 c
          replace K := fun i ro uo z => K i ro uo (Or.inl ⟨c, z⟩)
          exact ru_X3_nearestDominator_J43 i0 (fun _ _ _ _ h K => ih i00 (fun i ro uo ⟨n8, z⟩ => K (i, n8) ro uo z) h) K h
        · replace h := h.2 c
          replace K := fun i ro uo z => K i ro uo (Or.inr ⟨c, z⟩)
          obtain ⟨Q9, h0, h⟩ := h
          refine ⟨_, ruX3_dominatorCount h0, ?_⟩
          intro r15 S16 q4_ y5_ y6_
          replace h := h r15 S16 q4_.1 y5_ y6_
          replace K := fun i ro uo z => K i ro uo ⟨r15, S16, q4_.2, y5_, y6_, z⟩
          refine ⟨fun c => ?_, fun c => ?_⟩
          · replace h := h.1 c
            replace K := fun i ro uo z => K i ro uo (Or.inl ⟨c, z⟩)
            exact ⟨h, K i0 _ _ ⟨rfl, rfl⟩⟩
          · replace h := h.2 c
            replace K := fun i ro uo z => K i ro uo (Or.inr ⟨c, z⟩)
            exact ru_X3_nearestDominator_J43 i0 (fun _ _ _ _ h K => ih i00 (fun i ro uo ⟨n8, z⟩ => K (i, n8) ro uo z) h) K h
set_option maxRecDepth 100000 in
theorem ruX3_nearestDominator {S : MS} {x1 : Int32} {Q : Int32 → MS → Prop} (h : wX3_nearestDominator S x1 Q) : wX3_nearestDominator S x1 (fun r u => Q r u ∧ vX3_nearestDominator S x1 r u) := by
  have i0 : Unit := ()
  have K : ∀ (i : Unit) (ro : Int32) (uo : MS), vX3_nearestDominator S x1 ro uo → vX3_nearestDominator S x1 ro uo := fun _ _ _ z => z
  unfold wX3_nearestDominator at h ⊢
  obtain ⟨Q9, h0, h⟩ := h
  refine ⟨_, ruX3_dominatorCount h0, ?_⟩
  intro r2 S3 q7_ y8_ y9_
  replace h := h r2 S3 q7_.1 y8_ y9_
  replace K := fun i ro uo z => K i ro uo ⟨r2, S3, q7_.2, y8_, y9_, z⟩
  intro a6 ea6 
  replace h := h a6 ea6 
  replace K := fun i ro uo z => K i ro uo ⟨a6, ea6, z⟩
  obtain ⟨n9, h⟩ := h
  exact ⟨n9, ru_X3_nearestDominator_L10 n9 i0 K h⟩
set_option maxRecDepth 100000 in
theorem vw_X3_nearestDominator_J43 {ro : Int32} {uo : MS} {k10 k10v : MS → Int32 → Int32 → Int32 → Prop} {U43 : MS} {v43_1 : Int32} {v43_2 : Int32} {v43_3 : Int32} (hk10 : ∀ (u : MS) (z0 : Int32) (z1 : Int32) (z2 : Int32), k10v u z0 z1 z2 → k10 u z0 z1 z2) (h : v_X3_nearestDominator_J43 ro uo k10v U43 v43_1 v43_2 v43_3) : w_X3_nearestDominator_J43 (fun r u => r = ro ∧ u = uo) k10 U43 v43_1 v43_2 v43_3 := by
  unfold v_X3_nearestDominator_J43 at h
  unfold w_X3_nearestDominator_J43
  intro _
  replace h := h.2
  obtain ⟨v9, e9, h⟩ := h
  intro x9 d9 
  have c9 : v9 = x9 := e9.trans d9.symm
  subst c9
  exact hk10 _ _ _ _ h
set_option maxRecDepth 100000 in
theorem vp_X3_nearestDominator_J43 {ro : Int32} {uo : MS} {P : Int32 → MS → Prop} {k10 k10v : MS → Int32 → Int32 → Int32 → Prop} {U43 : MS} {v43_1 : Int32} {v43_2 : Int32} {v43_3 : Int32} (hk10 : ∀ (u : MS) (z0 : Int32) (z1 : Int32) (z2 : Int32), k10v u z0 z1 z2 → k10 u z0 z1 z2 → P ro uo) (h : v_X3_nearestDominator_J43 ro uo k10v U43 v43_1 v43_2 v43_3) (w : w_X3_nearestDominator_J43 P k10 U43 v43_1 v43_2 v43_3) : P ro uo := by
  unfold v_X3_nearestDominator_J43 at h
  unfold w_X3_nearestDominator_J43 at w
  obtain ⟨y1_, h⟩ := h
  replace w := w y1_
  obtain ⟨v9, e9, h⟩ := h
  replace w := w v9 e9 
  exact hk10 _ _ _ _ h w
set_option maxRecDepth 100000 in
theorem vw_X3_nearestDominator_L10 {ro : Int32} {uo : MS} : ∀ (n : Nat) {U10 : MS} {v10_1 : Int32} {v10_2 : Int32} {v10_3 : Int32}, v_X3_nearestDominator_L10 ro uo n U10 v10_1 v10_2 v10_3 → w_X3_nearestDominator_L10 (fun r u => r = ro ∧ u = uo) n U10 v10_1 v10_2 v10_3 := by
  intro n
  induction n with
  | zero => intro U10 v10_1 v10_2 v10_3 h; unfold v_X3_nearestDominator_L10 at h; exact h.elim
  | succ n ih =>
    intro U10 v10_1 v10_2 v10_3 h
    unfold v_X3_nearestDominator_L10 at h
    unfold w_X3_nearestDominator_L10
    intro _
    replace h := h.2
    rcases h with ⟨c, h⟩ | ⟨c, h⟩
    · refine ⟨fun _ => ?_, fun c2 => absurd c c2⟩
      exact ⟨h.1.symm, h.2.symm⟩
    · refine ⟨fun c2 => absurd c2 c, fun _ => ?_⟩
      rcases h with ⟨c, h⟩ | ⟨c, h⟩
      · refine ⟨fun _ => ?_, fun c2 => absurd c c2⟩
        exact vw_X3_nearestDominator_J43 (fun _ _ _ _ h => ih h) h
      · refine ⟨fun c2 => absurd c2 c, fun _ => ?_⟩
        obtain ⟨g9, h⟩ := h
        refine ⟨g9, ?_⟩
        rcases h with ⟨c, h⟩ | ⟨c, h⟩
        · refine ⟨fun _ => ?_, fun c2 => absurd c c2⟩
          exact vw_X3_nearestDominator_J43 (fun _ _ _ _ h => ih h) h
        · refine ⟨fun c2 => absurd c2 c, fun _ => ?_⟩
          obtain ⟨p9, q9, z9, h⟩ := h
          refine ⟨_, vwX3_dominatorCount z9, ?_⟩
          rintro p8 q8 ⟨d8, d9⟩ _ _
          subst d8
          subst d9
          replace h := h.2.2
          rcases h with ⟨c, h⟩ | ⟨c, h⟩
          · refine ⟨fun _ => ?_, fun c2 => absurd c c2⟩
            exact ⟨h.1.symm, h.2.symm⟩
          · refine ⟨fun c2 => absurd c2 c, fun _ => ?_⟩
            exact vw_X3_nearestDominator_J43 (fun _ _ _ _ h => ih h) h
set_option maxRecDepth 100000 in
theorem vp_X3_nearestDominator_L10 {ro : Int32} {uo : MS} {P : Int32 → MS → Prop} : ∀ (n m : Nat) {U10 : MS} {v10_1 : Int32} {v10_2 : Int32} {v10_3 : Int32}, v_X3_nearestDominator_L10 ro uo n U10 v10_1 v10_2 v10_3 → w_X3_nearestDominator_L10 P m U10 v10_1 v10_2 v10_3 → P ro uo := by
  intro n
  induction n with
  | zero => intro m U10 v10_1 v10_2 v10_3 h; unfold v_X3_nearestDominator_L10 at h; exact h.elim
  | succ n ih =>
    intro m U10 v10_1 v10_2 v10_3 h w
    cases m with
    | zero => unfold w_X3_nearestDominator_L10 at w; exact w.elim
    | succ m =>
      unfold v_X3_nearestDominator_L10 at h
      unfold w_X3_nearestDominator_L10 at w
      obtain ⟨y2_, h⟩ := h
      replace w := w y2_
      rcases h with ⟨c, h⟩ | ⟨c, h⟩
      · replace w := w.1 c
        rw [h.1, h.2]
        exact w
      · replace w := w.2 c
        rcases h with ⟨c, h⟩ | ⟨c, h⟩
        · replace w := w.1 c
          exact vp_X3_nearestDominator_J43 (fun _ _ _ _ h w => ih m h w) h w
        · replace w := w.2 c
          replace h := h.2
          replace w := w.2
          rcases h with ⟨c, h⟩ | ⟨c, h⟩
          · replace w := w.1 c
            exact vp_X3_nearestDominator_J43 (fun _ _ _ _ h w => ih m h w) h w
          · replace w := w.2 c
            obtain ⟨p9, q9, z9, y3_, y4_, h⟩ := h
            obtain ⟨Q9, w0, w⟩ := w
            replace w := w p9 q9 (vpX3_dominatorCount z9 w0) y3_ y4_
            rcases h with ⟨c, h⟩ | ⟨c, h⟩
            · replace w := w.1 c
              rw [h.1, h.2]
              exact w
            · replace w := w.2 c
              exact vp_X3_nearestDominator_J43 (fun _ _ _ _ h w => ih m h w) h w
set_option maxRecDepth 100000 in
theorem vwX3_nearestDominator {S : MS} {x1 : Int32} {ro : Int32} {uo : MS} (h : vX3_nearestDominator S x1 ro uo) : wX3_nearestDominator S x1 (fun r u => r = ro ∧ u = uo) := by
  unfold vX3_nearestDominator at h
  unfold wX3_nearestDominator
  obtain ⟨p9, q9, z9, h⟩ := h
  refine ⟨_, vwX3_dominatorCount z9, ?_⟩
  rintro p8 q8 ⟨d8, d9⟩ _ _
  subst d8
  subst d9
  replace h := h.2.2
  obtain ⟨v9, e9, h⟩ := h
  intro x9 d9 
  have c9 : v9 = x9 := e9.trans d9.symm
  subst c9
  obtain ⟨n9, h⟩ := h
  exact ⟨n9, vw_X3_nearestDominator_L10 n9 h⟩
set_option maxRecDepth 100000 in
theorem vpX3_nearestDominator {S : MS} {x1 : Int32} {ro : Int32} {uo : MS} {P : Int32 → MS → Prop} (h : vX3_nearestDominator S x1 ro uo) (w : wX3_nearestDominator S x1 P) : P ro uo := by
  unfold vX3_nearestDominator at h
  unfold wX3_nearestDominator at w
  obtain ⟨p9, q9, z9, y5_, y6_, h⟩ := h
  obtain ⟨Q9, w0, w⟩ := w
  replace w := w p9 q9 (vpX3_dominatorCount z9 w0) y5_ y6_
  obtain ⟨v9, e9, h⟩ := h
  replace w := w v9 e9 
  obtain ⟨n9, h⟩ := h
  obtain ⟨n8, w⟩ := w
  exact vp_X3_nearestDominator_L10 n9 n8 h w
def vX3_addToLoop (S : MS) (x1 : Int32) (x2 : Int32) (x3 : Int32) (ro : Int32) (uo : MS) : Prop := (((0 : Int) ≤ x2.toInt ∧ x2.toInt < (qN S (qO S 52 8) : Int)) ∧ (((qI S (qO S 52 8) x2.toInt.toNat).toInt = 0 ∧ (ro = x3 ∧ uo = S)) ∨ (¬ (qI S (qO S 52 8) x2.toInt.toNat).toInt = 0 ∧ (((0 : Int) ≤ x2.toInt ∧ x2.toInt < (qN S (qO S 52 14) : Int)) ∧ (((qI S (qO S 52 14) x2.toInt.toNat).toInt = x1.toInt ∧ (ro = x3 ∧ uo = S)) ∨ (¬ (qI S (qO S 52 14) x2.toInt.toNat).toInt = x1.toInt ∧ ((x3.toInt < (qN S (qO S 52 15) : Int) ∧ (((0 : Int) ≤ x2.toInt ∧ x2.toInt < (qN S (qO S 52 14) : Int)) ∧ (∃ S15 : MS, S15 = wI S (qO S 52 14) x2.toInt.toNat x1 ∧ qT S (qO S 52 14) = 211 ∧ wfC S15 ∧ (((0 : Int) ≤ x2.toInt ∧ x2.toInt < (qN S15 (qO S15 52 13) : Int)) ∧ (((0 : Int) ≤ x2.toInt ∧ x2.toInt < (qN S15 (qO S15 52 13) : Int)) ∧ (∃ S21 : MS, S21 = wI S15 (qO S15 52 13) x2.toInt.toNat ((qI S15 (qO S15 52 13) x2.toInt.toNat) + (1 : Int32)) ∧ qT S15 (qO S15 52 13) = 210 ∧ wfC S21 ∧ (((0 : Int) ≤ x3.toInt ∧ x3.toInt < (qN S21 (qO S21 52 15) : Int)) ∧ (∃ S24 : MS, S24 = wI S21 (qO S21 52 15) x3.toInt.toNat x2 ∧ qT S21 (qO S21 52 15) = 212 ∧ wfC S24 ∧ (ro = (x3 + (1 : Int32)) ∧ uo = S24))))))))) ∨ (¬ x3.toInt < (qN S (qO S 52 15) : Int) ∧ (ro = x3 ∧ uo = S)))))))))
set_option maxRecDepth 100000 in
theorem ruX3_addToLoop {S : MS} {x1 : Int32} {x2 : Int32} {x3 : Int32} {Q : Int32 → MS → Prop} (h : wX3_addToLoop S x1 x2 x3 Q) : wX3_addToLoop S x1 x2 x3 (fun r u => Q r u ∧ vX3_addToLoop S x1 x2 x3 r u) := by
  have i0 : Unit := ()
  have K : ∀ (i : Unit) (ro : Int32) (uo : MS), vX3_addToLoop S x1 x2 x3 ro uo → vX3_addToLoop S x1 x2 x3 ro uo := fun _ _ _ z => z
  unfold wX3_addToLoop at h ⊢
  obtain ⟨g1_, h⟩ := h
  refine ⟨g1_, ?_⟩
  replace K := fun i ro uo z => K i ro uo ⟨g1_, z⟩
  refine ⟨fun c => ?_, fun c => ?_⟩
  · replace h := h.1 c
    replace K := fun i ro uo z => K i ro uo (Or.inl ⟨c, z⟩)
    exact ⟨h, K i0 _ _ ⟨rfl, rfl⟩⟩
  · replace h := h.2 c
    replace K := fun i ro uo z => K i ro uo (Or.inr ⟨c, z⟩)
    obtain ⟨g2_, h⟩ := h
    refine ⟨g2_, ?_⟩
    replace K := fun i ro uo z => K i ro uo ⟨g2_, z⟩
    refine ⟨fun c => ?_, fun c => ?_⟩
    · replace h := h.1 c
      replace K := fun i ro uo z => K i ro uo (Or.inl ⟨c, z⟩)
      exact ⟨h, K i0 _ _ ⟨rfl, rfl⟩⟩
    · replace h := h.2 c
      replace K := fun i ro uo z => K i ro uo (Or.inr ⟨c, z⟩)
      refine ⟨fun c => ?_, fun c => ?_⟩
      · replace h := h.1 c
        replace K := fun i ro uo z => K i ro uo (Or.inl ⟨c, z⟩)
        obtain ⟨g3_, h⟩ := h
        refine ⟨g3_, ?_⟩
        replace K := fun i ro uo z => K i ro uo ⟨g3_, z⟩
        intro S15 eS15 y4_ y5_
        replace h := h S15 eS15 y4_ y5_
        replace K := fun i ro uo z => K i ro uo ⟨S15, eS15, y4_, y5_, z⟩
        obtain ⟨g6_, h⟩ := h
        refine ⟨g6_, ?_⟩
        replace K := fun i ro uo z => K i ro uo ⟨g6_, z⟩
        obtain ⟨g7_, h⟩ := h
        refine ⟨g7_, ?_⟩
        replace K := fun i ro uo z => K i ro uo ⟨g7_, z⟩
        intro S21 eS21 y8_ y9_
        replace h := h S21 eS21 y8_ y9_
        replace K := fun i ro uo z => K i ro uo ⟨S21, eS21, y8_, y9_, z⟩
        obtain ⟨g10_, h⟩ := h
        refine ⟨g10_, ?_⟩
        replace K := fun i ro uo z => K i ro uo ⟨g10_, z⟩
        intro S24 eS24 y11_ y12_
        replace h := h S24 eS24 y11_ y12_
        replace K := fun i ro uo z => K i ro uo ⟨S24, eS24, y11_, y12_, z⟩
        exact ⟨h, K i0 _ _ ⟨rfl, rfl⟩⟩
      · replace h := h.2 c
        replace K := fun i ro uo z => K i ro uo (Or.inr ⟨c, z⟩)
        exact ⟨h, K i0 _ _ ⟨rfl, rfl⟩⟩
set_option maxRecDepth 100000 in
theorem vwX3_addToLoop {S : MS} {x1 : Int32} {x2 : Int32} {x3 : Int32} {ro : Int32} {uo : MS} (h : vX3_addToLoop S x1 x2 x3 ro uo) : wX3_addToLoop S x1 x2 x3 (fun r u => r = ro ∧ u = uo) := by
  unfold vX3_addToLoop at h
  unfold wX3_addToLoop
  obtain ⟨g9, h⟩ := h
  refine ⟨g9, ?_⟩
  rcases h with ⟨c, h⟩ | ⟨c, h⟩
  · refine ⟨fun _ => ?_, fun c2 => absurd c c2⟩
    exact ⟨h.1.symm, h.2.symm⟩
  · refine ⟨fun c2 => absurd c2 c, fun _ => ?_⟩
    obtain ⟨g9, h⟩ := h
    refine ⟨g9, ?_⟩
    rcases h with ⟨c, h⟩ | ⟨c, h⟩
    · refine ⟨fun _ => ?_, fun c2 => absurd c c2⟩
      exact ⟨h.1.symm, h.2.symm⟩
    · refine ⟨fun c2 => absurd c2 c, fun _ => ?_⟩
      rcases h with ⟨c, h⟩ | ⟨c, h⟩
      · refine ⟨fun _ => ?_, fun c2 => absurd c c2⟩
        obtain ⟨g9, h⟩ := h
        refine ⟨g9, ?_⟩
        obtain ⟨v9, e9, h⟩ := h
        intro x9 d9 _ _
        have c9 : v9 = x9 := e9.trans d9.symm
        subst c9
        replace h := h.2.2
        obtain ⟨g9, h⟩ := h
        refine ⟨g9, ?_⟩
        obtain ⟨g9, h⟩ := h
        refine ⟨g9, ?_⟩
        obtain ⟨v9, e9, h⟩ := h
        intro x9 d9 _ _
        have c9 : v9 = x9 := e9.trans d9.symm
        subst c9
        replace h := h.2.2
        obtain ⟨g9, h⟩ := h
        refine ⟨g9, ?_⟩
        obtain ⟨v9, e9, h⟩ := h
        intro x9 d9 _ _
        have c9 : v9 = x9 := e9.trans d9.symm
        subst c9
        replace h := h.2.2
        exact ⟨h.1.symm, h.2.symm⟩
      · refine ⟨fun c2 => absurd c2 c, fun _ => ?_⟩
        exact ⟨h.1.symm, h.2.symm⟩
set_option maxRecDepth 100000 in
theorem vpX3_addToLoop {S : MS} {x1 : Int32} {x2 : Int32} {x3 : Int32} {ro : Int32} {uo : MS} {P : Int32 → MS → Prop} (h : vX3_addToLoop S x1 x2 x3 ro uo) (w : wX3_addToLoop S x1 x2 x3 P) : P ro uo := by
  unfold vX3_addToLoop at h
  unfold wX3_addToLoop at w
  replace h := h.2
  replace w := w.2
  rcases h with ⟨c, h⟩ | ⟨c, h⟩
  · replace w := w.1 c
    rw [h.1, h.2]
    exact w
  · replace w := w.2 c
    replace h := h.2
    replace w := w.2
    rcases h with ⟨c, h⟩ | ⟨c, h⟩
    · replace w := w.1 c
      rw [h.1, h.2]
      exact w
    · replace w := w.2 c
      rcases h with ⟨c, h⟩ | ⟨c, h⟩
      · replace w := w.1 c
        replace h := h.2
        replace w := w.2
        obtain ⟨v9, e9, y1_, y2_, h⟩ := h
        replace w := w v9 e9 y1_ y2_
        replace h := h.2
        replace w := w.2
        replace h := h.2
        replace w := w.2
        obtain ⟨v9, e9, y3_, y4_, h⟩ := h
        replace w := w v9 e9 y3_ y4_
        replace h := h.2
        replace w := w.2
        obtain ⟨v9, e9, y5_, y6_, h⟩ := h
        replace w := w v9 e9 y5_ y6_
        rw [h.1, h.2]
        exact w
      · replace w := w.2 c
        rw [h.1, h.2]
        exact w
def v_X4_makeRoom_L54 (uo : MS) : Nat → MS → Nat → Int32 → Prop
  | 0, _, _, _ => False
  | n54 + 1, U54, v54_0, v54_2 => (wfC U54 ∧ qT U54 v54_0 = 44 ∧ ((qR U54 v54_0 2 = some (qO U54 v54_0 2)) ∧ (((qN U54 (qO U54 v54_0 2) : Int) ≤ v54_2.toInt ∧ (uo = U54)) ∨ (¬ (qN U54 (qO U54 v54_0 2) : Int) ≤ v54_2.toInt ∧ ((qR U54 v54_0 2 = some (qO U54 v54_0 2)) ∧ (((0 : Int) ≤ v54_2.toInt ∧ v54_2.toInt < (qN U54 (qO U54 v54_0 2) : Int)) ∧ (∃ S21 : MS, S21 = wI U54 (qO U54 v54_0 2) v54_2.toInt.toNat (vp_nar .boolean (0 : Int32)) ∧ qT U54 (qO U54 v54_0 2) = 304 ∧ wfC S21 ∧ (∃ a22 : Int32, a22 = (v54_2 + Int32.ofInt 1) ∧ ((v_X4_makeRoom_L54 uo n54) S21 v54_0 a22)))))))))
def v_X4_makeRoom_J36 (uo : MS) (U36 : MS) (v36_0 : Nat) : Prop := (wfC U36 ∧ qT U36 v36_0 = 44 ∧ ((qR U36 v36_0 0 = some (qO U36 v36_0 0)) ∧ (qT U36 (qO U36 v36_0 0) = 213 ∧ (∃ (S7 : MS), vJ7_fill_53178 U36 (qO U36 v36_0 0) (0 : Int32) S7 ∧ wfC S7 ∧ shy U36 S7 ∧ ((qR S7 v36_0 1 = some (qO S7 v36_0 1)) ∧ (qT S7 (qO S7 v36_0 1) = 214 ∧ (∃ (S12 : MS), vJ7_fill_53178 S7 (qO S7 v36_0 1) (0 : Int32) S12 ∧ wfC S12 ∧ shy S7 S12 ∧ (∃ n, v_X4_makeRoom_L54 uo n S12 v36_0 0))))))))
def vX4_makeRoom (S : MS) (p0 : Nat) (x1 : Int32) (uo : MS) : Prop := ((qR S p0 0 = some (qO S p0 0)) ∧ ((x1.toInt ≤ (qN S (qO S p0 0) : Int) ∧ (v_X4_makeRoom_J36 uo S p0)) ∨ (¬ x1.toInt ≤ (qN S (qO S p0 0) : Int) ∧ (((0 : Int) ≤ ((2 : Int32) * x1).toInt ∧ (qn S + 1 ≤ KCC ∧ qu S + ((2 : Int32) * x1).toInt.toNat ≤ KSC)) ∧ (∃ S28 : MS, S28 = wN S 213 (((2 : Int32) * x1).toInt.toNat) (((2 : Int32) * x1).toInt.toNat) ∧ wfC S28 ∧ (∃ S30 : MS, S30 = wR S28 p0 0 (some (qn S)) ∧ qT S28 p0 = 44 ∧ wfC S30 ∧ (((0 : Int) ≤ ((2 : Int32) * x1).toInt ∧ (qn S30 + 1 ≤ KCC ∧ qu S30 + ((2 : Int32) * x1).toInt.toNat ≤ KSC)) ∧ (∃ S35 : MS, S35 = wN S30 214 (((2 : Int32) * x1).toInt.toNat) (((2 : Int32) * x1).toInt.toNat) ∧ wfC S35 ∧ (∃ S37 : MS, S37 = wR S35 p0 1 (some (qn S30)) ∧ qT S35 p0 = 44 ∧ wfC S37 ∧ (((0 : Int) ≤ ((2 : Int32) * x1).toInt ∧ (qn S37 + 1 ≤ KCC ∧ qu S37 + ((2 : Int32) * x1).toInt.toNat ≤ KSC)) ∧ (∃ S42 : MS, S42 = wN S37 304 (((2 : Int32) * x1).toInt.toNat) (((2 : Int32) * x1).toInt.toNat) ∧ wfC S42 ∧ (∃ S44 : MS, S44 = wR S42 p0 2 (some (qn S37)) ∧ qT S42 p0 = 44 ∧ wfC S44 ∧ (v_X4_makeRoom_J36 uo S44 p0)))))))))))))
set_option maxRecDepth 100000 in
theorem ru_X4_makeRoom_L54 {ι : Type} {P Q : MS → Prop} : ∀ (n : Nat) {U54 : MS} {v54_0 : Nat} {v54_2 : Int32} (i0 : ι), (∀ (i : ι) (uo : MS), (∃ n8, v_X4_makeRoom_L54 uo n8 U54 v54_0 v54_2) → P uo) → w_X4_makeRoom_L54 Q n U54 v54_0 v54_2 → w_X4_makeRoom_L54 (fun u => Q u ∧ P u) n U54 v54_0 v54_2 := by
  intro n
  induction n with
  | zero => intro U54 v54_0 v54_2 i0 K h; unfold w_X4_makeRoom_L54 at h; exact h.elim
  | succ n ih =>
    intro U54 v54_0 v54_2 i0 K h
    unfold w_X4_makeRoom_L54 at h ⊢
    replace K := fun (i : ι × Nat) uo (z : v_X4_makeRoom_L54 uo (i.2 + 1) U54 v54_0 v54_2) => K i.1 uo ⟨i.2 + 1, z⟩
    have i00 := i0
    replace i0 : ι × Nat := (i0, 0)
    intro y1_ y2_
    replace h := h y1_ y2_
    replace K := fun i uo z => K i uo ⟨y1_, y2_, z⟩
    obtain ⟨g3_, h⟩ := h
    refine ⟨g3_, ?_⟩
    replace K := fun i uo z => K i uo ⟨g3_, z⟩
    refine ⟨fun c => ?_, fun c => ?_⟩
    · replace h := h.1 c
      replace K := fun i uo z => K i uo (Or.inl ⟨c, z⟩)
      exact ⟨h, K i0 _ rfl⟩
    · replace h := h.2 c
      replace K := fun i uo z => K i uo (Or.inr ⟨c, z⟩)
      obtain ⟨g4_, h⟩ := h
      refine ⟨g4_, ?_⟩
      replace K := fun i uo z => K i uo ⟨g4_, z⟩
      obtain ⟨g5_, h⟩ := h
      refine ⟨g5_, ?_⟩
      replace K := fun i uo z => K i uo ⟨g5_, z⟩
      intro S21 eS21 y6_ y7_
      replace h := h S21 eS21 y6_ y7_
      replace K := fun i uo z => K i uo ⟨S21, eS21, y6_, y7_, z⟩
      intro a22 ea22 
      replace h := h a22 ea22 
      replace K := fun i uo z => K i uo ⟨a22, ea22, z⟩
      exact ih i00 (fun i uo ⟨n8, z⟩ => K (i, n8) uo z) h
set_option maxRecDepth 100000 in
theorem ru_X4_makeRoom_J36 {ι : Type} {P Q : MS → Prop} {U36 : MS} {v36_0 : Nat} (i0 : ι) (K : ∀ (i : ι) (uo : MS), v_X4_makeRoom_J36 uo U36 v36_0 → P uo) (h : w_X4_makeRoom_J36 Q U36 v36_0) : w_X4_makeRoom_J36 (fun u => Q u ∧ P u) U36 v36_0 := by
  unfold w_X4_makeRoom_J36 at h ⊢
  intro y8_ y9_
  replace h := h y8_ y9_
  replace K := fun i uo z => K i uo ⟨y8_, y9_, z⟩
  obtain ⟨g10_, h⟩ := h
  refine ⟨g10_, ?_⟩
  replace K := fun i uo z => K i uo ⟨g10_, z⟩
  intro y11_
  replace h := h y11_
  replace K := fun i uo z => K i uo ⟨y11_, z⟩
  obtain ⟨Q9, h0, h⟩ := h
  refine ⟨_, ruJ7_fill_53178 h0, ?_⟩
  intro S7 q12_ y13_ y14_
  replace h := h S7 q12_.1 y13_ y14_
  replace K := fun i uo z => K i uo ⟨S7, q12_.2, y13_, y14_, z⟩
  obtain ⟨g15_, h⟩ := h
  refine ⟨g15_, ?_⟩
  replace K := fun i uo z => K i uo ⟨g15_, z⟩
  intro y16_
  replace h := h y16_
  replace K := fun i uo z => K i uo ⟨y16_, z⟩
  obtain ⟨Q9, h0, h⟩ := h
  refine ⟨_, ruJ7_fill_53178 h0, ?_⟩
  intro S12 q17_ y18_ y19_
  replace h := h S12 q17_.1 y18_ y19_
  replace K := fun i uo z => K i uo ⟨S12, q17_.2, y18_, y19_, z⟩
  obtain ⟨n9, h⟩ := h
  exact ⟨n9, ru_X4_makeRoom_L54 n9 i0 K h⟩
set_option maxRecDepth 100000 in
theorem ruX4_makeRoom {S : MS} {p0 : Nat} {x1 : Int32} {Q : MS → Prop} (h : wX4_makeRoom S p0 x1 Q) : wX4_makeRoom S p0 x1 (fun u => Q u ∧ vX4_makeRoom S p0 x1 u) := by
  have i0 : Unit := ()
  have K : ∀ (i : Unit) (uo : MS), vX4_makeRoom S p0 x1 uo → vX4_makeRoom S p0 x1 uo := fun _ _ z => z
  unfold wX4_makeRoom at h ⊢
  obtain ⟨g20_, h⟩ := h
  refine ⟨g20_, ?_⟩
  replace K := fun i uo z => K i uo ⟨g20_, z⟩
  refine ⟨fun c => ?_, fun c => ?_⟩
  · replace h := h.1 c
    replace K := fun i uo z => K i uo (Or.inl ⟨c, z⟩)
    exact ru_X4_makeRoom_J36 i0 K h
  · replace h := h.2 c
    replace K := fun i uo z => K i uo (Or.inr ⟨c, z⟩)
    obtain ⟨g21_, h⟩ := h
    refine ⟨g21_, ?_⟩
    replace K := fun i uo z => K i uo ⟨g21_, z⟩
    intro S28 eS28 y22_
    replace h := h S28 eS28 y22_
    replace K := fun i uo z => K i uo ⟨S28, eS28, y22_, z⟩
    intro S30 eS30 y23_ y24_
    replace h := h S30 eS30 y23_ y24_
    replace K := fun i uo z => K i uo ⟨S30, eS30, y23_, y24_, z⟩
    obtain ⟨g25_, h⟩ := h
    refine ⟨g25_, ?_⟩
    replace K := fun i uo z => K i uo ⟨g25_, z⟩
    intro S35 eS35 y26_
    replace h := h S35 eS35 y26_
    replace K := fun i uo z => K i uo ⟨S35, eS35, y26_, z⟩
    intro S37 eS37 y27_ y28_
    replace h := h S37 eS37 y27_ y28_
    replace K := fun i uo z => K i uo ⟨S37, eS37, y27_, y28_, z⟩
    obtain ⟨g29_, h⟩ := h
    refine ⟨g29_, ?_⟩
    replace K := fun i uo z => K i uo ⟨g29_, z⟩
    intro S42 eS42 y30_
    replace h := h S42 eS42 y30_
    replace K := fun i uo z => K i uo ⟨S42, eS42, y30_, z⟩
    intro S44 eS44 y31_ y32_
    replace h := h S44 eS44 y31_ y32_
    replace K := fun i uo z => K i uo ⟨S44, eS44, y31_, y32_, z⟩
    exact ru_X4_makeRoom_J36 i0 K h
set_option maxRecDepth 100000 in
theorem vw_X4_makeRoom_L54 {uo : MS} : ∀ (n : Nat) {U54 : MS} {v54_0 : Nat} {v54_2 : Int32}, v_X4_makeRoom_L54 uo n U54 v54_0 v54_2 → w_X4_makeRoom_L54 (fun u => u = uo) n U54 v54_0 v54_2 := by
  intro n
  induction n with
  | zero => intro U54 v54_0 v54_2 h; unfold v_X4_makeRoom_L54 at h; exact h.elim
  | succ n ih =>
    intro U54 v54_0 v54_2 h
    unfold v_X4_makeRoom_L54 at h
    unfold w_X4_makeRoom_L54
    intro _ _
    replace h := h.2.2
    obtain ⟨g9, h⟩ := h
    refine ⟨g9, ?_⟩
    rcases h with ⟨c, h⟩ | ⟨c, h⟩
    · refine ⟨fun _ => ?_, fun c2 => absurd c c2⟩
      exact h.symm
    · refine ⟨fun c2 => absurd c2 c, fun _ => ?_⟩
      obtain ⟨g9, h⟩ := h
      refine ⟨g9, ?_⟩
      obtain ⟨g9, h⟩ := h
      refine ⟨g9, ?_⟩
      obtain ⟨v9, e9, h⟩ := h
      intro x9 d9 _ _
      have c9 : v9 = x9 := e9.trans d9.symm
      subst c9
      replace h := h.2.2
      obtain ⟨v9, e9, h⟩ := h
      intro x9 d9 
      have c9 : v9 = x9 := e9.trans d9.symm
      subst c9
      exact ih h
set_option maxRecDepth 100000 in
theorem vp_X4_makeRoom_L54 {uo : MS} {P : MS → Prop} : ∀ (n m : Nat) {U54 : MS} {v54_0 : Nat} {v54_2 : Int32}, v_X4_makeRoom_L54 uo n U54 v54_0 v54_2 → w_X4_makeRoom_L54 P m U54 v54_0 v54_2 → P uo := by
  intro n
  induction n with
  | zero => intro m U54 v54_0 v54_2 h; unfold v_X4_makeRoom_L54 at h; exact h.elim
  | succ n ih =>
    intro m U54 v54_0 v54_2 h w
    cases m with
    | zero => unfold w_X4_makeRoom_L54 at w; exact w.elim
    | succ m =>
      unfold v_X4_makeRoom_L54 at h
      unfold w_X4_makeRoom_L54 at w
      obtain ⟨y1_, y2_, h⟩ := h
      replace w := w y1_ y2_
      replace h := h.2
      replace w := w.2
      rcases h with ⟨c, h⟩ | ⟨c, h⟩
      · replace w := w.1 c
        rw [h]
        exact w
      · replace w := w.2 c
        replace h := h.2
        replace w := w.2
        replace h := h.2
        replace w := w.2
        obtain ⟨v9, e9, y3_, y4_, h⟩ := h
        replace w := w v9 e9 y3_ y4_
        obtain ⟨v9, e9, h⟩ := h
        replace w := w v9 e9 
        exact ih m h w
set_option maxRecDepth 100000 in
theorem vw_X4_makeRoom_J36 {uo : MS} {U36 : MS} {v36_0 : Nat} (h : v_X4_makeRoom_J36 uo U36 v36_0) : w_X4_makeRoom_J36 (fun u => u = uo) U36 v36_0 := by
  unfold v_X4_makeRoom_J36 at h
  unfold w_X4_makeRoom_J36
  intro _ _
  replace h := h.2.2
  obtain ⟨g9, h⟩ := h
  refine ⟨g9, ?_⟩
  intro _
  replace h := h.2
  obtain ⟨q9, z9, h⟩ := h
  refine ⟨_, vwJ7_fill_53178 z9, ?_⟩
  intro q8 d9 _ _
  subst d9
  replace h := h.2.2
  obtain ⟨g9, h⟩ := h
  refine ⟨g9, ?_⟩
  intro _
  replace h := h.2
  obtain ⟨q9, z9, h⟩ := h
  refine ⟨_, vwJ7_fill_53178 z9, ?_⟩
  intro q8 d9 _ _
  subst d9
  replace h := h.2.2
  obtain ⟨n9, h⟩ := h
  exact ⟨n9, vw_X4_makeRoom_L54 n9 h⟩
set_option maxRecDepth 100000 in
theorem vp_X4_makeRoom_J36 {uo : MS} {P : MS → Prop} {U36 : MS} {v36_0 : Nat} (h : v_X4_makeRoom_J36 uo U36 v36_0) (w : w_X4_makeRoom_J36 P U36 v36_0) : P uo := by
  unfold v_X4_makeRoom_J36 at h
  unfold w_X4_makeRoom_J36 at w
  obtain ⟨y5_, y6_, h⟩ := h
  replace w := w y5_ y6_
  replace h := h.2
  replace w := w.2
  obtain ⟨y7_, h⟩ := h
  replace w := w y7_
  obtain ⟨q9, z9, y8_, y9_, h⟩ := h
  obtain ⟨Q9, w0, w⟩ := w
  replace w := w q9 (vpJ7_fill_53178 z9 w0) y8_ y9_
  replace h := h.2
  replace w := w.2
  obtain ⟨y10_, h⟩ := h
  replace w := w y10_
  obtain ⟨q9, z9, y11_, y12_, h⟩ := h
  obtain ⟨Q9, w0, w⟩ := w
  replace w := w q9 (vpJ7_fill_53178 z9 w0) y11_ y12_
  obtain ⟨n9, h⟩ := h
  obtain ⟨n8, w⟩ := w
  exact vp_X4_makeRoom_L54 n9 n8 h w
set_option maxRecDepth 100000 in
theorem vwX4_makeRoom {S : MS} {p0 : Nat} {x1 : Int32} {uo : MS} (h : vX4_makeRoom S p0 x1 uo) : wX4_makeRoom S p0 x1 (fun u => u = uo) := by
  unfold vX4_makeRoom at h
  unfold wX4_makeRoom
  obtain ⟨g9, h⟩ := h
  refine ⟨g9, ?_⟩
  rcases h with ⟨c, h⟩ | ⟨c, h⟩
  · refine ⟨fun _ => ?_, fun c2 => absurd c c2⟩
    exact vw_X4_makeRoom_J36 h
  · refine ⟨fun c2 => absurd c2 c, fun _ => ?_⟩
    obtain ⟨g9, h⟩ := h
    refine ⟨g9, ?_⟩
    obtain ⟨v9, e9, h⟩ := h
    intro x9 d9 _
    have c9 : v9 = x9 := e9.trans d9.symm
    subst c9
    replace h := h.2
    obtain ⟨v9, e9, h⟩ := h
    intro x9 d9 _ _
    have c9 : v9 = x9 := e9.trans d9.symm
    subst c9
    replace h := h.2.2
    obtain ⟨g9, h⟩ := h
    refine ⟨g9, ?_⟩
    obtain ⟨v9, e9, h⟩ := h
    intro x9 d9 _
    have c9 : v9 = x9 := e9.trans d9.symm
    subst c9
    replace h := h.2
    obtain ⟨v9, e9, h⟩ := h
    intro x9 d9 _ _
    have c9 : v9 = x9 := e9.trans d9.symm
    subst c9
    replace h := h.2.2
    obtain ⟨g9, h⟩ := h
    refine ⟨g9, ?_⟩
    obtain ⟨v9, e9, h⟩ := h
    intro x9 d9 _
    have c9 : v9 = x9 := e9.trans d9.symm
    subst c9
    replace h := h.2
    obtain ⟨v9, e9, h⟩ := h
    intro x9 d9 _ _
    have c9 : v9 = x9 := e9.trans d9.symm
    subst c9
    replace h := h.2.2
    exact vw_X4_makeRoom_J36 h
set_option maxRecDepth 100000 in
theorem vpX4_makeRoom {S : MS} {p0 : Nat} {x1 : Int32} {uo : MS} {P : MS → Prop} (h : vX4_makeRoom S p0 x1 uo) (w : wX4_makeRoom S p0 x1 P) : P uo := by
  unfold vX4_makeRoom at h
  unfold wX4_makeRoom at w
  replace h := h.2
  replace w := w.2
  rcases h with ⟨c, h⟩ | ⟨c, h⟩
  · replace w := w.1 c
    exact vp_X4_makeRoom_J36 h w
  · replace w := w.2 c
    replace h := h.2
    replace w := w.2
    obtain ⟨v9, e9, y13_, h⟩ := h
    replace w := w v9 e9 y13_
    obtain ⟨v9, e9, y14_, y15_, h⟩ := h
    replace w := w v9 e9 y14_ y15_
    replace h := h.2
    replace w := w.2
    obtain ⟨v9, e9, y16_, h⟩ := h
    replace w := w v9 e9 y16_
    obtain ⟨v9, e9, y17_, y18_, h⟩ := h
    replace w := w v9 e9 y17_ y18_
    replace h := h.2
    replace w := w.2
    obtain ⟨v9, e9, y19_, h⟩ := h
    replace w := w v9 e9 y19_
    obtain ⟨v9, e9, y20_, y21_, h⟩ := h
    replace w := w v9 e9 y20_ y21_
    exact vp_X4_makeRoom_J36 h w
def vX4_comeTo (S : MS) (p0 : Nat) (x1 : Int32) (x2 : Int32) (uo : MS) : Prop := ((x1.toInt < 0 ∧ (uo = S)) ∨ (¬ x1.toInt < 0 ∧ ((qR S p0 4 = some (qO S p0 4)) ∧ (((qI S (qO S p0 4) 2).toInt ≤ x1.toInt ∧ (uo = S)) ∨ (¬ (qI S (qO S p0 4) 2).toInt ≤ x1.toInt ∧ ((qR S p0 0 = some (qO S p0 0)) ∧ (((qN S (qO S p0 0) : Int) ≤ x1.toInt ∧ (uo = S)) ∨ (¬ (qN S (qO S p0 0) : Int) ≤ x1.toInt ∧ ((x2.toInt < 0 ∧ (uo = S)) ∨ (¬ x2.toInt < 0 ∧ ((30 < x2.toInt ∧ (uo = S)) ∨ (¬ 30 < x2.toInt ∧ ((qR S p0 0 = some (qO S p0 0)) ∧ (((0 : Int) ≤ x1.toInt ∧ x1.toInt < (qN S (qO S p0 0) : Int)) ∧ (((((qI S (qO S p0 0) x1.toInt.toNat) >>> (x2 &&& 31)) &&& (1 : Int32)).toInt = 0 ∧ ((qR S p0 0 = some (qO S p0 0)) ∧ (((0 : Int) ≤ x1.toInt ∧ x1.toInt < (qN S (qO S p0 0) : Int)) ∧ (((0 : Int) ≤ x1.toInt ∧ x1.toInt < (qN S (qO S p0 0) : Int)) ∧ (∃ S25 : MS, S25 = wI S (qO S p0 0) x1.toInt.toNat ((qI S (qO S p0 0) x1.toInt.toNat) ||| ((1 : Int32) <<< (x2 &&& 31))) ∧ qT S (qO S p0 0) = 213 ∧ wfC S25 ∧ ((qR S25 p0 1 = some (qO S25 p0 1)) ∧ (((0 : Int) ≤ x1.toInt ∧ x1.toInt < (qN S25 (qO S25 p0 1) : Int)) ∧ (((0 : Int) ≤ x1.toInt ∧ x1.toInt < (qN S25 (qO S25 p0 1) : Int)) ∧ (∃ S33 : MS, S33 = wI S25 (qO S25 p0 1) x1.toInt.toNat ((qI S25 (qO S25 p0 1) x1.toInt.toNat) ||| ((1 : Int32) <<< (x2 &&& 31))) ∧ qT S25 (qO S25 p0 1) = 214 ∧ wfC S33 ∧ (∃ S34 : MS, S34 = wI S33 p0 6 (1 : Int32) ∧ qT S33 p0 = 44 ∧ wfC S34 ∧ (uo = S34))))))))))) ∨ (¬ (((qI S (qO S p0 0) x1.toInt.toNat) >>> (x2 &&& 31)) &&& (1 : Int32)).toInt = 0 ∧ (uo = S)))))))))))))))))
set_option maxRecDepth 100000 in
theorem ruX4_comeTo {S : MS} {p0 : Nat} {x1 : Int32} {x2 : Int32} {Q : MS → Prop} (h : wX4_comeTo S p0 x1 x2 Q) : wX4_comeTo S p0 x1 x2 (fun u => Q u ∧ vX4_comeTo S p0 x1 x2 u) := by
  have i0 : Unit := ()
  have K : ∀ (i : Unit) (uo : MS), vX4_comeTo S p0 x1 x2 uo → vX4_comeTo S p0 x1 x2 uo := fun _ _ z => z
  unfold wX4_comeTo at h ⊢
  refine ⟨fun c => ?_, fun c => ?_⟩
  · replace h := h.1 c
    replace K := fun i uo z => K i uo (Or.inl ⟨c, z⟩)
    exact ⟨h, K i0 _ rfl⟩
  · replace h := h.2 c
    replace K := fun i uo z => K i uo (Or.inr ⟨c, z⟩)
    obtain ⟨g1_, h⟩ := h
    refine ⟨g1_, ?_⟩
    replace K := fun i uo z => K i uo ⟨g1_, z⟩
    refine ⟨fun c => ?_, fun c => ?_⟩
    · replace h := h.1 c
      replace K := fun i uo z => K i uo (Or.inl ⟨c, z⟩)
      exact ⟨h, K i0 _ rfl⟩
    · replace h := h.2 c
      replace K := fun i uo z => K i uo (Or.inr ⟨c, z⟩)
      obtain ⟨g2_, h⟩ := h
      refine ⟨g2_, ?_⟩
      replace K := fun i uo z => K i uo ⟨g2_, z⟩
      refine ⟨fun c => ?_, fun c => ?_⟩
      · replace h := h.1 c
        replace K := fun i uo z => K i uo (Or.inl ⟨c, z⟩)
        exact ⟨h, K i0 _ rfl⟩
      · replace h := h.2 c
        replace K := fun i uo z => K i uo (Or.inr ⟨c, z⟩)
        refine ⟨fun c => ?_, fun c => ?_⟩
        · replace h := h.1 c
          replace K := fun i uo z => K i uo (Or.inl ⟨c, z⟩)
          exact ⟨h, K i0 _ rfl⟩
        · replace h := h.2 c
          replace K := fun i uo z => K i uo (Or.inr ⟨c, z⟩)
          refine ⟨fun c => ?_, fun c => ?_⟩
          · replace h := h.1 c
            replace K := fun i uo z => K i uo (Or.inl ⟨c, z⟩)
            exact ⟨h, K i0 _ rfl⟩
          · replace h := h.2 c
            replace K := fun i uo z => K i uo (Or.inr ⟨c, z⟩)
            obtain ⟨g3_, h⟩ := h
            refine ⟨g3_, ?_⟩
            replace K := fun i uo z => K i uo ⟨g3_, z⟩
            obtain ⟨g4_, h⟩ := h
            refine ⟨g4_, ?_⟩
            replace K := fun i uo z => K i uo ⟨g4_, z⟩
            refine ⟨fun c => ?_, fun c => ?_⟩
            · replace h := h.1 c
              replace K := fun i uo z => K i uo (Or.inl ⟨c, z⟩)
              obtain ⟨g5_, h⟩ := h
              refine ⟨g5_, ?_⟩
              replace K := fun i uo z => K i uo ⟨g5_, z⟩
              obtain ⟨g6_, h⟩ := h
              refine ⟨g6_, ?_⟩
              replace K := fun i uo z => K i uo ⟨g6_, z⟩
              obtain ⟨g7_, h⟩ := h
              refine ⟨g7_, ?_⟩
              replace K := fun i uo z => K i uo ⟨g7_, z⟩
              intro S25 eS25 y8_ y9_
              replace h := h S25 eS25 y8_ y9_
              replace K := fun i uo z => K i uo ⟨S25, eS25, y8_, y9_, z⟩
              obtain ⟨g10_, h⟩ := h
              refine ⟨g10_, ?_⟩
              replace K := fun i uo z => K i uo ⟨g10_, z⟩
              obtain ⟨g11_, h⟩ := h
              refine ⟨g11_, ?_⟩
              replace K := fun i uo z => K i uo ⟨g11_, z⟩
              obtain ⟨g12_, h⟩ := h
              refine ⟨g12_, ?_⟩
              replace K := fun i uo z => K i uo ⟨g12_, z⟩
              intro S33 eS33 y13_ y14_
              replace h := h S33 eS33 y13_ y14_
              replace K := fun i uo z => K i uo ⟨S33, eS33, y13_, y14_, z⟩
              intro S34 eS34 y15_ y16_
              replace h := h S34 eS34 y15_ y16_
              replace K := fun i uo z => K i uo ⟨S34, eS34, y15_, y16_, z⟩
              exact ⟨h, K i0 _ rfl⟩
            · replace h := h.2 c
              replace K := fun i uo z => K i uo (Or.inr ⟨c, z⟩)
              exact ⟨h, K i0 _ rfl⟩
set_option maxRecDepth 100000 in
theorem vwX4_comeTo {S : MS} {p0 : Nat} {x1 : Int32} {x2 : Int32} {uo : MS} (h : vX4_comeTo S p0 x1 x2 uo) : wX4_comeTo S p0 x1 x2 (fun u => u = uo) := by
  unfold vX4_comeTo at h
  unfold wX4_comeTo
  rcases h with ⟨c, h⟩ | ⟨c, h⟩
  · refine ⟨fun _ => ?_, fun c2 => absurd c c2⟩
    exact h.symm
  · refine ⟨fun c2 => absurd c2 c, fun _ => ?_⟩
    obtain ⟨g9, h⟩ := h
    refine ⟨g9, ?_⟩
    rcases h with ⟨c, h⟩ | ⟨c, h⟩
    · refine ⟨fun _ => ?_, fun c2 => absurd c c2⟩
      exact h.symm
    · refine ⟨fun c2 => absurd c2 c, fun _ => ?_⟩
      obtain ⟨g9, h⟩ := h
      refine ⟨g9, ?_⟩
      rcases h with ⟨c, h⟩ | ⟨c, h⟩
      · refine ⟨fun _ => ?_, fun c2 => absurd c c2⟩
        exact h.symm
      · refine ⟨fun c2 => absurd c2 c, fun _ => ?_⟩
        rcases h with ⟨c, h⟩ | ⟨c, h⟩
        · refine ⟨fun _ => ?_, fun c2 => absurd c c2⟩
          exact h.symm
        · refine ⟨fun c2 => absurd c2 c, fun _ => ?_⟩
          rcases h with ⟨c, h⟩ | ⟨c, h⟩
          · refine ⟨fun _ => ?_, fun c2 => absurd c c2⟩
            exact h.symm
          · refine ⟨fun c2 => absurd c2 c, fun _ => ?_⟩
            obtain ⟨g9, h⟩ := h
            refine ⟨g9, ?_⟩
            obtain ⟨g9, h⟩ := h
            refine ⟨g9, ?_⟩
            rcases h with ⟨c, h⟩ | ⟨c, h⟩
            · refine ⟨fun _ => ?_, fun c2 => absurd c c2⟩
              obtain ⟨g9, h⟩ := h
              refine ⟨g9, ?_⟩
              obtain ⟨g9, h⟩ := h
              refine ⟨g9, ?_⟩
              obtain ⟨g9, h⟩ := h
              refine ⟨g9, ?_⟩
              obtain ⟨v9, e9, h⟩ := h
              intro x9 d9 _ _
              have c9 : v9 = x9 := e9.trans d9.symm
              subst c9
              replace h := h.2.2
              obtain ⟨g9, h⟩ := h
              refine ⟨g9, ?_⟩
              obtain ⟨g9, h⟩ := h
              refine ⟨g9, ?_⟩
              obtain ⟨g9, h⟩ := h
              refine ⟨g9, ?_⟩
              obtain ⟨v9, e9, h⟩ := h
              intro x9 d9 _ _
              have c9 : v9 = x9 := e9.trans d9.symm
              subst c9
              replace h := h.2.2
              obtain ⟨v9, e9, h⟩ := h
              intro x9 d9 _ _
              have c9 : v9 = x9 := e9.trans d9.symm
              subst c9
              replace h := h.2.2
              exact h.symm
            · refine ⟨fun c2 => absurd c2 c, fun _ => ?_⟩
              exact h.symm
set_option maxRecDepth 100000 in
theorem vpX4_comeTo {S : MS} {p0 : Nat} {x1 : Int32} {x2 : Int32} {uo : MS} {P : MS → Prop} (h : vX4_comeTo S p0 x1 x2 uo) (w : wX4_comeTo S p0 x1 x2 P) : P uo := by
  unfold vX4_comeTo at h
  unfold wX4_comeTo at w
  rcases h with ⟨c, h⟩ | ⟨c, h⟩
  · replace w := w.1 c
    rw [h]
    exact w
  · replace w := w.2 c
    replace h := h.2
    replace w := w.2
    rcases h with ⟨c, h⟩ | ⟨c, h⟩
    · replace w := w.1 c
      rw [h]
      exact w
    · replace w := w.2 c
      replace h := h.2
      replace w := w.2
      rcases h with ⟨c, h⟩ | ⟨c, h⟩
      · replace w := w.1 c
        rw [h]
        exact w
      · replace w := w.2 c
        rcases h with ⟨c, h⟩ | ⟨c, h⟩
        · replace w := w.1 c
          rw [h]
          exact w
        · replace w := w.2 c
          rcases h with ⟨c, h⟩ | ⟨c, h⟩
          · replace w := w.1 c
            rw [h]
            exact w
          · replace w := w.2 c
            replace h := h.2
            replace w := w.2
            replace h := h.2
            replace w := w.2
            rcases h with ⟨c, h⟩ | ⟨c, h⟩
            · replace w := w.1 c
              replace h := h.2
              replace w := w.2
              replace h := h.2
              replace w := w.2
              replace h := h.2
              replace w := w.2
              obtain ⟨v9, e9, y1_, y2_, h⟩ := h
              replace w := w v9 e9 y1_ y2_
              replace h := h.2
              replace w := w.2
              replace h := h.2
              replace w := w.2
              replace h := h.2
              replace w := w.2
              obtain ⟨v9, e9, y3_, y4_, h⟩ := h
              replace w := w v9 e9 y3_ y4_
              obtain ⟨v9, e9, y5_, y6_, h⟩ := h
              replace w := w v9 e9 y5_ y6_
              rw [h]
              exact w
            · replace w := w.2 c
              rw [h]
              exact w
def vX5_setStage (S : MS) (p1 : Nat) (uo : MS) : Prop := (∃ S1 : MS, S1 = wR S 44 0 (some p1) ∧ qT S 44 = 45 ∧ wfC S1 ∧ (qT S1 45 = 402 ∧ (∃ (S3 : MS), vJ7_fill_d0a16 S1 45 0 S3 ∧ wfC S3 ∧ shy S1 S3 ∧ (∃ S5 : MS, S5 = wI S3 44 3 (0 : Int32) ∧ qT S3 44 = 45 ∧ wfC S5 ∧ (∃ S6 : MS, S6 = wI S5 44 5 (0 : Int32) ∧ qT S5 44 = 45 ∧ wfC S6 ∧ (uo = S6))))))
set_option maxRecDepth 100000 in
theorem ruX5_setStage {S : MS} {p1 : Nat} {Q : MS → Prop} (h : wX5_setStage S p1 Q) : wX5_setStage S p1 (fun u => Q u ∧ vX5_setStage S p1 u) := by
  have i0 : Unit := ()
  have K : ∀ (i : Unit) (uo : MS), vX5_setStage S p1 uo → vX5_setStage S p1 uo := fun _ _ z => z
  unfold wX5_setStage at h ⊢
  intro S1 eS1 y1_ y2_
  replace h := h S1 eS1 y1_ y2_
  replace K := fun i uo z => K i uo ⟨S1, eS1, y1_, y2_, z⟩
  intro y3_
  replace h := h y3_
  replace K := fun i uo z => K i uo ⟨y3_, z⟩
  obtain ⟨Q9, h0, h⟩ := h
  refine ⟨_, ruJ7_fill_d0a16 h0, ?_⟩
  intro S3 q4_ y5_ y6_
  replace h := h S3 q4_.1 y5_ y6_
  replace K := fun i uo z => K i uo ⟨S3, q4_.2, y5_, y6_, z⟩
  intro S5 eS5 y7_ y8_
  replace h := h S5 eS5 y7_ y8_
  replace K := fun i uo z => K i uo ⟨S5, eS5, y7_, y8_, z⟩
  intro S6 eS6 y9_ y10_
  replace h := h S6 eS6 y9_ y10_
  replace K := fun i uo z => K i uo ⟨S6, eS6, y9_, y10_, z⟩
  exact ⟨h, K i0 _ rfl⟩
set_option maxRecDepth 100000 in
theorem vwX5_setStage {S : MS} {p1 : Nat} {uo : MS} (h : vX5_setStage S p1 uo) : wX5_setStage S p1 (fun u => u = uo) := by
  unfold vX5_setStage at h
  unfold wX5_setStage
  obtain ⟨v9, e9, h⟩ := h
  intro x9 d9 _ _
  have c9 : v9 = x9 := e9.trans d9.symm
  subst c9
  replace h := h.2.2
  intro _
  replace h := h.2
  obtain ⟨q9, z9, h⟩ := h
  refine ⟨_, vwJ7_fill_d0a16 z9, ?_⟩
  intro q8 d9 _ _
  subst d9
  replace h := h.2.2
  obtain ⟨v9, e9, h⟩ := h
  intro x9 d9 _ _
  have c9 : v9 = x9 := e9.trans d9.symm
  subst c9
  replace h := h.2.2
  obtain ⟨v9, e9, h⟩ := h
  intro x9 d9 _ _
  have c9 : v9 = x9 := e9.trans d9.symm
  subst c9
  replace h := h.2.2
  exact h.symm
set_option maxRecDepth 100000 in
theorem vpX5_setStage {S : MS} {p1 : Nat} {uo : MS} {P : MS → Prop} (h : vX5_setStage S p1 uo) (w : wX5_setStage S p1 P) : P uo := by
  unfold vX5_setStage at h
  unfold wX5_setStage at w
  obtain ⟨v9, e9, y1_, y2_, h⟩ := h
  replace w := w v9 e9 y1_ y2_
  obtain ⟨y3_, h⟩ := h
  replace w := w y3_
  obtain ⟨q9, z9, y4_, y5_, h⟩ := h
  obtain ⟨Q9, w0, w⟩ := w
  replace w := w q9 (vpJ7_fill_d0a16 z9 w0) y4_ y5_
  obtain ⟨v9, e9, y6_, y7_, h⟩ := h
  replace w := w v9 e9 y6_ y7_
  obtain ⟨v9, e9, y8_, y9_, h⟩ := h
  replace w := w v9 e9 y8_ y9_
  rw [h]
  exact w
def vX5_addArgument (S : MS) (y1 : Int64) (ro : Int32) (uo : MS) : Prop := (((qI S 44 7).toInt < 8 ∧ (((0 : Int) ≤ (qI S 44 7).toInt ∧ (qI S 44 7).toInt < 8) ∧ (∃ S3 : MS, S3 = wJ S 48 (((qI S 44 7).toInt).toNat) y1 ∧ qT S 48 = 403 ∧ wfC S3 ∧ (∃ S5 : MS, S5 = wI S3 44 7 ((qI S3 44 7) + (1 : Int32)) ∧ qT S3 44 = 45 ∧ wfC S5 ∧ (ro = (qI S5 44 7) ∧ uo = S5))))) ∨ (¬ (qI S 44 7).toInt < 8 ∧ (ro = (-1 : Int32) ∧ uo = S)))
set_option maxRecDepth 100000 in
theorem ruX5_addArgument {S : MS} {y1 : Int64} {Q : Int32 → MS → Prop} (h : wX5_addArgument S y1 Q) : wX5_addArgument S y1 (fun r u => Q r u ∧ vX5_addArgument S y1 r u) := by
  have i0 : Unit := ()
  have K : ∀ (i : Unit) (ro : Int32) (uo : MS), vX5_addArgument S y1 ro uo → vX5_addArgument S y1 ro uo := fun _ _ _ z => z
  unfold wX5_addArgument at h ⊢
  refine ⟨fun c => ?_, fun c => ?_⟩
  · replace h := h.1 c
    replace K := fun i ro uo z => K i ro uo (Or.inl ⟨c, z⟩)
    obtain ⟨g1_, h⟩ := h
    refine ⟨g1_, ?_⟩
    replace K := fun i ro uo z => K i ro uo ⟨g1_, z⟩
    intro S3 eS3 y2_ y3_
    replace h := h S3 eS3 y2_ y3_
    replace K := fun i ro uo z => K i ro uo ⟨S3, eS3, y2_, y3_, z⟩
    intro S5 eS5 y4_ y5_
    replace h := h S5 eS5 y4_ y5_
    replace K := fun i ro uo z => K i ro uo ⟨S5, eS5, y4_, y5_, z⟩
    exact ⟨h, K i0 _ _ ⟨rfl, rfl⟩⟩
  · replace h := h.2 c
    replace K := fun i ro uo z => K i ro uo (Or.inr ⟨c, z⟩)
    exact ⟨h, K i0 _ _ ⟨rfl, rfl⟩⟩
set_option maxRecDepth 100000 in
theorem vwX5_addArgument {S : MS} {y1 : Int64} {ro : Int32} {uo : MS} (h : vX5_addArgument S y1 ro uo) : wX5_addArgument S y1 (fun r u => r = ro ∧ u = uo) := by
  unfold vX5_addArgument at h
  unfold wX5_addArgument
  rcases h with ⟨c, h⟩ | ⟨c, h⟩
  · refine ⟨fun _ => ?_, fun c2 => absurd c c2⟩
    obtain ⟨g9, h⟩ := h
    refine ⟨g9, ?_⟩
    obtain ⟨v9, e9, h⟩ := h
    intro x9 d9 _ _
    have c9 : v9 = x9 := e9.trans d9.symm
    subst c9
    replace h := h.2.2
    obtain ⟨v9, e9, h⟩ := h
    intro x9 d9 _ _
    have c9 : v9 = x9 := e9.trans d9.symm
    subst c9
    replace h := h.2.2
    exact ⟨h.1.symm, h.2.symm⟩
  · refine ⟨fun c2 => absurd c2 c, fun _ => ?_⟩
    exact ⟨h.1.symm, h.2.symm⟩
set_option maxRecDepth 100000 in
theorem vpX5_addArgument {S : MS} {y1 : Int64} {ro : Int32} {uo : MS} {P : Int32 → MS → Prop} (h : vX5_addArgument S y1 ro uo) (w : wX5_addArgument S y1 P) : P ro uo := by
  unfold vX5_addArgument at h
  unfold wX5_addArgument at w
  rcases h with ⟨c, h⟩ | ⟨c, h⟩
  · replace w := w.1 c
    replace h := h.2
    replace w := w.2
    obtain ⟨v9, e9, y1_, y2_, h⟩ := h
    replace w := w v9 e9 y1_ y2_
    obtain ⟨v9, e9, y3_, y4_, h⟩ := h
    replace w := w v9 e9 y3_ y4_
    rw [h.1, h.2]
    exact w
  · replace w := w.2 c
    rw [h.1, h.2]
    exact w
def v_X5_heapAt_J21 (ro : Int32) (uo : MS) (U21 : MS) : Prop := (wfC U21 ∧ (∃ S2 : MS, S2 = wI U21 44 19 ((qI U21 44 19) + (1 : Int32)) ∧ qT U21 44 = 45 ∧ wfC S2 ∧ (ro = (0 : Int32) ∧ uo = S2)))
def vX5_heapAt (S : MS) (x1 : Int32) (ro : Int32) (uo : MS) : Prop := ((x1.toInt < 0 ∧ (v_X5_heapAt_J21 ro uo S)) ∨ (¬ x1.toInt < 0 ∧ (((qI S 44 3).toInt ≤ x1.toInt ∧ (v_X5_heapAt_J21 ro uo S)) ∨ (¬ (qI S 44 3).toInt ≤ x1.toInt ∧ ((x1.toInt < (qN S (qO S 44 2) : Int) ∧ (((0 : Int) ≤ x1.toInt ∧ x1.toInt < (qN S (qO S 44 2) : Int)) ∧ (ro = (qI S (qO S 44 2) x1.toInt.toNat) ∧ uo = S))) ∨ (¬ x1.toInt < (qN S (qO S 44 2) : Int) ∧ (v_X5_heapAt_J21 ro uo S)))))))
set_option maxRecDepth 100000 in
theorem ru_X5_heapAt_J21 {ι : Type} {P Q : Int32 → MS → Prop} {U21 : MS} (i0 : ι) (K : ∀ (i : ι) (ro : Int32) (uo : MS), v_X5_heapAt_J21 ro uo U21 → P ro uo) (h : w_X5_heapAt_J21 Q U21) : w_X5_heapAt_J21 (fun r u => Q r u ∧ P r u) U21 := by
  unfold w_X5_heapAt_J21 at h ⊢
  intro y1_
  replace h := h y1_
  replace K := fun i ro uo z => K i ro uo ⟨y1_, z⟩
  intro S2 eS2 y2_ y3_
  replace h := h S2 eS2 y2_ y3_
  replace K := fun i ro uo z => K i ro uo ⟨S2, eS2, y2_, y3_, z⟩
  exact ⟨h, K i0 _ _ ⟨rfl, rfl⟩⟩
set_option maxRecDepth 100000 in
theorem ruX5_heapAt {S : MS} {x1 : Int32} {Q : Int32 → MS → Prop} (h : wX5_heapAt S x1 Q) : wX5_heapAt S x1 (fun r u => Q r u ∧ vX5_heapAt S x1 r u) := by
  have i0 : Unit := ()
  have K : ∀ (i : Unit) (ro : Int32) (uo : MS), vX5_heapAt S x1 ro uo → vX5_heapAt S x1 ro uo := fun _ _ _ z => z
  unfold wX5_heapAt at h ⊢
  refine ⟨fun c => ?_, fun c => ?_⟩
  · replace h := h.1 c
    replace K := fun i ro uo z => K i ro uo (Or.inl ⟨c, z⟩)
    exact ru_X5_heapAt_J21 i0 K h
  · replace h := h.2 c
    replace K := fun i ro uo z => K i ro uo (Or.inr ⟨c, z⟩)
    refine ⟨fun c => ?_, fun c => ?_⟩
    · replace h := h.1 c
      replace K := fun i ro uo z => K i ro uo (Or.inl ⟨c, z⟩)
      exact ru_X5_heapAt_J21 i0 K h
    · replace h := h.2 c
      replace K := fun i ro uo z => K i ro uo (Or.inr ⟨c, z⟩)
      refine ⟨fun c => ?_, fun c => ?_⟩
      · replace h := h.1 c
        replace K := fun i ro uo z => K i ro uo (Or.inl ⟨c, z⟩)
        obtain ⟨g4_, h⟩ := h
        refine ⟨g4_, ?_⟩
        replace K := fun i ro uo z => K i ro uo ⟨g4_, z⟩
        exact ⟨h, K i0 _ _ ⟨rfl, rfl⟩⟩
      · replace h := h.2 c
        replace K := fun i ro uo z => K i ro uo (Or.inr ⟨c, z⟩)
        exact ru_X5_heapAt_J21 i0 K h
set_option maxRecDepth 100000 in
theorem vw_X5_heapAt_J21 {ro : Int32} {uo : MS} {U21 : MS} (h : v_X5_heapAt_J21 ro uo U21) : w_X5_heapAt_J21 (fun r u => r = ro ∧ u = uo) U21 := by
  unfold v_X5_heapAt_J21 at h
  unfold w_X5_heapAt_J21
  intro _
  replace h := h.2
  obtain ⟨v9, e9, h⟩ := h
  intro x9 d9 _ _
  have c9 : v9 = x9 := e9.trans d9.symm
  subst c9
  replace h := h.2.2
  exact ⟨h.1.symm, h.2.symm⟩
set_option maxRecDepth 100000 in
theorem vp_X5_heapAt_J21 {ro : Int32} {uo : MS} {P : Int32 → MS → Prop} {U21 : MS} (h : v_X5_heapAt_J21 ro uo U21) (w : w_X5_heapAt_J21 P U21) : P ro uo := by
  unfold v_X5_heapAt_J21 at h
  unfold w_X5_heapAt_J21 at w
  obtain ⟨y1_, h⟩ := h
  replace w := w y1_
  obtain ⟨v9, e9, y2_, y3_, h⟩ := h
  replace w := w v9 e9 y2_ y3_
  rw [h.1, h.2]
  exact w
set_option maxRecDepth 100000 in
theorem vwX5_heapAt {S : MS} {x1 : Int32} {ro : Int32} {uo : MS} (h : vX5_heapAt S x1 ro uo) : wX5_heapAt S x1 (fun r u => r = ro ∧ u = uo) := by
  unfold vX5_heapAt at h
  unfold wX5_heapAt
  rcases h with ⟨c, h⟩ | ⟨c, h⟩
  · refine ⟨fun _ => ?_, fun c2 => absurd c c2⟩
    exact vw_X5_heapAt_J21 h
  · refine ⟨fun c2 => absurd c2 c, fun _ => ?_⟩
    rcases h with ⟨c, h⟩ | ⟨c, h⟩
    · refine ⟨fun _ => ?_, fun c2 => absurd c c2⟩
      exact vw_X5_heapAt_J21 h
    · refine ⟨fun c2 => absurd c2 c, fun _ => ?_⟩
      rcases h with ⟨c, h⟩ | ⟨c, h⟩
      · refine ⟨fun _ => ?_, fun c2 => absurd c c2⟩
        obtain ⟨g9, h⟩ := h
        refine ⟨g9, ?_⟩
        exact ⟨h.1.symm, h.2.symm⟩
      · refine ⟨fun c2 => absurd c2 c, fun _ => ?_⟩
        exact vw_X5_heapAt_J21 h
set_option maxRecDepth 100000 in
theorem vpX5_heapAt {S : MS} {x1 : Int32} {ro : Int32} {uo : MS} {P : Int32 → MS → Prop} (h : vX5_heapAt S x1 ro uo) (w : wX5_heapAt S x1 P) : P ro uo := by
  unfold vX5_heapAt at h
  unfold wX5_heapAt at w
  rcases h with ⟨c, h⟩ | ⟨c, h⟩
  · replace w := w.1 c
    exact vp_X5_heapAt_J21 h w
  · replace w := w.2 c
    rcases h with ⟨c, h⟩ | ⟨c, h⟩
    · replace w := w.1 c
      exact vp_X5_heapAt_J21 h w
    · replace w := w.2 c
      rcases h with ⟨c, h⟩ | ⟨c, h⟩
      · replace w := w.1 c
        replace h := h.2
        replace w := w.2
        rw [h.1, h.2]
        exact w
      · replace w := w.2 c
        exact vp_X5_heapAt_J21 h w
def vX5_setFrame (S : MS) (x1 : Int32) (x2 : Int32) (uo : MS) : Prop := (((qI S 44 11).toInt < 0 ∧ (uo = S)) ∨ (¬ (qI S 44 11).toInt < 0 ∧ ((60 ≤ (qI S 44 11).toInt ∧ (uo = S)) ∨ (¬ 60 ≤ (qI S 44 11).toInt ∧ (((0 : Int) ≤ (((3 : Int32) * (qI S 44 11)) + x1).toInt ∧ (((3 : Int32) * (qI S 44 11)) + x1).toInt < 180) ∧ (∃ S6 : MS, S6 = wI S 51 (((((3 : Int32) * (qI S 44 11)) + x1).toInt).toNat) x2 ∧ qT S 51 = 217 ∧ wfC S6 ∧ (uo = S6)))))))
set_option maxRecDepth 100000 in
theorem ruX5_setFrame {S : MS} {x1 : Int32} {x2 : Int32} {Q : MS → Prop} (h : wX5_setFrame S x1 x2 Q) : wX5_setFrame S x1 x2 (fun u => Q u ∧ vX5_setFrame S x1 x2 u) := by
  have i0 : Unit := ()
  have K : ∀ (i : Unit) (uo : MS), vX5_setFrame S x1 x2 uo → vX5_setFrame S x1 x2 uo := fun _ _ z => z
  unfold wX5_setFrame at h ⊢
  refine ⟨fun c => ?_, fun c => ?_⟩
  · replace h := h.1 c
    replace K := fun i uo z => K i uo (Or.inl ⟨c, z⟩)
    exact ⟨h, K i0 _ rfl⟩
  · replace h := h.2 c
    replace K := fun i uo z => K i uo (Or.inr ⟨c, z⟩)
    refine ⟨fun c => ?_, fun c => ?_⟩
    · replace h := h.1 c
      replace K := fun i uo z => K i uo (Or.inl ⟨c, z⟩)
      exact ⟨h, K i0 _ rfl⟩
    · replace h := h.2 c
      replace K := fun i uo z => K i uo (Or.inr ⟨c, z⟩)
      obtain ⟨g1_, h⟩ := h
      refine ⟨g1_, ?_⟩
      replace K := fun i uo z => K i uo ⟨g1_, z⟩
      intro S6 eS6 y2_ y3_
      replace h := h S6 eS6 y2_ y3_
      replace K := fun i uo z => K i uo ⟨S6, eS6, y2_, y3_, z⟩
      exact ⟨h, K i0 _ rfl⟩
set_option maxRecDepth 100000 in
theorem vwX5_setFrame {S : MS} {x1 : Int32} {x2 : Int32} {uo : MS} (h : vX5_setFrame S x1 x2 uo) : wX5_setFrame S x1 x2 (fun u => u = uo) := by
  unfold vX5_setFrame at h
  unfold wX5_setFrame
  rcases h with ⟨c, h⟩ | ⟨c, h⟩
  · refine ⟨fun _ => ?_, fun c2 => absurd c c2⟩
    exact h.symm
  · refine ⟨fun c2 => absurd c2 c, fun _ => ?_⟩
    rcases h with ⟨c, h⟩ | ⟨c, h⟩
    · refine ⟨fun _ => ?_, fun c2 => absurd c c2⟩
      exact h.symm
    · refine ⟨fun c2 => absurd c2 c, fun _ => ?_⟩
      obtain ⟨g9, h⟩ := h
      refine ⟨g9, ?_⟩
      obtain ⟨v9, e9, h⟩ := h
      intro x9 d9 _ _
      have c9 : v9 = x9 := e9.trans d9.symm
      subst c9
      replace h := h.2.2
      exact h.symm
set_option maxRecDepth 100000 in
theorem vpX5_setFrame {S : MS} {x1 : Int32} {x2 : Int32} {uo : MS} {P : MS → Prop} (h : vX5_setFrame S x1 x2 uo) (w : wX5_setFrame S x1 x2 P) : P uo := by
  unfold vX5_setFrame at h
  unfold wX5_setFrame at w
  rcases h with ⟨c, h⟩ | ⟨c, h⟩
  · replace w := w.1 c
    rw [h]
    exact w
  · replace w := w.2 c
    rcases h with ⟨c, h⟩ | ⟨c, h⟩
    · replace w := w.1 c
      rw [h]
      exact w
    · replace w := w.2 c
      replace h := h.2
      replace w := w.2
      obtain ⟨v9, e9, y1_, y2_, h⟩ := h
      replace w := w v9 e9 y1_ y2_
      rw [h]
      exact w
def v_X5_setLocal_J36 (uo : MS) (U36 : MS) : Prop := (wfC U36 ∧ (∃ S5 : MS, S5 = wI U36 44 19 ((qI U36 44 19) + (1 : Int32)) ∧ qT U36 44 = 45 ∧ wfC S5 ∧ (uo = S5)))
def vX5_setLocal (S : MS) (x1 : Int32) (y2 : Int64) (uo : MS) : Prop := (∃ a3 : Int32, a3 = (((qI S 44 11) * (24 : Int32)) + x1) ∧ ((x1.toInt < 0 ∧ (v_X5_setLocal_J36 uo S)) ∨ (¬ x1.toInt < 0 ∧ ((24 ≤ x1.toInt ∧ (v_X5_setLocal_J36 uo S)) ∨ (¬ 24 ≤ x1.toInt ∧ ((a3.toInt < 0 ∧ (v_X5_setLocal_J36 uo S)) ∨ (¬ a3.toInt < 0 ∧ ((a3.toInt < (qN S (qO S 44 8) : Int) ∧ (((0 : Int) ≤ a3.toInt ∧ a3.toInt < (qN S (qO S 44 8) : Int)) ∧ (∃ S14 : MS, S14 = wJ S (qO S 44 8) a3.toInt.toNat y2 ∧ qT S (qO S 44 8) = 404 ∧ wfC S14 ∧ (uo = S14)))) ∨ (¬ a3.toInt < (qN S (qO S 44 8) : Int) ∧ (v_X5_setLocal_J36 uo S))))))))))
set_option maxRecDepth 100000 in
theorem ru_X5_setLocal_J36 {ι : Type} {P Q : MS → Prop} {U36 : MS} (i0 : ι) (K : ∀ (i : ι) (uo : MS), v_X5_setLocal_J36 uo U36 → P uo) (h : w_X5_setLocal_J36 Q U36) : w_X5_setLocal_J36 (fun u => Q u ∧ P u) U36 := by
  unfold w_X5_setLocal_J36 at h ⊢
  intro y1_
  replace h := h y1_
  replace K := fun i uo z => K i uo ⟨y1_, z⟩
  intro S5 eS5 y2_ y3_
  replace h := h S5 eS5 y2_ y3_
  replace K := fun i uo z => K i uo ⟨S5, eS5, y2_, y3_, z⟩
  exact ⟨h, K i0 _ rfl⟩
set_option maxRecDepth 100000 in
theorem ruX5_setLocal {S : MS} {x1 : Int32} {y2 : Int64} {Q : MS → Prop} (h : wX5_setLocal S x1 y2 Q) : wX5_setLocal S x1 y2 (fun u => Q u ∧ vX5_setLocal S x1 y2 u) := by
  have i0 : Unit := ()
  have K : ∀ (i : Unit) (uo : MS), vX5_setLocal S x1 y2 uo → vX5_setLocal S x1 y2 uo := fun _ _ z => z
  unfold wX5_setLocal at h ⊢
  intro a3 ea3 
  replace h := h a3 ea3 
  replace K := fun i uo z => K i uo ⟨a3, ea3, z⟩
  refine ⟨fun c => ?_, fun c => ?_⟩
  · replace h := h.1 c
    replace K := fun i uo z => K i uo (Or.inl ⟨c, z⟩)
    exact ru_X5_setLocal_J36 i0 K h
  · replace h := h.2 c
    replace K := fun i uo z => K i uo (Or.inr ⟨c, z⟩)
    refine ⟨fun c => ?_, fun c => ?_⟩
    · replace h := h.1 c
      replace K := fun i uo z => K i uo (Or.inl ⟨c, z⟩)
      exact ru_X5_setLocal_J36 i0 K h
    · replace h := h.2 c
      replace K := fun i uo z => K i uo (Or.inr ⟨c, z⟩)
      refine ⟨fun c => ?_, fun c => ?_⟩
      · replace h := h.1 c
        replace K := fun i uo z => K i uo (Or.inl ⟨c, z⟩)
        exact ru_X5_setLocal_J36 i0 K h
      · replace h := h.2 c
        replace K := fun i uo z => K i uo (Or.inr ⟨c, z⟩)
        refine ⟨fun c => ?_, fun c => ?_⟩
        · replace h := h.1 c
          replace K := fun i uo z => K i uo (Or.inl ⟨c, z⟩)
          obtain ⟨g4_, h⟩ := h
          refine ⟨g4_, ?_⟩
          replace K := fun i uo z => K i uo ⟨g4_, z⟩
          intro S14 eS14 y5_ y6_
          replace h := h S14 eS14 y5_ y6_
          replace K := fun i uo z => K i uo ⟨S14, eS14, y5_, y6_, z⟩
          exact ⟨h, K i0 _ rfl⟩
        · replace h := h.2 c
          replace K := fun i uo z => K i uo (Or.inr ⟨c, z⟩)
          exact ru_X5_setLocal_J36 i0 K h
set_option maxRecDepth 100000 in
theorem vw_X5_setLocal_J36 {uo : MS} {U36 : MS} (h : v_X5_setLocal_J36 uo U36) : w_X5_setLocal_J36 (fun u => u = uo) U36 := by
  unfold v_X5_setLocal_J36 at h
  unfold w_X5_setLocal_J36
  intro _
  replace h := h.2
  obtain ⟨v9, e9, h⟩ := h
  intro x9 d9 _ _
  have c9 : v9 = x9 := e9.trans d9.symm
  subst c9
  replace h := h.2.2
  exact h.symm
set_option maxRecDepth 100000 in
theorem vp_X5_setLocal_J36 {uo : MS} {P : MS → Prop} {U36 : MS} (h : v_X5_setLocal_J36 uo U36) (w : w_X5_setLocal_J36 P U36) : P uo := by
  unfold v_X5_setLocal_J36 at h
  unfold w_X5_setLocal_J36 at w
  obtain ⟨y1_, h⟩ := h
  replace w := w y1_
  obtain ⟨v9, e9, y2_, y3_, h⟩ := h
  replace w := w v9 e9 y2_ y3_
  rw [h]
  exact w
set_option maxRecDepth 100000 in
theorem vwX5_setLocal {S : MS} {x1 : Int32} {y2 : Int64} {uo : MS} (h : vX5_setLocal S x1 y2 uo) : wX5_setLocal S x1 y2 (fun u => u = uo) := by
  unfold vX5_setLocal at h
  unfold wX5_setLocal
  obtain ⟨v9, e9, h⟩ := h
  intro x9 d9 
  have c9 : v9 = x9 := e9.trans d9.symm
  subst c9
  rcases h with ⟨c, h⟩ | ⟨c, h⟩
  · refine ⟨fun _ => ?_, fun c2 => absurd c c2⟩
    exact vw_X5_setLocal_J36 h
  · refine ⟨fun c2 => absurd c2 c, fun _ => ?_⟩
    rcases h with ⟨c, h⟩ | ⟨c, h⟩
    · refine ⟨fun _ => ?_, fun c2 => absurd c c2⟩
      exact vw_X5_setLocal_J36 h
    · refine ⟨fun c2 => absurd c2 c, fun _ => ?_⟩
      rcases h with ⟨c, h⟩ | ⟨c, h⟩
      · refine ⟨fun _ => ?_, fun c2 => absurd c c2⟩
        exact vw_X5_setLocal_J36 h
      · refine ⟨fun c2 => absurd c2 c, fun _ => ?_⟩
        rcases h with ⟨c, h⟩ | ⟨c, h⟩
        · refine ⟨fun _ => ?_, fun c2 => absurd c c2⟩
          obtain ⟨g9, h⟩ := h
          refine ⟨g9, ?_⟩
          obtain ⟨v9, e9, h⟩ := h
          intro x9 d9 _ _
          have c9 : v9 = x9 := e9.trans d9.symm
          subst c9
          replace h := h.2.2
          exact h.symm
        · refine ⟨fun c2 => absurd c2 c, fun _ => ?_⟩
          exact vw_X5_setLocal_J36 h
set_option maxRecDepth 100000 in
theorem vpX5_setLocal {S : MS} {x1 : Int32} {y2 : Int64} {uo : MS} {P : MS → Prop} (h : vX5_setLocal S x1 y2 uo) (w : wX5_setLocal S x1 y2 P) : P uo := by
  unfold vX5_setLocal at h
  unfold wX5_setLocal at w
  obtain ⟨v9, e9, h⟩ := h
  replace w := w v9 e9 
  rcases h with ⟨c, h⟩ | ⟨c, h⟩
  · replace w := w.1 c
    exact vp_X5_setLocal_J36 h w
  · replace w := w.2 c
    rcases h with ⟨c, h⟩ | ⟨c, h⟩
    · replace w := w.1 c
      exact vp_X5_setLocal_J36 h w
    · replace w := w.2 c
      rcases h with ⟨c, h⟩ | ⟨c, h⟩
      · replace w := w.1 c
        exact vp_X5_setLocal_J36 h w
      · replace w := w.2 c
        rcases h with ⟨c, h⟩ | ⟨c, h⟩
        · replace w := w.1 c
          replace h := h.2
          replace w := w.2
          obtain ⟨v9, e9, y4_, y5_, h⟩ := h
          replace w := w v9 e9 y4_ y5_
          rw [h]
          exact w
        · replace w := w.2 c
          exact vp_X5_setLocal_J36 h w
def v_X5_localAt_J33 (ro : Int64) (uo : MS) (U33 : MS) : Prop := (wfC U33 ∧ (∃ S5 : MS, S5 = wI U33 44 19 ((qI U33 44 19) + (1 : Int32)) ∧ qT U33 44 = 45 ∧ wfC S5 ∧ (ro = 0 ∧ uo = S5)))
def vX5_localAt (S : MS) (x1 : Int32) (ro : Int64) (uo : MS) : Prop := (∃ a3 : Int32, a3 = (((qI S 44 11) * (24 : Int32)) + x1) ∧ ((x1.toInt < 0 ∧ (v_X5_localAt_J33 ro uo S)) ∨ (¬ x1.toInt < 0 ∧ ((24 ≤ x1.toInt ∧ (v_X5_localAt_J33 ro uo S)) ∨ (¬ 24 ≤ x1.toInt ∧ ((a3.toInt < 0 ∧ (v_X5_localAt_J33 ro uo S)) ∨ (¬ a3.toInt < 0 ∧ ((a3.toInt < (qN S (qO S 44 8) : Int) ∧ (((0 : Int) ≤ a3.toInt ∧ a3.toInt < (qN S (qO S 44 8) : Int)) ∧ (ro = (qJ S (qO S 44 8) a3.toInt.toNat) ∧ uo = S))) ∨ (¬ a3.toInt < (qN S (qO S 44 8) : Int) ∧ (v_X5_localAt_J33 ro uo S))))))))))
set_option maxRecDepth 100000 in
theorem ru_X5_localAt_J33 {ι : Type} {P Q : Int64 → MS → Prop} {U33 : MS} (i0 : ι) (K : ∀ (i : ι) (ro : Int64) (uo : MS), v_X5_localAt_J33 ro uo U33 → P ro uo) (h : w_X5_localAt_J33 Q U33) : w_X5_localAt_J33 (fun r u => Q r u ∧ P r u) U33 := by
  unfold w_X5_localAt_J33 at h ⊢
  intro y1_
  replace h := h y1_
  replace K := fun i ro uo z => K i ro uo ⟨y1_, z⟩
  intro S5 eS5 y2_ y3_
  replace h := h S5 eS5 y2_ y3_
  replace K := fun i ro uo z => K i ro uo ⟨S5, eS5, y2_, y3_, z⟩
  exact ⟨h, K i0 _ _ ⟨rfl, rfl⟩⟩
set_option maxRecDepth 100000 in
theorem ruX5_localAt {S : MS} {x1 : Int32} {Q : Int64 → MS → Prop} (h : wX5_localAt S x1 Q) : wX5_localAt S x1 (fun r u => Q r u ∧ vX5_localAt S x1 r u) := by
  have i0 : Unit := ()
  have K : ∀ (i : Unit) (ro : Int64) (uo : MS), vX5_localAt S x1 ro uo → vX5_localAt S x1 ro uo := fun _ _ _ z => z
  unfold wX5_localAt at h ⊢
  intro a3 ea3 
  replace h := h a3 ea3 
  replace K := fun i ro uo z => K i ro uo ⟨a3, ea3, z⟩
  refine ⟨fun c => ?_, fun c => ?_⟩
  · replace h := h.1 c
    replace K := fun i ro uo z => K i ro uo (Or.inl ⟨c, z⟩)
    exact ru_X5_localAt_J33 i0 K h
  · replace h := h.2 c
    replace K := fun i ro uo z => K i ro uo (Or.inr ⟨c, z⟩)
    refine ⟨fun c => ?_, fun c => ?_⟩
    · replace h := h.1 c
      replace K := fun i ro uo z => K i ro uo (Or.inl ⟨c, z⟩)
      exact ru_X5_localAt_J33 i0 K h
    · replace h := h.2 c
      replace K := fun i ro uo z => K i ro uo (Or.inr ⟨c, z⟩)
      refine ⟨fun c => ?_, fun c => ?_⟩
      · replace h := h.1 c
        replace K := fun i ro uo z => K i ro uo (Or.inl ⟨c, z⟩)
        exact ru_X5_localAt_J33 i0 K h
      · replace h := h.2 c
        replace K := fun i ro uo z => K i ro uo (Or.inr ⟨c, z⟩)
        refine ⟨fun c => ?_, fun c => ?_⟩
        · replace h := h.1 c
          replace K := fun i ro uo z => K i ro uo (Or.inl ⟨c, z⟩)
          obtain ⟨g4_, h⟩ := h
          refine ⟨g4_, ?_⟩
          replace K := fun i ro uo z => K i ro uo ⟨g4_, z⟩
          exact ⟨h, K i0 _ _ ⟨rfl, rfl⟩⟩
        · replace h := h.2 c
          replace K := fun i ro uo z => K i ro uo (Or.inr ⟨c, z⟩)
          exact ru_X5_localAt_J33 i0 K h
set_option maxRecDepth 100000 in
theorem vw_X5_localAt_J33 {ro : Int64} {uo : MS} {U33 : MS} (h : v_X5_localAt_J33 ro uo U33) : w_X5_localAt_J33 (fun r u => r = ro ∧ u = uo) U33 := by
  unfold v_X5_localAt_J33 at h
  unfold w_X5_localAt_J33
  intro _
  replace h := h.2
  obtain ⟨v9, e9, h⟩ := h
  intro x9 d9 _ _
  have c9 : v9 = x9 := e9.trans d9.symm
  subst c9
  replace h := h.2.2
  exact ⟨h.1.symm, h.2.symm⟩
set_option maxRecDepth 100000 in
theorem vp_X5_localAt_J33 {ro : Int64} {uo : MS} {P : Int64 → MS → Prop} {U33 : MS} (h : v_X5_localAt_J33 ro uo U33) (w : w_X5_localAt_J33 P U33) : P ro uo := by
  unfold v_X5_localAt_J33 at h
  unfold w_X5_localAt_J33 at w
  obtain ⟨y1_, h⟩ := h
  replace w := w y1_
  obtain ⟨v9, e9, y2_, y3_, h⟩ := h
  replace w := w v9 e9 y2_ y3_
  rw [h.1, h.2]
  exact w
set_option maxRecDepth 100000 in
theorem vwX5_localAt {S : MS} {x1 : Int32} {ro : Int64} {uo : MS} (h : vX5_localAt S x1 ro uo) : wX5_localAt S x1 (fun r u => r = ro ∧ u = uo) := by
  unfold vX5_localAt at h
  unfold wX5_localAt
  obtain ⟨v9, e9, h⟩ := h
  intro x9 d9 
  have c9 : v9 = x9 := e9.trans d9.symm
  subst c9
  rcases h with ⟨c, h⟩ | ⟨c, h⟩
  · refine ⟨fun _ => ?_, fun c2 => absurd c c2⟩
    exact vw_X5_localAt_J33 h
  · refine ⟨fun c2 => absurd c2 c, fun _ => ?_⟩
    rcases h with ⟨c, h⟩ | ⟨c, h⟩
    · refine ⟨fun _ => ?_, fun c2 => absurd c c2⟩
      exact vw_X5_localAt_J33 h
    · refine ⟨fun c2 => absurd c2 c, fun _ => ?_⟩
      rcases h with ⟨c, h⟩ | ⟨c, h⟩
      · refine ⟨fun _ => ?_, fun c2 => absurd c c2⟩
        exact vw_X5_localAt_J33 h
      · refine ⟨fun c2 => absurd c2 c, fun _ => ?_⟩
        rcases h with ⟨c, h⟩ | ⟨c, h⟩
        · refine ⟨fun _ => ?_, fun c2 => absurd c c2⟩
          obtain ⟨g9, h⟩ := h
          refine ⟨g9, ?_⟩
          exact ⟨h.1.symm, h.2.symm⟩
        · refine ⟨fun c2 => absurd c2 c, fun _ => ?_⟩
          exact vw_X5_localAt_J33 h
set_option maxRecDepth 100000 in
theorem vpX5_localAt {S : MS} {x1 : Int32} {ro : Int64} {uo : MS} {P : Int64 → MS → Prop} (h : vX5_localAt S x1 ro uo) (w : wX5_localAt S x1 P) : P ro uo := by
  unfold vX5_localAt at h
  unfold wX5_localAt at w
  obtain ⟨v9, e9, h⟩ := h
  replace w := w v9 e9 
  rcases h with ⟨c, h⟩ | ⟨c, h⟩
  · replace w := w.1 c
    exact vp_X5_localAt_J33 h w
  · replace w := w.2 c
    rcases h with ⟨c, h⟩ | ⟨c, h⟩
    · replace w := w.1 c
      exact vp_X5_localAt_J33 h w
    · replace w := w.2 c
      rcases h with ⟨c, h⟩ | ⟨c, h⟩
      · replace w := w.1 c
        exact vp_X5_localAt_J33 h w
      · replace w := w.2 c
        rcases h with ⟨c, h⟩ | ⟨c, h⟩
        · replace w := w.1 c
          replace h := h.2
          replace w := w.2
          rw [h.1, h.2]
          exact w
        · replace w := w.2 c
          exact vp_X5_localAt_J33 h w
def v_X5_push_J42 (uo : MS) (U42 : MS) : Prop := (wfC U42 ∧ (∃ S5 : MS, S5 = wI U42 44 19 ((qI U42 44 19) + (1 : Int32)) ∧ qT U42 44 = 45 ∧ wfC S5 ∧ (uo = S5)))
def vX5_push (S : MS) (y1 : Int64) (uo : MS) : Prop := (∃ a3 : Int32, a3 = (((qI S 44 11) * (24 : Int32)) + (qI S 44 14)) ∧ (((qI S 44 14).toInt < 0 ∧ (v_X5_push_J42 uo S)) ∨ (¬ (qI S 44 14).toInt < 0 ∧ ((24 ≤ (qI S 44 14).toInt ∧ (v_X5_push_J42 uo S)) ∨ (¬ 24 ≤ (qI S 44 14).toInt ∧ ((a3.toInt < 0 ∧ (v_X5_push_J42 uo S)) ∨ (¬ a3.toInt < 0 ∧ ((a3.toInt < (qN S (qO S 44 9) : Int) ∧ (((0 : Int) ≤ a3.toInt ∧ a3.toInt < (qN S (qO S 44 9) : Int)) ∧ (∃ S14 : MS, S14 = wJ S (qO S 44 9) a3.toInt.toNat y1 ∧ qT S (qO S 44 9) = 405 ∧ wfC S14 ∧ (∃ S16 : MS, S16 = wI S14 44 14 ((qI S14 44 14) + (1 : Int32)) ∧ qT S14 44 = 45 ∧ wfC S16 ∧ (uo = S16))))) ∨ (¬ a3.toInt < (qN S (qO S 44 9) : Int) ∧ (v_X5_push_J42 uo S))))))))))
set_option maxRecDepth 100000 in
theorem ru_X5_push_J42 {ι : Type} {P Q : MS → Prop} {U42 : MS} (i0 : ι) (K : ∀ (i : ι) (uo : MS), v_X5_push_J42 uo U42 → P uo) (h : w_X5_push_J42 Q U42) : w_X5_push_J42 (fun u => Q u ∧ P u) U42 := by
  unfold w_X5_push_J42 at h ⊢
  intro y1_
  replace h := h y1_
  replace K := fun i uo z => K i uo ⟨y1_, z⟩
  intro S5 eS5 y2_ y3_
  replace h := h S5 eS5 y2_ y3_
  replace K := fun i uo z => K i uo ⟨S5, eS5, y2_, y3_, z⟩
  exact ⟨h, K i0 _ rfl⟩
set_option maxRecDepth 100000 in
theorem ruX5_push {S : MS} {y1 : Int64} {Q : MS → Prop} (h : wX5_push S y1 Q) : wX5_push S y1 (fun u => Q u ∧ vX5_push S y1 u) := by
  have i0 : Unit := ()
  have K : ∀ (i : Unit) (uo : MS), vX5_push S y1 uo → vX5_push S y1 uo := fun _ _ z => z
  unfold wX5_push at h ⊢
  intro a3 ea3 
  replace h := h a3 ea3 
  replace K := fun i uo z => K i uo ⟨a3, ea3, z⟩
  refine ⟨fun c => ?_, fun c => ?_⟩
  · replace h := h.1 c
    replace K := fun i uo z => K i uo (Or.inl ⟨c, z⟩)
    exact ru_X5_push_J42 i0 K h
  · replace h := h.2 c
    replace K := fun i uo z => K i uo (Or.inr ⟨c, z⟩)
    refine ⟨fun c => ?_, fun c => ?_⟩
    · replace h := h.1 c
      replace K := fun i uo z => K i uo (Or.inl ⟨c, z⟩)
      exact ru_X5_push_J42 i0 K h
    · replace h := h.2 c
      replace K := fun i uo z => K i uo (Or.inr ⟨c, z⟩)
      refine ⟨fun c => ?_, fun c => ?_⟩
      · replace h := h.1 c
        replace K := fun i uo z => K i uo (Or.inl ⟨c, z⟩)
        exact ru_X5_push_J42 i0 K h
      · replace h := h.2 c
        replace K := fun i uo z => K i uo (Or.inr ⟨c, z⟩)
        refine ⟨fun c => ?_, fun c => ?_⟩
        · replace h := h.1 c
          replace K := fun i uo z => K i uo (Or.inl ⟨c, z⟩)
          obtain ⟨g4_, h⟩ := h
          refine ⟨g4_, ?_⟩
          replace K := fun i uo z => K i uo ⟨g4_, z⟩
          intro S14 eS14 y5_ y6_
          replace h := h S14 eS14 y5_ y6_
          replace K := fun i uo z => K i uo ⟨S14, eS14, y5_, y6_, z⟩
          intro S16 eS16 y7_ y8_
          replace h := h S16 eS16 y7_ y8_
          replace K := fun i uo z => K i uo ⟨S16, eS16, y7_, y8_, z⟩
          exact ⟨h, K i0 _ rfl⟩
        · replace h := h.2 c
          replace K := fun i uo z => K i uo (Or.inr ⟨c, z⟩)
          exact ru_X5_push_J42 i0 K h
set_option maxRecDepth 100000 in
theorem vw_X5_push_J42 {uo : MS} {U42 : MS} (h : v_X5_push_J42 uo U42) : w_X5_push_J42 (fun u => u = uo) U42 := by
  unfold v_X5_push_J42 at h
  unfold w_X5_push_J42
  intro _
  replace h := h.2
  obtain ⟨v9, e9, h⟩ := h
  intro x9 d9 _ _
  have c9 : v9 = x9 := e9.trans d9.symm
  subst c9
  replace h := h.2.2
  exact h.symm
set_option maxRecDepth 100000 in
theorem vp_X5_push_J42 {uo : MS} {P : MS → Prop} {U42 : MS} (h : v_X5_push_J42 uo U42) (w : w_X5_push_J42 P U42) : P uo := by
  unfold v_X5_push_J42 at h
  unfold w_X5_push_J42 at w
  obtain ⟨y1_, h⟩ := h
  replace w := w y1_
  obtain ⟨v9, e9, y2_, y3_, h⟩ := h
  replace w := w v9 e9 y2_ y3_
  rw [h]
  exact w
set_option maxRecDepth 100000 in
theorem vwX5_push {S : MS} {y1 : Int64} {uo : MS} (h : vX5_push S y1 uo) : wX5_push S y1 (fun u => u = uo) := by
  unfold vX5_push at h
  unfold wX5_push
  obtain ⟨v9, e9, h⟩ := h
  intro x9 d9 
  have c9 : v9 = x9 := e9.trans d9.symm
  subst c9
  rcases h with ⟨c, h⟩ | ⟨c, h⟩
  · refine ⟨fun _ => ?_, fun c2 => absurd c c2⟩
    exact vw_X5_push_J42 h
  · refine ⟨fun c2 => absurd c2 c, fun _ => ?_⟩
    rcases h with ⟨c, h⟩ | ⟨c, h⟩
    · refine ⟨fun _ => ?_, fun c2 => absurd c c2⟩
      exact vw_X5_push_J42 h
    · refine ⟨fun c2 => absurd c2 c, fun _ => ?_⟩
      rcases h with ⟨c, h⟩ | ⟨c, h⟩
      · refine ⟨fun _ => ?_, fun c2 => absurd c c2⟩
        exact vw_X5_push_J42 h
      · refine ⟨fun c2 => absurd c2 c, fun _ => ?_⟩
        rcases h with ⟨c, h⟩ | ⟨c, h⟩
        · refine ⟨fun _ => ?_, fun c2 => absurd c c2⟩
          obtain ⟨g9, h⟩ := h
          refine ⟨g9, ?_⟩
          obtain ⟨v9, e9, h⟩ := h
          intro x9 d9 _ _
          have c9 : v9 = x9 := e9.trans d9.symm
          subst c9
          replace h := h.2.2
          obtain ⟨v9, e9, h⟩ := h
          intro x9 d9 _ _
          have c9 : v9 = x9 := e9.trans d9.symm
          subst c9
          replace h := h.2.2
          exact h.symm
        · refine ⟨fun c2 => absurd c2 c, fun _ => ?_⟩
          exact vw_X5_push_J42 h
set_option maxRecDepth 100000 in
theorem vpX5_push {S : MS} {y1 : Int64} {uo : MS} {P : MS → Prop} (h : vX5_push S y1 uo) (w : wX5_push S y1 P) : P uo := by
  unfold vX5_push at h
  unfold wX5_push at w
  obtain ⟨v9, e9, h⟩ := h
  replace w := w v9 e9 
  rcases h with ⟨c, h⟩ | ⟨c, h⟩
  · replace w := w.1 c
    exact vp_X5_push_J42 h w
  · replace w := w.2 c
    rcases h with ⟨c, h⟩ | ⟨c, h⟩
    · replace w := w.1 c
      exact vp_X5_push_J42 h w
    · replace w := w.2 c
      rcases h with ⟨c, h⟩ | ⟨c, h⟩
      · replace w := w.1 c
        exact vp_X5_push_J42 h w
      · replace w := w.2 c
        rcases h with ⟨c, h⟩ | ⟨c, h⟩
        · replace w := w.1 c
          replace h := h.2
          replace w := w.2
          obtain ⟨v9, e9, y4_, y5_, h⟩ := h
          replace w := w v9 e9 y4_ y5_
          obtain ⟨v9, e9, y6_, y7_, h⟩ := h
          replace w := w v9 e9 y6_ y7_
          rw [h]
          exact w
        · replace w := w.2 c
          exact vp_X5_push_J42 h w
def v_X5_pop_J45 (ro : Int64) (uo : MS) (U45 : MS) : Prop := (wfC U45 ∧ (∃ S6 : MS, S6 = wI U45 44 19 ((qI U45 44 19) + (1 : Int32)) ∧ qT U45 44 = 45 ∧ wfC S6 ∧ (ro = 0 ∧ uo = S6)))
def vX5_pop (S : MS) (ro : Int64) (uo : MS) : Prop := (∃ a4 : Int32, a4 = ((((qI S 44 11) * (24 : Int32)) + (qI S 44 14)) - (1 : Int32)) ∧ (((qI S 44 14).toInt < 1 ∧ (v_X5_pop_J45 ro uo S)) ∨ (¬ (qI S 44 14).toInt < 1 ∧ ((24 < (qI S 44 14).toInt ∧ (v_X5_pop_J45 ro uo S)) ∨ (¬ 24 < (qI S 44 14).toInt ∧ ((a4.toInt < 0 ∧ (v_X5_pop_J45 ro uo S)) ∨ (¬ a4.toInt < 0 ∧ ((a4.toInt < (qN S (qO S 44 9) : Int) ∧ (∃ S14 : MS, S14 = wI S 44 14 ((qI S 44 14) - (1 : Int32)) ∧ qT S 44 = 45 ∧ wfC S14 ∧ (((0 : Int) ≤ a4.toInt ∧ a4.toInt < (qN S14 (qO S14 44 9) : Int)) ∧ (ro = (qJ S14 (qO S14 44 9) a4.toInt.toNat) ∧ uo = S14)))) ∨ (¬ a4.toInt < (qN S (qO S 44 9) : Int) ∧ (v_X5_pop_J45 ro uo S))))))))))
set_option maxRecDepth 100000 in
theorem ru_X5_pop_J45 {ι : Type} {P Q : Int64 → MS → Prop} {U45 : MS} (i0 : ι) (K : ∀ (i : ι) (ro : Int64) (uo : MS), v_X5_pop_J45 ro uo U45 → P ro uo) (h : w_X5_pop_J45 Q U45) : w_X5_pop_J45 (fun r u => Q r u ∧ P r u) U45 := by
  unfold w_X5_pop_J45 at h ⊢
  intro y1_
  replace h := h y1_
  replace K := fun i ro uo z => K i ro uo ⟨y1_, z⟩
  intro S6 eS6 y2_ y3_
  replace h := h S6 eS6 y2_ y3_
  replace K := fun i ro uo z => K i ro uo ⟨S6, eS6, y2_, y3_, z⟩
  exact ⟨h, K i0 _ _ ⟨rfl, rfl⟩⟩
set_option maxRecDepth 100000 in
theorem ruX5_pop {S : MS} {Q : Int64 → MS → Prop} (h : wX5_pop S Q) : wX5_pop S (fun r u => Q r u ∧ vX5_pop S r u) := by
  have i0 : Unit := ()
  have K : ∀ (i : Unit) (ro : Int64) (uo : MS), vX5_pop S ro uo → vX5_pop S ro uo := fun _ _ _ z => z
  unfold wX5_pop at h ⊢
  intro a4 ea4 
  replace h := h a4 ea4 
  replace K := fun i ro uo z => K i ro uo ⟨a4, ea4, z⟩
  refine ⟨fun c => ?_, fun c => ?_⟩
  · replace h := h.1 c
    replace K := fun i ro uo z => K i ro uo (Or.inl ⟨c, z⟩)
    exact ru_X5_pop_J45 i0 K h
  · replace h := h.2 c
    replace K := fun i ro uo z => K i ro uo (Or.inr ⟨c, z⟩)
    refine ⟨fun c => ?_, fun c => ?_⟩
    · replace h := h.1 c
      replace K := fun i ro uo z => K i ro uo (Or.inl ⟨c, z⟩)
      exact ru_X5_pop_J45 i0 K h
    · replace h := h.2 c
      replace K := fun i ro uo z => K i ro uo (Or.inr ⟨c, z⟩)
      refine ⟨fun c => ?_, fun c => ?_⟩
      · replace h := h.1 c
        replace K := fun i ro uo z => K i ro uo (Or.inl ⟨c, z⟩)
        exact ru_X5_pop_J45 i0 K h
      · replace h := h.2 c
        replace K := fun i ro uo z => K i ro uo (Or.inr ⟨c, z⟩)
        refine ⟨fun c => ?_, fun c => ?_⟩
        · replace h := h.1 c
          replace K := fun i ro uo z => K i ro uo (Or.inl ⟨c, z⟩)
          intro S14 eS14 y4_ y5_
          replace h := h S14 eS14 y4_ y5_
          replace K := fun i ro uo z => K i ro uo ⟨S14, eS14, y4_, y5_, z⟩
          obtain ⟨g6_, h⟩ := h
          refine ⟨g6_, ?_⟩
          replace K := fun i ro uo z => K i ro uo ⟨g6_, z⟩
          exact ⟨h, K i0 _ _ ⟨rfl, rfl⟩⟩
        · replace h := h.2 c
          replace K := fun i ro uo z => K i ro uo (Or.inr ⟨c, z⟩)
          exact ru_X5_pop_J45 i0 K h
set_option maxRecDepth 100000 in
theorem vw_X5_pop_J45 {ro : Int64} {uo : MS} {U45 : MS} (h : v_X5_pop_J45 ro uo U45) : w_X5_pop_J45 (fun r u => r = ro ∧ u = uo) U45 := by
  unfold v_X5_pop_J45 at h
  unfold w_X5_pop_J45
  intro _
  replace h := h.2
  obtain ⟨v9, e9, h⟩ := h
  intro x9 d9 _ _
  have c9 : v9 = x9 := e9.trans d9.symm
  subst c9
  replace h := h.2.2
  exact ⟨h.1.symm, h.2.symm⟩
set_option maxRecDepth 100000 in
theorem vp_X5_pop_J45 {ro : Int64} {uo : MS} {P : Int64 → MS → Prop} {U45 : MS} (h : v_X5_pop_J45 ro uo U45) (w : w_X5_pop_J45 P U45) : P ro uo := by
  unfold v_X5_pop_J45 at h
  unfold w_X5_pop_J45 at w
  obtain ⟨y1_, h⟩ := h
  replace w := w y1_
  obtain ⟨v9, e9, y2_, y3_, h⟩ := h
  replace w := w v9 e9 y2_ y3_
  rw [h.1, h.2]
  exact w
set_option maxRecDepth 100000 in
theorem vwX5_pop {S : MS} {ro : Int64} {uo : MS} (h : vX5_pop S ro uo) : wX5_pop S (fun r u => r = ro ∧ u = uo) := by
  unfold vX5_pop at h
  unfold wX5_pop
  obtain ⟨v9, e9, h⟩ := h
  intro x9 d9 
  have c9 : v9 = x9 := e9.trans d9.symm
  subst c9
  rcases h with ⟨c, h⟩ | ⟨c, h⟩
  · refine ⟨fun _ => ?_, fun c2 => absurd c c2⟩
    exact vw_X5_pop_J45 h
  · refine ⟨fun c2 => absurd c2 c, fun _ => ?_⟩
    rcases h with ⟨c, h⟩ | ⟨c, h⟩
    · refine ⟨fun _ => ?_, fun c2 => absurd c c2⟩
      exact vw_X5_pop_J45 h
    · refine ⟨fun c2 => absurd c2 c, fun _ => ?_⟩
      rcases h with ⟨c, h⟩ | ⟨c, h⟩
      · refine ⟨fun _ => ?_, fun c2 => absurd c c2⟩
        exact vw_X5_pop_J45 h
      · refine ⟨fun c2 => absurd c2 c, fun _ => ?_⟩
        rcases h with ⟨c, h⟩ | ⟨c, h⟩
        · refine ⟨fun _ => ?_, fun c2 => absurd c c2⟩
          obtain ⟨v9, e9, h⟩ := h
          intro x9 d9 _ _
          have c9 : v9 = x9 := e9.trans d9.symm
          subst c9
          replace h := h.2.2
          obtain ⟨g9, h⟩ := h
          refine ⟨g9, ?_⟩
          exact ⟨h.1.symm, h.2.symm⟩
        · refine ⟨fun c2 => absurd c2 c, fun _ => ?_⟩
          exact vw_X5_pop_J45 h
set_option maxRecDepth 100000 in
theorem vpX5_pop {S : MS} {ro : Int64} {uo : MS} {P : Int64 → MS → Prop} (h : vX5_pop S ro uo) (w : wX5_pop S P) : P ro uo := by
  unfold vX5_pop at h
  unfold wX5_pop at w
  obtain ⟨v9, e9, h⟩ := h
  replace w := w v9 e9 
  rcases h with ⟨c, h⟩ | ⟨c, h⟩
  · replace w := w.1 c
    exact vp_X5_pop_J45 h w
  · replace w := w.2 c
    rcases h with ⟨c, h⟩ | ⟨c, h⟩
    · replace w := w.1 c
      exact vp_X5_pop_J45 h w
    · replace w := w.2 c
      rcases h with ⟨c, h⟩ | ⟨c, h⟩
      · replace w := w.1 c
        exact vp_X5_pop_J45 h w
      · replace w := w.2 c
        rcases h with ⟨c, h⟩ | ⟨c, h⟩
        · replace w := w.1 c
          obtain ⟨v9, e9, y4_, y5_, h⟩ := h
          replace w := w v9 e9 y4_ y5_
          replace h := h.2
          replace w := w.2
          rw [h.1, h.2]
          exact w
        · replace w := w.2 c
          exact vp_X5_pop_J45 h w
