def v_X2_addSwitch_L90 (uo : MS) : Nat → MS → Nat → Int32 → Int32 → Int32 → Prop
  | 0, _, _, _, _, _ => False
  | n90 + 1, U90, v90_1, v90_2, v90_3, v90_4 => (wfC U90 ∧ qT U90 v90_1 = 47 ∧ (((qI U90 8 9).toInt = 171 ∧ ((v90_3.toInt ≤ v90_4.toInt ∧ (uo = U90)) ∨ (¬ v90_3.toInt ≤ v90_4.toInt ∧ (d_X2_s4 U90 ((v90_2 + (8 : Int32)) + ((8 : Int32) * v90_4)) ∧ (∃ a25 : Int32, a25 = (fX2_s4 U90 ((v90_2 + (8 : Int32)) + ((8 : Int32) * v90_4))) ∧ (qT U90 v90_1 = 47 ∧ (∃ (S27 : MS), vX8_addToTable U90 v90_1 a25 S27 ∧ wfC S27 ∧ shy U90 S27 ∧ (∃ a29 : Int32, a29 = (v90_4 + Int32.ofInt 1) ∧ ((v_X2_addSwitch_L90 uo n90) S27 v90_1 v90_2 v90_3 a29))))))))) ∨ (¬ (qI U90 8 9).toInt = 171 ∧ (uo = U90))))
def v_X2_addSwitch_L60 (uo : MS) : Nat → MS → Nat → Int32 → Int32 → Int32 → Prop
  | 0, _, _, _, _, _ => False
  | n60 + 1, U60, v60_1, v60_2, v60_3, v60_4 => (wfC U60 ∧ qT U60 v60_1 = 47 ∧ ((v60_3.toInt ≤ v60_4.toInt ∧ (∃ n, v_X2_addSwitch_L90 uo n U60 v60_1 v60_2 v60_3 0)) ∨ (¬ v60_3.toInt ≤ v60_4.toInt ∧ (d_X2_switchTarget U60 v60_2 v60_4 ∧ (∃ a33 : Int64, a33 = (fX2_switchTarget U60 v60_2 v60_4) ∧ (d_X2_numberOf U60 a33 ∧ (∃ a37 : Int32, a37 = (fX2_numberOf U60 a33) ∧ (qT U60 v60_1 = 47 ∧ (∃ (S39 : MS), vX8_addToTable U60 v60_1 a37 S39 ∧ wfC S39 ∧ shy U60 S39 ∧ (∃ a41 : Int32, a41 = (v60_4 + Int32.ofInt 1) ∧ ((v_X2_addSwitch_L60 uo n60) S39 v60_1 v60_2 v60_3 a41)))))))))))
def v_X2_addSwitch_J54 (uo : MS) (U54 : MS) (t54_0 : Int32) (t54_1 : Nat) (v54_1 : Nat) (v54_2 : Int32) (v54_3 : Int32) : Prop := (wfC U54 ∧ qT U54 t54_1 = 47 ∧ qT U54 v54_1 = 47 ∧ (qT U54 t54_1 = 47 ∧ (∃ (S14 : MS), vX8_addToTable U54 t54_1 t54_0 S14 ∧ wfC S14 ∧ shy U54 S14 ∧ (∃ n, v_X2_addSwitch_L60 uo n S14 v54_1 v54_2 v54_3 (-1)))))
def vX2_addSwitch (S : MS) (p1 : Nat) (uo : MS) : Prop := (∃ a1 : Int32, a1 = ((qJ S 8 10).toInt32) ∧ (d_X2_switchCount S a1 ∧ (∃ a5 : Int32, a5 = (fX2_switchCount S a1) ∧ (qT S p1 = 47 ∧ (∃ (S7 : MS), vX8_add S p1 (qI S 8 9) ((qI S p1 4).toInt64) S7 ∧ wfC S7 ∧ shy S S7 ∧ (qT S7 p1 = 47 ∧ (∃ (S11 : MS), vX8_addToTable S7 p1 (a5 + (1 : Int32)) S11 ∧ wfC S11 ∧ shy S7 S11 ∧ (((qI S11 8 9).toInt = 170 ∧ (d_X2_s4 S11 (a1 + (4 : Int32)) ∧ (∃ a47 : Int32, a47 = (fX2_s4 S11 (a1 + (4 : Int32))) ∧ (v_X2_addSwitch_J54 uo S11 a47 p1 p1 a1 a5)))) ∨ (¬ (qI S11 8 9).toInt = 170 ∧ (v_X2_addSwitch_J54 uo S11 0 p1 p1 a1 a5))))))))))
set_option maxRecDepth 100000 in
theorem ru_X2_addSwitch_L90 {ι : Type} {P Q : MS → Prop} : ∀ (n : Nat) {U90 : MS} {v90_1 : Nat} {v90_2 : Int32} {v90_3 : Int32} {v90_4 : Int32} (i0 : ι), (∀ (i : ι) (uo : MS), (∃ n8, v_X2_addSwitch_L90 uo n8 U90 v90_1 v90_2 v90_3 v90_4) → P uo) → w_X2_addSwitch_L90 Q n U90 v90_1 v90_2 v90_3 v90_4 → w_X2_addSwitch_L90 (fun u => Q u ∧ P u) n U90 v90_1 v90_2 v90_3 v90_4 := by
  intro n
  induction n with
  | zero => intro U90 v90_1 v90_2 v90_3 v90_4 i0 K h; unfold w_X2_addSwitch_L90 at h; exact h.elim
  | succ n ih =>
    intro U90 v90_1 v90_2 v90_3 v90_4 i0 K h
    unfold w_X2_addSwitch_L90 at h ⊢
    replace K := fun (i : ι × Nat) uo (z : v_X2_addSwitch_L90 uo (i.2 + 1) U90 v90_1 v90_2 v90_3 v90_4) => K i.1 uo ⟨i.2 + 1, z⟩
    have i00 := i0
    replace i0 : ι × Nat := (i0, 0)
    intro y1_ y2_
    replace h := h y1_ y2_
    replace K := fun i uo z => K i uo ⟨y1_, y2_, z⟩
    refine ⟨fun c => ?_, fun c => ?_⟩
    · replace h := h.1 c
      replace K := fun i uo z => K i uo (Or.inl ⟨c, z⟩)
      refine ⟨fun c => ?_, fun c => ?_⟩
      · replace h := h.1 c
        replace K := fun i uo z => K i uo (Or.inl ⟨c, z⟩)
        exact ⟨h, K i0 _ rfl⟩
      · replace h := h.2 c
        replace K := fun i uo z => K i uo (Or.inr ⟨c, z⟩)
        obtain ⟨g3_, h⟩ := h
        refine ⟨g3_, ?_⟩
        replace K := fun i uo z => K i uo ⟨g3_, z⟩
        intro a25 ea25 
        replace h := h a25 ea25 
        replace K := fun i uo z => K i uo ⟨a25, ea25, z⟩
        intro y4_
        replace h := h y4_
        replace K := fun i uo z => K i uo ⟨y4_, z⟩
        obtain ⟨Q9, h0, h⟩ := h
        refine ⟨_, ruX8_addToTable h0, ?_⟩
        intro S27 q5_ y6_ y7_
        replace h := h S27 q5_.1 y6_ y7_
        replace K := fun i uo z => K i uo ⟨S27, q5_.2, y6_, y7_, z⟩
        intro a29 ea29 
        replace h := h a29 ea29 
        replace K := fun i uo z => K i uo ⟨a29, ea29, z⟩
        exact ih i00 (fun i uo ⟨n8, z⟩ => K (i, n8) uo z) h
    · replace h := h.2 c
      replace K := fun i uo z => K i uo (Or.inr ⟨c, z⟩)
      exact ⟨h, K i0 _ rfl⟩
set_option maxRecDepth 100000 in
theorem ru_X2_addSwitch_L60 {ι : Type} {P Q : MS → Prop} : ∀ (n : Nat) {U60 : MS} {v60_1 : Nat} {v60_2 : Int32} {v60_3 : Int32} {v60_4 : Int32} (i0 : ι), (∀ (i : ι) (uo : MS), (∃ n8, v_X2_addSwitch_L60 uo n8 U60 v60_1 v60_2 v60_3 v60_4) → P uo) → w_X2_addSwitch_L60 Q n U60 v60_1 v60_2 v60_3 v60_4 → w_X2_addSwitch_L60 (fun u => Q u ∧ P u) n U60 v60_1 v60_2 v60_3 v60_4 := by
  intro n
  induction n with
  | zero => intro U60 v60_1 v60_2 v60_3 v60_4 i0 K h; unfold w_X2_addSwitch_L60 at h; exact h.elim
  | succ n ih =>
    intro U60 v60_1 v60_2 v60_3 v60_4 i0 K h
    unfold w_X2_addSwitch_L60 at h ⊢
    replace K := fun (i : ι × Nat) uo (z : v_X2_addSwitch_L60 uo (i.2 + 1) U60 v60_1 v60_2 v60_3 v60_4) => K i.1 uo ⟨i.2 + 1, z⟩
    have i00 := i0
    replace i0 : ι × Nat := (i0, 0)
    intro y8_ y9_
    replace h := h y8_ y9_
    replace K := fun i uo z => K i uo ⟨y8_, y9_, z⟩
    refine ⟨fun c => ?_, fun c => ?_⟩
    · replace h := h.1 c
      replace K := fun i uo z => K i uo (Or.inl ⟨c, z⟩)
      obtain ⟨n9, h⟩ := h
      exact ⟨n9, ru_X2_addSwitch_L90 n9 i0 K h⟩
    · replace h := h.2 c
      replace K := fun i uo z => K i uo (Or.inr ⟨c, z⟩)
      obtain ⟨g10_, h⟩ := h
      refine ⟨g10_, ?_⟩
      replace K := fun i uo z => K i uo ⟨g10_, z⟩
      intro a33 ea33 
      replace h := h a33 ea33 
      replace K := fun i uo z => K i uo ⟨a33, ea33, z⟩
      obtain ⟨g11_, h⟩ := h
      refine ⟨g11_, ?_⟩
      replace K := fun i uo z => K i uo ⟨g11_, z⟩
      intro a37 ea37 
      replace h := h a37 ea37 
      replace K := fun i uo z => K i uo ⟨a37, ea37, z⟩
      intro y12_
      replace h := h y12_
      replace K := fun i uo z => K i uo ⟨y12_, z⟩
      obtain ⟨Q9, h0, h⟩ := h
      refine ⟨_, ruX8_addToTable h0, ?_⟩
      intro S39 q13_ y14_ y15_
      replace h := h S39 q13_.1 y14_ y15_
      replace K := fun i uo z => K i uo ⟨S39, q13_.2, y14_, y15_, z⟩
      intro a41 ea41 
      replace h := h a41 ea41 
      replace K := fun i uo z => K i uo ⟨a41, ea41, z⟩
      exact ih i00 (fun i uo ⟨n8, z⟩ => K (i, n8) uo z) h
set_option maxRecDepth 100000 in
theorem ru_X2_addSwitch_J54 {ι : Type} {P Q : MS → Prop} {U54 : MS} {t54_0 : Int32} {t54_1 : Nat} {v54_1 : Nat} {v54_2 : Int32} {v54_3 : Int32} (i0 : ι) (K : ∀ (i : ι) (uo : MS), v_X2_addSwitch_J54 uo U54 t54_0 t54_1 v54_1 v54_2 v54_3 → P uo) (h : w_X2_addSwitch_J54 Q U54 t54_0 t54_1 v54_1 v54_2 v54_3) : w_X2_addSwitch_J54 (fun u => Q u ∧ P u) U54 t54_0 t54_1 v54_1 v54_2 v54_3 := by
  unfold w_X2_addSwitch_J54 at h ⊢
  intro y16_ y17_ y18_
  replace h := h y16_ y17_ y18_
  replace K := fun i uo z => K i uo ⟨y16_, y17_, y18_, z⟩
  intro y19_
  replace h := h y19_
  replace K := fun i uo z => K i uo ⟨y19_, z⟩
  obtain ⟨Q9, h0, h⟩ := h
  refine ⟨_, ruX8_addToTable h0, ?_⟩
  intro S14 q20_ y21_ y22_
  replace h := h S14 q20_.1 y21_ y22_
  replace K := fun i uo z => K i uo ⟨S14, q20_.2, y21_, y22_, z⟩
  obtain ⟨n9, h⟩ := h
  exact ⟨n9, ru_X2_addSwitch_L60 n9 i0 K h⟩
set_option maxRecDepth 100000 in
theorem ruX2_addSwitch {S : MS} {p1 : Nat} {Q : MS → Prop} (h : wX2_addSwitch S p1 Q) : wX2_addSwitch S p1 (fun u => Q u ∧ vX2_addSwitch S p1 u) := by
  have i0 : Unit := ()
  have K : ∀ (i : Unit) (uo : MS), vX2_addSwitch S p1 uo → vX2_addSwitch S p1 uo := fun _ _ z => z
  unfold wX2_addSwitch at h ⊢
  intro a1 ea1 
  replace h := h a1 ea1 
  replace K := fun i uo z => K i uo ⟨a1, ea1, z⟩
  obtain ⟨g23_, h⟩ := h
  refine ⟨g23_, ?_⟩
  replace K := fun i uo z => K i uo ⟨g23_, z⟩
  intro a5 ea5 
  replace h := h a5 ea5 
  replace K := fun i uo z => K i uo ⟨a5, ea5, z⟩
  intro y24_
  replace h := h y24_
  replace K := fun i uo z => K i uo ⟨y24_, z⟩
  obtain ⟨Q9, h0, h⟩ := h
  refine ⟨_, ruX8_add h0, ?_⟩
  intro S7 q25_ y26_ y27_
  replace h := h S7 q25_.1 y26_ y27_
  replace K := fun i uo z => K i uo ⟨S7, q25_.2, y26_, y27_, z⟩
  intro y28_
  replace h := h y28_
  replace K := fun i uo z => K i uo ⟨y28_, z⟩
  obtain ⟨Q9, h0, h⟩ := h
  refine ⟨_, ruX8_addToTable h0, ?_⟩
  intro S11 q29_ y30_ y31_
  replace h := h S11 q29_.1 y30_ y31_
  replace K := fun i uo z => K i uo ⟨S11, q29_.2, y30_, y31_, z⟩
  refine ⟨fun c => ?_, fun c => ?_⟩
  · replace h := h.1 c
    replace K := fun i uo z => K i uo (Or.inl ⟨c, z⟩)
    obtain ⟨g32_, h⟩ := h
    refine ⟨g32_, ?_⟩
    replace K := fun i uo z => K i uo ⟨g32_, z⟩
    intro a47 ea47 
    replace h := h a47 ea47 
    replace K := fun i uo z => K i uo ⟨a47, ea47, z⟩
    exact ru_X2_addSwitch_J54 i0 K h
  · replace h := h.2 c
    replace K := fun i uo z => K i uo (Or.inr ⟨c, z⟩)
    exact ru_X2_addSwitch_J54 i0 K h
set_option maxRecDepth 100000 in
theorem vw_X2_addSwitch_L90 {uo : MS} : ∀ (n : Nat) {U90 : MS} {v90_1 : Nat} {v90_2 : Int32} {v90_3 : Int32} {v90_4 : Int32}, v_X2_addSwitch_L90 uo n U90 v90_1 v90_2 v90_3 v90_4 → w_X2_addSwitch_L90 (fun u => u = uo) n U90 v90_1 v90_2 v90_3 v90_4 := by
  intro n
  induction n with
  | zero => intro U90 v90_1 v90_2 v90_3 v90_4 h; unfold v_X2_addSwitch_L90 at h; exact h.elim
  | succ n ih =>
    intro U90 v90_1 v90_2 v90_3 v90_4 h
    unfold v_X2_addSwitch_L90 at h
    unfold w_X2_addSwitch_L90
    intro _ _
    replace h := h.2.2
    rcases h with ⟨c, h⟩ | ⟨c, h⟩
    · refine ⟨fun _ => ?_, fun c2 => absurd c c2⟩
      rcases h with ⟨c, h⟩ | ⟨c, h⟩
      · refine ⟨fun _ => ?_, fun c2 => absurd c c2⟩
        exact h.symm
      · refine ⟨fun c2 => absurd c2 c, fun _ => ?_⟩
        obtain ⟨g9, h⟩ := h
        refine ⟨g9, ?_⟩
        obtain ⟨v9, e9, h⟩ := h
        intro x9 d9 
        have c9 : v9 = x9 := e9.trans d9.symm
        subst c9
        intro _
        replace h := h.2
        obtain ⟨q9, z9, h⟩ := h
        refine ⟨_, vwX8_addToTable z9, ?_⟩
        intro q8 d9 _ _
        subst d9
        replace h := h.2.2
        obtain ⟨v9, e9, h⟩ := h
        intro x9 d9 
        have c9 : v9 = x9 := e9.trans d9.symm
        subst c9
        exact ih h
    · refine ⟨fun c2 => absurd c2 c, fun _ => ?_⟩
      exact h.symm
set_option maxRecDepth 100000 in
theorem vp_X2_addSwitch_L90 {uo : MS} {P : MS → Prop} : ∀ (n m : Nat) {U90 : MS} {v90_1 : Nat} {v90_2 : Int32} {v90_3 : Int32} {v90_4 : Int32}, v_X2_addSwitch_L90 uo n U90 v90_1 v90_2 v90_3 v90_4 → w_X2_addSwitch_L90 P m U90 v90_1 v90_2 v90_3 v90_4 → P uo := by
  intro n
  induction n with
  | zero => intro m U90 v90_1 v90_2 v90_3 v90_4 h; unfold v_X2_addSwitch_L90 at h; exact h.elim
  | succ n ih =>
    intro m U90 v90_1 v90_2 v90_3 v90_4 h w
    cases m with
    | zero => unfold w_X2_addSwitch_L90 at w; exact w.elim
    | succ m =>
      unfold v_X2_addSwitch_L90 at h
      unfold w_X2_addSwitch_L90 at w
      obtain ⟨y1_, y2_, h⟩ := h
      replace w := w y1_ y2_
      rcases h with ⟨c, h⟩ | ⟨c, h⟩
      · replace w := w.1 c
        rcases h with ⟨c, h⟩ | ⟨c, h⟩
        · replace w := w.1 c
          rw [h]
          exact w
        · replace w := w.2 c
          replace h := h.2
          replace w := w.2
          obtain ⟨v9, e9, h⟩ := h
          replace w := w v9 e9 
          obtain ⟨y3_, h⟩ := h
          replace w := w y3_
          obtain ⟨q9, z9, y4_, y5_, h⟩ := h
          obtain ⟨Q9, w0, w⟩ := w
          replace w := w q9 (vpX8_addToTable z9 w0) y4_ y5_
          obtain ⟨v9, e9, h⟩ := h
          replace w := w v9 e9 
          exact ih m h w
      · replace w := w.2 c
        rw [h]
        exact w
set_option maxRecDepth 100000 in
theorem vw_X2_addSwitch_L60 {uo : MS} : ∀ (n : Nat) {U60 : MS} {v60_1 : Nat} {v60_2 : Int32} {v60_3 : Int32} {v60_4 : Int32}, v_X2_addSwitch_L60 uo n U60 v60_1 v60_2 v60_3 v60_4 → w_X2_addSwitch_L60 (fun u => u = uo) n U60 v60_1 v60_2 v60_3 v60_4 := by
  intro n
  induction n with
  | zero => intro U60 v60_1 v60_2 v60_3 v60_4 h; unfold v_X2_addSwitch_L60 at h; exact h.elim
  | succ n ih =>
    intro U60 v60_1 v60_2 v60_3 v60_4 h
    unfold v_X2_addSwitch_L60 at h
    unfold w_X2_addSwitch_L60
    intro _ _
    replace h := h.2.2
    rcases h with ⟨c, h⟩ | ⟨c, h⟩
    · refine ⟨fun _ => ?_, fun c2 => absurd c c2⟩
      obtain ⟨n9, h⟩ := h
      exact ⟨n9, vw_X2_addSwitch_L90 n9 h⟩
    · refine ⟨fun c2 => absurd c2 c, fun _ => ?_⟩
      obtain ⟨g9, h⟩ := h
      refine ⟨g9, ?_⟩
      obtain ⟨v9, e9, h⟩ := h
      intro x9 d9 
      have c9 : v9 = x9 := e9.trans d9.symm
      subst c9
      obtain ⟨g9, h⟩ := h
      refine ⟨g9, ?_⟩
      obtain ⟨v9, e9, h⟩ := h
      intro x9 d9 
      have c9 : v9 = x9 := e9.trans d9.symm
      subst c9
      intro _
      replace h := h.2
      obtain ⟨q9, z9, h⟩ := h
      refine ⟨_, vwX8_addToTable z9, ?_⟩
      intro q8 d9 _ _
      subst d9
      replace h := h.2.2
      obtain ⟨v9, e9, h⟩ := h
      intro x9 d9 
      have c9 : v9 = x9 := e9.trans d9.symm
      subst c9
      exact ih h
set_option maxRecDepth 100000 in
theorem vp_X2_addSwitch_L60 {uo : MS} {P : MS → Prop} : ∀ (n m : Nat) {U60 : MS} {v60_1 : Nat} {v60_2 : Int32} {v60_3 : Int32} {v60_4 : Int32}, v_X2_addSwitch_L60 uo n U60 v60_1 v60_2 v60_3 v60_4 → w_X2_addSwitch_L60 P m U60 v60_1 v60_2 v60_3 v60_4 → P uo := by
  intro n
  induction n with
  | zero => intro m U60 v60_1 v60_2 v60_3 v60_4 h; unfold v_X2_addSwitch_L60 at h; exact h.elim
  | succ n ih =>
    intro m U60 v60_1 v60_2 v60_3 v60_4 h w
    cases m with
    | zero => unfold w_X2_addSwitch_L60 at w; exact w.elim
    | succ m =>
      unfold v_X2_addSwitch_L60 at h
      unfold w_X2_addSwitch_L60 at w
      obtain ⟨y6_, y7_, h⟩ := h
      replace w := w y6_ y7_
      rcases h with ⟨c, h⟩ | ⟨c, h⟩
      · replace w := w.1 c
        obtain ⟨n9, h⟩ := h
        obtain ⟨n8, w⟩ := w
        exact vp_X2_addSwitch_L90 n9 n8 h w
      · replace w := w.2 c
        replace h := h.2
        replace w := w.2
        obtain ⟨v9, e9, h⟩ := h
        replace w := w v9 e9 
        replace h := h.2
        replace w := w.2
        obtain ⟨v9, e9, h⟩ := h
        replace w := w v9 e9 
        obtain ⟨y8_, h⟩ := h
        replace w := w y8_
        obtain ⟨q9, z9, y9_, y10_, h⟩ := h
        obtain ⟨Q9, w0, w⟩ := w
        replace w := w q9 (vpX8_addToTable z9 w0) y9_ y10_
        obtain ⟨v9, e9, h⟩ := h
        replace w := w v9 e9 
        exact ih m h w
set_option maxRecDepth 100000 in
theorem vw_X2_addSwitch_J54 {uo : MS} {U54 : MS} {t54_0 : Int32} {t54_1 : Nat} {v54_1 : Nat} {v54_2 : Int32} {v54_3 : Int32} (h : v_X2_addSwitch_J54 uo U54 t54_0 t54_1 v54_1 v54_2 v54_3) : w_X2_addSwitch_J54 (fun u => u = uo) U54 t54_0 t54_1 v54_1 v54_2 v54_3 := by
  unfold v_X2_addSwitch_J54 at h
  unfold w_X2_addSwitch_J54
  intro _ _ _
  replace h := h.2.2.2
  intro _
  replace h := h.2
  obtain ⟨q9, z9, h⟩ := h
  refine ⟨_, vwX8_addToTable z9, ?_⟩
  intro q8 d9 _ _
  subst d9
  replace h := h.2.2
  obtain ⟨n9, h⟩ := h
  exact ⟨n9, vw_X2_addSwitch_L60 n9 h⟩
set_option maxRecDepth 100000 in
theorem vp_X2_addSwitch_J54 {uo : MS} {P : MS → Prop} {U54 : MS} {t54_0 : Int32} {t54_1 : Nat} {v54_1 : Nat} {v54_2 : Int32} {v54_3 : Int32} (h : v_X2_addSwitch_J54 uo U54 t54_0 t54_1 v54_1 v54_2 v54_3) (w : w_X2_addSwitch_J54 P U54 t54_0 t54_1 v54_1 v54_2 v54_3) : P uo := by
  unfold v_X2_addSwitch_J54 at h
  unfold w_X2_addSwitch_J54 at w
  obtain ⟨y11_, y12_, y13_, h⟩ := h
  replace w := w y11_ y12_ y13_
  obtain ⟨y14_, h⟩ := h
  replace w := w y14_
  obtain ⟨q9, z9, y15_, y16_, h⟩ := h
  obtain ⟨Q9, w0, w⟩ := w
  replace w := w q9 (vpX8_addToTable z9 w0) y15_ y16_
  obtain ⟨n9, h⟩ := h
  obtain ⟨n8, w⟩ := w
  exact vp_X2_addSwitch_L60 n9 n8 h w
set_option maxRecDepth 100000 in
theorem vwX2_addSwitch {S : MS} {p1 : Nat} {uo : MS} (h : vX2_addSwitch S p1 uo) : wX2_addSwitch S p1 (fun u => u = uo) := by
  unfold vX2_addSwitch at h
  unfold wX2_addSwitch
  obtain ⟨v9, e9, h⟩ := h
  intro x9 d9 
  have c9 : v9 = x9 := e9.trans d9.symm
  subst c9
  obtain ⟨g9, h⟩ := h
  refine ⟨g9, ?_⟩
  obtain ⟨v9, e9, h⟩ := h
  intro x9 d9 
  have c9 : v9 = x9 := e9.trans d9.symm
  subst c9
  intro _
  replace h := h.2
  obtain ⟨q9, z9, h⟩ := h
  refine ⟨_, vwX8_add z9, ?_⟩
  intro q8 d9 _ _
  subst d9
  replace h := h.2.2
  intro _
  replace h := h.2
  obtain ⟨q9, z9, h⟩ := h
  refine ⟨_, vwX8_addToTable z9, ?_⟩
  intro q8 d9 _ _
  subst d9
  replace h := h.2.2
  rcases h with ⟨c, h⟩ | ⟨c, h⟩
  · refine ⟨fun _ => ?_, fun c2 => absurd c c2⟩
    obtain ⟨g9, h⟩ := h
    refine ⟨g9, ?_⟩
    obtain ⟨v9, e9, h⟩ := h
    intro x9 d9 
    have c9 : v9 = x9 := e9.trans d9.symm
    subst c9
    exact vw_X2_addSwitch_J54 h
  · refine ⟨fun c2 => absurd c2 c, fun _ => ?_⟩
    exact vw_X2_addSwitch_J54 h
set_option maxRecDepth 100000 in
theorem vpX2_addSwitch {S : MS} {p1 : Nat} {uo : MS} {P : MS → Prop} (h : vX2_addSwitch S p1 uo) (w : wX2_addSwitch S p1 P) : P uo := by
  unfold vX2_addSwitch at h
  unfold wX2_addSwitch at w
  obtain ⟨v9, e9, h⟩ := h
  replace w := w v9 e9 
  replace h := h.2
  replace w := w.2
  obtain ⟨v9, e9, h⟩ := h
  replace w := w v9 e9 
  obtain ⟨y17_, h⟩ := h
  replace w := w y17_
  obtain ⟨q9, z9, y18_, y19_, h⟩ := h
  obtain ⟨Q9, w0, w⟩ := w
  replace w := w q9 (vpX8_add z9 w0) y18_ y19_
  obtain ⟨y20_, h⟩ := h
  replace w := w y20_
  obtain ⟨q9, z9, y21_, y22_, h⟩ := h
  obtain ⟨Q9, w0, w⟩ := w
  replace w := w q9 (vpX8_addToTable z9 w0) y21_ y22_
  rcases h with ⟨c, h⟩ | ⟨c, h⟩
  · replace w := w.1 c
    replace h := h.2
    replace w := w.2
    obtain ⟨v9, e9, h⟩ := h
    replace w := w v9 e9 
    exact vp_X2_addSwitch_J54 h w
  · replace w := w.2 c
    exact vp_X2_addSwitch_J54 h w
def v_X3_findBlocks_J242 (uo : MS) (k202 : MS → Int32 → Prop) (U242 : MS) (v242_1 : Int32) : Prop := (wfC U242 ∧ (((0 : Int) ≤ v242_1.toInt ∧ v242_1.toInt < (qN U242 (qO U242 52 3) : Int)) ∧ (∃ S28 : MS, S28 = wI U242 (qO U242 52 3) v242_1.toInt.toNat ((qI U242 52 1) - (1 : Int32)) ∧ qT U242 (qO U242 52 3) = 203 ∧ wfC S28 ∧ (∃ a29 : Int32, a29 = (v242_1 + Int32.ofInt 1) ∧ (k202 S28 a29)))))
def v_X3_findBlocks_J131 (uo : MS) (k60 : MS → Int32 → Prop) (U131 : MS) (v131_1 : Int32) : Prop := (wfC U131 ∧ (∃ a71 : Int32, a71 = (v131_1 + Int32.ofInt 1) ∧ (k60 U131 a71)))
def v_X3_findBlocks_J124 (uo : MS) (k60 : MS → Int32 → Prop) (U124 : MS) (v124_1 : Int32) : Prop := (wfC U124 ∧ (∃ (S74 : MS), vX3_begin U124 (v124_1 + (1 : Int32)) S74 ∧ wfC S74 ∧ shy U124 S74 ∧ (v_X3_findBlocks_J131 uo k60 S74 v124_1)))
def v_X3_findBlocks_L202 (uo : MS) : Nat → MS → Int32 → Prop
  | 0, _, _ => False
  | n202 + 1, U202, v202_1 => (wfC U202 ∧ ((qR U202 52 0 = some (qO U202 52 0)) ∧ (((qI U202 (qO U202 52 0) 2).toInt ≤ v202_1.toInt ∧ (uo = U202)) ∨ (¬ (qI U202 (qO U202 52 0) 2).toInt ≤ v202_1.toInt ∧ (((0 : Int) ≤ v202_1.toInt ∧ v202_1.toInt < (qN U202 (qO U202 52 3) : Int)) ∧ (((qI U202 (qO U202 52 3) v202_1.toInt.toNat).toInt = 0 ∧ (v_X3_findBlocks_J242 uo (v_X3_findBlocks_L202 uo n202) U202 v202_1)) ∨ (¬ (qI U202 (qO U202 52 3) v202_1.toInt.toNat).toInt = 0 ∧ (((0 : Int) ≤ (qI U202 52 1).toInt ∧ (qI U202 52 1).toInt < (qN U202 (qO U202 52 2) : Int)) ∧ (∃ S33 : MS, S33 = wI U202 (qO U202 52 2) (((qI U202 52 1).toInt).toNat) v202_1 ∧ qT U202 (qO U202 52 2) = 202 ∧ wfC S33 ∧ (∃ S35 : MS, S35 = wI S33 52 1 ((qI S33 52 1) + (1 : Int32)) ∧ qT S33 52 = 43 ∧ wfC S35 ∧ (v_X3_findBlocks_J242 uo (v_X3_findBlocks_L202 uo n202) S35 v202_1)))))))))))
def v_X3_findBlocks_L139 (uo : MS) : Nat → MS → Int32 → Prop
  | 0, _, _ => False
  | n139 + 1, U139, v139_1 => (wfC U139 ∧ ((qR U139 52 0 = some (qO U139 52 0)) ∧ (((qI U139 (qO U139 52 0) 9).toInt ≤ v139_1.toInt ∧ (∃ S18 : MS, S18 = wI U139 52 1 (0 : Int32) ∧ qT U139 52 = 43 ∧ wfC S18 ∧ (∃ n, v_X3_findBlocks_L202 uo n S18 0))) ∨ (¬ (qI U139 (qO U139 52 0) 9).toInt ≤ v139_1.toInt ∧ ((qR U139 52 0 = some (qO U139 52 0)) ∧ ((qR U139 (qO U139 52 0) 5 = some (qO U139 (qO U139 52 0) 5)) ∧ (((0 : Int) ≤ v139_1.toInt ∧ v139_1.toInt < (qN U139 (qO U139 (qO U139 52 0) 5) : Int)) ∧ (∃ (S43 : MS), vX3_begin U139 (qI U139 (qO U139 (qO U139 52 0) 5) v139_1.toInt.toNat) S43 ∧ wfC S43 ∧ shy U139 S43 ∧ ((qR S43 52 0 = some (qO S43 52 0)) ∧ ((qR S43 (qO S43 52 0) 6 = some (qO S43 (qO S43 52 0) 6)) ∧ (((0 : Int) ≤ v139_1.toInt ∧ v139_1.toInt < (qN S43 (qO S43 (qO S43 52 0) 6) : Int)) ∧ (∃ (S52 : MS), vX3_begin S43 (qI S43 (qO S43 (qO S43 52 0) 6) v139_1.toInt.toNat) S52 ∧ wfC S52 ∧ shy S43 S52 ∧ ((qR S52 52 0 = some (qO S52 52 0)) ∧ ((qR S52 (qO S52 52 0) 7 = some (qO S52 (qO S52 52 0) 7)) ∧ (((0 : Int) ≤ v139_1.toInt ∧ v139_1.toInt < (qN S52 (qO S52 (qO S52 52 0) 7) : Int)) ∧ (∃ (S61 : MS), vX3_begin S52 (qI S52 (qO S52 (qO S52 52 0) 7) v139_1.toInt.toNat) S61 ∧ wfC S61 ∧ shy S52 S61 ∧ (∃ a63 : Int32, a63 = (v139_1 + Int32.ofInt 1) ∧ ((v_X3_findBlocks_L139 uo n139) S61 a63))))))))))))))))))
def v_X3_findBlocks_L82 (uo : MS) (k60 : MS → Int32 → Prop) : Nat → MS → Int32 → Int32 → Int32 → Prop
  | 0, _, _, _, _ => False
  | n82 + 1, U82, v82_1, v82_2, v82_3 => (wfC U82 ∧ ((v82_2.toInt ≤ v82_3.toInt ∧ ((0 < v82_2.toInt ∧ (v_X3_findBlocks_J124 uo k60 U82 v82_1)) ∨ (¬ 0 < v82_2.toInt ∧ ((qR U82 52 0 = some (qO U82 52 0)) ∧ (d_X8_opAt U82 (qO U82 52 0) v82_1 ∧ (∃ a82 : Int32, a82 = (fX8_opAt U82 (qO U82 52 0) v82_1) ∧ (d_X6_goesOn U82 a82 ∧ (∃ a86 : Int32, a86 = (fX6_goesOn U82 a82) ∧ ((a86.toInt = 0 ∧ (v_X3_findBlocks_J124 uo k60 U82 v82_1)) ∨ (¬ a86.toInt = 0 ∧ (v_X3_findBlocks_J131 uo k60 U82 v82_1))))))))))) ∨ (¬ v82_2.toInt ≤ v82_3.toInt ∧ ((qR U82 52 0 = some (qO U82 52 0)) ∧ (d_X8_targetAt U82 (qO U82 52 0) v82_1 v82_3 ∧ (∃ a93 : Int32, a93 = (fX8_targetAt U82 (qO U82 52 0) v82_1 v82_3) ∧ (∃ (S95 : MS), vX3_begin U82 a93 S95 ∧ wfC S95 ∧ shy U82 S95 ∧ (∃ a97 : Int32, a97 = (v82_3 + Int32.ofInt 1) ∧ ((v_X3_findBlocks_L82 uo k60 n82) S95 v82_1 v82_2 a97)))))))))
def v_X3_findBlocks_L60 (uo : MS) : Nat → MS → Int32 → Prop
  | 0, _, _ => False
  | n60 + 1, U60, v60_1 => (wfC U60 ∧ ((qR U60 52 0 = some (qO U60 52 0)) ∧ (((qI U60 (qO U60 52 0) 2).toInt ≤ v60_1.toInt ∧ (∃ n, v_X3_findBlocks_L139 uo n U60 0)) ∨ (¬ (qI U60 (qO U60 52 0) 2).toInt ≤ v60_1.toInt ∧ ((qR U60 52 0 = some (qO U60 52 0)) ∧ (d_X8_targetCount U60 (qO U60 52 0) v60_1 ∧ (∃ a69 : Int32, a69 = (fX8_targetCount U60 (qO U60 52 0) v60_1) ∧ (∃ n, v_X3_findBlocks_L82 uo (v_X3_findBlocks_L60 uo n60) n U60 v60_1 a69 0))))))))
def v_X3_findBlocks_J45 (uo : MS) (U45 : MS) : Prop := (wfC U45 ∧ (qT U45 (qO U45 52 3) = 203 ∧ (∃ (S7 : MS), vJ7_fill_53178 U45 (qO U45 52 3) (0 : Int32) S7 ∧ wfC S7 ∧ shy U45 S7 ∧ (∃ (S10 : MS), vX3_begin S7 (0 : Int32) S10 ∧ wfC S10 ∧ shy S7 S10 ∧ (∃ n, v_X3_findBlocks_L60 uo n S10 0)))))
def vX3_findBlocks (S : MS) (uo : MS) : Prop := ((qR S 52 0 = some (qO S 52 0)) ∧ (((qI S (qO S 52 0) 2).toInt ≤ (qN S (qO S 52 3) : Int) ∧ (v_X3_findBlocks_J45 uo S)) ∨ (¬ (qI S (qO S 52 0) 2).toInt ≤ (qN S (qO S 52 3) : Int) ∧ ((qR S 52 0 = some (qO S 52 0)) ∧ (((0 : Int) ≤ ((2 : Int32) * (qI S (qO S 52 0) 2)).toInt ∧ (qn S + 1 ≤ KCC ∧ qu S + ((2 : Int32) * (qI S (qO S 52 0) 2)).toInt.toNat ≤ KSC)) ∧ (∃ S105 : MS, S105 = wN S 203 (((2 : Int32) * (qI S (qO S 52 0) 2)).toInt.toNat) (((2 : Int32) * (qI S (qO S 52 0) 2)).toInt.toNat) ∧ wfC S105 ∧ (∃ S107 : MS, S107 = wR S105 52 3 (some (qn S)) ∧ qT S105 52 = 43 ∧ wfC S107 ∧ ((qR S107 52 0 = some (qO S107 52 0)) ∧ (((0 : Int) ≤ ((2 : Int32) * (qI S107 (qO S107 52 0) 2)).toInt ∧ (qn S107 + 1 ≤ KCC ∧ qu S107 + ((2 : Int32) * (qI S107 (qO S107 52 0) 2)).toInt.toNat ≤ KSC)) ∧ (∃ S114 : MS, S114 = wN S107 202 (((2 : Int32) * (qI S107 (qO S107 52 0) 2)).toInt.toNat) (((2 : Int32) * (qI S107 (qO S107 52 0) 2)).toInt.toNat) ∧ wfC S114 ∧ (∃ S116 : MS, S116 = wR S114 52 2 (some (qn S107)) ∧ qT S114 52 = 43 ∧ wfC S116 ∧ (v_X3_findBlocks_J45 uo S116))))))))))))
set_option maxRecDepth 100000 in
theorem ru_X3_findBlocks_J242 {ι : Type} {P Q : MS → Prop} {k202 k202' : MS → Int32 → Prop} {k202v : ι → MS → MS → Int32 → Prop} {U242 : MS} {v242_1 : Int32} (i0 : ι) (hk202 : ∀ (u : MS) (z0 : Int32), k202 u z0 → (∀ (i : ι) (uo : MS), k202v i uo u z0 → P uo) → k202' u z0) (K : ∀ (i : ι) (uo : MS), v_X3_findBlocks_J242 uo (k202v i uo) U242 v242_1 → P uo) (h : w_X3_findBlocks_J242 Q k202 U242 v242_1) : w_X3_findBlocks_J242 (fun u => Q u ∧ P u) k202' U242 v242_1 := by
  unfold w_X3_findBlocks_J242 at h ⊢
  intro y1_
  replace h := h y1_
  replace K := fun i uo z => K i uo ⟨y1_, z⟩
  obtain ⟨g2_, h⟩ := h
  refine ⟨g2_, ?_⟩
  replace K := fun i uo z => K i uo ⟨g2_, z⟩
  intro S28 eS28 y3_ y4_
  replace h := h S28 eS28 y3_ y4_
  replace K := fun i uo z => K i uo ⟨S28, eS28, y3_, y4_, z⟩
  intro a29 ea29 
  replace h := h a29 ea29 
  replace K := fun i uo z => K i uo ⟨a29, ea29, z⟩
  exact hk202 _ _ h K
set_option maxRecDepth 100000 in
theorem ru_X3_findBlocks_J131 {ι : Type} {P Q : MS → Prop} {k60 k60' : MS → Int32 → Prop} {k60v : ι → MS → MS → Int32 → Prop} {U131 : MS} {v131_1 : Int32} (i0 : ι) (hk60 : ∀ (u : MS) (z0 : Int32), k60 u z0 → (∀ (i : ι) (uo : MS), k60v i uo u z0 → P uo) → k60' u z0) (K : ∀ (i : ι) (uo : MS), v_X3_findBlocks_J131 uo (k60v i uo) U131 v131_1 → P uo) (h : w_X3_findBlocks_J131 Q k60 U131 v131_1) : w_X3_findBlocks_J131 (fun u => Q u ∧ P u) k60' U131 v131_1 := by
  unfold w_X3_findBlocks_J131 at h ⊢
  intro y5_
  replace h := h y5_
  replace K := fun i uo z => K i uo ⟨y5_, z⟩
  intro a71 ea71 
  replace h := h a71 ea71 
  replace K := fun i uo z => K i uo ⟨a71, ea71, z⟩
  exact hk60 _ _ h K
set_option maxRecDepth 100000 in
theorem ru_X3_findBlocks_J124 {ι : Type} {P Q : MS → Prop} {k60 k60' : MS → Int32 → Prop} {k60v : ι → MS → MS → Int32 → Prop} {U124 : MS} {v124_1 : Int32} (i0 : ι) (hk60 : ∀ (u : MS) (z0 : Int32), k60 u z0 → (∀ (i : ι) (uo : MS), k60v i uo u z0 → P uo) → k60' u z0) (K : ∀ (i : ι) (uo : MS), v_X3_findBlocks_J124 uo (k60v i uo) U124 v124_1 → P uo) (h : w_X3_findBlocks_J124 Q k60 U124 v124_1) : w_X3_findBlocks_J124 (fun u => Q u ∧ P u) k60' U124 v124_1 := by
  unfold w_X3_findBlocks_J124 at h ⊢
  intro y6_
  replace h := h y6_
  replace K := fun i uo z => K i uo ⟨y6_, z⟩
  obtain ⟨Q9, h0, h⟩ := h
  refine ⟨_, ruX3_begin h0, ?_⟩
  intro S74 q7_ y8_ y9_
  replace h := h S74 q7_.1 y8_ y9_
  replace K := fun i uo z => K i uo ⟨S74, q7_.2, y8_, y9_, z⟩
  exact ru_X3_findBlocks_J131 i0 hk60 K h
set_option maxRecDepth 100000 in
theorem ru_X3_findBlocks_L202 {ι : Type} {P Q : MS → Prop} : ∀ (n : Nat) {U202 : MS} {v202_1 : Int32} (i0 : ι), (∀ (i : ι) (uo : MS), (∃ n8, v_X3_findBlocks_L202 uo n8 U202 v202_1) → P uo) → w_X3_findBlocks_L202 Q n U202 v202_1 → w_X3_findBlocks_L202 (fun u => Q u ∧ P u) n U202 v202_1 := by
  intro n
  induction n with
  | zero => intro U202 v202_1 i0 K h; unfold w_X3_findBlocks_L202 at h; exact h.elim
  | succ n ih =>
    intro U202 v202_1 i0 K h
    unfold w_X3_findBlocks_L202 at h ⊢
    replace K := fun (i : ι × Nat) uo (z : v_X3_findBlocks_L202 uo (i.2 + 1) U202 v202_1) => K i.1 uo ⟨i.2 + 1, z⟩
    have i00 := i0
    replace i0 : ι × Nat := (i0, 0)
    intro y10_
    replace h := h y10_
    replace K := fun i uo z => K i uo ⟨y10_, z⟩
    obtain ⟨g11_, h⟩ := h
    refine ⟨g11_, ?_⟩
    replace K := fun i uo z => K i uo ⟨g11_, z⟩
    refine ⟨fun c => ?_, fun c => ?_⟩
    · replace h := h.1 c
      replace K := fun i uo z => K i uo (Or.inl ⟨c, z⟩)
      exact ⟨h, K i0 _ rfl⟩
    · replace h := h.2 c
      replace K := fun i uo z => K i uo (Or.inr ⟨c, z⟩)
      obtain ⟨g12_, h⟩ := h
      refine ⟨g12_, ?_⟩
      replace K := fun i uo z => K i uo ⟨g12_, z⟩
      refine ⟨fun c => ?_, fun c => ?_⟩
      · replace h := h.1 c
        replace K := fun i uo z => K i uo (Or.inl ⟨c, z⟩)
        exact ru_X3_findBlocks_J242 i0 (fun _ _ h K => ih i00 (fun i uo ⟨n8, z⟩ => K (i, n8) uo z) h) K h
      · replace h := h.2 c
        replace K := fun i uo z => K i uo (Or.inr ⟨c, z⟩)
        obtain ⟨g13_, h⟩ := h
        refine ⟨g13_, ?_⟩
        replace K := fun i uo z => K i uo ⟨g13_, z⟩
        intro S33 eS33 y14_ y15_
        replace h := h S33 eS33 y14_ y15_
        replace K := fun i uo z => K i uo ⟨S33, eS33, y14_, y15_, z⟩
        intro S35 eS35 y16_ y17_
        replace h := h S35 eS35 y16_ y17_
        replace K := fun i uo z => K i uo ⟨S35, eS35, y16_, y17_, z⟩
        exact ru_X3_findBlocks_J242 i0 (fun _ _ h K => ih i00 (fun i uo ⟨n8, z⟩ => K (i, n8) uo z) h) K h
set_option maxRecDepth 100000 in
theorem ru_X3_findBlocks_L139 {ι : Type} {P Q : MS → Prop} : ∀ (n : Nat) {U139 : MS} {v139_1 : Int32} (i0 : ι), (∀ (i : ι) (uo : MS), (∃ n8, v_X3_findBlocks_L139 uo n8 U139 v139_1) → P uo) → w_X3_findBlocks_L139 Q n U139 v139_1 → w_X3_findBlocks_L139 (fun u => Q u ∧ P u) n U139 v139_1 := by
  intro n
  induction n with
  | zero => intro U139 v139_1 i0 K h; unfold w_X3_findBlocks_L139 at h; exact h.elim
  | succ n ih =>
    intro U139 v139_1 i0 K h
    unfold w_X3_findBlocks_L139 at h ⊢
    replace K := fun (i : ι × Nat) uo (z : v_X3_findBlocks_L139 uo (i.2 + 1) U139 v139_1) => K i.1 uo ⟨i.2 + 1, z⟩
    have i00 := i0
    replace i0 : ι × Nat := (i0, 0)
    intro y18_
    replace h := h y18_
    replace K := fun i uo z => K i uo ⟨y18_, z⟩
    obtain ⟨g19_, h⟩ := h
    refine ⟨g19_, ?_⟩
    replace K := fun i uo z => K i uo ⟨g19_, z⟩
    refine ⟨fun c => ?_, fun c => ?_⟩
    · replace h := h.1 c
      replace K := fun i uo z => K i uo (Or.inl ⟨c, z⟩)
      intro S18 eS18 y20_ y21_
      replace h := h S18 eS18 y20_ y21_
      replace K := fun i uo z => K i uo ⟨S18, eS18, y20_, y21_, z⟩
      obtain ⟨n9, h⟩ := h
      exact ⟨n9, ru_X3_findBlocks_L202 n9 i0 K h⟩
    · replace h := h.2 c
      replace K := fun i uo z => K i uo (Or.inr ⟨c, z⟩)
      obtain ⟨g22_, h⟩ := h
      refine ⟨g22_, ?_⟩
      replace K := fun i uo z => K i uo ⟨g22_, z⟩
      obtain ⟨g23_, h⟩ := h
      refine ⟨g23_, ?_⟩
      replace K := fun i uo z => K i uo ⟨g23_, z⟩
      obtain ⟨g24_, h⟩ := h
      refine ⟨g24_, ?_⟩
      replace K := fun i uo z => K i uo ⟨g24_, z⟩
      obtain ⟨Q9, h0, h⟩ := h
      refine ⟨_, ruX3_begin h0, ?_⟩
      intro S43 q25_ y26_ y27_
      replace h := h S43 q25_.1 y26_ y27_
      replace K := fun i uo z => K i uo ⟨S43, q25_.2, y26_, y27_, z⟩
      obtain ⟨g28_, h⟩ := h
      refine ⟨g28_, ?_⟩
      replace K := fun i uo z => K i uo ⟨g28_, z⟩
      obtain ⟨g29_, h⟩ := h
      refine ⟨g29_, ?_⟩
      replace K := fun i uo z => K i uo ⟨g29_, z⟩
      obtain ⟨g30_, h⟩ := h
      refine ⟨g30_, ?_⟩
      replace K := fun i uo z => K i uo ⟨g30_, z⟩
      obtain ⟨Q9, h0, h⟩ := h
      refine ⟨_, ruX3_begin h0, ?_⟩
      intro S52 q31_ y32_ y33_
      replace h := h S52 q31_.1 y32_ y33_
      replace K := fun i uo z => K i uo ⟨S52, q31_.2, y32_, y33_, z⟩
      obtain ⟨g34_, h⟩ := h
      refine ⟨g34_, ?_⟩
      replace K := fun i uo z => K i uo ⟨g34_, z⟩
      obtain ⟨g35_, h⟩ := h
      refine ⟨g35_, ?_⟩
      replace K := fun i uo z => K i uo ⟨g35_, z⟩
      obtain ⟨g36_, h⟩ := h
      refine ⟨g36_, ?_⟩
      replace K := fun i uo z => K i uo ⟨g36_, z⟩
      obtain ⟨Q9, h0, h⟩ := h
      refine ⟨_, ruX3_begin h0, ?_⟩
      intro S61 q37_ y38_ y39_
      replace h := h S61 q37_.1 y38_ y39_
      replace K := fun i uo z => K i uo ⟨S61, q37_.2, y38_, y39_, z⟩
      intro a63 ea63 
      replace h := h a63 ea63 
      replace K := fun i uo z => K i uo ⟨a63, ea63, z⟩
      exact ih i00 (fun i uo ⟨n8, z⟩ => K (i, n8) uo z) h
set_option maxRecDepth 100000 in
theorem ru_X3_findBlocks_L82 {ι : Type} {P Q : MS → Prop} {k60 k60' : MS → Int32 → Prop} {k60v : ι → MS → MS → Int32 → Prop} : ∀ (n : Nat) {U82 : MS} {v82_1 : Int32} {v82_2 : Int32} {v82_3 : Int32} (i0 : ι) (hk60 : ∀ (u : MS) (z0 : Int32), k60 u z0 → (∀ (i : ι) (uo : MS), k60v i uo u z0 → P uo) → k60' u z0), (∀ (i : ι) (uo : MS), (∃ n8, v_X3_findBlocks_L82 uo (k60v i uo) n8 U82 v82_1 v82_2 v82_3) → P uo) → w_X3_findBlocks_L82 Q k60 n U82 v82_1 v82_2 v82_3 → w_X3_findBlocks_L82 (fun u => Q u ∧ P u) k60' n U82 v82_1 v82_2 v82_3 := by
  intro n
  induction n with
  | zero => intro U82 v82_1 v82_2 v82_3 i0 hk60 K h; unfold w_X3_findBlocks_L82 at h; exact h.elim
  | succ n ih =>
    intro U82 v82_1 v82_2 v82_3 i0 hk60 K h
    unfold w_X3_findBlocks_L82 at h ⊢
    replace K := fun (i : ι × Nat) uo (z : v_X3_findBlocks_L82 uo (k60v i.1 uo) (i.2 + 1) U82 v82_1 v82_2 v82_3) => K i.1 uo ⟨i.2 + 1, z⟩
    have i00 := i0
    replace i0 : ι × Nat := (i0, 0)
    intro y40_
    replace h := h y40_
    replace K := fun i uo z => K i uo ⟨y40_, z⟩
    refine ⟨fun c => ?_, fun c => ?_⟩
    · replace h := h.1 c
      replace K := fun i uo z => K i uo (Or.inl ⟨c, z⟩)
      refine ⟨fun c => ?_, fun c => ?_⟩
      · replace h := h.1 c
        replace K := fun i uo z => K i uo (Or.inl ⟨c, z⟩)
        exact ru_X3_findBlocks_J124 i0 (fun _ _ h K => hk60 _ _ h (fun i uo z => K (i, 0) uo z)) K h
      · replace h := h.2 c
        replace K := fun i uo z => K i uo (Or.inr ⟨c, z⟩)
        obtain ⟨g41_, h⟩ := h
        refine ⟨g41_, ?_⟩
        replace K := fun i uo z => K i uo ⟨g41_, z⟩
        obtain ⟨g42_, h⟩ := h
        refine ⟨g42_, ?_⟩
        replace K := fun i uo z => K i uo ⟨g42_, z⟩
        intro a82 ea82 
        replace h := h a82 ea82 
        replace K := fun i uo z => K i uo ⟨a82, ea82, z⟩
        obtain ⟨g43_, h⟩ := h
        refine ⟨g43_, ?_⟩
        replace K := fun i uo z => K i uo ⟨g43_, z⟩
        intro a86 ea86 
        replace h := h a86 ea86 
        replace K := fun i uo z => K i uo ⟨a86, ea86, z⟩
        refine ⟨fun c => ?_, fun c => ?_⟩
        · replace h := h.1 c
          replace K := fun i uo z => K i uo (Or.inl ⟨c, z⟩)
          exact ru_X3_findBlocks_J124 i0 (fun _ _ h K => hk60 _ _ h (fun i uo z => K (i, 0) uo z)) K h
        · replace h := h.2 c
          replace K := fun i uo z => K i uo (Or.inr ⟨c, z⟩)
          exact ru_X3_findBlocks_J131 i0 (fun _ _ h K => hk60 _ _ h (fun i uo z => K (i, 0) uo z)) K h
    · replace h := h.2 c
      replace K := fun i uo z => K i uo (Or.inr ⟨c, z⟩)
      obtain ⟨g44_, h⟩ := h
      refine ⟨g44_, ?_⟩
      replace K := fun i uo z => K i uo ⟨g44_, z⟩
      obtain ⟨g45_, h⟩ := h
      refine ⟨g45_, ?_⟩
      replace K := fun i uo z => K i uo ⟨g45_, z⟩
      intro a93 ea93 
      replace h := h a93 ea93 
      replace K := fun i uo z => K i uo ⟨a93, ea93, z⟩
      obtain ⟨Q9, h0, h⟩ := h
      refine ⟨_, ruX3_begin h0, ?_⟩
      intro S95 q46_ y47_ y48_
      replace h := h S95 q46_.1 y47_ y48_
      replace K := fun i uo z => K i uo ⟨S95, q46_.2, y47_, y48_, z⟩
      intro a97 ea97 
      replace h := h a97 ea97 
      replace K := fun i uo z => K i uo ⟨a97, ea97, z⟩
      exact ih i00 hk60 (fun i uo ⟨n8, z⟩ => K (i, n8) uo z) h
set_option maxRecDepth 100000 in
theorem ru_X3_findBlocks_L60 {ι : Type} {P Q : MS → Prop} : ∀ (n : Nat) {U60 : MS} {v60_1 : Int32} (i0 : ι), (∀ (i : ι) (uo : MS), (∃ n8, v_X3_findBlocks_L60 uo n8 U60 v60_1) → P uo) → w_X3_findBlocks_L60 Q n U60 v60_1 → w_X3_findBlocks_L60 (fun u => Q u ∧ P u) n U60 v60_1 := by
  intro n
  induction n with
  | zero => intro U60 v60_1 i0 K h; unfold w_X3_findBlocks_L60 at h; exact h.elim
  | succ n ih =>
    intro U60 v60_1 i0 K h
    unfold w_X3_findBlocks_L60 at h ⊢
    replace K := fun (i : ι × Nat) uo (z : v_X3_findBlocks_L60 uo (i.2 + 1) U60 v60_1) => K i.1 uo ⟨i.2 + 1, z⟩
    have i00 := i0
    replace i0 : ι × Nat := (i0, 0)
    intro y49_
    replace h := h y49_
    replace K := fun i uo z => K i uo ⟨y49_, z⟩
    obtain ⟨g50_, h⟩ := h
    refine ⟨g50_, ?_⟩
    replace K := fun i uo z => K i uo ⟨g50_, z⟩
    refine ⟨fun c => ?_, fun c => ?_⟩
    · replace h := h.1 c
      replace K := fun i uo z => K i uo (Or.inl ⟨c, z⟩)
      obtain ⟨n9, h⟩ := h
      exact ⟨n9, ru_X3_findBlocks_L139 n9 i0 K h⟩
    · replace h := h.2 c
      replace K := fun i uo z => K i uo (Or.inr ⟨c, z⟩)
      obtain ⟨g51_, h⟩ := h
      refine ⟨g51_, ?_⟩
      replace K := fun i uo z => K i uo ⟨g51_, z⟩
      obtain ⟨g52_, h⟩ := h
      refine ⟨g52_, ?_⟩
      replace K := fun i uo z => K i uo ⟨g52_, z⟩
      intro a69 ea69 
      replace h := h a69 ea69 
      replace K := fun i uo z => K i uo ⟨a69, ea69, z⟩
      obtain ⟨n9, h⟩ := h
      exact ⟨n9, ru_X3_findBlocks_L82 n9 i0 (fun _ _ h K => ih i00 (fun i uo ⟨n8, z⟩ => K (i, n8) uo z) h) K h⟩
set_option maxRecDepth 100000 in
theorem ru_X3_findBlocks_J45 {ι : Type} {P Q : MS → Prop} {U45 : MS} (i0 : ι) (K : ∀ (i : ι) (uo : MS), v_X3_findBlocks_J45 uo U45 → P uo) (h : w_X3_findBlocks_J45 Q U45) : w_X3_findBlocks_J45 (fun u => Q u ∧ P u) U45 := by
  unfold w_X3_findBlocks_J45 at h ⊢
  intro y53_
  replace h := h y53_
  replace K := fun i uo z => K i uo ⟨y53_, z⟩
  intro y54_
  replace h := h y54_
  replace K := fun i uo z => K i uo ⟨y54_, z⟩
  obtain ⟨Q9, h0, h⟩ := h
  refine ⟨_, ruJ7_fill_53178 h0, ?_⟩
  intro S7 q55_ y56_ y57_
  replace h := h S7 q55_.1 y56_ y57_
  replace K := fun i uo z => K i uo ⟨S7, q55_.2, y56_, y57_, z⟩
  obtain ⟨Q9, h0, h⟩ := h
  refine ⟨_, ruX3_begin h0, ?_⟩
  intro S10 q58_ y59_ y60_
  replace h := h S10 q58_.1 y59_ y60_
  replace K := fun i uo z => K i uo ⟨S10, q58_.2, y59_, y60_, z⟩
  obtain ⟨n9, h⟩ := h
  exact ⟨n9, ru_X3_findBlocks_L60 n9 i0 K h⟩
set_option maxRecDepth 100000 in
theorem ruX3_findBlocks {S : MS} {Q : MS → Prop} (h : wX3_findBlocks S Q) : wX3_findBlocks S (fun u => Q u ∧ vX3_findBlocks S u) := by
  have i0 : Unit := ()
  have K : ∀ (i : Unit) (uo : MS), vX3_findBlocks S uo → vX3_findBlocks S uo := fun _ _ z => z
  unfold wX3_findBlocks at h ⊢
  obtain ⟨g61_, h⟩ := h
  refine ⟨g61_, ?_⟩
  replace K := fun i uo z => K i uo ⟨g61_, z⟩
  refine ⟨fun c => ?_, fun c => ?_⟩
  · replace h := h.1 c
    replace K := fun i uo z => K i uo (Or.inl ⟨c, z⟩)
    exact ru_X3_findBlocks_J45 i0 K h
  · replace h := h.2 c
    replace K := fun i uo z => K i uo (Or.inr ⟨c, z⟩)
    obtain ⟨g62_, h⟩ := h
    refine ⟨g62_, ?_⟩
    replace K := fun i uo z => K i uo ⟨g62_, z⟩
    obtain ⟨g63_, h⟩ := h
    refine ⟨g63_, ?_⟩
    replace K := fun i uo z => K i uo ⟨g63_, z⟩
    intro S105 eS105 y64_
    replace h := h S105 eS105 y64_
    replace K := fun i uo z => K i uo ⟨S105, eS105, y64_, z⟩
    intro S107 eS107 y65_ y66_
    replace h := h S107 eS107 y65_ y66_
    replace K := fun i uo z => K i uo ⟨S107, eS107, y65_, y66_, z⟩
    obtain ⟨g67_, h⟩ := h
    refine ⟨g67_, ?_⟩
    replace K := fun i uo z => K i uo ⟨g67_, z⟩
    obtain ⟨g68_, h⟩ := h
    refine ⟨g68_, ?_⟩
    replace K := fun i uo z => K i uo ⟨g68_, z⟩
    intro S114 eS114 y69_
    replace h := h S114 eS114 y69_
    replace K := fun i uo z => K i uo ⟨S114, eS114, y69_, z⟩
    intro S116 eS116 y70_ y71_
    replace h := h S116 eS116 y70_ y71_
    replace K := fun i uo z => K i uo ⟨S116, eS116, y70_, y71_, z⟩
    exact ru_X3_findBlocks_J45 i0 K h
set_option maxRecDepth 100000 in
theorem vw_X3_findBlocks_J242 {uo : MS} {k202 k202v : MS → Int32 → Prop} {U242 : MS} {v242_1 : Int32} (hk202 : ∀ (u : MS) (z0 : Int32), k202v u z0 → k202 u z0) (h : v_X3_findBlocks_J242 uo k202v U242 v242_1) : w_X3_findBlocks_J242 (fun u => u = uo) k202 U242 v242_1 := by
  unfold v_X3_findBlocks_J242 at h
  unfold w_X3_findBlocks_J242
  intro _
  replace h := h.2
  obtain ⟨g9, h⟩ := h
  refine ⟨g9, ?_⟩
  obtain ⟨v9, e9, h⟩ := h
  intro x9 d9 _ _
  have c9 : v9 = x9 := e9.trans d9.symm
  subst c9
  replace h := h.2.2
  obtain ⟨v9, e9, h⟩ := h
  intro x9 d9 
  have c9 : v9 = x9 := e9.trans d9.symm
  subst c9
  exact hk202 _ _ h
set_option maxRecDepth 100000 in
theorem vp_X3_findBlocks_J242 {uo : MS} {P : MS → Prop} {k202 k202v : MS → Int32 → Prop} {U242 : MS} {v242_1 : Int32} (hk202 : ∀ (u : MS) (z0 : Int32), k202v u z0 → k202 u z0 → P uo) (h : v_X3_findBlocks_J242 uo k202v U242 v242_1) (w : w_X3_findBlocks_J242 P k202 U242 v242_1) : P uo := by
  unfold v_X3_findBlocks_J242 at h
  unfold w_X3_findBlocks_J242 at w
  obtain ⟨y1_, h⟩ := h
  replace w := w y1_
  replace h := h.2
  replace w := w.2
  obtain ⟨v9, e9, y2_, y3_, h⟩ := h
  replace w := w v9 e9 y2_ y3_
  obtain ⟨v9, e9, h⟩ := h
  replace w := w v9 e9 
  exact hk202 _ _ h w
set_option maxRecDepth 100000 in
theorem vw_X3_findBlocks_J131 {uo : MS} {k60 k60v : MS → Int32 → Prop} {U131 : MS} {v131_1 : Int32} (hk60 : ∀ (u : MS) (z0 : Int32), k60v u z0 → k60 u z0) (h : v_X3_findBlocks_J131 uo k60v U131 v131_1) : w_X3_findBlocks_J131 (fun u => u = uo) k60 U131 v131_1 := by
  unfold v_X3_findBlocks_J131 at h
  unfold w_X3_findBlocks_J131
  intro _
  replace h := h.2
  obtain ⟨v9, e9, h⟩ := h
  intro x9 d9 
  have c9 : v9 = x9 := e9.trans d9.symm
  subst c9
  exact hk60 _ _ h
set_option maxRecDepth 100000 in
theorem vp_X3_findBlocks_J131 {uo : MS} {P : MS → Prop} {k60 k60v : MS → Int32 → Prop} {U131 : MS} {v131_1 : Int32} (hk60 : ∀ (u : MS) (z0 : Int32), k60v u z0 → k60 u z0 → P uo) (h : v_X3_findBlocks_J131 uo k60v U131 v131_1) (w : w_X3_findBlocks_J131 P k60 U131 v131_1) : P uo := by
  unfold v_X3_findBlocks_J131 at h
  unfold w_X3_findBlocks_J131 at w
  obtain ⟨y4_, h⟩ := h
  replace w := w y4_
  obtain ⟨v9, e9, h⟩ := h
  replace w := w v9 e9 
  exact hk60 _ _ h w
set_option maxRecDepth 100000 in
theorem vw_X3_findBlocks_J124 {uo : MS} {k60 k60v : MS → Int32 → Prop} {U124 : MS} {v124_1 : Int32} (hk60 : ∀ (u : MS) (z0 : Int32), k60v u z0 → k60 u z0) (h : v_X3_findBlocks_J124 uo k60v U124 v124_1) : w_X3_findBlocks_J124 (fun u => u = uo) k60 U124 v124_1 := by
  unfold v_X3_findBlocks_J124 at h
  unfold w_X3_findBlocks_J124
  intro _
  replace h := h.2
  obtain ⟨q9, z9, h⟩ := h
  refine ⟨_, vwX3_begin z9, ?_⟩
  intro q8 d9 _ _
  subst d9
  replace h := h.2.2
  exact vw_X3_findBlocks_J131 hk60 h
set_option maxRecDepth 100000 in
theorem vp_X3_findBlocks_J124 {uo : MS} {P : MS → Prop} {k60 k60v : MS → Int32 → Prop} {U124 : MS} {v124_1 : Int32} (hk60 : ∀ (u : MS) (z0 : Int32), k60v u z0 → k60 u z0 → P uo) (h : v_X3_findBlocks_J124 uo k60v U124 v124_1) (w : w_X3_findBlocks_J124 P k60 U124 v124_1) : P uo := by
  unfold v_X3_findBlocks_J124 at h
  unfold w_X3_findBlocks_J124 at w
  obtain ⟨y5_, h⟩ := h
  replace w := w y5_
  obtain ⟨q9, z9, y6_, y7_, h⟩ := h
  obtain ⟨Q9, w0, w⟩ := w
  replace w := w q9 (vpX3_begin z9 w0) y6_ y7_
  exact vp_X3_findBlocks_J131 hk60 h w
set_option maxRecDepth 100000 in
theorem vw_X3_findBlocks_L202 {uo : MS} : ∀ (n : Nat) {U202 : MS} {v202_1 : Int32}, v_X3_findBlocks_L202 uo n U202 v202_1 → w_X3_findBlocks_L202 (fun u => u = uo) n U202 v202_1 := by
  intro n
  induction n with
  | zero => intro U202 v202_1 h; unfold v_X3_findBlocks_L202 at h; exact h.elim
  | succ n ih =>
    intro U202 v202_1 h
    unfold v_X3_findBlocks_L202 at h
    unfold w_X3_findBlocks_L202
    intro _
    replace h := h.2
    obtain ⟨g9, h⟩ := h
    refine ⟨g9, ?_⟩
    rcases h with ⟨c, h⟩ | ⟨c, h⟩
    · refine ⟨fun _ => ?_, fun c2 => absurd c c2⟩
      exact h.symm
    · refine ⟨fun c2 => absurd c2 c, fun _ => ?_⟩
      obtain ⟨g9, h⟩ := h
      refine ⟨g9, ?_⟩
      rcases h with ⟨c, h⟩ | ⟨c, h⟩
      · refine ⟨fun _ => ?_, fun c2 => absurd c c2⟩
        exact vw_X3_findBlocks_J242 (fun _ _ h => ih h) h
      · refine ⟨fun c2 => absurd c2 c, fun _ => ?_⟩
        obtain ⟨g9, h⟩ := h
        refine ⟨g9, ?_⟩
        obtain ⟨v9, e9, h⟩ := h
        intro x9 d9 _ _
        have c9 : v9 = x9 := e9.trans d9.symm
        subst c9
        replace h := h.2.2
        obtain ⟨v9, e9, h⟩ := h
        intro x9 d9 _ _
        have c9 : v9 = x9 := e9.trans d9.symm
        subst c9
        replace h := h.2.2
        exact vw_X3_findBlocks_J242 (fun _ _ h => ih h) h
set_option maxRecDepth 100000 in
theorem vp_X3_findBlocks_L202 {uo : MS} {P : MS → Prop} : ∀ (n m : Nat) {U202 : MS} {v202_1 : Int32}, v_X3_findBlocks_L202 uo n U202 v202_1 → w_X3_findBlocks_L202 P m U202 v202_1 → P uo := by
  intro n
  induction n with
  | zero => intro m U202 v202_1 h; unfold v_X3_findBlocks_L202 at h; exact h.elim
  | succ n ih =>
    intro m U202 v202_1 h w
    cases m with
    | zero => unfold w_X3_findBlocks_L202 at w; exact w.elim
    | succ m =>
      unfold v_X3_findBlocks_L202 at h
      unfold w_X3_findBlocks_L202 at w
      obtain ⟨y8_, h⟩ := h
      replace w := w y8_
      replace h := h.2
      replace w := w.2
      rcases h with ⟨c, h⟩ | ⟨c, h⟩
      · replace w := w.1 c
        rw [h]
        exact w
      · replace w := w.2 c
        replace h := h.2
        replace w := w.2
        rcases h with ⟨c, h⟩ | ⟨c, h⟩
        · replace w := w.1 c
          exact vp_X3_findBlocks_J242 (fun _ _ h w => ih m h w) h w
        · replace w := w.2 c
          replace h := h.2
          replace w := w.2
          obtain ⟨v9, e9, y9_, y10_, h⟩ := h
          replace w := w v9 e9 y9_ y10_
          obtain ⟨v9, e9, y11_, y12_, h⟩ := h
          replace w := w v9 e9 y11_ y12_
          exact vp_X3_findBlocks_J242 (fun _ _ h w => ih m h w) h w
set_option maxRecDepth 100000 in
theorem vw_X3_findBlocks_L139 {uo : MS} : ∀ (n : Nat) {U139 : MS} {v139_1 : Int32}, v_X3_findBlocks_L139 uo n U139 v139_1 → w_X3_findBlocks_L139 (fun u => u = uo) n U139 v139_1 := by
  intro n
  induction n with
  | zero => intro U139 v139_1 h; unfold v_X3_findBlocks_L139 at h; exact h.elim
  | succ n ih =>
    intro U139 v139_1 h
    unfold v_X3_findBlocks_L139 at h
    unfold w_X3_findBlocks_L139
    intro _
    replace h := h.2
    obtain ⟨g9, h⟩ := h
    refine ⟨g9, ?_⟩
    rcases h with ⟨c, h⟩ | ⟨c, h⟩
    · refine ⟨fun _ => ?_, fun c2 => absurd c c2⟩
      obtain ⟨v9, e9, h⟩ := h
      intro x9 d9 _ _
      have c9 : v9 = x9 := e9.trans d9.symm
      subst c9
      replace h := h.2.2
      obtain ⟨n9, h⟩ := h
      exact ⟨n9, vw_X3_findBlocks_L202 n9 h⟩
    · refine ⟨fun c2 => absurd c2 c, fun _ => ?_⟩
      obtain ⟨g9, h⟩ := h
      refine ⟨g9, ?_⟩
      obtain ⟨g9, h⟩ := h
      refine ⟨g9, ?_⟩
      obtain ⟨g9, h⟩ := h
      refine ⟨g9, ?_⟩
      obtain ⟨q9, z9, h⟩ := h
      refine ⟨_, vwX3_begin z9, ?_⟩
      intro q8 d9 _ _
      subst d9
      replace h := h.2.2
      obtain ⟨g9, h⟩ := h
      refine ⟨g9, ?_⟩
      obtain ⟨g9, h⟩ := h
      refine ⟨g9, ?_⟩
      obtain ⟨g9, h⟩ := h
      refine ⟨g9, ?_⟩
      obtain ⟨q9, z9, h⟩ := h
      refine ⟨_, vwX3_begin z9, ?_⟩
      intro q8 d9 _ _
      subst d9
      replace h := h.2.2
      obtain ⟨g9, h⟩ := h
      refine ⟨g9, ?_⟩
      obtain ⟨g9, h⟩ := h
      refine ⟨g9, ?_⟩
      obtain ⟨g9, h⟩ := h
      refine ⟨g9, ?_⟩
      obtain ⟨q9, z9, h⟩ := h
      refine ⟨_, vwX3_begin z9, ?_⟩
      intro q8 d9 _ _
      subst d9
      replace h := h.2.2
      obtain ⟨v9, e9, h⟩ := h
      intro x9 d9 
      have c9 : v9 = x9 := e9.trans d9.symm
      subst c9
      exact ih h
set_option maxRecDepth 100000 in
theorem vp_X3_findBlocks_L139 {uo : MS} {P : MS → Prop} : ∀ (n m : Nat) {U139 : MS} {v139_1 : Int32}, v_X3_findBlocks_L139 uo n U139 v139_1 → w_X3_findBlocks_L139 P m U139 v139_1 → P uo := by
  intro n
  induction n with
  | zero => intro m U139 v139_1 h; unfold v_X3_findBlocks_L139 at h; exact h.elim
  | succ n ih =>
    intro m U139 v139_1 h w
    cases m with
    | zero => unfold w_X3_findBlocks_L139 at w; exact w.elim
    | succ m =>
      unfold v_X3_findBlocks_L139 at h
      unfold w_X3_findBlocks_L139 at w
      obtain ⟨y13_, h⟩ := h
      replace w := w y13_
      replace h := h.2
      replace w := w.2
      rcases h with ⟨c, h⟩ | ⟨c, h⟩
      · replace w := w.1 c
        obtain ⟨v9, e9, y14_, y15_, h⟩ := h
        replace w := w v9 e9 y14_ y15_
        obtain ⟨n9, h⟩ := h
        obtain ⟨n8, w⟩ := w
        exact vp_X3_findBlocks_L202 n9 n8 h w
      · replace w := w.2 c
        replace h := h.2
        replace w := w.2
        replace h := h.2
        replace w := w.2
        replace h := h.2
        replace w := w.2
        obtain ⟨q9, z9, y16_, y17_, h⟩ := h
        obtain ⟨Q9, w0, w⟩ := w
        replace w := w q9 (vpX3_begin z9 w0) y16_ y17_
        replace h := h.2
        replace w := w.2
        replace h := h.2
        replace w := w.2
        replace h := h.2
        replace w := w.2
        obtain ⟨q9, z9, y18_, y19_, h⟩ := h
        obtain ⟨Q9, w0, w⟩ := w
        replace w := w q9 (vpX3_begin z9 w0) y18_ y19_
        replace h := h.2
        replace w := w.2
        replace h := h.2
        replace w := w.2
        replace h := h.2
        replace w := w.2
        obtain ⟨q9, z9, y20_, y21_, h⟩ := h
        obtain ⟨Q9, w0, w⟩ := w
        replace w := w q9 (vpX3_begin z9 w0) y20_ y21_
        obtain ⟨v9, e9, h⟩ := h
        replace w := w v9 e9 
        exact ih m h w
set_option maxRecDepth 100000 in
theorem vw_X3_findBlocks_L82 {uo : MS} {k60 k60v : MS → Int32 → Prop} : ∀ (n : Nat) {U82 : MS} {v82_1 : Int32} {v82_2 : Int32} {v82_3 : Int32} (hk60 : ∀ (u : MS) (z0 : Int32), k60v u z0 → k60 u z0), v_X3_findBlocks_L82 uo k60v n U82 v82_1 v82_2 v82_3 → w_X3_findBlocks_L82 (fun u => u = uo) k60 n U82 v82_1 v82_2 v82_3 := by
  intro n
  induction n with
  | zero => intro U82 v82_1 v82_2 v82_3 hk60 h; unfold v_X3_findBlocks_L82 at h; exact h.elim
  | succ n ih =>
    intro U82 v82_1 v82_2 v82_3 hk60 h
    unfold v_X3_findBlocks_L82 at h
    unfold w_X3_findBlocks_L82
    intro _
    replace h := h.2
    rcases h with ⟨c, h⟩ | ⟨c, h⟩
    · refine ⟨fun _ => ?_, fun c2 => absurd c c2⟩
      rcases h with ⟨c, h⟩ | ⟨c, h⟩
      · refine ⟨fun _ => ?_, fun c2 => absurd c c2⟩
        exact vw_X3_findBlocks_J124 hk60 h
      · refine ⟨fun c2 => absurd c2 c, fun _ => ?_⟩
        obtain ⟨g9, h⟩ := h
        refine ⟨g9, ?_⟩
        obtain ⟨g9, h⟩ := h
        refine ⟨g9, ?_⟩
        obtain ⟨v9, e9, h⟩ := h
        intro x9 d9 
        have c9 : v9 = x9 := e9.trans d9.symm
        subst c9
        obtain ⟨g9, h⟩ := h
        refine ⟨g9, ?_⟩
        obtain ⟨v9, e9, h⟩ := h
        intro x9 d9 
        have c9 : v9 = x9 := e9.trans d9.symm
        subst c9
        rcases h with ⟨c, h⟩ | ⟨c, h⟩
        · refine ⟨fun _ => ?_, fun c2 => absurd c c2⟩
          exact vw_X3_findBlocks_J124 hk60 h
        · refine ⟨fun c2 => absurd c2 c, fun _ => ?_⟩
          exact vw_X3_findBlocks_J131 hk60 h
    · refine ⟨fun c2 => absurd c2 c, fun _ => ?_⟩
      obtain ⟨g9, h⟩ := h
      refine ⟨g9, ?_⟩
      obtain ⟨g9, h⟩ := h
      refine ⟨g9, ?_⟩
      obtain ⟨v9, e9, h⟩ := h
      intro x9 d9 
      have c9 : v9 = x9 := e9.trans d9.symm
      subst c9
      obtain ⟨q9, z9, h⟩ := h
      refine ⟨_, vwX3_begin z9, ?_⟩
      intro q8 d9 _ _
      subst d9
      replace h := h.2.2
      obtain ⟨v9, e9, h⟩ := h
      intro x9 d9 
      have c9 : v9 = x9 := e9.trans d9.symm
      subst c9
      exact ih hk60 h
set_option maxRecDepth 100000 in
theorem vp_X3_findBlocks_L82 {uo : MS} {P : MS → Prop} {k60 k60v : MS → Int32 → Prop} : ∀ (n m : Nat) {U82 : MS} {v82_1 : Int32} {v82_2 : Int32} {v82_3 : Int32} (hk60 : ∀ (u : MS) (z0 : Int32), k60v u z0 → k60 u z0 → P uo), v_X3_findBlocks_L82 uo k60v n U82 v82_1 v82_2 v82_3 → w_X3_findBlocks_L82 P k60 m U82 v82_1 v82_2 v82_3 → P uo := by
  intro n
  induction n with
  | zero => intro m U82 v82_1 v82_2 v82_3 hk60 h; unfold v_X3_findBlocks_L82 at h; exact h.elim
  | succ n ih =>
    intro m U82 v82_1 v82_2 v82_3 hk60 h w
    cases m with
    | zero => unfold w_X3_findBlocks_L82 at w; exact w.elim
    | succ m =>
      unfold v_X3_findBlocks_L82 at h
      unfold w_X3_findBlocks_L82 at w
      obtain ⟨y22_, h⟩ := h
      replace w := w y22_
      rcases h with ⟨c, h⟩ | ⟨c, h⟩
      · replace w := w.1 c
        rcases h with ⟨c, h⟩ | ⟨c, h⟩
        · replace w := w.1 c
          exact vp_X3_findBlocks_J124 hk60 h w
        · replace w := w.2 c
          replace h := h.2
          replace w := w.2
          replace h := h.2
          replace w := w.2
          obtain ⟨v9, e9, h⟩ := h
          replace w := w v9 e9 
          replace h := h.2
          replace w := w.2
          obtain ⟨v9, e9, h⟩ := h
          replace w := w v9 e9 
          rcases h with ⟨c, h⟩ | ⟨c, h⟩
          · replace w := w.1 c
            exact vp_X3_findBlocks_J124 hk60 h w
          · replace w := w.2 c
            exact vp_X3_findBlocks_J131 hk60 h w
      · replace w := w.2 c
        replace h := h.2
        replace w := w.2
        replace h := h.2
        replace w := w.2
        obtain ⟨v9, e9, h⟩ := h
        replace w := w v9 e9 
        obtain ⟨q9, z9, y23_, y24_, h⟩ := h
        obtain ⟨Q9, w0, w⟩ := w
        replace w := w q9 (vpX3_begin z9 w0) y23_ y24_
        obtain ⟨v9, e9, h⟩ := h
        replace w := w v9 e9 
        exact ih m hk60 h w
set_option maxRecDepth 100000 in
theorem vw_X3_findBlocks_L60 {uo : MS} : ∀ (n : Nat) {U60 : MS} {v60_1 : Int32}, v_X3_findBlocks_L60 uo n U60 v60_1 → w_X3_findBlocks_L60 (fun u => u = uo) n U60 v60_1 := by
  intro n
  induction n with
  | zero => intro U60 v60_1 h; unfold v_X3_findBlocks_L60 at h; exact h.elim
  | succ n ih =>
    intro U60 v60_1 h
    unfold v_X3_findBlocks_L60 at h
    unfold w_X3_findBlocks_L60
    intro _
    replace h := h.2
    obtain ⟨g9, h⟩ := h
    refine ⟨g9, ?_⟩
    rcases h with ⟨c, h⟩ | ⟨c, h⟩
    · refine ⟨fun _ => ?_, fun c2 => absurd c c2⟩
      obtain ⟨n9, h⟩ := h
      exact ⟨n9, vw_X3_findBlocks_L139 n9 h⟩
    · refine ⟨fun c2 => absurd c2 c, fun _ => ?_⟩
      obtain ⟨g9, h⟩ := h
      refine ⟨g9, ?_⟩
      obtain ⟨g9, h⟩ := h
      refine ⟨g9, ?_⟩
      obtain ⟨v9, e9, h⟩ := h
      intro x9 d9 
      have c9 : v9 = x9 := e9.trans d9.symm
      subst c9
      obtain ⟨n9, h⟩ := h
      exact ⟨n9, vw_X3_findBlocks_L82 n9 (fun _ _ h => ih h) h⟩
set_option maxRecDepth 100000 in
theorem vp_X3_findBlocks_L60 {uo : MS} {P : MS → Prop} : ∀ (n m : Nat) {U60 : MS} {v60_1 : Int32}, v_X3_findBlocks_L60 uo n U60 v60_1 → w_X3_findBlocks_L60 P m U60 v60_1 → P uo := by
  intro n
  induction n with
  | zero => intro m U60 v60_1 h; unfold v_X3_findBlocks_L60 at h; exact h.elim
  | succ n ih =>
    intro m U60 v60_1 h w
    cases m with
    | zero => unfold w_X3_findBlocks_L60 at w; exact w.elim
    | succ m =>
      unfold v_X3_findBlocks_L60 at h
      unfold w_X3_findBlocks_L60 at w
      obtain ⟨y25_, h⟩ := h
      replace w := w y25_
      replace h := h.2
      replace w := w.2
      rcases h with ⟨c, h⟩ | ⟨c, h⟩
      · replace w := w.1 c
        obtain ⟨n9, h⟩ := h
        obtain ⟨n8, w⟩ := w
        exact vp_X3_findBlocks_L139 n9 n8 h w
      · replace w := w.2 c
        replace h := h.2
        replace w := w.2
        replace h := h.2
        replace w := w.2
        obtain ⟨v9, e9, h⟩ := h
        replace w := w v9 e9 
        obtain ⟨n9, h⟩ := h
        obtain ⟨n8, w⟩ := w
        exact vp_X3_findBlocks_L82 n9 n8 (fun _ _ h w => ih m h w) h w
set_option maxRecDepth 100000 in
theorem vw_X3_findBlocks_J45 {uo : MS} {U45 : MS} (h : v_X3_findBlocks_J45 uo U45) : w_X3_findBlocks_J45 (fun u => u = uo) U45 := by
  unfold v_X3_findBlocks_J45 at h
  unfold w_X3_findBlocks_J45
  intro _
  replace h := h.2
  intro _
  replace h := h.2
  obtain ⟨q9, z9, h⟩ := h
  refine ⟨_, vwJ7_fill_53178 z9, ?_⟩
  intro q8 d9 _ _
  subst d9
  replace h := h.2.2
  obtain ⟨q9, z9, h⟩ := h
  refine ⟨_, vwX3_begin z9, ?_⟩
  intro q8 d9 _ _
  subst d9
  replace h := h.2.2
  obtain ⟨n9, h⟩ := h
  exact ⟨n9, vw_X3_findBlocks_L60 n9 h⟩
set_option maxRecDepth 100000 in
theorem vp_X3_findBlocks_J45 {uo : MS} {P : MS → Prop} {U45 : MS} (h : v_X3_findBlocks_J45 uo U45) (w : w_X3_findBlocks_J45 P U45) : P uo := by
  unfold v_X3_findBlocks_J45 at h
  unfold w_X3_findBlocks_J45 at w
  obtain ⟨y26_, h⟩ := h
  replace w := w y26_
  obtain ⟨y27_, h⟩ := h
  replace w := w y27_
  obtain ⟨q9, z9, y28_, y29_, h⟩ := h
  obtain ⟨Q9, w0, w⟩ := w
  replace w := w q9 (vpJ7_fill_53178 z9 w0) y28_ y29_
  obtain ⟨q9, z9, y30_, y31_, h⟩ := h
  obtain ⟨Q9, w0, w⟩ := w
  replace w := w q9 (vpX3_begin z9 w0) y30_ y31_
  obtain ⟨n9, h⟩ := h
  obtain ⟨n8, w⟩ := w
  exact vp_X3_findBlocks_L60 n9 n8 h w
set_option maxRecDepth 100000 in
theorem vwX3_findBlocks {S : MS} {uo : MS} (h : vX3_findBlocks S uo) : wX3_findBlocks S (fun u => u = uo) := by
  unfold vX3_findBlocks at h
  unfold wX3_findBlocks
  obtain ⟨g9, h⟩ := h
  refine ⟨g9, ?_⟩
  rcases h with ⟨c, h⟩ | ⟨c, h⟩
  · refine ⟨fun _ => ?_, fun c2 => absurd c c2⟩
    exact vw_X3_findBlocks_J45 h
  · refine ⟨fun c2 => absurd c2 c, fun _ => ?_⟩
    obtain ⟨g9, h⟩ := h
    refine ⟨g9, ?_⟩
    obtain ⟨g9, h⟩ := h
    refine ⟨g9, ?_⟩
    obtain ⟨v9, e9, h⟩ := h
    intro x9 d9 _
    have c9 : v9 = x9 := e9.trans d9.symm
    subst c9
    replace h := h.2
    obtain ⟨v9, e9, h⟩ := h
    intro x9 d9 _ _
    have c9 : v9 = x9 := e9.trans d9.symm
    subst c9
    replace h := h.2.2
    obtain ⟨g9, h⟩ := h
    refine ⟨g9, ?_⟩
    obtain ⟨g9, h⟩ := h
    refine ⟨g9, ?_⟩
    obtain ⟨v9, e9, h⟩ := h
    intro x9 d9 _
    have c9 : v9 = x9 := e9.trans d9.symm
    subst c9
    replace h := h.2
    obtain ⟨v9, e9, h⟩ := h
    intro x9 d9 _ _
    have c9 : v9 = x9 := e9.trans d9.symm
    subst c9
    replace h := h.2.2
    exact vw_X3_findBlocks_J45 h
set_option maxRecDepth 100000 in
theorem vpX3_findBlocks {S : MS} {uo : MS} {P : MS → Prop} (h : vX3_findBlocks S uo) (w : wX3_findBlocks S P) : P uo := by
  unfold vX3_findBlocks at h
  unfold wX3_findBlocks at w
  replace h := h.2
  replace w := w.2
  rcases h with ⟨c, h⟩ | ⟨c, h⟩
  · replace w := w.1 c
    exact vp_X3_findBlocks_J45 h w
  · replace w := w.2 c
    replace h := h.2
    replace w := w.2
    replace h := h.2
    replace w := w.2
    obtain ⟨v9, e9, y32_, h⟩ := h
    replace w := w v9 e9 y32_
    obtain ⟨v9, e9, y33_, y34_, h⟩ := h
    replace w := w v9 e9 y33_ y34_
    replace h := h.2
    replace w := w.2
    replace h := h.2
    replace w := w.2
    obtain ⟨v9, e9, y35_, h⟩ := h
    replace w := w v9 e9 y35_
    obtain ⟨v9, e9, y36_, y37_, h⟩ := h
    replace w := w v9 e9 y36_ y37_
    exact vp_X3_findBlocks_J45 h w
def v_X3_findEdges_J145 (uo : MS) (k103 : MS → Int32 → Int32 → Int32 → Int32 → Prop) (U145 : MS) (v145_1 : Int32) (v145_2 : Int32) (v145_3 : Int32) (v145_5 : Int32) : Prop := (wfC U145 ∧ (∃ a43 : Int32, a43 = (v145_5 + Int32.ofInt 1) ∧ (k103 U145 v145_1 v145_2 v145_3 a43)))
def v_X3_findEdges_L103 (uo : MS) (k12 : MS → Int32 → Int32 → Prop) : Nat → MS → Int32 → Int32 → Int32 → Int32 → Prop
  | 0, _, _, _, _, _ => False
  | n103 + 1, U103, v103_1, v103_2, v103_3, v103_5 => (wfC U103 ∧ ((qR U103 52 0 = some (qO U103 52 0)) ∧ (((qI U103 (qO U103 52 0) 9).toInt ≤ v103_5.toInt ∧ (∃ a36 : Int32, a36 = (v103_2 + Int32.ofInt 1) ∧ (k12 U103 v103_1 a36))) ∨ (¬ (qI U103 (qO U103 52 0) 9).toInt ≤ v103_5.toInt ∧ ((qR U103 52 0 = some (qO U103 52 0)) ∧ (d_X8_catchHas U103 (qO U103 52 0) v103_5 v103_3 ∧ (∃ a42 : Int32, a42 = (fX8_catchHas U103 (qO U103 52 0) v103_5 v103_3) ∧ ((a42.toInt = 0 ∧ (v_X3_findEdges_J145 uo (v_X3_findEdges_L103 uo k12 n103) U103 v103_1 v103_2 v103_3 v103_5)) ∨ (¬ a42.toInt = 0 ∧ ((qR U103 52 0 = some (qO U103 52 0)) ∧ ((qR U103 (qO U103 52 0) 7 = some (qO U103 (qO U103 52 0) 7)) ∧ (((0 : Int) ≤ v103_5.toInt ∧ v103_5.toInt < (qN U103 (qO U103 (qO U103 52 0) 7) : Int)) ∧ (∃ (r52 : Int32) (S53 : MS), vX3_addEdge U103 v103_2 (qI U103 (qO U103 (qO U103 52 0) 7) v103_5.toInt.toNat) v103_1 r52 S53 ∧ wfC S53 ∧ shx U103 S53 ∧ (v_X3_findEdges_J145 uo (v_X3_findEdges_L103 uo k12 n103) S53 r52 v103_2 v103_3 v103_5))))))))))))))
def v_X3_findEdges_L70 (uo : MS) (k12 : MS → Int32 → Int32 → Prop) : Nat → MS → Int32 → Int32 → Int32 → Int32 → Int32 → Prop
  | 0, _, _, _, _, _, _ => False
  | n70 + 1, U70, v70_1, v70_2, v70_3, v70_4, v70_5 => (wfC U70 ∧ ((v70_4.toInt ≤ v70_5.toInt ∧ (∃ n, v_X3_findEdges_L103 uo k12 n U70 v70_1 v70_2 v70_3 0)) ∨ (¬ v70_4.toInt ≤ v70_5.toInt ∧ ((qR U70 52 0 = some (qO U70 52 0)) ∧ (d_X8_targetAt U70 (qO U70 52 0) v70_3 v70_5 ∧ (∃ a61 : Int32, a61 = (fX8_targetAt U70 (qO U70 52 0) v70_3 v70_5) ∧ (∃ (r63 : Int32) (S64 : MS), vX3_addEdge U70 v70_2 a61 v70_1 r63 S64 ∧ wfC S64 ∧ shx U70 S64 ∧ (∃ a67 : Int32, a67 = (v70_5 + Int32.ofInt 1) ∧ ((v_X3_findEdges_L70 uo k12 n70) S64 r63 v70_2 v70_3 v70_4 a67)))))))))
def v_X3_findEdges_J57 (uo : MS) (k12 : MS → Int32 → Int32 → Prop) (U57 : MS) (v57_1 : Int32) (v57_2 : Int32) (v57_3 : Int32) : Prop := (wfC U57 ∧ ((qR U57 52 0 = some (qO U57 52 0)) ∧ (d_X8_targetCount U57 (qO U57 52 0) v57_3 ∧ (∃ a31 : Int32, a31 = (fX8_targetCount U57 (qO U57 52 0) v57_3) ∧ (∃ n, v_X3_findEdges_L70 uo k12 n U57 v57_1 v57_2 v57_3 a31 0)))))
def v_X3_findEdges_L12 (uo : MS) : Nat → MS → Int32 → Int32 → Prop
  | 0, _, _, _ => False
  | n12 + 1, U12, v12_1, v12_2 => (wfC U12 ∧ (((qI U12 52 1).toInt ≤ v12_2.toInt ∧ (((0 : Int) ≤ (qI U12 52 1).toInt ∧ (qI U12 52 1).toInt < (qN U12 (qO U12 52 4) : Int)) ∧ (∃ S8 : MS, S8 = wI U12 (qO U12 52 4) (((qI U12 52 1).toInt).toNat) v12_1 ∧ qT U12 (qO U12 52 4) = 204 ∧ wfC S8 ∧ (uo = S8)))) ∨ (¬ (qI U12 52 1).toInt ≤ v12_2.toInt ∧ (((0 : Int) ≤ v12_2.toInt ∧ v12_2.toInt < (qN U12 (qO U12 52 4) : Int)) ∧ (∃ S11 : MS, S11 = wI U12 (qO U12 52 4) v12_2.toInt.toNat v12_1 ∧ qT U12 (qO U12 52 4) = 204 ∧ wfC S11 ∧ (d_X3_lastOf S11 v12_2 ∧ (∃ a15 : Int32, a15 = (fX3_lastOf S11 v12_2) ∧ ((qR S11 52 0 = some (qO S11 52 0)) ∧ (d_X8_opAt S11 (qO S11 52 0) a15 ∧ (∃ a21 : Int32, a21 = (fX8_opAt S11 (qO S11 52 0) a15) ∧ (d_X6_goesOn S11 a21 ∧ (∃ a25 : Int32, a25 = (fX6_goesOn S11 a21) ∧ ((a25.toInt = 0 ∧ (v_X3_findEdges_J57 uo (v_X3_findEdges_L12 uo n12) S11 v12_1 v12_2 a15)) ∨ (¬ a25.toInt = 0 ∧ (∃ (r71 : Int32) (S72 : MS), vX3_addEdge S11 v12_2 (a15 + (1 : Int32)) v12_1 r71 S72 ∧ wfC S72 ∧ shx S11 S72 ∧ (v_X3_findEdges_J57 uo (v_X3_findEdges_L12 uo n12) S72 r71 v12_2 a15))))))))))))))))
def vX3_findEdges (S : MS) (uo : MS) : Prop := (qT S (qO S 52 14) = 211 ∧ (∃ (S3 : MS), vJ7_fill_53178 S (qO S 52 14) (-1 : Int32) S3 ∧ wfC S3 ∧ shy S S3 ∧ (∃ n, v_X3_findEdges_L12 uo n S3 0 0)))
set_option maxRecDepth 100000 in
theorem ru_X3_findEdges_J145 {ι : Type} {P Q : MS → Prop} {k103 k103' : MS → Int32 → Int32 → Int32 → Int32 → Prop} {k103v : ι → MS → MS → Int32 → Int32 → Int32 → Int32 → Prop} {U145 : MS} {v145_1 : Int32} {v145_2 : Int32} {v145_3 : Int32} {v145_5 : Int32} (i0 : ι) (hk103 : ∀ (u : MS) (z0 : Int32) (z1 : Int32) (z2 : Int32) (z3 : Int32), k103 u z0 z1 z2 z3 → (∀ (i : ι) (uo : MS), k103v i uo u z0 z1 z2 z3 → P uo) → k103' u z0 z1 z2 z3) (K : ∀ (i : ι) (uo : MS), v_X3_findEdges_J145 uo (k103v i uo) U145 v145_1 v145_2 v145_3 v145_5 → P uo) (h : w_X3_findEdges_J145 Q k103 U145 v145_1 v145_2 v145_3 v145_5) : w_X3_findEdges_J145 (fun u => Q u ∧ P u) k103' U145 v145_1 v145_2 v145_3 v145_5 := by
  unfold w_X3_findEdges_J145 at h ⊢
  intro y1_
  replace h := h y1_
  replace K := fun i uo z => K i uo ⟨y1_, z⟩
  intro a43 ea43 
  replace h := h a43 ea43 
  replace K := fun i uo z => K i uo ⟨a43, ea43, z⟩
  exact hk103 _ _ _ _ _ h K
set_option maxRecDepth 100000 in
theorem ru_X3_findEdges_L103 {ι : Type} {P Q : MS → Prop} {k12 k12' : MS → Int32 → Int32 → Prop} {k12v : ι → MS → MS → Int32 → Int32 → Prop} : ∀ (n : Nat) {U103 : MS} {v103_1 : Int32} {v103_2 : Int32} {v103_3 : Int32} {v103_5 : Int32} (i0 : ι) (hk12 : ∀ (u : MS) (z0 : Int32) (z1 : Int32), k12 u z0 z1 → (∀ (i : ι) (uo : MS), k12v i uo u z0 z1 → P uo) → k12' u z0 z1), (∀ (i : ι) (uo : MS), (∃ n8, v_X3_findEdges_L103 uo (k12v i uo) n8 U103 v103_1 v103_2 v103_3 v103_5) → P uo) → w_X3_findEdges_L103 Q k12 n U103 v103_1 v103_2 v103_3 v103_5 → w_X3_findEdges_L103 (fun u => Q u ∧ P u) k12' n U103 v103_1 v103_2 v103_3 v103_5 := by
  intro n
  induction n with
  | zero => intro U103 v103_1 v103_2 v103_3 v103_5 i0 hk12 K h; unfold w_X3_findEdges_L103 at h; exact h.elim
  | succ n ih =>
    intro U103 v103_1 v103_2 v103_3 v103_5 i0 hk12 K h
    unfold w_X3_findEdges_L103 at h ⊢
    replace K := fun (i : ι × Nat) uo (z : v_X3_findEdges_L103 uo (k12v i.1 uo) (i.2 + 1) U103 v103_1 v103_2 v103_3 v103_5) => K i.1 uo ⟨i.2 + 1, z⟩
    have i00 := i0
    replace i0 : ι × Nat := (i0, 0)
    intro y2_
    replace h := h y2_
    replace K := fun i uo z => K i uo ⟨y2_, z⟩
    obtain ⟨g3_, h⟩ := h
    refine ⟨g3_, ?_⟩
    replace K := fun i uo z => K i uo ⟨g3_, z⟩
    refine ⟨fun c => ?_, fun c => ?_⟩
    · replace h := h.1 c
      replace K := fun i uo z => K i uo (Or.inl ⟨c, z⟩)
      intro a36 ea36 
      replace h := h a36 ea36 
      replace K := fun i uo z => K i uo ⟨a36, ea36, z⟩
      exact hk12 _ _ _ h (fun i uo z => K (i, 0) uo z)
    · replace h := h.2 c
      replace K := fun i uo z => K i uo (Or.inr ⟨c, z⟩)
      obtain ⟨g4_, h⟩ := h
      refine ⟨g4_, ?_⟩
      replace K := fun i uo z => K i uo ⟨g4_, z⟩
      obtain ⟨g5_, h⟩ := h
      refine ⟨g5_, ?_⟩
      replace K := fun i uo z => K i uo ⟨g5_, z⟩
      intro a42 ea42 
      replace h := h a42 ea42 
      replace K := fun i uo z => K i uo ⟨a42, ea42, z⟩
      refine ⟨fun c => ?_, fun c => ?_⟩
      · replace h := h.1 c
        replace K := fun i uo z => K i uo (Or.inl ⟨c, z⟩)
        exact ru_X3_findEdges_J145 i0 (fun _ _ _ _ _ h K => ih i00 hk12 (fun i uo ⟨n8, z⟩ => K (i, n8) uo z) h) K h
      · replace h := h.2 c
        replace K := fun i uo z => K i uo (Or.inr ⟨c, z⟩)
        obtain ⟨g6_, h⟩ := h
        refine ⟨g6_, ?_⟩
        replace K := fun i uo z => K i uo ⟨g6_, z⟩
        obtain ⟨g7_, h⟩ := h
        refine ⟨g7_, ?_⟩
        replace K := fun i uo z => K i uo ⟨g7_, z⟩
        obtain ⟨g8_, h⟩ := h
        refine ⟨g8_, ?_⟩
        replace K := fun i uo z => K i uo ⟨g8_, z⟩
        obtain ⟨Q9, h0, h⟩ := h
        refine ⟨_, ruX3_addEdge h0, ?_⟩
        intro r52 S53 q9_ y10_ y11_
        replace h := h r52 S53 q9_.1 y10_ y11_
        replace K := fun i uo z => K i uo ⟨r52, S53, q9_.2, y10_, y11_, z⟩
        exact ru_X3_findEdges_J145 i0 (fun _ _ _ _ _ h K => ih i00 hk12 (fun i uo ⟨n8, z⟩ => K (i, n8) uo z) h) K h
set_option maxRecDepth 100000 in
theorem ru_X3_findEdges_L70 {ι : Type} {P Q : MS → Prop} {k12 k12' : MS → Int32 → Int32 → Prop} {k12v : ι → MS → MS → Int32 → Int32 → Prop} : ∀ (n : Nat) {U70 : MS} {v70_1 : Int32} {v70_2 : Int32} {v70_3 : Int32} {v70_4 : Int32} {v70_5 : Int32} (i0 : ι) (hk12 : ∀ (u : MS) (z0 : Int32) (z1 : Int32), k12 u z0 z1 → (∀ (i : ι) (uo : MS), k12v i uo u z0 z1 → P uo) → k12' u z0 z1), (∀ (i : ι) (uo : MS), (∃ n8, v_X3_findEdges_L70 uo (k12v i uo) n8 U70 v70_1 v70_2 v70_3 v70_4 v70_5) → P uo) → w_X3_findEdges_L70 Q k12 n U70 v70_1 v70_2 v70_3 v70_4 v70_5 → w_X3_findEdges_L70 (fun u => Q u ∧ P u) k12' n U70 v70_1 v70_2 v70_3 v70_4 v70_5 := by
  intro n
  induction n with
  | zero => intro U70 v70_1 v70_2 v70_3 v70_4 v70_5 i0 hk12 K h; unfold w_X3_findEdges_L70 at h; exact h.elim
  | succ n ih =>
    intro U70 v70_1 v70_2 v70_3 v70_4 v70_5 i0 hk12 K h
    unfold w_X3_findEdges_L70 at h ⊢
    replace K := fun (i : ι × Nat) uo (z : v_X3_findEdges_L70 uo (k12v i.1 uo) (i.2 + 1) U70 v70_1 v70_2 v70_3 v70_4 v70_5) => K i.1 uo ⟨i.2 + 1, z⟩
    have i00 := i0
    replace i0 : ι × Nat := (i0, 0)
    intro y12_
    replace h := h y12_
    replace K := fun i uo z => K i uo ⟨y12_, z⟩
    refine ⟨fun c => ?_, fun c => ?_⟩
    · replace h := h.1 c
      replace K := fun i uo z => K i uo (Or.inl ⟨c, z⟩)
      obtain ⟨n9, h⟩ := h
      exact ⟨n9, ru_X3_findEdges_L103 n9 i0 (fun _ _ _ h K => hk12 _ _ _ h (fun i uo z => K (i, 0) uo z)) K h⟩
    · replace h := h.2 c
      replace K := fun i uo z => K i uo (Or.inr ⟨c, z⟩)
      obtain ⟨g13_, h⟩ := h
      refine ⟨g13_, ?_⟩
      replace K := fun i uo z => K i uo ⟨g13_, z⟩
      obtain ⟨g14_, h⟩ := h
      refine ⟨g14_, ?_⟩
      replace K := fun i uo z => K i uo ⟨g14_, z⟩
      intro a61 ea61 
      replace h := h a61 ea61 
      replace K := fun i uo z => K i uo ⟨a61, ea61, z⟩
      obtain ⟨Q9, h0, h⟩ := h
      refine ⟨_, ruX3_addEdge h0, ?_⟩
      intro r63 S64 q15_ y16_ y17_
      replace h := h r63 S64 q15_.1 y16_ y17_
      replace K := fun i uo z => K i uo ⟨r63, S64, q15_.2, y16_, y17_, z⟩
      intro a67 ea67 
      replace h := h a67 ea67 
      replace K := fun i uo z => K i uo ⟨a67, ea67, z⟩
      exact ih i00 hk12 (fun i uo ⟨n8, z⟩ => K (i, n8) uo z) h
set_option maxRecDepth 100000 in
theorem ru_X3_findEdges_J57 {ι : Type} {P Q : MS → Prop} {k12 k12' : MS → Int32 → Int32 → Prop} {k12v : ι → MS → MS → Int32 → Int32 → Prop} {U57 : MS} {v57_1 : Int32} {v57_2 : Int32} {v57_3 : Int32} (i0 : ι) (hk12 : ∀ (u : MS) (z0 : Int32) (z1 : Int32), k12 u z0 z1 → (∀ (i : ι) (uo : MS), k12v i uo u z0 z1 → P uo) → k12' u z0 z1) (K : ∀ (i : ι) (uo : MS), v_X3_findEdges_J57 uo (k12v i uo) U57 v57_1 v57_2 v57_3 → P uo) (h : w_X3_findEdges_J57 Q k12 U57 v57_1 v57_2 v57_3) : w_X3_findEdges_J57 (fun u => Q u ∧ P u) k12' U57 v57_1 v57_2 v57_3 := by
  unfold w_X3_findEdges_J57 at h ⊢
  intro y18_
  replace h := h y18_
  replace K := fun i uo z => K i uo ⟨y18_, z⟩
  obtain ⟨g19_, h⟩ := h
  refine ⟨g19_, ?_⟩
  replace K := fun i uo z => K i uo ⟨g19_, z⟩
  obtain ⟨g20_, h⟩ := h
  refine ⟨g20_, ?_⟩
  replace K := fun i uo z => K i uo ⟨g20_, z⟩
  intro a31 ea31 
  replace h := h a31 ea31 
  replace K := fun i uo z => K i uo ⟨a31, ea31, z⟩
  obtain ⟨n9, h⟩ := h
  exact ⟨n9, ru_X3_findEdges_L70 n9 i0 hk12 K h⟩
set_option maxRecDepth 100000 in
theorem ru_X3_findEdges_L12 {ι : Type} {P Q : MS → Prop} : ∀ (n : Nat) {U12 : MS} {v12_1 : Int32} {v12_2 : Int32} (i0 : ι), (∀ (i : ι) (uo : MS), (∃ n8, v_X3_findEdges_L12 uo n8 U12 v12_1 v12_2) → P uo) → w_X3_findEdges_L12 Q n U12 v12_1 v12_2 → w_X3_findEdges_L12 (fun u => Q u ∧ P u) n U12 v12_1 v12_2 := by
  intro n
  induction n with
  | zero => intro U12 v12_1 v12_2 i0 K h; unfold w_X3_findEdges_L12 at h; exact h.elim
  | succ n ih =>
    intro U12 v12_1 v12_2 i0 K h
    unfold w_X3_findEdges_L12 at h ⊢
    replace K := fun (i : ι × Nat) uo (z : v_X3_findEdges_L12 uo (i.2 + 1) U12 v12_1 v12_2) => K i.1 uo ⟨i.2 + 1, z⟩
    have i00 := i0
    replace i0 : ι × Nat := (i0, 0)
    intro y21_
    replace h := h y21_
    replace K := fun i uo z => K i uo ⟨y21_, z⟩
    refine ⟨fun c => ?_, fun c => ?_⟩
    · replace h := h.1 c
      replace K := fun i uo z => K i uo (Or.inl ⟨c, z⟩)
      obtain ⟨g22_, h⟩ := h
      refine ⟨g22_, ?_⟩
      replace K := fun i uo z => K i uo ⟨g22_, z⟩
      intro S8 eS8 y23_ y24_
      replace h := h S8 eS8 y23_ y24_
      replace K := fun i uo z => K i uo ⟨S8, eS8, y23_, y24_, z⟩
      exact ⟨h, K i0 _ rfl⟩
    · replace h := h.2 c
      replace K := fun i uo z => K i uo (Or.inr ⟨c, z⟩)
      obtain ⟨g25_, h⟩ := h
      refine ⟨g25_, ?_⟩
      replace K := fun i uo z => K i uo ⟨g25_, z⟩
      intro S11 eS11 y26_ y27_
      replace h := h S11 eS11 y26_ y27_
      replace K := fun i uo z => K i uo ⟨S11, eS11, y26_, y27_, z⟩
      obtain ⟨g28_, h⟩ := h
      refine ⟨g28_, ?_⟩
      replace K := fun i uo z => K i uo ⟨g28_, z⟩
      intro a15 ea15 
      replace h := h a15 ea15 
      replace K := fun i uo z => K i uo ⟨a15, ea15, z⟩
      obtain ⟨g29_, h⟩ := h
      refine ⟨g29_, ?_⟩
      replace K := fun i uo z => K i uo ⟨g29_, z⟩
      obtain ⟨g30_, h⟩ := h
      refine ⟨g30_, ?_⟩
      replace K := fun i uo z => K i uo ⟨g30_, z⟩
      intro a21 ea21 
      replace h := h a21 ea21 
      replace K := fun i uo z => K i uo ⟨a21, ea21, z⟩
      obtain ⟨g31_, h⟩ := h
      refine ⟨g31_, ?_⟩
      replace K := fun i uo z => K i uo ⟨g31_, z⟩
      intro a25 ea25 
      replace h := h a25 ea25 
      replace K := fun i uo z => K i uo ⟨a25, ea25, z⟩
      refine ⟨fun c => ?_, fun c => ?_⟩
      · replace h := h.1 c
        replace K := fun i uo z => K i uo (Or.inl ⟨c, z⟩)
        exact ru_X3_findEdges_J57 i0 (fun _ _ _ h K => ih i00 (fun i uo ⟨n8, z⟩ => K (i, n8) uo z) h) K h
      · replace h := h.2 c
        replace K := fun i uo z => K i uo (Or.inr ⟨c, z⟩)
        obtain ⟨Q9, h0, h⟩ := h
        refine ⟨_, ruX3_addEdge h0, ?_⟩
        intro r71 S72 q32_ y33_ y34_
        replace h := h r71 S72 q32_.1 y33_ y34_
        replace K := fun i uo z => K i uo ⟨r71, S72, q32_.2, y33_, y34_, z⟩
        exact ru_X3_findEdges_J57 i0 (fun _ _ _ h K => ih i00 (fun i uo ⟨n8, z⟩ => K (i, n8) uo z) h) K h
set_option maxRecDepth 100000 in
theorem ruX3_findEdges {S : MS} {Q : MS → Prop} (h : wX3_findEdges S Q) : wX3_findEdges S (fun u => Q u ∧ vX3_findEdges S u) := by
  have i0 : Unit := ()
  have K : ∀ (i : Unit) (uo : MS), vX3_findEdges S uo → vX3_findEdges S uo := fun _ _ z => z
  unfold wX3_findEdges at h ⊢
  intro y35_
  replace h := h y35_
  replace K := fun i uo z => K i uo ⟨y35_, z⟩
  obtain ⟨Q9, h0, h⟩ := h
  refine ⟨_, ruJ7_fill_53178 h0, ?_⟩
  intro S3 q36_ y37_ y38_
  replace h := h S3 q36_.1 y37_ y38_
  replace K := fun i uo z => K i uo ⟨S3, q36_.2, y37_, y38_, z⟩
  obtain ⟨n9, h⟩ := h
  exact ⟨n9, ru_X3_findEdges_L12 n9 i0 K h⟩
set_option maxRecDepth 100000 in
theorem vw_X3_findEdges_J145 {uo : MS} {k103 k103v : MS → Int32 → Int32 → Int32 → Int32 → Prop} {U145 : MS} {v145_1 : Int32} {v145_2 : Int32} {v145_3 : Int32} {v145_5 : Int32} (hk103 : ∀ (u : MS) (z0 : Int32) (z1 : Int32) (z2 : Int32) (z3 : Int32), k103v u z0 z1 z2 z3 → k103 u z0 z1 z2 z3) (h : v_X3_findEdges_J145 uo k103v U145 v145_1 v145_2 v145_3 v145_5) : w_X3_findEdges_J145 (fun u => u = uo) k103 U145 v145_1 v145_2 v145_3 v145_5 := by
  unfold v_X3_findEdges_J145 at h
  unfold w_X3_findEdges_J145
  intro _
  replace h := h.2
  obtain ⟨v9, e9, h⟩ := h
  intro x9 d9 
  have c9 : v9 = x9 := e9.trans d9.symm
  subst c9
  exact hk103 _ _ _ _ _ h
set_option maxRecDepth 100000 in
theorem vp_X3_findEdges_J145 {uo : MS} {P : MS → Prop} {k103 k103v : MS → Int32 → Int32 → Int32 → Int32 → Prop} {U145 : MS} {v145_1 : Int32} {v145_2 : Int32} {v145_3 : Int32} {v145_5 : Int32} (hk103 : ∀ (u : MS) (z0 : Int32) (z1 : Int32) (z2 : Int32) (z3 : Int32), k103v u z0 z1 z2 z3 → k103 u z0 z1 z2 z3 → P uo) (h : v_X3_findEdges_J145 uo k103v U145 v145_1 v145_2 v145_3 v145_5) (w : w_X3_findEdges_J145 P k103 U145 v145_1 v145_2 v145_3 v145_5) : P uo := by
  unfold v_X3_findEdges_J145 at h
  unfold w_X3_findEdges_J145 at w
  obtain ⟨y1_, h⟩ := h
  replace w := w y1_
  obtain ⟨v9, e9, h⟩ := h
  replace w := w v9 e9 
  exact hk103 _ _ _ _ _ h w
set_option maxRecDepth 100000 in
theorem vw_X3_findEdges_L103 {uo : MS} {k12 k12v : MS → Int32 → Int32 → Prop} : ∀ (n : Nat) {U103 : MS} {v103_1 : Int32} {v103_2 : Int32} {v103_3 : Int32} {v103_5 : Int32} (hk12 : ∀ (u : MS) (z0 : Int32) (z1 : Int32), k12v u z0 z1 → k12 u z0 z1), v_X3_findEdges_L103 uo k12v n U103 v103_1 v103_2 v103_3 v103_5 → w_X3_findEdges_L103 (fun u => u = uo) k12 n U103 v103_1 v103_2 v103_3 v103_5 := by
  intro n
  induction n with
  | zero => intro U103 v103_1 v103_2 v103_3 v103_5 hk12 h; unfold v_X3_findEdges_L103 at h; exact h.elim
  | succ n ih =>
    intro U103 v103_1 v103_2 v103_3 v103_5 hk12 h
    unfold v_X3_findEdges_L103 at h
    unfold w_X3_findEdges_L103
    intro _
    replace h := h.2
    obtain ⟨g9, h⟩ := h
    refine ⟨g9, ?_⟩
    rcases h with ⟨c, h⟩ | ⟨c, h⟩
    · refine ⟨fun _ => ?_, fun c2 => absurd c c2⟩
      obtain ⟨v9, e9, h⟩ := h
      intro x9 d9 
      have c9 : v9 = x9 := e9.trans d9.symm
      subst c9
      exact hk12 _ _ _ h
    · refine ⟨fun c2 => absurd c2 c, fun _ => ?_⟩
      obtain ⟨g9, h⟩ := h
      refine ⟨g9, ?_⟩
      obtain ⟨g9, h⟩ := h
      refine ⟨g9, ?_⟩
      obtain ⟨v9, e9, h⟩ := h
      intro x9 d9 
      have c9 : v9 = x9 := e9.trans d9.symm
      subst c9
      rcases h with ⟨c, h⟩ | ⟨c, h⟩
      · refine ⟨fun _ => ?_, fun c2 => absurd c c2⟩
        exact vw_X3_findEdges_J145 (fun _ _ _ _ _ h => ih hk12 h) h
      · refine ⟨fun c2 => absurd c2 c, fun _ => ?_⟩
        obtain ⟨g9, h⟩ := h
        refine ⟨g9, ?_⟩
        obtain ⟨g9, h⟩ := h
        refine ⟨g9, ?_⟩
        obtain ⟨g9, h⟩ := h
        refine ⟨g9, ?_⟩
        obtain ⟨p9, q9, z9, h⟩ := h
        refine ⟨_, vwX3_addEdge z9, ?_⟩
        rintro p8 q8 ⟨d8, d9⟩ _ _
        subst d8
        subst d9
        replace h := h.2.2
        exact vw_X3_findEdges_J145 (fun _ _ _ _ _ h => ih hk12 h) h
set_option maxRecDepth 100000 in
theorem vp_X3_findEdges_L103 {uo : MS} {P : MS → Prop} {k12 k12v : MS → Int32 → Int32 → Prop} : ∀ (n m : Nat) {U103 : MS} {v103_1 : Int32} {v103_2 : Int32} {v103_3 : Int32} {v103_5 : Int32} (hk12 : ∀ (u : MS) (z0 : Int32) (z1 : Int32), k12v u z0 z1 → k12 u z0 z1 → P uo), v_X3_findEdges_L103 uo k12v n U103 v103_1 v103_2 v103_3 v103_5 → w_X3_findEdges_L103 P k12 m U103 v103_1 v103_2 v103_3 v103_5 → P uo := by
  intro n
  induction n with
  | zero => intro m U103 v103_1 v103_2 v103_3 v103_5 hk12 h; unfold v_X3_findEdges_L103 at h; exact h.elim
  | succ n ih =>
    intro m U103 v103_1 v103_2 v103_3 v103_5 hk12 h w
    cases m with
    | zero => unfold w_X3_findEdges_L103 at w; exact w.elim
    | succ m =>
      unfold v_X3_findEdges_L103 at h
      unfold w_X3_findEdges_L103 at w
      obtain ⟨y2_, h⟩ := h
      replace w := w y2_
      replace h := h.2
      replace w := w.2
      rcases h with ⟨c, h⟩ | ⟨c, h⟩
      · replace w := w.1 c
        obtain ⟨v9, e9, h⟩ := h
        replace w := w v9 e9 
        exact hk12 _ _ _ h w
      · replace w := w.2 c
        replace h := h.2
        replace w := w.2
        replace h := h.2
        replace w := w.2
        obtain ⟨v9, e9, h⟩ := h
        replace w := w v9 e9 
        rcases h with ⟨c, h⟩ | ⟨c, h⟩
        · replace w := w.1 c
          exact vp_X3_findEdges_J145 (fun _ _ _ _ _ h w => ih m hk12 h w) h w
        · replace w := w.2 c
          replace h := h.2
          replace w := w.2
          replace h := h.2
          replace w := w.2
          replace h := h.2
          replace w := w.2
          obtain ⟨p9, q9, z9, y3_, y4_, h⟩ := h
          obtain ⟨Q9, w0, w⟩ := w
          replace w := w p9 q9 (vpX3_addEdge z9 w0) y3_ y4_
          exact vp_X3_findEdges_J145 (fun _ _ _ _ _ h w => ih m hk12 h w) h w
set_option maxRecDepth 100000 in
theorem vw_X3_findEdges_L70 {uo : MS} {k12 k12v : MS → Int32 → Int32 → Prop} : ∀ (n : Nat) {U70 : MS} {v70_1 : Int32} {v70_2 : Int32} {v70_3 : Int32} {v70_4 : Int32} {v70_5 : Int32} (hk12 : ∀ (u : MS) (z0 : Int32) (z1 : Int32), k12v u z0 z1 → k12 u z0 z1), v_X3_findEdges_L70 uo k12v n U70 v70_1 v70_2 v70_3 v70_4 v70_5 → w_X3_findEdges_L70 (fun u => u = uo) k12 n U70 v70_1 v70_2 v70_3 v70_4 v70_5 := by
  intro n
  induction n with
  | zero => intro U70 v70_1 v70_2 v70_3 v70_4 v70_5 hk12 h; unfold v_X3_findEdges_L70 at h; exact h.elim
  | succ n ih =>
    intro U70 v70_1 v70_2 v70_3 v70_4 v70_5 hk12 h
    unfold v_X3_findEdges_L70 at h
    unfold w_X3_findEdges_L70
    intro _
    replace h := h.2
    rcases h with ⟨c, h⟩ | ⟨c, h⟩
    · refine ⟨fun _ => ?_, fun c2 => absurd c c2⟩
      obtain ⟨n9, h⟩ := h
      exact ⟨n9, vw_X3_findEdges_L103 n9 hk12 h⟩
    · refine ⟨fun c2 => absurd c2 c, fun _ => ?_⟩
      obtain ⟨g9, h⟩ := h
      refine ⟨g9, ?_⟩
      obtain ⟨g9, h⟩ := h
      refine ⟨g9, ?_⟩
      obtain ⟨v9, e9, h⟩ := h
      intro x9 d9 
      have c9 : v9 = x9 := e9.trans d9.symm
      subst c9
      obtain ⟨p9, q9, z9, h⟩ := h
      refine ⟨_, vwX3_addEdge z9, ?_⟩
      rintro p8 q8 ⟨d8, d9⟩ _ _
      subst d8
      subst d9
      replace h := h.2.2
      obtain ⟨v9, e9, h⟩ := h
      intro x9 d9 
      have c9 : v9 = x9 := e9.trans d9.symm
      subst c9
      exact ih hk12 h
set_option maxRecDepth 100000 in
theorem vp_X3_findEdges_L70 {uo : MS} {P : MS → Prop} {k12 k12v : MS → Int32 → Int32 → Prop} : ∀ (n m : Nat) {U70 : MS} {v70_1 : Int32} {v70_2 : Int32} {v70_3 : Int32} {v70_4 : Int32} {v70_5 : Int32} (hk12 : ∀ (u : MS) (z0 : Int32) (z1 : Int32), k12v u z0 z1 → k12 u z0 z1 → P uo), v_X3_findEdges_L70 uo k12v n U70 v70_1 v70_2 v70_3 v70_4 v70_5 → w_X3_findEdges_L70 P k12 m U70 v70_1 v70_2 v70_3 v70_4 v70_5 → P uo := by
  intro n
  induction n with
  | zero => intro m U70 v70_1 v70_2 v70_3 v70_4 v70_5 hk12 h; unfold v_X3_findEdges_L70 at h; exact h.elim
  | succ n ih =>
    intro m U70 v70_1 v70_2 v70_3 v70_4 v70_5 hk12 h w
    cases m with
    | zero => unfold w_X3_findEdges_L70 at w; exact w.elim
    | succ m =>
      unfold v_X3_findEdges_L70 at h
      unfold w_X3_findEdges_L70 at w
      obtain ⟨y5_, h⟩ := h
      replace w := w y5_
      rcases h with ⟨c, h⟩ | ⟨c, h⟩
      · replace w := w.1 c
        obtain ⟨n9, h⟩ := h
        obtain ⟨n8, w⟩ := w
        exact vp_X3_findEdges_L103 n9 n8 hk12 h w
      · replace w := w.2 c
        replace h := h.2
        replace w := w.2
        replace h := h.2
        replace w := w.2
        obtain ⟨v9, e9, h⟩ := h
        replace w := w v9 e9 
        obtain ⟨p9, q9, z9, y6_, y7_, h⟩ := h
        obtain ⟨Q9, w0, w⟩ := w
        replace w := w p9 q9 (vpX3_addEdge z9 w0) y6_ y7_
        obtain ⟨v9, e9, h⟩ := h
        replace w := w v9 e9 
        exact ih m hk12 h w
set_option maxRecDepth 100000 in
theorem vw_X3_findEdges_J57 {uo : MS} {k12 k12v : MS → Int32 → Int32 → Prop} {U57 : MS} {v57_1 : Int32} {v57_2 : Int32} {v57_3 : Int32} (hk12 : ∀ (u : MS) (z0 : Int32) (z1 : Int32), k12v u z0 z1 → k12 u z0 z1) (h : v_X3_findEdges_J57 uo k12v U57 v57_1 v57_2 v57_3) : w_X3_findEdges_J57 (fun u => u = uo) k12 U57 v57_1 v57_2 v57_3 := by
  unfold v_X3_findEdges_J57 at h
  unfold w_X3_findEdges_J57
  intro _
  replace h := h.2
  obtain ⟨g9, h⟩ := h
  refine ⟨g9, ?_⟩
  obtain ⟨g9, h⟩ := h
  refine ⟨g9, ?_⟩
  obtain ⟨v9, e9, h⟩ := h
  intro x9 d9 
  have c9 : v9 = x9 := e9.trans d9.symm
  subst c9
  obtain ⟨n9, h⟩ := h
  exact ⟨n9, vw_X3_findEdges_L70 n9 hk12 h⟩
set_option maxRecDepth 100000 in
theorem vp_X3_findEdges_J57 {uo : MS} {P : MS → Prop} {k12 k12v : MS → Int32 → Int32 → Prop} {U57 : MS} {v57_1 : Int32} {v57_2 : Int32} {v57_3 : Int32} (hk12 : ∀ (u : MS) (z0 : Int32) (z1 : Int32), k12v u z0 z1 → k12 u z0 z1 → P uo) (h : v_X3_findEdges_J57 uo k12v U57 v57_1 v57_2 v57_3) (w : w_X3_findEdges_J57 P k12 U57 v57_1 v57_2 v57_3) : P uo := by
  unfold v_X3_findEdges_J57 at h
  unfold w_X3_findEdges_J57 at w
  obtain ⟨y8_, h⟩ := h
  replace w := w y8_
  replace h := h.2
  replace w := w.2
  replace h := h.2
  replace w := w.2
  obtain ⟨v9, e9, h⟩ := h
  replace w := w v9 e9 
  obtain ⟨n9, h⟩ := h
  obtain ⟨n8, w⟩ := w
  exact vp_X3_findEdges_L70 n9 n8 hk12 h w
set_option maxRecDepth 100000 in
theorem vw_X3_findEdges_L12 {uo : MS} : ∀ (n : Nat) {U12 : MS} {v12_1 : Int32} {v12_2 : Int32}, v_X3_findEdges_L12 uo n U12 v12_1 v12_2 → w_X3_findEdges_L12 (fun u => u = uo) n U12 v12_1 v12_2 := by
  intro n
  induction n with
  | zero => intro U12 v12_1 v12_2 h; unfold v_X3_findEdges_L12 at h; exact h.elim
  | succ n ih =>
    intro U12 v12_1 v12_2 h
    unfold v_X3_findEdges_L12 at h
    unfold w_X3_findEdges_L12
    intro _
    replace h := h.2
    rcases h with ⟨c, h⟩ | ⟨c, h⟩
    · refine ⟨fun _ => ?_, fun c2 => absurd c c2⟩
      obtain ⟨g9, h⟩ := h
      refine ⟨g9, ?_⟩
      obtain ⟨v9, e9, h⟩ := h
      intro x9 d9 _ _
      have c9 : v9 = x9 := e9.trans d9.symm
      subst c9
      replace h := h.2.2
      exact h.symm
    · refine ⟨fun c2 => absurd c2 c, fun _ => ?_⟩
      obtain ⟨g9, h⟩ := h
      refine ⟨g9, ?_⟩
      obtain ⟨v9, e9, h⟩ := h
      intro x9 d9 _ _
      have c9 : v9 = x9 := e9.trans d9.symm
      subst c9
      replace h := h.2.2
      obtain ⟨g9, h⟩ := h
      refine ⟨g9, ?_⟩
      obtain ⟨v9, e9, h⟩ := h
      intro x9 d9 
      have c9 : v9 = x9 := e9.trans d9.symm
      subst c9
      obtain ⟨g9, h⟩ := h
      refine ⟨g9, ?_⟩
      obtain ⟨g9, h⟩ := h
      refine ⟨g9, ?_⟩
      obtain ⟨v9, e9, h⟩ := h
      intro x9 d9 
      have c9 : v9 = x9 := e9.trans d9.symm
      subst c9
      obtain ⟨g9, h⟩ := h
      refine ⟨g9, ?_⟩
      obtain ⟨v9, e9, h⟩ := h
      intro x9 d9 
      have c9 : v9 = x9 := e9.trans d9.symm
      subst c9
      rcases h with ⟨c, h⟩ | ⟨c, h⟩
      · refine ⟨fun _ => ?_, fun c2 => absurd c c2⟩
        exact vw_X3_findEdges_J57 (fun _ _ _ h => ih h) h
      · refine ⟨fun c2 => absurd c2 c, fun _ => ?_⟩
        obtain ⟨p9, q9, z9, h⟩ := h
        refine ⟨_, vwX3_addEdge z9, ?_⟩
        rintro p8 q8 ⟨d8, d9⟩ _ _
        subst d8
        subst d9
        replace h := h.2.2
        exact vw_X3_findEdges_J57 (fun _ _ _ h => ih h) h
set_option maxRecDepth 100000 in
theorem vp_X3_findEdges_L12 {uo : MS} {P : MS → Prop} : ∀ (n m : Nat) {U12 : MS} {v12_1 : Int32} {v12_2 : Int32}, v_X3_findEdges_L12 uo n U12 v12_1 v12_2 → w_X3_findEdges_L12 P m U12 v12_1 v12_2 → P uo := by
  intro n
  induction n with
  | zero => intro m U12 v12_1 v12_2 h; unfold v_X3_findEdges_L12 at h; exact h.elim
  | succ n ih =>
    intro m U12 v12_1 v12_2 h w
    cases m with
    | zero => unfold w_X3_findEdges_L12 at w; exact w.elim
    | succ m =>
      unfold v_X3_findEdges_L12 at h
      unfold w_X3_findEdges_L12 at w
      obtain ⟨y9_, h⟩ := h
      replace w := w y9_
      rcases h with ⟨c, h⟩ | ⟨c, h⟩
      · replace w := w.1 c
        replace h := h.2
        replace w := w.2
        obtain ⟨v9, e9, y10_, y11_, h⟩ := h
        replace w := w v9 e9 y10_ y11_
        rw [h]
        exact w
      · replace w := w.2 c
        replace h := h.2
        replace w := w.2
        obtain ⟨v9, e9, y12_, y13_, h⟩ := h
        replace w := w v9 e9 y12_ y13_
        replace h := h.2
        replace w := w.2
        obtain ⟨v9, e9, h⟩ := h
        replace w := w v9 e9 
        replace h := h.2
        replace w := w.2
        replace h := h.2
        replace w := w.2
        obtain ⟨v9, e9, h⟩ := h
        replace w := w v9 e9 
        replace h := h.2
        replace w := w.2
        obtain ⟨v9, e9, h⟩ := h
        replace w := w v9 e9 
        rcases h with ⟨c, h⟩ | ⟨c, h⟩
        · replace w := w.1 c
          exact vp_X3_findEdges_J57 (fun _ _ _ h w => ih m h w) h w
        · replace w := w.2 c
          obtain ⟨p9, q9, z9, y14_, y15_, h⟩ := h
          obtain ⟨Q9, w0, w⟩ := w
          replace w := w p9 q9 (vpX3_addEdge z9 w0) y14_ y15_
          exact vp_X3_findEdges_J57 (fun _ _ _ h w => ih m h w) h w
set_option maxRecDepth 100000 in
theorem vwX3_findEdges {S : MS} {uo : MS} (h : vX3_findEdges S uo) : wX3_findEdges S (fun u => u = uo) := by
  unfold vX3_findEdges at h
  unfold wX3_findEdges
  intro _
  replace h := h.2
  obtain ⟨q9, z9, h⟩ := h
  refine ⟨_, vwJ7_fill_53178 z9, ?_⟩
  intro q8 d9 _ _
  subst d9
  replace h := h.2.2
  obtain ⟨n9, h⟩ := h
  exact ⟨n9, vw_X3_findEdges_L12 n9 h⟩
set_option maxRecDepth 100000 in
theorem vpX3_findEdges {S : MS} {uo : MS} {P : MS → Prop} (h : vX3_findEdges S uo) (w : wX3_findEdges S P) : P uo := by
  unfold vX3_findEdges at h
  unfold wX3_findEdges at w
  obtain ⟨y16_, h⟩ := h
  replace w := w y16_
  obtain ⟨q9, z9, y17_, y18_, h⟩ := h
  obtain ⟨Q9, w0, w⟩ := w
  replace w := w q9 (vpJ7_fill_53178 z9 w0) y17_ y18_
  obtain ⟨n9, h⟩ := h
  obtain ⟨n8, w⟩ := w
  exact vp_X3_findEdges_L12 n9 n8 h w
def v_X3_findDominators_J163 (uo : MS) (k132 : MS → Int32 → Prop) (U163 : MS) (t163_0 : Int32) (t163_1 : Int32) (t163_2 : Nat) (v163_2 : Int32) : Prop := (wfC U163 ∧ qT U163 t163_2 = 208 ∧ (((0 : Int) ≤ t163_1.toInt ∧ t163_1.toInt < (qN U163 t163_2 : Int)) ∧ (∃ S13 : MS, S13 = wI U163 t163_2 t163_1.toInt.toNat t163_0 ∧ qT U163 t163_2 = 208 ∧ wfC S13 ∧ (∃ a14 : Int32, a14 = (v163_2 + Int32.ofInt 1) ∧ (k132 S13 a14)))))
def v_X3_findDominators_L132 (uo : MS) : Nat → MS → Int32 → Prop
  | 0, _, _ => False
  | n132 + 1, U132, v132_2 => (wfC U132 ∧ (((qI U132 52 1).toInt ≤ v132_2.toInt ∧ (uo = U132)) ∨ (¬ (qI U132 52 1).toInt ≤ v132_2.toInt ∧ (((0 : Int) ≤ v132_2.toInt ∧ v132_2.toInt < (qN U132 (qO U132 52 8) : Int)) ∧ (((qI U132 (qO U132 52 8) v132_2.toInt.toNat).toInt = 0 ∧ (v_X3_findDominators_J163 uo (v_X3_findDominators_L132 uo n132) U132 (-1) v132_2 (qO U132 52 11) v132_2)) ∨ (¬ (qI U132 (qO U132 52 8) v132_2.toInt.toNat).toInt = 0 ∧ (∃ (r17 : Int32) (S18 : MS), vX3_nearestDominator U132 v132_2 r17 S18 ∧ wfC S18 ∧ shy U132 S18 ∧ (v_X3_findDominators_J163 uo (v_X3_findDominators_L132 uo n132) S18 r17 v132_2 (qO U132 52 11) v132_2))))))))
def v_X3_findDominators_J130 (uo : MS) (U130 : MS) : Prop := (wfC U130 ∧ (∃ n, v_X3_findDominators_L132 uo n U130 0))
def v_X3_findDominators_J118 (uo : MS) (k59 : MS → Int32 → Int32 → Int32 → Prop) (U118 : MS) (v118_1 : Int32) (v118_2 : Int32) (v118_3 : Int32) : Prop := (wfC U118 ∧ (∃ a32 : Int32, a32 = (v118_3 + Int32.ofInt 1) ∧ (k59 U118 v118_1 v118_2 a32)))
def v_X3_findDominators_J34 (uo : MS) (k12 : MS → Int32 → Prop) (U34 : MS) (t34_0 : Int64) (t34_1 : Int32) (t34_2 : Nat) (v34_1 : Int32) : Prop := (wfC U34 ∧ qT U34 t34_2 = 401 ∧ (((0 : Int) ≤ t34_1.toInt ∧ t34_1.toInt < (qN U34 t34_2 : Int)) ∧ (∃ S51 : MS, S51 = wJ U34 t34_2 t34_1.toInt.toNat t34_0 ∧ qT U34 t34_2 = 401 ∧ wfC S51 ∧ (∃ a52 : Int32, a52 = (v34_1 + Int32.ofInt 1) ∧ (k12 S51 a52)))))
def v_X3_findDominators_L75 (uo : MS) (k59 : MS → Int32 → Int32 → Int32 → Prop) : Nat → MS → Int32 → Int32 → Int32 → Int32 → Prop
  | 0, _, _, _, _, _ => False
  | n75 + 1, U75, v75_1, v75_2, v75_3, v75_4 => (wfC U75 ∧ (((0 : Int) ≤ v75_3.toInt ∧ v75_3.toInt < (qN U75 (qO U75 52 8) : Int)) ∧ (((qI U75 (qO U75 52 8) v75_3.toInt.toNat).toInt = 0 ∧ (v_X3_findDominators_J118 uo k59 U75 v75_1 v75_2 v75_3)) ∨ (¬ (qI U75 (qO U75 52 8) v75_3.toInt.toNat).toInt = 0 ∧ (((0 : Int) ≤ (v75_3 + (1 : Int32)).toInt ∧ (v75_3 + (1 : Int32)).toInt < (qN U75 (qO U75 52 4) : Int)) ∧ (((qI U75 (qO U75 52 4) (((v75_3 + (1 : Int32)).toInt).toNat)).toInt ≤ v75_4.toInt ∧ (v_X3_findDominators_J118 uo k59 U75 v75_1 v75_2 v75_3)) ∨ (¬ (qI U75 (qO U75 52 4) (((v75_3 + (1 : Int32)).toInt).toNat)).toInt ≤ v75_4.toInt ∧ (((0 : Int) ≤ v75_4.toInt ∧ v75_4.toInt < (qN U75 (qO U75 52 5) : Int)) ∧ (∃ (r43 : Int32) (S44 : MS), vX3_narrow U75 (qI U75 (qO U75 52 5) v75_4.toInt.toNat) v75_3 r43 S44 ∧ wfC S44 ∧ shy U75 S44 ∧ (∃ a47 : Int32, a47 = (v75_1 ||| r43) ∧ (∃ a48 : Int32, a48 = (v75_4 + Int32.ofInt 1) ∧ ((v_X3_findDominators_L75 uo k59 n75) S44 a47 v75_2 v75_3 a48))))))))))))
def v_X3_findDominators_L59 (uo : MS) (k45 : MS → Int32 → Int32 → Prop) : Nat → MS → Int32 → Int32 → Int32 → Prop
  | 0, _, _, _, _ => False
  | n59 + 1, U59, v59_1, v59_2, v59_3 => (wfC U59 ∧ (((qI U59 52 1).toInt ≤ v59_3.toInt ∧ (∃ a23 : Int32, a23 = (v59_2 + Int32.ofInt 1) ∧ (k45 U59 v59_1 a23))) ∨ (¬ (qI U59 52 1).toInt ≤ v59_3.toInt ∧ (((0 : Int) ≤ v59_3.toInt ∧ v59_3.toInt < (qN U59 (qO U59 52 4) : Int)) ∧ (∃ a27 : Int32, a27 = (qI U59 (qO U59 52 4) v59_3.toInt.toNat) ∧ (∃ n, v_X3_findDominators_L75 uo (v_X3_findDominators_L59 uo k45 n59) n U59 v59_1 v59_2 v59_3 a27))))))
def v_X3_findDominators_L45 (uo : MS) : Nat → MS → Int32 → Int32 → Prop
  | 0, _, _, _ => False
  | n45 + 1, U45, v45_1, v45_2 => (wfC U45 ∧ ((v45_1.toInt = 0 ∧ (v_X3_findDominators_J130 uo U45)) ∨ (¬ v45_1.toInt = 0 ∧ ((1000000 ≤ v45_2.toInt ∧ (v_X3_findDominators_J130 uo U45)) ∨ (¬ 1000000 ≤ v45_2.toInt ∧ (∃ n, v_X3_findDominators_L59 uo (v_X3_findDominators_L45 uo n45) n U45 0 v45_2 0))))))
def v_X3_findDominators_L12 (uo : MS) : Nat → MS → Int32 → Prop
  | 0, _, _ => False
  | n12 + 1, U12, v12_1 => (wfC U12 ∧ (((qI U12 52 10).toInt ≤ v12_1.toInt ∧ (∃ n, v_X3_findDominators_L45 uo n U12 1 0)) ∨ (¬ (qI U12 52 10).toInt ≤ v12_1.toInt ∧ ((v12_1.toInt = 0 ∧ (v_X3_findDominators_J34 uo (v_X3_findDominators_L12 uo n12) U12 1 v12_1 (qO U12 52 9) v12_1)) ∨ (¬ v12_1.toInt = 0 ∧ (v_X3_findDominators_J34 uo (v_X3_findDominators_L12 uo n12) U12 0 v12_1 (qO U12 52 9) v12_1))))))
def vX3_findDominators (S : MS) (uo : MS) : Prop := (qT S (qO S 52 9) = 401 ∧ (∃ (S3 : MS), vJ7_fill_d0a16 S (qO S 52 9) (-1 : Int64) S3 ∧ wfC S3 ∧ shy S S3 ∧ (∃ n, v_X3_findDominators_L12 uo n S3 0)))
set_option maxRecDepth 100000 in
theorem ru_X3_findDominators_J163 {ι : Type} {P Q : MS → Prop} {k132 k132' : MS → Int32 → Prop} {k132v : ι → MS → MS → Int32 → Prop} {U163 : MS} {t163_0 : Int32} {t163_1 : Int32} {t163_2 : Nat} {v163_2 : Int32} (i0 : ι) (hk132 : ∀ (u : MS) (z0 : Int32), k132 u z0 → (∀ (i : ι) (uo : MS), k132v i uo u z0 → P uo) → k132' u z0) (K : ∀ (i : ι) (uo : MS), v_X3_findDominators_J163 uo (k132v i uo) U163 t163_0 t163_1 t163_2 v163_2 → P uo) (h : w_X3_findDominators_J163 Q k132 U163 t163_0 t163_1 t163_2 v163_2) : w_X3_findDominators_J163 (fun u => Q u ∧ P u) k132' U163 t163_0 t163_1 t163_2 v163_2 := by
  unfold w_X3_findDominators_J163 at h ⊢
  intro y1_ y2_
  replace h := h y1_ y2_
  replace K := fun i uo z => K i uo ⟨y1_, y2_, z⟩
  obtain ⟨g3_, h⟩ := h
  refine ⟨g3_, ?_⟩
  replace K := fun i uo z => K i uo ⟨g3_, z⟩
  intro S13 eS13 y4_ y5_
  replace h := h S13 eS13 y4_ y5_
  replace K := fun i uo z => K i uo ⟨S13, eS13, y4_, y5_, z⟩
  intro a14 ea14 
  replace h := h a14 ea14 
  replace K := fun i uo z => K i uo ⟨a14, ea14, z⟩
  exact hk132 _ _ h K
set_option maxRecDepth 100000 in
theorem ru_X3_findDominators_L132 {ι : Type} {P Q : MS → Prop} : ∀ (n : Nat) {U132 : MS} {v132_2 : Int32} (i0 : ι), (∀ (i : ι) (uo : MS), (∃ n8, v_X3_findDominators_L132 uo n8 U132 v132_2) → P uo) → w_X3_findDominators_L132 Q n U132 v132_2 → w_X3_findDominators_L132 (fun u => Q u ∧ P u) n U132 v132_2 := by
  intro n
  induction n with
  | zero => intro U132 v132_2 i0 K h; unfold w_X3_findDominators_L132 at h; exact h.elim
  | succ n ih =>
    intro U132 v132_2 i0 K h
    unfold w_X3_findDominators_L132 at h ⊢
    replace K := fun (i : ι × Nat) uo (z : v_X3_findDominators_L132 uo (i.2 + 1) U132 v132_2) => K i.1 uo ⟨i.2 + 1, z⟩
    have i00 := i0
    replace i0 : ι × Nat := (i0, 0)
    intro y6_
    replace h := h y6_
    replace K := fun i uo z => K i uo ⟨y6_, z⟩
    refine ⟨fun c => ?_, fun c => ?_⟩
    · replace h := h.1 c
      replace K := fun i uo z => K i uo (Or.inl ⟨c, z⟩)
      exact ⟨h, K i0 _ rfl⟩
    · replace h := h.2 c
      replace K := fun i uo z => K i uo (Or.inr ⟨c, z⟩)
      obtain ⟨g7_, h⟩ := h
      refine ⟨g7_, ?_⟩
      replace K := fun i uo z => K i uo ⟨g7_, z⟩
      refine ⟨fun c => ?_, fun c => ?_⟩
      · replace h := h.1 c
        replace K := fun i uo z => K i uo (Or.inl ⟨c, z⟩)
        exact ru_X3_findDominators_J163 i0 (fun _ _ h K => ih i00 (fun i uo ⟨n8, z⟩ => K (i, n8) uo z) h) K h
      · replace h := h.2 c
        replace K := fun i uo z => K i uo (Or.inr ⟨c, z⟩)
        obtain ⟨Q9, h0, h⟩ := h
        refine ⟨_, ruX3_nearestDominator h0, ?_⟩
        intro r17 S18 q8_ y9_ y10_
        replace h := h r17 S18 q8_.1 y9_ y10_
        replace K := fun i uo z => K i uo ⟨r17, S18, q8_.2, y9_, y10_, z⟩
        exact ru_X3_findDominators_J163 i0 (fun _ _ h K => ih i00 (fun i uo ⟨n8, z⟩ => K (i, n8) uo z) h) K h
set_option maxRecDepth 100000 in
theorem ru_X3_findDominators_J130 {ι : Type} {P Q : MS → Prop} {U130 : MS} (i0 : ι) (K : ∀ (i : ι) (uo : MS), v_X3_findDominators_J130 uo U130 → P uo) (h : w_X3_findDominators_J130 Q U130) : w_X3_findDominators_J130 (fun u => Q u ∧ P u) U130 := by
  unfold w_X3_findDominators_J130 at h ⊢
  intro y11_
  replace h := h y11_
  replace K := fun i uo z => K i uo ⟨y11_, z⟩
  obtain ⟨n9, h⟩ := h
  exact ⟨n9, ru_X3_findDominators_L132 n9 i0 K h⟩
set_option maxRecDepth 100000 in
theorem ru_X3_findDominators_J118 {ι : Type} {P Q : MS → Prop} {k59 k59' : MS → Int32 → Int32 → Int32 → Prop} {k59v : ι → MS → MS → Int32 → Int32 → Int32 → Prop} {U118 : MS} {v118_1 : Int32} {v118_2 : Int32} {v118_3 : Int32} (i0 : ι) (hk59 : ∀ (u : MS) (z0 : Int32) (z1 : Int32) (z2 : Int32), k59 u z0 z1 z2 → (∀ (i : ι) (uo : MS), k59v i uo u z0 z1 z2 → P uo) → k59' u z0 z1 z2) (K : ∀ (i : ι) (uo : MS), v_X3_findDominators_J118 uo (k59v i uo) U118 v118_1 v118_2 v118_3 → P uo) (h : w_X3_findDominators_J118 Q k59 U118 v118_1 v118_2 v118_3) : w_X3_findDominators_J118 (fun u => Q u ∧ P u) k59' U118 v118_1 v118_2 v118_3 := by
  unfold w_X3_findDominators_J118 at h ⊢
  intro y12_
  replace h := h y12_
  replace K := fun i uo z => K i uo ⟨y12_, z⟩
  intro a32 ea32 
  replace h := h a32 ea32 
  replace K := fun i uo z => K i uo ⟨a32, ea32, z⟩
  exact hk59 _ _ _ _ h K
set_option maxRecDepth 100000 in
theorem ru_X3_findDominators_J34 {ι : Type} {P Q : MS → Prop} {k12 k12' : MS → Int32 → Prop} {k12v : ι → MS → MS → Int32 → Prop} {U34 : MS} {t34_0 : Int64} {t34_1 : Int32} {t34_2 : Nat} {v34_1 : Int32} (i0 : ι) (hk12 : ∀ (u : MS) (z0 : Int32), k12 u z0 → (∀ (i : ι) (uo : MS), k12v i uo u z0 → P uo) → k12' u z0) (K : ∀ (i : ι) (uo : MS), v_X3_findDominators_J34 uo (k12v i uo) U34 t34_0 t34_1 t34_2 v34_1 → P uo) (h : w_X3_findDominators_J34 Q k12 U34 t34_0 t34_1 t34_2 v34_1) : w_X3_findDominators_J34 (fun u => Q u ∧ P u) k12' U34 t34_0 t34_1 t34_2 v34_1 := by
  unfold w_X3_findDominators_J34 at h ⊢
  intro y13_ y14_
  replace h := h y13_ y14_
  replace K := fun i uo z => K i uo ⟨y13_, y14_, z⟩
  obtain ⟨g15_, h⟩ := h
  refine ⟨g15_, ?_⟩
  replace K := fun i uo z => K i uo ⟨g15_, z⟩
  intro S51 eS51 y16_ y17_
  replace h := h S51 eS51 y16_ y17_
  replace K := fun i uo z => K i uo ⟨S51, eS51, y16_, y17_, z⟩
  intro a52 ea52 
  replace h := h a52 ea52 
  replace K := fun i uo z => K i uo ⟨a52, ea52, z⟩
  exact hk12 _ _ h K
set_option maxRecDepth 100000 in
theorem ru_X3_findDominators_L75 {ι : Type} {P Q : MS → Prop} {k59 k59' : MS → Int32 → Int32 → Int32 → Prop} {k59v : ι → MS → MS → Int32 → Int32 → Int32 → Prop} : ∀ (n : Nat) {U75 : MS} {v75_1 : Int32} {v75_2 : Int32} {v75_3 : Int32} {v75_4 : Int32} (i0 : ι) (hk59 : ∀ (u : MS) (z0 : Int32) (z1 : Int32) (z2 : Int32), k59 u z0 z1 z2 → (∀ (i : ι) (uo : MS), k59v i uo u z0 z1 z2 → P uo) → k59' u z0 z1 z2), (∀ (i : ι) (uo : MS), (∃ n8, v_X3_findDominators_L75 uo (k59v i uo) n8 U75 v75_1 v75_2 v75_3 v75_4) → P uo) → w_X3_findDominators_L75 Q k59 n U75 v75_1 v75_2 v75_3 v75_4 → w_X3_findDominators_L75 (fun u => Q u ∧ P u) k59' n U75 v75_1 v75_2 v75_3 v75_4 := by
  intro n
  induction n with
  | zero => intro U75 v75_1 v75_2 v75_3 v75_4 i0 hk59 K h; unfold w_X3_findDominators_L75 at h; exact h.elim
  | succ n ih =>
    intro U75 v75_1 v75_2 v75_3 v75_4 i0 hk59 K h
    unfold w_X3_findDominators_L75 at h ⊢
    replace K := fun (i : ι × Nat) uo (z : v_X3_findDominators_L75 uo (k59v i.1 uo) (i.2 + 1) U75 v75_1 v75_2 v75_3 v75_4) => K i.1 uo ⟨i.2 + 1, z⟩
    have i00 := i0
    replace i0 : ι × Nat := (i0, 0)
    intro y18_
    replace h := h y18_
    replace K := fun i uo z => K i uo ⟨y18_, z⟩
    obtain ⟨g19_, h⟩ := h
    refine ⟨g19_, ?_⟩
    replace K := fun i uo z => K i uo ⟨g19_, z⟩
    refine ⟨fun c => ?_, fun c => ?_⟩
    · replace h := h.1 c
      replace K := fun i uo z => K i uo (Or.inl ⟨c, z⟩)
      exact ru_X3_findDominators_J118 i0 (fun _ _ _ _ h K => hk59 _ _ _ _ h (fun i uo z => K (i, 0) uo z)) K h
    · replace h := h.2 c
      replace K := fun i uo z => K i uo (Or.inr ⟨c, z⟩)
      obtain ⟨g20_, h⟩ := h
      refine ⟨g20_, ?_⟩
      replace K := fun i uo z => K i uo ⟨g20_, z⟩
      refine ⟨fun c => ?_, fun c => ?_⟩
      · replace h := h.1 c
        replace K := fun i uo z => K i uo (Or.inl ⟨c, z⟩)
        exact ru_X3_findDominators_J118 i0 (fun _ _ _ _ h K => hk59 _ _ _ _ h (fun i uo z => K (i, 0) uo z)) K h
      · replace h := h.2 c
        replace K := fun i uo z => K i uo (Or.inr ⟨c, z⟩)
        obtain ⟨g21_, h⟩ := h
        refine ⟨g21_, ?_⟩
        replace K := fun i uo z => K i uo ⟨g21_, z⟩
        obtain ⟨Q9, h0, h⟩ := h
        refine ⟨_, ruX3_narrow h0, ?_⟩
        intro r43 S44 q22_ y23_ y24_
        replace h := h r43 S44 q22_.1 y23_ y24_
        replace K := fun i uo z => K i uo ⟨r43, S44, q22_.2, y23_, y24_, z⟩
        intro a47 ea47 
        replace h := h a47 ea47 
        replace K := fun i uo z => K i uo ⟨a47, ea47, z⟩
        intro a48 ea48 
        replace h := h a48 ea48 
        replace K := fun i uo z => K i uo ⟨a48, ea48, z⟩
        exact ih i00 hk59 (fun i uo ⟨n8, z⟩ => K (i, n8) uo z) h
set_option maxRecDepth 100000 in
theorem ru_X3_findDominators_L59 {ι : Type} {P Q : MS → Prop} {k45 k45' : MS → Int32 → Int32 → Prop} {k45v : ι → MS → MS → Int32 → Int32 → Prop} : ∀ (n : Nat) {U59 : MS} {v59_1 : Int32} {v59_2 : Int32} {v59_3 : Int32} (i0 : ι) (hk45 : ∀ (u : MS) (z0 : Int32) (z1 : Int32), k45 u z0 z1 → (∀ (i : ι) (uo : MS), k45v i uo u z0 z1 → P uo) → k45' u z0 z1), (∀ (i : ι) (uo : MS), (∃ n8, v_X3_findDominators_L59 uo (k45v i uo) n8 U59 v59_1 v59_2 v59_3) → P uo) → w_X3_findDominators_L59 Q k45 n U59 v59_1 v59_2 v59_3 → w_X3_findDominators_L59 (fun u => Q u ∧ P u) k45' n U59 v59_1 v59_2 v59_3 := by
  intro n
  induction n with
  | zero => intro U59 v59_1 v59_2 v59_3 i0 hk45 K h; unfold w_X3_findDominators_L59 at h; exact h.elim
  | succ n ih =>
    intro U59 v59_1 v59_2 v59_3 i0 hk45 K h
    unfold w_X3_findDominators_L59 at h ⊢
    replace K := fun (i : ι × Nat) uo (z : v_X3_findDominators_L59 uo (k45v i.1 uo) (i.2 + 1) U59 v59_1 v59_2 v59_3) => K i.1 uo ⟨i.2 + 1, z⟩
    have i00 := i0
    replace i0 : ι × Nat := (i0, 0)
    intro y25_
    replace h := h y25_
    replace K := fun i uo z => K i uo ⟨y25_, z⟩
    refine ⟨fun c => ?_, fun c => ?_⟩
    · replace h := h.1 c
      replace K := fun i uo z => K i uo (Or.inl ⟨c, z⟩)
      intro a23 ea23 
      replace h := h a23 ea23 
      replace K := fun i uo z => K i uo ⟨a23, ea23, z⟩
      exact hk45 _ _ _ h (fun i uo z => K (i, 0) uo z)
    · replace h := h.2 c
      replace K := fun i uo z => K i uo (Or.inr ⟨c, z⟩)
      obtain ⟨g26_, h⟩ := h
      refine ⟨g26_, ?_⟩
      replace K := fun i uo z => K i uo ⟨g26_, z⟩
      intro a27 ea27 
      replace h := h a27 ea27 
      replace K := fun i uo z => K i uo ⟨a27, ea27, z⟩
      obtain ⟨n9, h⟩ := h
      exact ⟨n9, ru_X3_findDominators_L75 n9 i0 (fun _ _ _ _ h K => ih i00 hk45 (fun i uo ⟨n8, z⟩ => K (i, n8) uo z) h) K h⟩
set_option maxRecDepth 100000 in
theorem ru_X3_findDominators_L45 {ι : Type} {P Q : MS → Prop} : ∀ (n : Nat) {U45 : MS} {v45_1 : Int32} {v45_2 : Int32} (i0 : ι), (∀ (i : ι) (uo : MS), (∃ n8, v_X3_findDominators_L45 uo n8 U45 v45_1 v45_2) → P uo) → w_X3_findDominators_L45 Q n U45 v45_1 v45_2 → w_X3_findDominators_L45 (fun u => Q u ∧ P u) n U45 v45_1 v45_2 := by
  intro n
  induction n with
  | zero => intro U45 v45_1 v45_2 i0 K h; unfold w_X3_findDominators_L45 at h; exact h.elim
  | succ n ih =>
    intro U45 v45_1 v45_2 i0 K h
    unfold w_X3_findDominators_L45 at h ⊢
    replace K := fun (i : ι × Nat) uo (z : v_X3_findDominators_L45 uo (i.2 + 1) U45 v45_1 v45_2) => K i.1 uo ⟨i.2 + 1, z⟩
    have i00 := i0
    replace i0 : ι × Nat := (i0, 0)
    intro y27_
    replace h := h y27_
    replace K := fun i uo z => K i uo ⟨y27_, z⟩
    refine ⟨fun c => ?_, fun c => ?_⟩
    · replace h := h.1 c
      replace K := fun i uo z => K i uo (Or.inl ⟨c, z⟩)
      exact ru_X3_findDominators_J130 i0 K h
    · replace h := h.2 c
      replace K := fun i uo z => K i uo (Or.inr ⟨c, z⟩)
      refine ⟨fun c => ?_, fun c => ?_⟩
      · replace h := h.1 c
        replace K := fun i uo z => K i uo (Or.inl ⟨c, z⟩)
        exact ru_X3_findDominators_J130 i0 K h
      · replace h := h.2 c
        replace K := fun i uo z => K i uo (Or.inr ⟨c, z⟩)
        obtain ⟨n9, h⟩ := h
        exact ⟨n9, ru_X3_findDominators_L59 n9 i0 (fun _ _ _ h K => ih i00 (fun i uo ⟨n8, z⟩ => K (i, n8) uo z) h) K h⟩
set_option maxRecDepth 100000 in
theorem ru_X3_findDominators_L12 {ι : Type} {P Q : MS → Prop} : ∀ (n : Nat) {U12 : MS} {v12_1 : Int32} (i0 : ι), (∀ (i : ι) (uo : MS), (∃ n8, v_X3_findDominators_L12 uo n8 U12 v12_1) → P uo) → w_X3_findDominators_L12 Q n U12 v12_1 → w_X3_findDominators_L12 (fun u => Q u ∧ P u) n U12 v12_1 := by
  intro n
  induction n with
  | zero => intro U12 v12_1 i0 K h; unfold w_X3_findDominators_L12 at h; exact h.elim
  | succ n ih =>
    intro U12 v12_1 i0 K h
    unfold w_X3_findDominators_L12 at h ⊢
    replace K := fun (i : ι × Nat) uo (z : v_X3_findDominators_L12 uo (i.2 + 1) U12 v12_1) => K i.1 uo ⟨i.2 + 1, z⟩
    have i00 := i0
    replace i0 : ι × Nat := (i0, 0)
    intro y28_
    replace h := h y28_
    replace K := fun i uo z => K i uo ⟨y28_, z⟩
    refine ⟨fun c => ?_, fun c => ?_⟩
    · replace h := h.1 c
      replace K := fun i uo z => K i uo (Or.inl ⟨c, z⟩)
      obtain ⟨n9, h⟩ := h
      exact ⟨n9, ru_X3_findDominators_L45 n9 i0 K h⟩
    · replace h := h.2 c
      replace K := fun i uo z => K i uo (Or.inr ⟨c, z⟩)
      refine ⟨fun c => ?_, fun c => ?_⟩
      · replace h := h.1 c
        replace K := fun i uo z => K i uo (Or.inl ⟨c, z⟩)
        exact ru_X3_findDominators_J34 i0 (fun _ _ h K => ih i00 (fun i uo ⟨n8, z⟩ => K (i, n8) uo z) h) K h
      · replace h := h.2 c
        replace K := fun i uo z => K i uo (Or.inr ⟨c, z⟩)
        exact ru_X3_findDominators_J34 i0 (fun _ _ h K => ih i00 (fun i uo ⟨n8, z⟩ => K (i, n8) uo z) h) K h
set_option maxRecDepth 100000 in
theorem ruX3_findDominators {S : MS} {Q : MS → Prop} (h : wX3_findDominators S Q) : wX3_findDominators S (fun u => Q u ∧ vX3_findDominators S u) := by
  have i0 : Unit := ()
  have K : ∀ (i : Unit) (uo : MS), vX3_findDominators S uo → vX3_findDominators S uo := fun _ _ z => z
  unfold wX3_findDominators at h ⊢
  intro y29_
  replace h := h y29_
  replace K := fun i uo z => K i uo ⟨y29_, z⟩
  obtain ⟨Q9, h0, h⟩ := h
  refine ⟨_, ruJ7_fill_d0a16 h0, ?_⟩
  intro S3 q30_ y31_ y32_
  replace h := h S3 q30_.1 y31_ y32_
  replace K := fun i uo z => K i uo ⟨S3, q30_.2, y31_, y32_, z⟩
  obtain ⟨n9, h⟩ := h
  exact ⟨n9, ru_X3_findDominators_L12 n9 i0 K h⟩
set_option maxRecDepth 100000 in
theorem vw_X3_findDominators_J163 {uo : MS} {k132 k132v : MS → Int32 → Prop} {U163 : MS} {t163_0 : Int32} {t163_1 : Int32} {t163_2 : Nat} {v163_2 : Int32} (hk132 : ∀ (u : MS) (z0 : Int32), k132v u z0 → k132 u z0) (h : v_X3_findDominators_J163 uo k132v U163 t163_0 t163_1 t163_2 v163_2) : w_X3_findDominators_J163 (fun u => u = uo) k132 U163 t163_0 t163_1 t163_2 v163_2 := by
  unfold v_X3_findDominators_J163 at h
  unfold w_X3_findDominators_J163
  intro _ _
  replace h := h.2.2
  obtain ⟨g9, h⟩ := h
  refine ⟨g9, ?_⟩
  obtain ⟨v9, e9, h⟩ := h
  intro x9 d9 _ _
  have c9 : v9 = x9 := e9.trans d9.symm
  subst c9
  replace h := h.2.2
  obtain ⟨v9, e9, h⟩ := h
  intro x9 d9 
  have c9 : v9 = x9 := e9.trans d9.symm
  subst c9
  exact hk132 _ _ h
set_option maxRecDepth 100000 in
theorem vp_X3_findDominators_J163 {uo : MS} {P : MS → Prop} {k132 k132v : MS → Int32 → Prop} {U163 : MS} {t163_0 : Int32} {t163_1 : Int32} {t163_2 : Nat} {v163_2 : Int32} (hk132 : ∀ (u : MS) (z0 : Int32), k132v u z0 → k132 u z0 → P uo) (h : v_X3_findDominators_J163 uo k132v U163 t163_0 t163_1 t163_2 v163_2) (w : w_X3_findDominators_J163 P k132 U163 t163_0 t163_1 t163_2 v163_2) : P uo := by
  unfold v_X3_findDominators_J163 at h
  unfold w_X3_findDominators_J163 at w
  obtain ⟨y1_, y2_, h⟩ := h
  replace w := w y1_ y2_
  replace h := h.2
  replace w := w.2
  obtain ⟨v9, e9, y3_, y4_, h⟩ := h
  replace w := w v9 e9 y3_ y4_
  obtain ⟨v9, e9, h⟩ := h
  replace w := w v9 e9 
  exact hk132 _ _ h w
set_option maxRecDepth 100000 in
theorem vw_X3_findDominators_L132 {uo : MS} : ∀ (n : Nat) {U132 : MS} {v132_2 : Int32}, v_X3_findDominators_L132 uo n U132 v132_2 → w_X3_findDominators_L132 (fun u => u = uo) n U132 v132_2 := by
  intro n
  induction n with
  | zero => intro U132 v132_2 h; unfold v_X3_findDominators_L132 at h; exact h.elim
  | succ n ih =>
    intro U132 v132_2 h
    unfold v_X3_findDominators_L132 at h
    unfold w_X3_findDominators_L132
    intro _
    replace h := h.2
    rcases h with ⟨c, h⟩ | ⟨c, h⟩
    · refine ⟨fun _ => ?_, fun c2 => absurd c c2⟩
      exact h.symm
    · refine ⟨fun c2 => absurd c2 c, fun _ => ?_⟩
      obtain ⟨g9, h⟩ := h
      refine ⟨g9, ?_⟩
      rcases h with ⟨c, h⟩ | ⟨c, h⟩
      · refine ⟨fun _ => ?_, fun c2 => absurd c c2⟩
        exact vw_X3_findDominators_J163 (fun _ _ h => ih h) h
      · refine ⟨fun c2 => absurd c2 c, fun _ => ?_⟩
        obtain ⟨p9, q9, z9, h⟩ := h
        refine ⟨_, vwX3_nearestDominator z9, ?_⟩
        rintro p8 q8 ⟨d8, d9⟩ _ _
        subst d8
        subst d9
        replace h := h.2.2
        exact vw_X3_findDominators_J163 (fun _ _ h => ih h) h
set_option maxRecDepth 100000 in
theorem vp_X3_findDominators_L132 {uo : MS} {P : MS → Prop} : ∀ (n m : Nat) {U132 : MS} {v132_2 : Int32}, v_X3_findDominators_L132 uo n U132 v132_2 → w_X3_findDominators_L132 P m U132 v132_2 → P uo := by
  intro n
  induction n with
  | zero => intro m U132 v132_2 h; unfold v_X3_findDominators_L132 at h; exact h.elim
  | succ n ih =>
    intro m U132 v132_2 h w
    cases m with
    | zero => unfold w_X3_findDominators_L132 at w; exact w.elim
    | succ m =>
      unfold v_X3_findDominators_L132 at h
      unfold w_X3_findDominators_L132 at w
      obtain ⟨y5_, h⟩ := h
      replace w := w y5_
      rcases h with ⟨c, h⟩ | ⟨c, h⟩
      · replace w := w.1 c
        rw [h]
        exact w
      · replace w := w.2 c
        replace h := h.2
        replace w := w.2
        rcases h with ⟨c, h⟩ | ⟨c, h⟩
        · replace w := w.1 c
          exact vp_X3_findDominators_J163 (fun _ _ h w => ih m h w) h w
        · replace w := w.2 c
          obtain ⟨p9, q9, z9, y6_, y7_, h⟩ := h
          obtain ⟨Q9, w0, w⟩ := w
          replace w := w p9 q9 (vpX3_nearestDominator z9 w0) y6_ y7_
          exact vp_X3_findDominators_J163 (fun _ _ h w => ih m h w) h w
set_option maxRecDepth 100000 in
theorem vw_X3_findDominators_J130 {uo : MS} {U130 : MS} (h : v_X3_findDominators_J130 uo U130) : w_X3_findDominators_J130 (fun u => u = uo) U130 := by
  unfold v_X3_findDominators_J130 at h
  unfold w_X3_findDominators_J130
  intro _
  replace h := h.2
  obtain ⟨n9, h⟩ := h
  exact ⟨n9, vw_X3_findDominators_L132 n9 h⟩
set_option maxRecDepth 100000 in
theorem vp_X3_findDominators_J130 {uo : MS} {P : MS → Prop} {U130 : MS} (h : v_X3_findDominators_J130 uo U130) (w : w_X3_findDominators_J130 P U130) : P uo := by
  unfold v_X3_findDominators_J130 at h
  unfold w_X3_findDominators_J130 at w
  obtain ⟨y8_, h⟩ := h
  replace w := w y8_
  obtain ⟨n9, h⟩ := h
  obtain ⟨n8, w⟩ := w
  exact vp_X3_findDominators_L132 n9 n8 h w
set_option maxRecDepth 100000 in
theorem vw_X3_findDominators_J118 {uo : MS} {k59 k59v : MS → Int32 → Int32 → Int32 → Prop} {U118 : MS} {v118_1 : Int32} {v118_2 : Int32} {v118_3 : Int32} (hk59 : ∀ (u : MS) (z0 : Int32) (z1 : Int32) (z2 : Int32), k59v u z0 z1 z2 → k59 u z0 z1 z2) (h : v_X3_findDominators_J118 uo k59v U118 v118_1 v118_2 v118_3) : w_X3_findDominators_J118 (fun u => u = uo) k59 U118 v118_1 v118_2 v118_3 := by
  unfold v_X3_findDominators_J118 at h
  unfold w_X3_findDominators_J118
  intro _
  replace h := h.2
  obtain ⟨v9, e9, h⟩ := h
  intro x9 d9 
  have c9 : v9 = x9 := e9.trans d9.symm
  subst c9
  exact hk59 _ _ _ _ h
set_option maxRecDepth 100000 in
theorem vp_X3_findDominators_J118 {uo : MS} {P : MS → Prop} {k59 k59v : MS → Int32 → Int32 → Int32 → Prop} {U118 : MS} {v118_1 : Int32} {v118_2 : Int32} {v118_3 : Int32} (hk59 : ∀ (u : MS) (z0 : Int32) (z1 : Int32) (z2 : Int32), k59v u z0 z1 z2 → k59 u z0 z1 z2 → P uo) (h : v_X3_findDominators_J118 uo k59v U118 v118_1 v118_2 v118_3) (w : w_X3_findDominators_J118 P k59 U118 v118_1 v118_2 v118_3) : P uo := by
  unfold v_X3_findDominators_J118 at h
  unfold w_X3_findDominators_J118 at w
  obtain ⟨y9_, h⟩ := h
  replace w := w y9_
  obtain ⟨v9, e9, h⟩ := h
  replace w := w v9 e9 
  exact hk59 _ _ _ _ h w
set_option maxRecDepth 100000 in
theorem vw_X3_findDominators_J34 {uo : MS} {k12 k12v : MS → Int32 → Prop} {U34 : MS} {t34_0 : Int64} {t34_1 : Int32} {t34_2 : Nat} {v34_1 : Int32} (hk12 : ∀ (u : MS) (z0 : Int32), k12v u z0 → k12 u z0) (h : v_X3_findDominators_J34 uo k12v U34 t34_0 t34_1 t34_2 v34_1) : w_X3_findDominators_J34 (fun u => u = uo) k12 U34 t34_0 t34_1 t34_2 v34_1 := by
  unfold v_X3_findDominators_J34 at h
  unfold w_X3_findDominators_J34
  intro _ _
  replace h := h.2.2
  obtain ⟨g9, h⟩ := h
  refine ⟨g9, ?_⟩
  obtain ⟨v9, e9, h⟩ := h
  intro x9 d9 _ _
  have c9 : v9 = x9 := e9.trans d9.symm
  subst c9
  replace h := h.2.2
  obtain ⟨v9, e9, h⟩ := h
  intro x9 d9 
  have c9 : v9 = x9 := e9.trans d9.symm
  subst c9
  exact hk12 _ _ h
set_option maxRecDepth 100000 in
theorem vp_X3_findDominators_J34 {uo : MS} {P : MS → Prop} {k12 k12v : MS → Int32 → Prop} {U34 : MS} {t34_0 : Int64} {t34_1 : Int32} {t34_2 : Nat} {v34_1 : Int32} (hk12 : ∀ (u : MS) (z0 : Int32), k12v u z0 → k12 u z0 → P uo) (h : v_X3_findDominators_J34 uo k12v U34 t34_0 t34_1 t34_2 v34_1) (w : w_X3_findDominators_J34 P k12 U34 t34_0 t34_1 t34_2 v34_1) : P uo := by
  unfold v_X3_findDominators_J34 at h
  unfold w_X3_findDominators_J34 at w
  obtain ⟨y10_, y11_, h⟩ := h
  replace w := w y10_ y11_
  replace h := h.2
  replace w := w.2
  obtain ⟨v9, e9, y12_, y13_, h⟩ := h
  replace w := w v9 e9 y12_ y13_
  obtain ⟨v9, e9, h⟩ := h
  replace w := w v9 e9 
  exact hk12 _ _ h w
set_option maxRecDepth 100000 in
theorem vw_X3_findDominators_L75 {uo : MS} {k59 k59v : MS → Int32 → Int32 → Int32 → Prop} : ∀ (n : Nat) {U75 : MS} {v75_1 : Int32} {v75_2 : Int32} {v75_3 : Int32} {v75_4 : Int32} (hk59 : ∀ (u : MS) (z0 : Int32) (z1 : Int32) (z2 : Int32), k59v u z0 z1 z2 → k59 u z0 z1 z2), v_X3_findDominators_L75 uo k59v n U75 v75_1 v75_2 v75_3 v75_4 → w_X3_findDominators_L75 (fun u => u = uo) k59 n U75 v75_1 v75_2 v75_3 v75_4 := by
  intro n
  induction n with
  | zero => intro U75 v75_1 v75_2 v75_3 v75_4 hk59 h; unfold v_X3_findDominators_L75 at h; exact h.elim
  | succ n ih =>
    intro U75 v75_1 v75_2 v75_3 v75_4 hk59 h
    unfold v_X3_findDominators_L75 at h
    unfold w_X3_findDominators_L75
    intro _
    replace h := h.2
    obtain ⟨g9, h⟩ := h
    refine ⟨g9, ?_⟩
    rcases h with ⟨c, h⟩ | ⟨c, h⟩
    · refine ⟨fun _ => ?_, fun c2 => absurd c c2⟩
      exact vw_X3_findDominators_J118 hk59 h
    · refine ⟨fun c2 => absurd c2 c, fun _ => ?_⟩
      obtain ⟨g9, h⟩ := h
      refine ⟨g9, ?_⟩
      rcases h with ⟨c, h⟩ | ⟨c, h⟩
      · refine ⟨fun _ => ?_, fun c2 => absurd c c2⟩
        exact vw_X3_findDominators_J118 hk59 h
      · refine ⟨fun c2 => absurd c2 c, fun _ => ?_⟩
        obtain ⟨g9, h⟩ := h
        refine ⟨g9, ?_⟩
        obtain ⟨p9, q9, z9, h⟩ := h
        refine ⟨_, vwX3_narrow z9, ?_⟩
        rintro p8 q8 ⟨d8, d9⟩ _ _
        subst d8
        subst d9
        replace h := h.2.2
        obtain ⟨v9, e9, h⟩ := h
        intro x9 d9 
        have c9 : v9 = x9 := e9.trans d9.symm
        subst c9
        obtain ⟨v9, e9, h⟩ := h
        intro x9 d9 
        have c9 : v9 = x9 := e9.trans d9.symm
        subst c9
        exact ih hk59 h
set_option maxRecDepth 100000 in
theorem vp_X3_findDominators_L75 {uo : MS} {P : MS → Prop} {k59 k59v : MS → Int32 → Int32 → Int32 → Prop} : ∀ (n m : Nat) {U75 : MS} {v75_1 : Int32} {v75_2 : Int32} {v75_3 : Int32} {v75_4 : Int32} (hk59 : ∀ (u : MS) (z0 : Int32) (z1 : Int32) (z2 : Int32), k59v u z0 z1 z2 → k59 u z0 z1 z2 → P uo), v_X3_findDominators_L75 uo k59v n U75 v75_1 v75_2 v75_3 v75_4 → w_X3_findDominators_L75 P k59 m U75 v75_1 v75_2 v75_3 v75_4 → P uo := by
  intro n
  induction n with
  | zero => intro m U75 v75_1 v75_2 v75_3 v75_4 hk59 h; unfold v_X3_findDominators_L75 at h; exact h.elim
  | succ n ih =>
    intro m U75 v75_1 v75_2 v75_3 v75_4 hk59 h w
    cases m with
    | zero => unfold w_X3_findDominators_L75 at w; exact w.elim
    | succ m =>
      unfold v_X3_findDominators_L75 at h
      unfold w_X3_findDominators_L75 at w
      obtain ⟨y14_, h⟩ := h
      replace w := w y14_
      replace h := h.2
      replace w := w.2
      rcases h with ⟨c, h⟩ | ⟨c, h⟩
      · replace w := w.1 c
        exact vp_X3_findDominators_J118 hk59 h w
      · replace w := w.2 c
        replace h := h.2
        replace w := w.2
        rcases h with ⟨c, h⟩ | ⟨c, h⟩
        · replace w := w.1 c
          exact vp_X3_findDominators_J118 hk59 h w
        · replace w := w.2 c
          replace h := h.2
          replace w := w.2
          obtain ⟨p9, q9, z9, y15_, y16_, h⟩ := h
          obtain ⟨Q9, w0, w⟩ := w
          replace w := w p9 q9 (vpX3_narrow z9 w0) y15_ y16_
          obtain ⟨v9, e9, h⟩ := h
          replace w := w v9 e9 
          obtain ⟨v9, e9, h⟩ := h
          replace w := w v9 e9 
          exact ih m hk59 h w
set_option maxRecDepth 100000 in
theorem vw_X3_findDominators_L59 {uo : MS} {k45 k45v : MS → Int32 → Int32 → Prop} : ∀ (n : Nat) {U59 : MS} {v59_1 : Int32} {v59_2 : Int32} {v59_3 : Int32} (hk45 : ∀ (u : MS) (z0 : Int32) (z1 : Int32), k45v u z0 z1 → k45 u z0 z1), v_X3_findDominators_L59 uo k45v n U59 v59_1 v59_2 v59_3 → w_X3_findDominators_L59 (fun u => u = uo) k45 n U59 v59_1 v59_2 v59_3 := by
  intro n
  induction n with
  | zero => intro U59 v59_1 v59_2 v59_3 hk45 h; unfold v_X3_findDominators_L59 at h; exact h.elim
  | succ n ih =>
    intro U59 v59_1 v59_2 v59_3 hk45 h
    unfold v_X3_findDominators_L59 at h
    unfold w_X3_findDominators_L59
    intro _
    replace h := h.2
    rcases h with ⟨c, h⟩ | ⟨c, h⟩
    · refine ⟨fun _ => ?_, fun c2 => absurd c c2⟩
      obtain ⟨v9, e9, h⟩ := h
      intro x9 d9 
      have c9 : v9 = x9 := e9.trans d9.symm
      subst c9
      exact hk45 _ _ _ h
    · refine ⟨fun c2 => absurd c2 c, fun _ => ?_⟩
      obtain ⟨g9, h⟩ := h
      refine ⟨g9, ?_⟩
      obtain ⟨v9, e9, h⟩ := h
      intro x9 d9 
      have c9 : v9 = x9 := e9.trans d9.symm
      subst c9
      obtain ⟨n9, h⟩ := h
      exact ⟨n9, vw_X3_findDominators_L75 n9 (fun _ _ _ _ h => ih hk45 h) h⟩
set_option maxRecDepth 100000 in
theorem vp_X3_findDominators_L59 {uo : MS} {P : MS → Prop} {k45 k45v : MS → Int32 → Int32 → Prop} : ∀ (n m : Nat) {U59 : MS} {v59_1 : Int32} {v59_2 : Int32} {v59_3 : Int32} (hk45 : ∀ (u : MS) (z0 : Int32) (z1 : Int32), k45v u z0 z1 → k45 u z0 z1 → P uo), v_X3_findDominators_L59 uo k45v n U59 v59_1 v59_2 v59_3 → w_X3_findDominators_L59 P k45 m U59 v59_1 v59_2 v59_3 → P uo := by
  intro n
  induction n with
  | zero => intro m U59 v59_1 v59_2 v59_3 hk45 h; unfold v_X3_findDominators_L59 at h; exact h.elim
  | succ n ih =>
    intro m U59 v59_1 v59_2 v59_3 hk45 h w
    cases m with
    | zero => unfold w_X3_findDominators_L59 at w; exact w.elim
    | succ m =>
      unfold v_X3_findDominators_L59 at h
      unfold w_X3_findDominators_L59 at w
      obtain ⟨y17_, h⟩ := h
      replace w := w y17_
      rcases h with ⟨c, h⟩ | ⟨c, h⟩
      · replace w := w.1 c
        obtain ⟨v9, e9, h⟩ := h
        replace w := w v9 e9 
        exact hk45 _ _ _ h w
      · replace w := w.2 c
        replace h := h.2
        replace w := w.2
        obtain ⟨v9, e9, h⟩ := h
        replace w := w v9 e9 
        obtain ⟨n9, h⟩ := h
        obtain ⟨n8, w⟩ := w
        exact vp_X3_findDominators_L75 n9 n8 (fun _ _ _ _ h w => ih m hk45 h w) h w
set_option maxRecDepth 100000 in
theorem vw_X3_findDominators_L45 {uo : MS} : ∀ (n : Nat) {U45 : MS} {v45_1 : Int32} {v45_2 : Int32}, v_X3_findDominators_L45 uo n U45 v45_1 v45_2 → w_X3_findDominators_L45 (fun u => u = uo) n U45 v45_1 v45_2 := by
  intro n
  induction n with
  | zero => intro U45 v45_1 v45_2 h; unfold v_X3_findDominators_L45 at h; exact h.elim
  | succ n ih =>
    intro U45 v45_1 v45_2 h
    unfold v_X3_findDominators_L45 at h
    unfold w_X3_findDominators_L45
    intro _
    replace h := h.2
    rcases h with ⟨c, h⟩ | ⟨c, h⟩
    · refine ⟨fun _ => ?_, fun c2 => absurd c c2⟩
      exact vw_X3_findDominators_J130 h
    · refine ⟨fun c2 => absurd c2 c, fun _ => ?_⟩
      rcases h with ⟨c, h⟩ | ⟨c, h⟩
      · refine ⟨fun _ => ?_, fun c2 => absurd c c2⟩
        exact vw_X3_findDominators_J130 h
      · refine ⟨fun c2 => absurd c2 c, fun _ => ?_⟩
        obtain ⟨n9, h⟩ := h
        exact ⟨n9, vw_X3_findDominators_L59 n9 (fun _ _ _ h => ih h) h⟩
set_option maxRecDepth 100000 in
theorem vp_X3_findDominators_L45 {uo : MS} {P : MS → Prop} : ∀ (n m : Nat) {U45 : MS} {v45_1 : Int32} {v45_2 : Int32}, v_X3_findDominators_L45 uo n U45 v45_1 v45_2 → w_X3_findDominators_L45 P m U45 v45_1 v45_2 → P uo := by
  intro n
  induction n with
  | zero => intro m U45 v45_1 v45_2 h; unfold v_X3_findDominators_L45 at h; exact h.elim
  | succ n ih =>
    intro m U45 v45_1 v45_2 h w
    cases m with
    | zero => unfold w_X3_findDominators_L45 at w; exact w.elim
    | succ m =>
      unfold v_X3_findDominators_L45 at h
      unfold w_X3_findDominators_L45 at w
      obtain ⟨y18_, h⟩ := h
      replace w := w y18_
      rcases h with ⟨c, h⟩ | ⟨c, h⟩
      · replace w := w.1 c
        exact vp_X3_findDominators_J130 h w
      · replace w := w.2 c
        rcases h with ⟨c, h⟩ | ⟨c, h⟩
        · replace w := w.1 c
          exact vp_X3_findDominators_J130 h w
        · replace w := w.2 c
          obtain ⟨n9, h⟩ := h
          obtain ⟨n8, w⟩ := w
          exact vp_X3_findDominators_L59 n9 n8 (fun _ _ _ h w => ih m h w) h w
set_option maxRecDepth 100000 in
theorem vw_X3_findDominators_L12 {uo : MS} : ∀ (n : Nat) {U12 : MS} {v12_1 : Int32}, v_X3_findDominators_L12 uo n U12 v12_1 → w_X3_findDominators_L12 (fun u => u = uo) n U12 v12_1 := by
  intro n
  induction n with
  | zero => intro U12 v12_1 h; unfold v_X3_findDominators_L12 at h; exact h.elim
  | succ n ih =>
    intro U12 v12_1 h
    unfold v_X3_findDominators_L12 at h
    unfold w_X3_findDominators_L12
    intro _
    replace h := h.2
    rcases h with ⟨c, h⟩ | ⟨c, h⟩
    · refine ⟨fun _ => ?_, fun c2 => absurd c c2⟩
      obtain ⟨n9, h⟩ := h
      exact ⟨n9, vw_X3_findDominators_L45 n9 h⟩
    · refine ⟨fun c2 => absurd c2 c, fun _ => ?_⟩
      rcases h with ⟨c, h⟩ | ⟨c, h⟩
      · refine ⟨fun _ => ?_, fun c2 => absurd c c2⟩
        exact vw_X3_findDominators_J34 (fun _ _ h => ih h) h
      · refine ⟨fun c2 => absurd c2 c, fun _ => ?_⟩
        exact vw_X3_findDominators_J34 (fun _ _ h => ih h) h
set_option maxRecDepth 100000 in
theorem vp_X3_findDominators_L12 {uo : MS} {P : MS → Prop} : ∀ (n m : Nat) {U12 : MS} {v12_1 : Int32}, v_X3_findDominators_L12 uo n U12 v12_1 → w_X3_findDominators_L12 P m U12 v12_1 → P uo := by
  intro n
  induction n with
  | zero => intro m U12 v12_1 h; unfold v_X3_findDominators_L12 at h; exact h.elim
  | succ n ih =>
    intro m U12 v12_1 h w
    cases m with
    | zero => unfold w_X3_findDominators_L12 at w; exact w.elim
    | succ m =>
      unfold v_X3_findDominators_L12 at h
      unfold w_X3_findDominators_L12 at w
      obtain ⟨y19_, h⟩ := h
      replace w := w y19_
      rcases h with ⟨c, h⟩ | ⟨c, h⟩
      · replace w := w.1 c
        obtain ⟨n9, h⟩ := h
        obtain ⟨n8, w⟩ := w
        exact vp_X3_findDominators_L45 n9 n8 h w
      · replace w := w.2 c
        rcases h with ⟨c, h⟩ | ⟨c, h⟩
        · replace w := w.1 c
          exact vp_X3_findDominators_J34 (fun _ _ h w => ih m h w) h w
        · replace w := w.2 c
          exact vp_X3_findDominators_J34 (fun _ _ h w => ih m h w) h w
set_option maxRecDepth 100000 in
theorem vwX3_findDominators {S : MS} {uo : MS} (h : vX3_findDominators S uo) : wX3_findDominators S (fun u => u = uo) := by
  unfold vX3_findDominators at h
  unfold wX3_findDominators
  intro _
  replace h := h.2
  obtain ⟨q9, z9, h⟩ := h
  refine ⟨_, vwJ7_fill_d0a16 z9, ?_⟩
  intro q8 d9 _ _
  subst d9
  replace h := h.2.2
  obtain ⟨n9, h⟩ := h
  exact ⟨n9, vw_X3_findDominators_L12 n9 h⟩
set_option maxRecDepth 100000 in
theorem vpX3_findDominators {S : MS} {uo : MS} {P : MS → Prop} (h : vX3_findDominators S uo) (w : wX3_findDominators S P) : P uo := by
  unfold vX3_findDominators at h
  unfold wX3_findDominators at w
  obtain ⟨y20_, h⟩ := h
  replace w := w y20_
  obtain ⟨q9, z9, y21_, y22_, h⟩ := h
  obtain ⟨Q9, w0, w⟩ := w
  replace w := w q9 (vpJ7_fill_d0a16 z9 w0) y21_ y22_
  obtain ⟨n9, h⟩ := h
  obtain ⟨n8, w⟩ := w
  exact vp_X3_findDominators_L12 n9 n8 h w
def v_X3_addLoop_J79 (uo : MS) (k26 : MS → Int32 → Int32 → Int32 → Prop) (U79 : MS) (v79_1 : Int32) (v79_2 : Int32) (v79_3 : Int32) : Prop := (wfC U79 ∧ (∃ a51 : Int32, a51 = (v79_3 + Int32.ofInt 1) ∧ (k26 U79 v79_1 v79_2 a51)))
def v_X3_addLoop_L119 (uo : MS) (k87 : MS → Int32 → Int32 → Int32 → Prop) : Nat → MS → Int32 → Int32 → Int32 → Int32 → Int32 → Prop
  | 0, _, _, _, _, _, _ => False
  | n119 + 1, U119, v119_1, v119_2, v119_3, v119_4, v119_5 => (wfC U119 ∧ (((0 : Int) ≤ (v119_4 + (1 : Int32)).toInt ∧ (v119_4 + (1 : Int32)).toInt < (qN U119 (qO U119 52 6) : Int)) ∧ (((qI U119 (qO U119 52 6) (((v119_4 + (1 : Int32)).toInt).toNat)).toInt ≤ v119_5.toInt ∧ (∃ a35 : Int32, a35 = (v119_3 + Int32.ofInt 1) ∧ (k87 U119 v119_1 v119_2 a35))) ∨ (¬ (qI U119 (qO U119 52 6) (((v119_4 + (1 : Int32)).toInt).toNat)).toInt ≤ v119_5.toInt ∧ (((0 : Int) ≤ v119_5.toInt ∧ v119_5.toInt < (qN U119 (qO U119 52 7) : Int)) ∧ (∃ (r40 : Int32) (S41 : MS), vX3_addToLoop U119 v119_1 (qI U119 (qO U119 52 7) v119_5.toInt.toNat) v119_2 r40 S41 ∧ wfC S41 ∧ shy U119 S41 ∧ (∃ a43 : Int32, a43 = (v119_5 + Int32.ofInt 1) ∧ ((v_X3_addLoop_L119 uo k87 n119) S41 v119_1 r40 v119_3 v119_4 a43))))))))
def v_X3_addLoop_L87 (uo : MS) : Nat → MS → Int32 → Int32 → Int32 → Prop
  | 0, _, _, _, _ => False
  | n87 + 1, U87, v87_1, v87_2, v87_3 => (wfC U87 ∧ ((v87_2.toInt ≤ 0 ∧ (uo = U87)) ∨ (¬ v87_2.toInt ≤ 0 ∧ (((qI U87 52 1).toInt ≤ v87_3.toInt ∧ (uo = U87)) ∨ (¬ (qI U87 52 1).toInt ≤ v87_3.toInt ∧ (∃ a21 : Int32, a21 = (v87_2 + Int32.ofInt (-1)) ∧ (((0 : Int) ≤ a21.toInt ∧ a21.toInt < (qN U87 (qO U87 52 15) : Int)) ∧ (∃ a25 : Int32, a25 = (qI U87 (qO U87 52 15) a21.toInt.toNat) ∧ (((0 : Int) ≤ a25.toInt ∧ a25.toInt < (qN U87 (qO U87 52 6) : Int)) ∧ (∃ a29 : Int32, a29 = (qI U87 (qO U87 52 6) a25.toInt.toNat) ∧ (∃ n, v_X3_addLoop_L119 uo (v_X3_addLoop_L87 uo n87) n U87 v87_1 a21 v87_3 a25 a29)))))))))))
def v_X3_addLoop_L26 (uo : MS) : Nat → MS → Int32 → Int32 → Int32 → Prop
  | 0, _, _, _, _ => False
  | n26 + 1, U26, v26_1, v26_2, v26_3 => (wfC U26 ∧ (((0 : Int) ≤ (v26_1 + (1 : Int32)).toInt ∧ (v26_1 + (1 : Int32)).toInt < (qN U26 (qO U26 52 6) : Int)) ∧ (((qI U26 (qO U26 52 6) (((v26_1 + (1 : Int32)).toInt).toNat)).toInt ≤ v26_3.toInt ∧ (∃ n, v_X3_addLoop_L87 uo n U26 v26_1 v26_2 0)) ∨ (¬ (qI U26 (qO U26 52 6) (((v26_1 + (1 : Int32)).toInt).toNat)).toInt ≤ v26_3.toInt ∧ (((0 : Int) ≤ v26_3.toInt ∧ v26_3.toInt < (qN U26 (qO U26 52 7) : Int)) ∧ (((0 : Int) ≤ (qI U26 (qO U26 52 7) v26_3.toInt.toNat).toInt ∧ (qI U26 (qO U26 52 7) v26_3.toInt.toNat).toInt < (qN U26 (qO U26 52 8) : Int)) ∧ (((qI U26 (qO U26 52 8) (((qI U26 (qO U26 52 7) v26_3.toInt.toNat).toInt).toNat)).toInt = 0 ∧ (v_X3_addLoop_J79 uo (v_X3_addLoop_L26 uo n26) U26 v26_1 v26_2 v26_3)) ∨ (¬ (qI U26 (qO U26 52 8) (((qI U26 (qO U26 52 7) v26_3.toInt.toNat).toInt).toNat)).toInt = 0 ∧ (((0 : Int) ≤ v26_3.toInt ∧ v26_3.toInt < (qN U26 (qO U26 52 7) : Int)) ∧ (d_X3_dominates U26 v26_1 (qI U26 (qO U26 52 7) v26_3.toInt.toNat) ∧ (((fX3_dominates U26 v26_1 (qI U26 (qO U26 52 7) v26_3.toInt.toNat)).toInt = 0 ∧ (v_X3_addLoop_J79 uo (v_X3_addLoop_L26 uo n26) U26 v26_1 v26_2 v26_3)) ∨ (¬ (fX3_dominates U26 v26_1 (qI U26 (qO U26 52 7) v26_3.toInt.toNat)).toInt = 0 ∧ (((0 : Int) ≤ v26_3.toInt ∧ v26_3.toInt < (qN U26 (qO U26 52 7) : Int)) ∧ (∃ (r64 : Int32) (S65 : MS), vX3_addToLoop U26 v26_1 (qI U26 (qO U26 52 7) v26_3.toInt.toNat) v26_2 r64 S65 ∧ wfC S65 ∧ shy U26 S65 ∧ (v_X3_addLoop_J79 uo (v_X3_addLoop_L26 uo n26) S65 v26_1 r64 v26_3)))))))))))))))
def vX3_addLoop (S : MS) (x1 : Int32) (uo : MS) : Prop := (((0 : Int) ≤ x1.toInt ∧ x1.toInt < (qN S (qO S 52 14) : Int)) ∧ (∃ S3 : MS, S3 = wI S (qO S 52 14) x1.toInt.toNat x1 ∧ qT S (qO S 52 14) = 211 ∧ wfC S3 ∧ (((0 : Int) ≤ x1.toInt ∧ x1.toInt < (qN S3 (qO S3 52 13) : Int)) ∧ (((0 : Int) ≤ x1.toInt ∧ x1.toInt < (qN S3 (qO S3 52 13) : Int)) ∧ (∃ S9 : MS, S9 = wI S3 (qO S3 52 13) x1.toInt.toNat ((qI S3 (qO S3 52 13) x1.toInt.toNat) + (1 : Int32)) ∧ qT S3 (qO S3 52 13) = 210 ∧ wfC S9 ∧ (((0 : Int) ≤ x1.toInt ∧ x1.toInt < (qN S9 (qO S9 52 6) : Int)) ∧ (∃ a13 : Int32, a13 = (qI S9 (qO S9 52 6) x1.toInt.toNat) ∧ (∃ n, v_X3_addLoop_L26 uo n S9 x1 0 a13))))))))
set_option maxRecDepth 100000 in
theorem ru_X3_addLoop_J79 {ι : Type} {P Q : MS → Prop} {k26 k26' : MS → Int32 → Int32 → Int32 → Prop} {k26v : ι → MS → MS → Int32 → Int32 → Int32 → Prop} {U79 : MS} {v79_1 : Int32} {v79_2 : Int32} {v79_3 : Int32} (i0 : ι) (hk26 : ∀ (u : MS) (z0 : Int32) (z1 : Int32) (z2 : Int32), k26 u z0 z1 z2 → (∀ (i : ι) (uo : MS), k26v i uo u z0 z1 z2 → P uo) → k26' u z0 z1 z2) (K : ∀ (i : ι) (uo : MS), v_X3_addLoop_J79 uo (k26v i uo) U79 v79_1 v79_2 v79_3 → P uo) (h : w_X3_addLoop_J79 Q k26 U79 v79_1 v79_2 v79_3) : w_X3_addLoop_J79 (fun u => Q u ∧ P u) k26' U79 v79_1 v79_2 v79_3 := by
  unfold w_X3_addLoop_J79 at h ⊢
  intro y1_
  replace h := h y1_
  replace K := fun i uo z => K i uo ⟨y1_, z⟩
  intro a51 ea51 
  replace h := h a51 ea51 
  replace K := fun i uo z => K i uo ⟨a51, ea51, z⟩
  exact hk26 _ _ _ _ h K
set_option maxRecDepth 100000 in
theorem ru_X3_addLoop_L119 {ι : Type} {P Q : MS → Prop} {k87 k87' : MS → Int32 → Int32 → Int32 → Prop} {k87v : ι → MS → MS → Int32 → Int32 → Int32 → Prop} : ∀ (n : Nat) {U119 : MS} {v119_1 : Int32} {v119_2 : Int32} {v119_3 : Int32} {v119_4 : Int32} {v119_5 : Int32} (i0 : ι) (hk87 : ∀ (u : MS) (z0 : Int32) (z1 : Int32) (z2 : Int32), k87 u z0 z1 z2 → (∀ (i : ι) (uo : MS), k87v i uo u z0 z1 z2 → P uo) → k87' u z0 z1 z2), (∀ (i : ι) (uo : MS), (∃ n8, v_X3_addLoop_L119 uo (k87v i uo) n8 U119 v119_1 v119_2 v119_3 v119_4 v119_5) → P uo) → w_X3_addLoop_L119 Q k87 n U119 v119_1 v119_2 v119_3 v119_4 v119_5 → w_X3_addLoop_L119 (fun u => Q u ∧ P u) k87' n U119 v119_1 v119_2 v119_3 v119_4 v119_5 := by
  intro n
  induction n with
  | zero => intro U119 v119_1 v119_2 v119_3 v119_4 v119_5 i0 hk87 K h; unfold w_X3_addLoop_L119 at h; exact h.elim
  | succ n ih =>
    intro U119 v119_1 v119_2 v119_3 v119_4 v119_5 i0 hk87 K h
    unfold w_X3_addLoop_L119 at h ⊢
    replace K := fun (i : ι × Nat) uo (z : v_X3_addLoop_L119 uo (k87v i.1 uo) (i.2 + 1) U119 v119_1 v119_2 v119_3 v119_4 v119_5) => K i.1 uo ⟨i.2 + 1, z⟩
    have i00 := i0
    replace i0 : ι × Nat := (i0, 0)
    intro y2_
    replace h := h y2_
    replace K := fun i uo z => K i uo ⟨y2_, z⟩
    obtain ⟨g3_, h⟩ := h
    refine ⟨g3_, ?_⟩
    replace K := fun i uo z => K i uo ⟨g3_, z⟩
    refine ⟨fun c => ?_, fun c => ?_⟩
    · replace h := h.1 c
      replace K := fun i uo z => K i uo (Or.inl ⟨c, z⟩)
      intro a35 ea35 
      replace h := h a35 ea35 
      replace K := fun i uo z => K i uo ⟨a35, ea35, z⟩
      exact hk87 _ _ _ _ h (fun i uo z => K (i, 0) uo z)
    · replace h := h.2 c
      replace K := fun i uo z => K i uo (Or.inr ⟨c, z⟩)
      obtain ⟨g4_, h⟩ := h
      refine ⟨g4_, ?_⟩
      replace K := fun i uo z => K i uo ⟨g4_, z⟩
      obtain ⟨Q9, h0, h⟩ := h
      refine ⟨_, ruX3_addToLoop h0, ?_⟩
      intro r40 S41 q5_ y6_ y7_
      replace h := h r40 S41 q5_.1 y6_ y7_
      replace K := fun i uo z => K i uo ⟨r40, S41, q5_.2, y6_, y7_, z⟩
      intro a43 ea43 
      replace h := h a43 ea43 
      replace K := fun i uo z => K i uo ⟨a43, ea43, z⟩
      exact ih i00 hk87 (fun i uo ⟨n8, z⟩ => K (i, n8) uo z) h
set_option maxRecDepth 100000 in
theorem ru_X3_addLoop_L87 {ι : Type} {P Q : MS → Prop} : ∀ (n : Nat) {U87 : MS} {v87_1 : Int32} {v87_2 : Int32} {v87_3 : Int32} (i0 : ι), (∀ (i : ι) (uo : MS), (∃ n8, v_X3_addLoop_L87 uo n8 U87 v87_1 v87_2 v87_3) → P uo) → w_X3_addLoop_L87 Q n U87 v87_1 v87_2 v87_3 → w_X3_addLoop_L87 (fun u => Q u ∧ P u) n U87 v87_1 v87_2 v87_3 := by
  intro n
  induction n with
  | zero => intro U87 v87_1 v87_2 v87_3 i0 K h; unfold w_X3_addLoop_L87 at h; exact h.elim
  | succ n ih =>
    intro U87 v87_1 v87_2 v87_3 i0 K h
    unfold w_X3_addLoop_L87 at h ⊢
    replace K := fun (i : ι × Nat) uo (z : v_X3_addLoop_L87 uo (i.2 + 1) U87 v87_1 v87_2 v87_3) => K i.1 uo ⟨i.2 + 1, z⟩
    have i00 := i0
    replace i0 : ι × Nat := (i0, 0)
    intro y8_
    replace h := h y8_
    replace K := fun i uo z => K i uo ⟨y8_, z⟩
    refine ⟨fun c => ?_, fun c => ?_⟩
    · replace h := h.1 c
      replace K := fun i uo z => K i uo (Or.inl ⟨c, z⟩)
      exact ⟨h, K i0 _ rfl⟩
    · replace h := h.2 c
      replace K := fun i uo z => K i uo (Or.inr ⟨c, z⟩)
      refine ⟨fun c => ?_, fun c => ?_⟩
      · replace h := h.1 c
        replace K := fun i uo z => K i uo (Or.inl ⟨c, z⟩)
        exact ⟨h, K i0 _ rfl⟩
      · replace h := h.2 c
        replace K := fun i uo z => K i uo (Or.inr ⟨c, z⟩)
        intro a21 ea21 
        replace h := h a21 ea21 
        replace K := fun i uo z => K i uo ⟨a21, ea21, z⟩
        obtain ⟨g9_, h⟩ := h
        refine ⟨g9_, ?_⟩
        replace K := fun i uo z => K i uo ⟨g9_, z⟩
        intro a25 ea25 
        replace h := h a25 ea25 
        replace K := fun i uo z => K i uo ⟨a25, ea25, z⟩
        obtain ⟨g10_, h⟩ := h
        refine ⟨g10_, ?_⟩
        replace K := fun i uo z => K i uo ⟨g10_, z⟩
        intro a29 ea29 
        replace h := h a29 ea29 
        replace K := fun i uo z => K i uo ⟨a29, ea29, z⟩
        obtain ⟨n9, h⟩ := h
        exact ⟨n9, ru_X3_addLoop_L119 n9 i0 (fun _ _ _ _ h K => ih i00 (fun i uo ⟨n8, z⟩ => K (i, n8) uo z) h) K h⟩
set_option maxRecDepth 100000 in
theorem ru_X3_addLoop_L26 {ι : Type} {P Q : MS → Prop} : ∀ (n : Nat) {U26 : MS} {v26_1 : Int32} {v26_2 : Int32} {v26_3 : Int32} (i0 : ι), (∀ (i : ι) (uo : MS), (∃ n8, v_X3_addLoop_L26 uo n8 U26 v26_1 v26_2 v26_3) → P uo) → w_X3_addLoop_L26 Q n U26 v26_1 v26_2 v26_3 → w_X3_addLoop_L26 (fun u => Q u ∧ P u) n U26 v26_1 v26_2 v26_3 := by
  intro n
  induction n with
  | zero => intro U26 v26_1 v26_2 v26_3 i0 K h; unfold w_X3_addLoop_L26 at h; exact h.elim
  | succ n ih =>
    intro U26 v26_1 v26_2 v26_3 i0 K h
    unfold w_X3_addLoop_L26 at h ⊢
    replace K := fun (i : ι × Nat) uo (z : v_X3_addLoop_L26 uo (i.2 + 1) U26 v26_1 v26_2 v26_3) => K i.1 uo ⟨i.2 + 1, z⟩
    have i00 := i0
    replace i0 : ι × Nat := (i0, 0)
    intro y11_
    replace h := h y11_
    replace K := fun i uo z => K i uo ⟨y11_, z⟩
    obtain ⟨g12_, h⟩ := h
    refine ⟨g12_, ?_⟩
    replace K := fun i uo z => K i uo ⟨g12_, z⟩
    refine ⟨fun c => ?_, fun c => ?_⟩
    · replace h := h.1 c
      replace K := fun i uo z => K i uo (Or.inl ⟨c, z⟩)
      obtain ⟨n9, h⟩ := h
      exact ⟨n9, ru_X3_addLoop_L87 n9 i0 K h⟩
    · replace h := h.2 c
      replace K := fun i uo z => K i uo (Or.inr ⟨c, z⟩)
      obtain ⟨g13_, h⟩ := h
      refine ⟨g13_, ?_⟩
      replace K := fun i uo z => K i uo ⟨g13_, z⟩
      obtain ⟨g14_, h⟩ := h
      refine ⟨g14_, ?_⟩
      replace K := fun i uo z => K i uo ⟨g14_, z⟩
      refine ⟨fun c => ?_, fun c => ?_⟩
      · replace h := h.1 c
        replace K := fun i uo z => K i uo (Or.inl ⟨c, z⟩)
        exact ru_X3_addLoop_J79 i0 (fun _ _ _ _ h K => ih i00 (fun i uo ⟨n8, z⟩ => K (i, n8) uo z) h) K h
      · replace h := h.2 c
        replace K := fun i uo z => K i uo (Or.inr ⟨c, z⟩)
        obtain ⟨g15_, h⟩ := h
        refine ⟨g15_, ?_⟩
        replace K := fun i uo z => K i uo ⟨g15_, z⟩
        obtain ⟨g16_, h⟩ := h
        refine ⟨g16_, ?_⟩
        replace K := fun i uo z => K i uo ⟨g16_, z⟩
        refine ⟨fun c => ?_, fun c => ?_⟩
        · replace h := h.1 c
          replace K := fun i uo z => K i uo (Or.inl ⟨c, z⟩)
          exact ru_X3_addLoop_J79 i0 (fun _ _ _ _ h K => ih i00 (fun i uo ⟨n8, z⟩ => K (i, n8) uo z) h) K h
        · replace h := h.2 c
          replace K := fun i uo z => K i uo (Or.inr ⟨c, z⟩)
          obtain ⟨g17_, h⟩ := h
          refine ⟨g17_, ?_⟩
          replace K := fun i uo z => K i uo ⟨g17_, z⟩
          obtain ⟨Q9, h0, h⟩ := h
          refine ⟨_, ruX3_addToLoop h0, ?_⟩
          intro r64 S65 q18_ y19_ y20_
          replace h := h r64 S65 q18_.1 y19_ y20_
          replace K := fun i uo z => K i uo ⟨r64, S65, q18_.2, y19_, y20_, z⟩
          exact ru_X3_addLoop_J79 i0 (fun _ _ _ _ h K => ih i00 (fun i uo ⟨n8, z⟩ => K (i, n8) uo z) h) K h
set_option maxRecDepth 100000 in
theorem ruX3_addLoop {S : MS} {x1 : Int32} {Q : MS → Prop} (h : wX3_addLoop S x1 Q) : wX3_addLoop S x1 (fun u => Q u ∧ vX3_addLoop S x1 u) := by
  have i0 : Unit := ()
  have K : ∀ (i : Unit) (uo : MS), vX3_addLoop S x1 uo → vX3_addLoop S x1 uo := fun _ _ z => z
  unfold wX3_addLoop at h ⊢
  obtain ⟨g21_, h⟩ := h
  refine ⟨g21_, ?_⟩
  replace K := fun i uo z => K i uo ⟨g21_, z⟩
  intro S3 eS3 y22_ y23_
  replace h := h S3 eS3 y22_ y23_
  replace K := fun i uo z => K i uo ⟨S3, eS3, y22_, y23_, z⟩
  obtain ⟨g24_, h⟩ := h
  refine ⟨g24_, ?_⟩
  replace K := fun i uo z => K i uo ⟨g24_, z⟩
  obtain ⟨g25_, h⟩ := h
  refine ⟨g25_, ?_⟩
  replace K := fun i uo z => K i uo ⟨g25_, z⟩
  intro S9 eS9 y26_ y27_
  replace h := h S9 eS9 y26_ y27_
  replace K := fun i uo z => K i uo ⟨S9, eS9, y26_, y27_, z⟩
  obtain ⟨g28_, h⟩ := h
  refine ⟨g28_, ?_⟩
  replace K := fun i uo z => K i uo ⟨g28_, z⟩
  intro a13 ea13 
  replace h := h a13 ea13 
  replace K := fun i uo z => K i uo ⟨a13, ea13, z⟩
  obtain ⟨n9, h⟩ := h
  exact ⟨n9, ru_X3_addLoop_L26 n9 i0 K h⟩
set_option maxRecDepth 100000 in
theorem vw_X3_addLoop_J79 {uo : MS} {k26 k26v : MS → Int32 → Int32 → Int32 → Prop} {U79 : MS} {v79_1 : Int32} {v79_2 : Int32} {v79_3 : Int32} (hk26 : ∀ (u : MS) (z0 : Int32) (z1 : Int32) (z2 : Int32), k26v u z0 z1 z2 → k26 u z0 z1 z2) (h : v_X3_addLoop_J79 uo k26v U79 v79_1 v79_2 v79_3) : w_X3_addLoop_J79 (fun u => u = uo) k26 U79 v79_1 v79_2 v79_3 := by
  unfold v_X3_addLoop_J79 at h
  unfold w_X3_addLoop_J79
  intro _
  replace h := h.2
  obtain ⟨v9, e9, h⟩ := h
  intro x9 d9 
  have c9 : v9 = x9 := e9.trans d9.symm
  subst c9
  exact hk26 _ _ _ _ h
set_option maxRecDepth 100000 in
theorem vp_X3_addLoop_J79 {uo : MS} {P : MS → Prop} {k26 k26v : MS → Int32 → Int32 → Int32 → Prop} {U79 : MS} {v79_1 : Int32} {v79_2 : Int32} {v79_3 : Int32} (hk26 : ∀ (u : MS) (z0 : Int32) (z1 : Int32) (z2 : Int32), k26v u z0 z1 z2 → k26 u z0 z1 z2 → P uo) (h : v_X3_addLoop_J79 uo k26v U79 v79_1 v79_2 v79_3) (w : w_X3_addLoop_J79 P k26 U79 v79_1 v79_2 v79_3) : P uo := by
  unfold v_X3_addLoop_J79 at h
  unfold w_X3_addLoop_J79 at w
  obtain ⟨y1_, h⟩ := h
  replace w := w y1_
  obtain ⟨v9, e9, h⟩ := h
  replace w := w v9 e9 
  exact hk26 _ _ _ _ h w
set_option maxRecDepth 100000 in
theorem vw_X3_addLoop_L119 {uo : MS} {k87 k87v : MS → Int32 → Int32 → Int32 → Prop} : ∀ (n : Nat) {U119 : MS} {v119_1 : Int32} {v119_2 : Int32} {v119_3 : Int32} {v119_4 : Int32} {v119_5 : Int32} (hk87 : ∀ (u : MS) (z0 : Int32) (z1 : Int32) (z2 : Int32), k87v u z0 z1 z2 → k87 u z0 z1 z2), v_X3_addLoop_L119 uo k87v n U119 v119_1 v119_2 v119_3 v119_4 v119_5 → w_X3_addLoop_L119 (fun u => u = uo) k87 n U119 v119_1 v119_2 v119_3 v119_4 v119_5 := by
  intro n
  induction n with
  | zero => intro U119 v119_1 v119_2 v119_3 v119_4 v119_5 hk87 h; unfold v_X3_addLoop_L119 at h; exact h.elim
  | succ n ih =>
    intro U119 v119_1 v119_2 v119_3 v119_4 v119_5 hk87 h
    unfold v_X3_addLoop_L119 at h
    unfold w_X3_addLoop_L119
    intro _
    replace h := h.2
    obtain ⟨g9, h⟩ := h
    refine ⟨g9, ?_⟩
    rcases h with ⟨c, h⟩ | ⟨c, h⟩
    · refine ⟨fun _ => ?_, fun c2 => absurd c c2⟩
      obtain ⟨v9, e9, h⟩ := h
      intro x9 d9 
      have c9 : v9 = x9 := e9.trans d9.symm
      subst c9
      exact hk87 _ _ _ _ h
    · refine ⟨fun c2 => absurd c2 c, fun _ => ?_⟩
      obtain ⟨g9, h⟩ := h
      refine ⟨g9, ?_⟩
      obtain ⟨p9, q9, z9, h⟩ := h
      refine ⟨_, vwX3_addToLoop z9, ?_⟩
      rintro p8 q8 ⟨d8, d9⟩ _ _
      subst d8
      subst d9
      replace h := h.2.2
      obtain ⟨v9, e9, h⟩ := h
      intro x9 d9 
      have c9 : v9 = x9 := e9.trans d9.symm
      subst c9
      exact ih hk87 h
set_option maxRecDepth 100000 in
theorem vp_X3_addLoop_L119 {uo : MS} {P : MS → Prop} {k87 k87v : MS → Int32 → Int32 → Int32 → Prop} : ∀ (n m : Nat) {U119 : MS} {v119_1 : Int32} {v119_2 : Int32} {v119_3 : Int32} {v119_4 : Int32} {v119_5 : Int32} (hk87 : ∀ (u : MS) (z0 : Int32) (z1 : Int32) (z2 : Int32), k87v u z0 z1 z2 → k87 u z0 z1 z2 → P uo), v_X3_addLoop_L119 uo k87v n U119 v119_1 v119_2 v119_3 v119_4 v119_5 → w_X3_addLoop_L119 P k87 m U119 v119_1 v119_2 v119_3 v119_4 v119_5 → P uo := by
  intro n
  induction n with
  | zero => intro m U119 v119_1 v119_2 v119_3 v119_4 v119_5 hk87 h; unfold v_X3_addLoop_L119 at h; exact h.elim
  | succ n ih =>
    intro m U119 v119_1 v119_2 v119_3 v119_4 v119_5 hk87 h w
    cases m with
    | zero => unfold w_X3_addLoop_L119 at w; exact w.elim
    | succ m =>
      unfold v_X3_addLoop_L119 at h
      unfold w_X3_addLoop_L119 at w
      obtain ⟨y2_, h⟩ := h
      replace w := w y2_
      replace h := h.2
      replace w := w.2
      rcases h with ⟨c, h⟩ | ⟨c, h⟩
      · replace w := w.1 c
        obtain ⟨v9, e9, h⟩ := h
        replace w := w v9 e9 
        exact hk87 _ _ _ _ h w
      · replace w := w.2 c
        replace h := h.2
        replace w := w.2
        obtain ⟨p9, q9, z9, y3_, y4_, h⟩ := h
        obtain ⟨Q9, w0, w⟩ := w
        replace w := w p9 q9 (vpX3_addToLoop z9 w0) y3_ y4_
        obtain ⟨v9, e9, h⟩ := h
        replace w := w v9 e9 
        exact ih m hk87 h w
set_option maxRecDepth 100000 in
theorem vw_X3_addLoop_L87 {uo : MS} : ∀ (n : Nat) {U87 : MS} {v87_1 : Int32} {v87_2 : Int32} {v87_3 : Int32}, v_X3_addLoop_L87 uo n U87 v87_1 v87_2 v87_3 → w_X3_addLoop_L87 (fun u => u = uo) n U87 v87_1 v87_2 v87_3 := by
  intro n
  induction n with
  | zero => intro U87 v87_1 v87_2 v87_3 h; unfold v_X3_addLoop_L87 at h; exact h.elim
  | succ n ih =>
    intro U87 v87_1 v87_2 v87_3 h
    unfold v_X3_addLoop_L87 at h
    unfold w_X3_addLoop_L87
    intro _
    replace h := h.2
    rcases h with ⟨c, h⟩ | ⟨c, h⟩
    · refine ⟨fun _ => ?_, fun c2 => absurd c c2⟩
      exact h.symm
    · refine ⟨fun c2 => absurd c2 c, fun _ => ?_⟩
      rcases h with ⟨c, h⟩ | ⟨c, h⟩
      · refine ⟨fun _ => ?_, fun c2 => absurd c c2⟩
        exact h.symm
      · refine ⟨fun c2 => absurd c2 c, fun _ => ?_⟩
        obtain ⟨v9, e9, h⟩ := h
        intro x9 d9 
        have c9 : v9 = x9 := e9.trans d9.symm
        subst c9
        obtain ⟨g9, h⟩ := h
        refine ⟨g9, ?_⟩
        obtain ⟨v9, e9, h⟩ := h
        intro x9 d9 
        have c9 : v9 = x9 := e9.trans d9.symm
        subst c9
        obtain ⟨g9, h⟩ := h
        refine ⟨g9, ?_⟩
        obtain ⟨v9, e9, h⟩ := h
        intro x9 d9 
        have c9 : v9 = x9 := e9.trans d9.symm
        subst c9
        obtain ⟨n9, h⟩ := h
        exact ⟨n9, vw_X3_addLoop_L119 n9 (fun _ _ _ _ h => ih h) h⟩
set_option maxRecDepth 100000 in
theorem vp_X3_addLoop_L87 {uo : MS} {P : MS → Prop} : ∀ (n m : Nat) {U87 : MS} {v87_1 : Int32} {v87_2 : Int32} {v87_3 : Int32}, v_X3_addLoop_L87 uo n U87 v87_1 v87_2 v87_3 → w_X3_addLoop_L87 P m U87 v87_1 v87_2 v87_3 → P uo := by
  intro n
  induction n with
  | zero => intro m U87 v87_1 v87_2 v87_3 h; unfold v_X3_addLoop_L87 at h; exact h.elim
  | succ n ih =>
    intro m U87 v87_1 v87_2 v87_3 h w
    cases m with
    | zero => unfold w_X3_addLoop_L87 at w; exact w.elim
    | succ m =>
      unfold v_X3_addLoop_L87 at h
      unfold w_X3_addLoop_L87 at w
      obtain ⟨y5_, h⟩ := h
      replace w := w y5_
      rcases h with ⟨c, h⟩ | ⟨c, h⟩
      · replace w := w.1 c
        rw [h]
        exact w
      · replace w := w.2 c
        rcases h with ⟨c, h⟩ | ⟨c, h⟩
        · replace w := w.1 c
          rw [h]
          exact w
        · replace w := w.2 c
          obtain ⟨v9, e9, h⟩ := h
          replace w := w v9 e9 
          replace h := h.2
          replace w := w.2
          obtain ⟨v9, e9, h⟩ := h
          replace w := w v9 e9 
          replace h := h.2
          replace w := w.2
          obtain ⟨v9, e9, h⟩ := h
          replace w := w v9 e9 
          obtain ⟨n9, h⟩ := h
          obtain ⟨n8, w⟩ := w
          exact vp_X3_addLoop_L119 n9 n8 (fun _ _ _ _ h w => ih m h w) h w
set_option maxRecDepth 100000 in
theorem vw_X3_addLoop_L26 {uo : MS} : ∀ (n : Nat) {U26 : MS} {v26_1 : Int32} {v26_2 : Int32} {v26_3 : Int32}, v_X3_addLoop_L26 uo n U26 v26_1 v26_2 v26_3 → w_X3_addLoop_L26 (fun u => u = uo) n U26 v26_1 v26_2 v26_3 := by
  intro n
  induction n with
  | zero => intro U26 v26_1 v26_2 v26_3 h; unfold v_X3_addLoop_L26 at h; exact h.elim
  | succ n ih =>
    intro U26 v26_1 v26_2 v26_3 h
    unfold v_X3_addLoop_L26 at h
    unfold w_X3_addLoop_L26
    intro _
    replace h := h.2
    obtain ⟨g9, h⟩ := h
    refine ⟨g9, ?_⟩
    rcases h with ⟨c, h⟩ | ⟨c, h⟩
    · refine ⟨fun _ => ?_, fun c2 => absurd c c2⟩
      obtain ⟨n9, h⟩ := h
      exact ⟨n9, vw_X3_addLoop_L87 n9 h⟩
    · refine ⟨fun c2 => absurd c2 c, fun _ => ?_⟩
      obtain ⟨g9, h⟩ := h
      refine ⟨g9, ?_⟩
      obtain ⟨g9, h⟩ := h
      refine ⟨g9, ?_⟩
      rcases h with ⟨c, h⟩ | ⟨c, h⟩
      · refine ⟨fun _ => ?_, fun c2 => absurd c c2⟩
        exact vw_X3_addLoop_J79 (fun _ _ _ _ h => ih h) h
      · refine ⟨fun c2 => absurd c2 c, fun _ => ?_⟩
        obtain ⟨g9, h⟩ := h
        refine ⟨g9, ?_⟩
        obtain ⟨g9, h⟩ := h
        refine ⟨g9, ?_⟩
        rcases h with ⟨c, h⟩ | ⟨c, h⟩
        · refine ⟨fun _ => ?_, fun c2 => absurd c c2⟩
          exact vw_X3_addLoop_J79 (fun _ _ _ _ h => ih h) h
        · refine ⟨fun c2 => absurd c2 c, fun _ => ?_⟩
          obtain ⟨g9, h⟩ := h
          refine ⟨g9, ?_⟩
          obtain ⟨p9, q9, z9, h⟩ := h
          refine ⟨_, vwX3_addToLoop z9, ?_⟩
          rintro p8 q8 ⟨d8, d9⟩ _ _
          subst d8
          subst d9
          replace h := h.2.2
          exact vw_X3_addLoop_J79 (fun _ _ _ _ h => ih h) h
set_option maxRecDepth 100000 in
theorem vp_X3_addLoop_L26 {uo : MS} {P : MS → Prop} : ∀ (n m : Nat) {U26 : MS} {v26_1 : Int32} {v26_2 : Int32} {v26_3 : Int32}, v_X3_addLoop_L26 uo n U26 v26_1 v26_2 v26_3 → w_X3_addLoop_L26 P m U26 v26_1 v26_2 v26_3 → P uo := by
  intro n
  induction n with
  | zero => intro m U26 v26_1 v26_2 v26_3 h; unfold v_X3_addLoop_L26 at h; exact h.elim
  | succ n ih =>
    intro m U26 v26_1 v26_2 v26_3 h w
    cases m with
    | zero => unfold w_X3_addLoop_L26 at w; exact w.elim
    | succ m =>
      unfold v_X3_addLoop_L26 at h
      unfold w_X3_addLoop_L26 at w
      obtain ⟨y6_, h⟩ := h
      replace w := w y6_
      replace h := h.2
      replace w := w.2
      rcases h with ⟨c, h⟩ | ⟨c, h⟩
      · replace w := w.1 c
        obtain ⟨n9, h⟩ := h
        obtain ⟨n8, w⟩ := w
        exact vp_X3_addLoop_L87 n9 n8 h w
      · replace w := w.2 c
        replace h := h.2
        replace w := w.2
        replace h := h.2
        replace w := w.2
        rcases h with ⟨c, h⟩ | ⟨c, h⟩
        · replace w := w.1 c
          exact vp_X3_addLoop_J79 (fun _ _ _ _ h w => ih m h w) h w
        · replace w := w.2 c
          replace h := h.2
          replace w := w.2
          replace h := h.2
          replace w := w.2
          rcases h with ⟨c, h⟩ | ⟨c, h⟩
          · replace w := w.1 c
            exact vp_X3_addLoop_J79 (fun _ _ _ _ h w => ih m h w) h w
          · replace w := w.2 c
            replace h := h.2
            replace w := w.2
            obtain ⟨p9, q9, z9, y7_, y8_, h⟩ := h
            obtain ⟨Q9, w0, w⟩ := w
            replace w := w p9 q9 (vpX3_addToLoop z9 w0) y7_ y8_
            exact vp_X3_addLoop_J79 (fun _ _ _ _ h w => ih m h w) h w
set_option maxRecDepth 100000 in
theorem vwX3_addLoop {S : MS} {x1 : Int32} {uo : MS} (h : vX3_addLoop S x1 uo) : wX3_addLoop S x1 (fun u => u = uo) := by
  unfold vX3_addLoop at h
  unfold wX3_addLoop
  obtain ⟨g9, h⟩ := h
  refine ⟨g9, ?_⟩
  obtain ⟨v9, e9, h⟩ := h
  intro x9 d9 _ _
  have c9 : v9 = x9 := e9.trans d9.symm
  subst c9
  replace h := h.2.2
  obtain ⟨g9, h⟩ := h
  refine ⟨g9, ?_⟩
  obtain ⟨g9, h⟩ := h
  refine ⟨g9, ?_⟩
  obtain ⟨v9, e9, h⟩ := h
  intro x9 d9 _ _
  have c9 : v9 = x9 := e9.trans d9.symm
  subst c9
  replace h := h.2.2
  obtain ⟨g9, h⟩ := h
  refine ⟨g9, ?_⟩
  obtain ⟨v9, e9, h⟩ := h
  intro x9 d9 
  have c9 : v9 = x9 := e9.trans d9.symm
  subst c9
  obtain ⟨n9, h⟩ := h
  exact ⟨n9, vw_X3_addLoop_L26 n9 h⟩
set_option maxRecDepth 100000 in
theorem vpX3_addLoop {S : MS} {x1 : Int32} {uo : MS} {P : MS → Prop} (h : vX3_addLoop S x1 uo) (w : wX3_addLoop S x1 P) : P uo := by
  unfold vX3_addLoop at h
  unfold wX3_addLoop at w
  replace h := h.2
  replace w := w.2
  obtain ⟨v9, e9, y9_, y10_, h⟩ := h
  replace w := w v9 e9 y9_ y10_
  replace h := h.2
  replace w := w.2
  replace h := h.2
  replace w := w.2
  obtain ⟨v9, e9, y11_, y12_, h⟩ := h
  replace w := w v9 e9 y11_ y12_
  replace h := h.2
  replace w := w.2
  obtain ⟨v9, e9, h⟩ := h
  replace w := w v9 e9 
  obtain ⟨n9, h⟩ := h
  obtain ⟨n8, w⟩ := w
  exact vp_X3_addLoop_L26 n9 n8 h w
def v_X4_spread_J102 (uo : MS) (U102 : MS) (v102_0 : Nat) (v102_1 : Int32) : Prop := (wfC U102 ∧ qT U102 v102_0 = 44 ∧ ((qR U102 v102_0 2 = some (qO U102 v102_0 2)) ∧ (((0 : Int) ≤ v102_1.toInt ∧ v102_1.toInt < (qN U102 (qO U102 v102_0 2) : Int)) ∧ (∃ S43 : MS, S43 = wI U102 (qO U102 v102_0 2) v102_1.toInt.toNat (vp_nar .boolean (1 : Int32)) ∧ qT U102 (qO U102 v102_0 2) = 304 ∧ wfC S43 ∧ (uo = S43)))))
def v_X4_spread_J240 (uo : MS) (k195 : MS → Nat → Int32 → Int32 → Int32 → Prop) (U240 : MS) (v240_0 : Nat) (v240_1 : Int32) (v240_5 : Int32) (v240_8 : Int32) : Prop := (wfC U240 ∧ qT U240 v240_0 = 44 ∧ (v240_5 = 0 ∨ v240_5 = 1) ∧ (∃ a66 : Int32, a66 = (v240_8 + Int32.ofInt 1) ∧ (k195 U240 v240_0 v240_1 v240_5 a66)))
def v_X4_spread_L195 (uo : MS) : Nat → MS → Nat → Int32 → Int32 → Int32 → Prop
  | 0, _, _, _, _, _ => False
  | n195 + 1, U195, v195_0, v195_1, v195_5, v195_8 => (wfC U195 ∧ qT U195 v195_0 = 44 ∧ (v195_5 = 0 ∨ v195_5 = 1) ∧ ((v195_5.toInt = 0 ∧ (uo = U195)) ∨ (¬ v195_5.toInt = 0 ∧ ((qR U195 v195_0 4 = some (qO U195 v195_0 4)) ∧ (((qI U195 (qO U195 v195_0 4) 9).toInt ≤ v195_8.toInt ∧ (uo = U195)) ∨ (¬ (qI U195 (qO U195 v195_0 4) 9).toInt ≤ v195_8.toInt ∧ ((qR U195 v195_0 4 = some (qO U195 v195_0 4)) ∧ (d_X8_catchHas U195 (qO U195 v195_0 4) v195_8 v195_1 ∧ (∃ a65 : Int32, a65 = (fX8_catchHas U195 (qO U195 v195_0 4) v195_8 v195_1) ∧ ((a65.toInt = 0 ∧ (v_X4_spread_J240 uo (v_X4_spread_L195 uo n195) U195 v195_0 v195_1 v195_5 v195_8)) ∨ (¬ a65.toInt = 0 ∧ ((qR U195 v195_0 4 = some (qO U195 v195_0 4)) ∧ ((qR U195 (qO U195 v195_0 4) 7 = some (qO U195 (qO U195 v195_0 4) 7)) ∧ (((0 : Int) ≤ v195_8.toInt ∧ v195_8.toInt < (qN U195 (qO U195 (qO U195 v195_0 4) 7) : Int)) ∧ (qT U195 v195_0 = 44 ∧ (∃ (S75 : MS), vX4_comeTo U195 v195_0 (qI U195 (qO U195 (qO U195 v195_0 4) 7) v195_8.toInt.toNat) (1 : Int32) S75 ∧ wfC S75 ∧ shy U195 S75 ∧ (v_X4_spread_J240 uo (v_X4_spread_L195 uo n195) S75 v195_0 v195_1 v195_5 v195_8)))))))))))))))))
def v_X4_spread_L163 (uo : MS) : Nat → MS → Nat → Int32 → Int32 → Int32 → Int32 → Int32 → Prop
  | 0, _, _, _, _, _, _, _ => False
  | n163 + 1, U163, v163_0, v163_1, v163_4, v163_5, v163_7, v163_8 => (wfC U163 ∧ qT U163 v163_0 = 44 ∧ (v163_5 = 0 ∨ v163_5 = 1) ∧ ((v163_7.toInt ≤ v163_8.toInt ∧ (∃ n, v_X4_spread_L195 uo n U163 v163_0 v163_1 v163_5 0)) ∨ (¬ v163_7.toInt ≤ v163_8.toInt ∧ ((qR U163 v163_0 4 = some (qO U163 v163_0 4)) ∧ (d_X8_targetAt U163 (qO U163 v163_0 4) v163_1 v163_8 ∧ (∃ a82 : Int32, a82 = (fX8_targetAt U163 (qO U163 v163_0 4) v163_1 v163_8) ∧ (qT U163 v163_0 = 44 ∧ (∃ (S84 : MS), vX4_comeTo U163 v163_0 a82 v163_4 S84 ∧ wfC S84 ∧ shy U163 S84 ∧ (∃ a86 : Int32, a86 = (v163_8 + Int32.ofInt 1) ∧ ((v_X4_spread_L163 uo n163) S84 v163_0 v163_1 v163_4 v163_5 v163_7 a86))))))))))
def v_X4_spread_J150 (uo : MS) (U150 : MS) (v150_0 : Nat) (v150_1 : Int32) (v150_4 : Int32) (v150_5 : Int32) : Prop := (wfC U150 ∧ qT U150 v150_0 = 44 ∧ (v150_5 = 0 ∨ v150_5 = 1) ∧ ((qR U150 v150_0 4 = some (qO U150 v150_0 4)) ∧ (d_X8_targetCount U150 (qO U150 v150_0 4) v150_1 ∧ (∃ a54 : Int32, a54 = (fX8_targetCount U150 (qO U150 v150_0 4) v150_1) ∧ (∃ n, v_X4_spread_L163 uo n U150 v150_0 v150_1 v150_4 v150_5 a54 0)))))
def v_X4_spread_J127 (uo : MS) (U127 : MS) (t127_0 : Int32) (t127_1 : Int32) (t127_2 : Int32) (t127_3 : Nat) (v127_0 : Nat) (v127_1 : Int32) (v127_4 : Int32) (v127_5 : Int32) (v127_6 : Int32) : Prop := (wfC U127 ∧ qT U127 t127_3 = 44 ∧ qT U127 v127_0 = 44 ∧ (t127_0 = 0 ∨ t127_0 = 1) ∧ (v127_5 = 0 ∨ v127_5 = 1) ∧ (v127_6 = 0 ∨ v127_6 = 1) ∧ (∃ S48 : MS, S48 = wI U127 t127_3 7 (if t127_2 < (if t127_1 < t127_0 then t127_0 else t127_1) then (if t127_1 < t127_0 then t127_0 else t127_1) else t127_2) ∧ qT U127 t127_3 = 44 ∧ wfC S48 ∧ ((v127_6.toInt = 0 ∧ (v_X4_spread_J150 uo S48 v127_0 v127_1 v127_4 v127_5)) ∨ (¬ v127_6.toInt = 0 ∧ (qT S48 v127_0 = 44 ∧ (∃ (S90 : MS), vX4_comeTo S48 v127_0 (v127_1 + (1 : Int32)) v127_4 S90 ∧ wfC S90 ∧ shy S48 S90 ∧ (v_X4_spread_J150 uo S90 v127_0 v127_1 v127_4 v127_5)))))))
def v_X4_spread_J110 (uo : MS) (U110 : MS) (v110_0 : Nat) (v110_1 : Int32) (v110_4 : Int32) (v110_5 : Int32) (v110_6 : Int32) : Prop := (wfC U110 ∧ qT U110 v110_0 = 44 ∧ (v110_5 = 0 ∨ v110_5 = 1) ∧ (v110_6 = 0 ∨ v110_6 = 1) ∧ ((v110_5.toInt = 0 ∧ (v_X4_spread_J127 uo U110 0 v110_4 (qI U110 v110_0 7) v110_0 v110_0 v110_1 v110_4 v110_5 v110_6)) ∨ (¬ v110_5.toInt = 0 ∧ (v_X4_spread_J127 uo U110 1 v110_4 (qI U110 v110_0 7) v110_0 v110_0 v110_1 v110_4 v110_5 v110_6))))
def v_X4_spread_J84 (uo : MS) (U84 : MS) (v84_0 : Nat) (v84_1 : Int32) (v84_4 : Int32) (v84_5 : Int32) (v84_6 : Int32) : Prop := (wfC U84 ∧ qT U84 v84_0 = 44 ∧ (v84_5 = 0 ∨ v84_5 = 1) ∧ (v84_6 = 0 ∨ v84_6 = 1) ∧ ((v84_6.toInt = 0 ∧ (v_X4_spread_J110 uo U84 v84_0 v84_1 v84_4 v84_5 v84_6)) ∨ (¬ v84_6.toInt = 0 ∧ ((qR U84 v84_0 4 = some (qO U84 v84_0 4)) ∧ (((v84_1 + (1 : Int32)).toInt < (qI U84 (qO U84 v84_0 4) 2).toInt ∧ (v_X4_spread_J110 uo U84 v84_0 v84_1 v84_4 v84_5 v84_6)) ∨ (¬ (v84_1 + (1 : Int32)).toInt < (qI U84 (qO U84 v84_0 4) 2).toInt ∧ (v_X4_spread_J102 uo U84 v84_0 v84_1)))))))
def vX4_spread (S : MS) (p0 : Nat) (x1 : Int32) (x2 : Int32) (uo : MS) : Prop := ((qR S p0 3 = some (qO S p0 3)) ∧ ((qR S p0 4 = some (qO S p0 4)) ∧ (d_X10_takes S (qO S p0 3) (qO S p0 4) x1 ∧ (∃ a8 : Int32, a8 = (fX10_takes S (qO S p0 3) (qO S p0 4) x1) ∧ (∃ (r10 : Int32) (S11 : MS), vX6_placesOf S a8 r10 S11 ∧ wfC S11 ∧ shy S S11 ∧ ((qR S11 p0 3 = some (qO S11 p0 3)) ∧ ((qR S11 p0 4 = some (qO S11 p0 4)) ∧ (qT S11 (qO S11 p0 3) = 49 ∧ qT S11 (qO S11 p0 4) = 47 ∧ (∃ (r19 : Int32) (S20 : MS), vX10_placesGiven S11 (qO S11 p0 3) (qO S11 p0 4) x1 r19 S20 ∧ wfC S20 ∧ shy S11 S20 ∧ (∃ a23 : Int32, a23 = ((x2 - r10) + r19) ∧ ((qR S20 p0 4 = some (qO S20 p0 4)) ∧ (qT S20 (qO S20 p0 4) = 47 ∧ (∃ (r27 : Int32) (S28 : MS), vX8_isCaught S20 (qO S20 p0 4) x1 r27 S28 ∧ wfC S28 ∧ shy S20 S28 ∧ ((qR S28 p0 4 = some (qO S28 p0 4)) ∧ (d_X8_opAt S28 (qO S28 p0 4) x1 ∧ (∃ a35 : Int32, a35 = (fX8_opAt S28 (qO S28 p0 4) x1) ∧ (d_X6_goesOn S28 a35 ∧ (∃ a39 : Int32, a39 = (fX6_goesOn S28 a35) ∧ ((x2.toInt < r10.toInt ∧ (v_X4_spread_J102 uo S28 p0 x1)) ∨ (¬ x2.toInt < r10.toInt ∧ (((qI S28 p0 5).toInt < a23.toInt ∧ (v_X4_spread_J102 uo S28 p0 x1)) ∨ (¬ (qI S28 p0 5).toInt < a23.toInt ∧ ((r27.toInt = 0 ∧ (v_X4_spread_J84 uo S28 p0 x1 a23 r27 a39)) ∨ (¬ r27.toInt = 0 ∧ (((qI S28 p0 5).toInt < 1 ∧ (v_X4_spread_J102 uo S28 p0 x1)) ∨ (¬ (qI S28 p0 5).toInt < 1 ∧ (v_X4_spread_J84 uo S28 p0 x1 a23 r27 a39)))))))))))))))))))))))))))
set_option maxRecDepth 100000 in
theorem ru_X4_spread_J102 {ι : Type} {P Q : MS → Prop} {U102 : MS} {v102_0 : Nat} {v102_1 : Int32} (i0 : ι) (K : ∀ (i : ι) (uo : MS), v_X4_spread_J102 uo U102 v102_0 v102_1 → P uo) (h : w_X4_spread_J102 Q U102 v102_0 v102_1) : w_X4_spread_J102 (fun u => Q u ∧ P u) U102 v102_0 v102_1 := by
  unfold w_X4_spread_J102 at h ⊢
  intro y1_ y2_
  replace h := h y1_ y2_
  replace K := fun i uo z => K i uo ⟨y1_, y2_, z⟩
  obtain ⟨g3_, h⟩ := h
  refine ⟨g3_, ?_⟩
  replace K := fun i uo z => K i uo ⟨g3_, z⟩
  obtain ⟨g4_, h⟩ := h
  refine ⟨g4_, ?_⟩
  replace K := fun i uo z => K i uo ⟨g4_, z⟩
  intro S43 eS43 y5_ y6_
  replace h := h S43 eS43 y5_ y6_
  replace K := fun i uo z => K i uo ⟨S43, eS43, y5_, y6_, z⟩
  exact ⟨h, K i0 _ rfl⟩
set_option maxRecDepth 100000 in
theorem ru_X4_spread_J240 {ι : Type} {P Q : MS → Prop} {k195 k195' : MS → Nat → Int32 → Int32 → Int32 → Prop} {k195v : ι → MS → MS → Nat → Int32 → Int32 → Int32 → Prop} {U240 : MS} {v240_0 : Nat} {v240_1 : Int32} {v240_5 : Int32} {v240_8 : Int32} (i0 : ι) (hk195 : ∀ (u : MS) (z0 : Nat) (z1 : Int32) (z2 : Int32) (z3 : Int32), k195 u z0 z1 z2 z3 → (∀ (i : ι) (uo : MS), k195v i uo u z0 z1 z2 z3 → P uo) → k195' u z0 z1 z2 z3) (K : ∀ (i : ι) (uo : MS), v_X4_spread_J240 uo (k195v i uo) U240 v240_0 v240_1 v240_5 v240_8 → P uo) (h : w_X4_spread_J240 Q k195 U240 v240_0 v240_1 v240_5 v240_8) : w_X4_spread_J240 (fun u => Q u ∧ P u) k195' U240 v240_0 v240_1 v240_5 v240_8 := by
  unfold w_X4_spread_J240 at h ⊢
  intro y7_ y8_ y9_
  replace h := h y7_ y8_ y9_
  replace K := fun i uo z => K i uo ⟨y7_, y8_, y9_, z⟩
  intro a66 ea66 
  replace h := h a66 ea66 
  replace K := fun i uo z => K i uo ⟨a66, ea66, z⟩
  exact hk195 _ _ _ _ _ h K
set_option maxRecDepth 100000 in
theorem ru_X4_spread_L195 {ι : Type} {P Q : MS → Prop} : ∀ (n : Nat) {U195 : MS} {v195_0 : Nat} {v195_1 : Int32} {v195_5 : Int32} {v195_8 : Int32} (i0 : ι), (∀ (i : ι) (uo : MS), (∃ n8, v_X4_spread_L195 uo n8 U195 v195_0 v195_1 v195_5 v195_8) → P uo) → w_X4_spread_L195 Q n U195 v195_0 v195_1 v195_5 v195_8 → w_X4_spread_L195 (fun u => Q u ∧ P u) n U195 v195_0 v195_1 v195_5 v195_8 := by
  intro n
  induction n with
  | zero => intro U195 v195_0 v195_1 v195_5 v195_8 i0 K h; unfold w_X4_spread_L195 at h; exact h.elim
  | succ n ih =>
    intro U195 v195_0 v195_1 v195_5 v195_8 i0 K h
    unfold w_X4_spread_L195 at h ⊢
    replace K := fun (i : ι × Nat) uo (z : v_X4_spread_L195 uo (i.2 + 1) U195 v195_0 v195_1 v195_5 v195_8) => K i.1 uo ⟨i.2 + 1, z⟩
    have i00 := i0
    replace i0 : ι × Nat := (i0, 0)
    intro y10_ y11_ y12_
    replace h := h y10_ y11_ y12_
    replace K := fun i uo z => K i uo ⟨y10_, y11_, y12_, z⟩
    refine ⟨fun c => ?_, fun c => ?_⟩
    · replace h := h.1 c
      replace K := fun i uo z => K i uo (Or.inl ⟨c, z⟩)
      exact ⟨h, K i0 _ rfl⟩
    · replace h := h.2 c
      replace K := fun i uo z => K i uo (Or.inr ⟨c, z⟩)
      obtain ⟨g13_, h⟩ := h
      refine ⟨g13_, ?_⟩
      replace K := fun i uo z => K i uo ⟨g13_, z⟩
      refine ⟨fun c => ?_, fun c => ?_⟩
      · replace h := h.1 c
        replace K := fun i uo z => K i uo (Or.inl ⟨c, z⟩)
        exact ⟨h, K i0 _ rfl⟩
      · replace h := h.2 c
        replace K := fun i uo z => K i uo (Or.inr ⟨c, z⟩)
        obtain ⟨g14_, h⟩ := h
        refine ⟨g14_, ?_⟩
        replace K := fun i uo z => K i uo ⟨g14_, z⟩
        obtain ⟨g15_, h⟩ := h
        refine ⟨g15_, ?_⟩
        replace K := fun i uo z => K i uo ⟨g15_, z⟩
        intro a65 ea65 
        replace h := h a65 ea65 
        replace K := fun i uo z => K i uo ⟨a65, ea65, z⟩
        refine ⟨fun c => ?_, fun c => ?_⟩
        · replace h := h.1 c
          replace K := fun i uo z => K i uo (Or.inl ⟨c, z⟩)
          exact ru_X4_spread_J240 i0 (fun _ _ _ _ _ h K => ih i00 (fun i uo ⟨n8, z⟩ => K (i, n8) uo z) h) K h
        · replace h := h.2 c
          replace K := fun i uo z => K i uo (Or.inr ⟨c, z⟩)
          obtain ⟨g16_, h⟩ := h
          refine ⟨g16_, ?_⟩
          replace K := fun i uo z => K i uo ⟨g16_, z⟩
          obtain ⟨g17_, h⟩ := h
          refine ⟨g17_, ?_⟩
          replace K := fun i uo z => K i uo ⟨g17_, z⟩
          obtain ⟨g18_, h⟩ := h
          refine ⟨g18_, ?_⟩
          replace K := fun i uo z => K i uo ⟨g18_, z⟩
          intro y19_
          replace h := h y19_
          replace K := fun i uo z => K i uo ⟨y19_, z⟩
          obtain ⟨Q9, h0, h⟩ := h
          refine ⟨_, ruX4_comeTo h0, ?_⟩
          intro S75 q20_ y21_ y22_
          replace h := h S75 q20_.1 y21_ y22_
          replace K := fun i uo z => K i uo ⟨S75, q20_.2, y21_, y22_, z⟩
          exact ru_X4_spread_J240 i0 (fun _ _ _ _ _ h K => ih i00 (fun i uo ⟨n8, z⟩ => K (i, n8) uo z) h) K h
set_option maxRecDepth 100000 in
theorem ru_X4_spread_L163 {ι : Type} {P Q : MS → Prop} : ∀ (n : Nat) {U163 : MS} {v163_0 : Nat} {v163_1 : Int32} {v163_4 : Int32} {v163_5 : Int32} {v163_7 : Int32} {v163_8 : Int32} (i0 : ι), (∀ (i : ι) (uo : MS), (∃ n8, v_X4_spread_L163 uo n8 U163 v163_0 v163_1 v163_4 v163_5 v163_7 v163_8) → P uo) → w_X4_spread_L163 Q n U163 v163_0 v163_1 v163_4 v163_5 v163_7 v163_8 → w_X4_spread_L163 (fun u => Q u ∧ P u) n U163 v163_0 v163_1 v163_4 v163_5 v163_7 v163_8 := by
  intro n
  induction n with
  | zero => intro U163 v163_0 v163_1 v163_4 v163_5 v163_7 v163_8 i0 K h; unfold w_X4_spread_L163 at h; exact h.elim
  | succ n ih =>
    intro U163 v163_0 v163_1 v163_4 v163_5 v163_7 v163_8 i0 K h
    unfold w_X4_spread_L163 at h ⊢
    replace K := fun (i : ι × Nat) uo (z : v_X4_spread_L163 uo (i.2 + 1) U163 v163_0 v163_1 v163_4 v163_5 v163_7 v163_8) => K i.1 uo ⟨i.2 + 1, z⟩
    have i00 := i0
    replace i0 : ι × Nat := (i0, 0)
    intro y23_ y24_ y25_
    replace h := h y23_ y24_ y25_
    replace K := fun i uo z => K i uo ⟨y23_, y24_, y25_, z⟩
    refine ⟨fun c => ?_, fun c => ?_⟩
    · replace h := h.1 c
      replace K := fun i uo z => K i uo (Or.inl ⟨c, z⟩)
      obtain ⟨n9, h⟩ := h
      exact ⟨n9, ru_X4_spread_L195 n9 i0 K h⟩
    · replace h := h.2 c
      replace K := fun i uo z => K i uo (Or.inr ⟨c, z⟩)
      obtain ⟨g26_, h⟩ := h
      refine ⟨g26_, ?_⟩
      replace K := fun i uo z => K i uo ⟨g26_, z⟩
      obtain ⟨g27_, h⟩ := h
      refine ⟨g27_, ?_⟩
      replace K := fun i uo z => K i uo ⟨g27_, z⟩
      intro a82 ea82 
      replace h := h a82 ea82 
      replace K := fun i uo z => K i uo ⟨a82, ea82, z⟩
      intro y28_
      replace h := h y28_
      replace K := fun i uo z => K i uo ⟨y28_, z⟩
      obtain ⟨Q9, h0, h⟩ := h
      refine ⟨_, ruX4_comeTo h0, ?_⟩
      intro S84 q29_ y30_ y31_
      replace h := h S84 q29_.1 y30_ y31_
      replace K := fun i uo z => K i uo ⟨S84, q29_.2, y30_, y31_, z⟩
      intro a86 ea86 
      replace h := h a86 ea86 
      replace K := fun i uo z => K i uo ⟨a86, ea86, z⟩
      exact ih i00 (fun i uo ⟨n8, z⟩ => K (i, n8) uo z) h
set_option maxRecDepth 100000 in
theorem ru_X4_spread_J150 {ι : Type} {P Q : MS → Prop} {U150 : MS} {v150_0 : Nat} {v150_1 : Int32} {v150_4 : Int32} {v150_5 : Int32} (i0 : ι) (K : ∀ (i : ι) (uo : MS), v_X4_spread_J150 uo U150 v150_0 v150_1 v150_4 v150_5 → P uo) (h : w_X4_spread_J150 Q U150 v150_0 v150_1 v150_4 v150_5) : w_X4_spread_J150 (fun u => Q u ∧ P u) U150 v150_0 v150_1 v150_4 v150_5 := by
  unfold w_X4_spread_J150 at h ⊢
  intro y32_ y33_ y34_
  replace h := h y32_ y33_ y34_
  replace K := fun i uo z => K i uo ⟨y32_, y33_, y34_, z⟩
  obtain ⟨g35_, h⟩ := h
  refine ⟨g35_, ?_⟩
  replace K := fun i uo z => K i uo ⟨g35_, z⟩
  obtain ⟨g36_, h⟩ := h
  refine ⟨g36_, ?_⟩
  replace K := fun i uo z => K i uo ⟨g36_, z⟩
  intro a54 ea54 
  replace h := h a54 ea54 
  replace K := fun i uo z => K i uo ⟨a54, ea54, z⟩
  obtain ⟨n9, h⟩ := h
  exact ⟨n9, ru_X4_spread_L163 n9 i0 K h⟩
set_option maxRecDepth 100000 in
theorem ru_X4_spread_J127 {ι : Type} {P Q : MS → Prop} {U127 : MS} {t127_0 : Int32} {t127_1 : Int32} {t127_2 : Int32} {t127_3 : Nat} {v127_0 : Nat} {v127_1 : Int32} {v127_4 : Int32} {v127_5 : Int32} {v127_6 : Int32} (i0 : ι) (K : ∀ (i : ι) (uo : MS), v_X4_spread_J127 uo U127 t127_0 t127_1 t127_2 t127_3 v127_0 v127_1 v127_4 v127_5 v127_6 → P uo) (h : w_X4_spread_J127 Q U127 t127_0 t127_1 t127_2 t127_3 v127_0 v127_1 v127_4 v127_5 v127_6) : w_X4_spread_J127 (fun u => Q u ∧ P u) U127 t127_0 t127_1 t127_2 t127_3 v127_0 v127_1 v127_4 v127_5 v127_6 := by
  unfold w_X4_spread_J127 at h ⊢
  intro y37_ y38_ y39_ y40_ y41_ y42_
  replace h := h y37_ y38_ y39_ y40_ y41_ y42_
  replace K := fun i uo z => K i uo ⟨y37_, y38_, y39_, y40_, y41_, y42_, z⟩
  intro S48 eS48 y43_ y44_
  replace h := h S48 eS48 y43_ y44_
  replace K := fun i uo z => K i uo ⟨S48, eS48, y43_, y44_, z⟩
  refine ⟨fun c => ?_, fun c => ?_⟩
  · replace h := h.1 c
    replace K := fun i uo z => K i uo (Or.inl ⟨c, z⟩)
    exact ru_X4_spread_J150 i0 K h
  · replace h := h.2 c
    replace K := fun i uo z => K i uo (Or.inr ⟨c, z⟩)
    intro y45_
    replace h := h y45_
    replace K := fun i uo z => K i uo ⟨y45_, z⟩
    obtain ⟨Q9, h0, h⟩ := h
    refine ⟨_, ruX4_comeTo h0, ?_⟩
    intro S90 q46_ y47_ y48_
    replace h := h S90 q46_.1 y47_ y48_
    replace K := fun i uo z => K i uo ⟨S90, q46_.2, y47_, y48_, z⟩
    exact ru_X4_spread_J150 i0 K h
set_option maxRecDepth 100000 in
theorem ru_X4_spread_J110 {ι : Type} {P Q : MS → Prop} {U110 : MS} {v110_0 : Nat} {v110_1 : Int32} {v110_4 : Int32} {v110_5 : Int32} {v110_6 : Int32} (i0 : ι) (K : ∀ (i : ι) (uo : MS), v_X4_spread_J110 uo U110 v110_0 v110_1 v110_4 v110_5 v110_6 → P uo) (h : w_X4_spread_J110 Q U110 v110_0 v110_1 v110_4 v110_5 v110_6) : w_X4_spread_J110 (fun u => Q u ∧ P u) U110 v110_0 v110_1 v110_4 v110_5 v110_6 := by
  unfold w_X4_spread_J110 at h ⊢
  intro y49_ y50_ y51_ y52_
  replace h := h y49_ y50_ y51_ y52_
  replace K := fun i uo z => K i uo ⟨y49_, y50_, y51_, y52_, z⟩
  refine ⟨fun c => ?_, fun c => ?_⟩
  · replace h := h.1 c
    replace K := fun i uo z => K i uo (Or.inl ⟨c, z⟩)
    exact ru_X4_spread_J127 i0 K h
  · replace h := h.2 c
    replace K := fun i uo z => K i uo (Or.inr ⟨c, z⟩)
    exact ru_X4_spread_J127 i0 K h
set_option maxRecDepth 100000 in
theorem ru_X4_spread_J84 {ι : Type} {P Q : MS → Prop} {U84 : MS} {v84_0 : Nat} {v84_1 : Int32} {v84_4 : Int32} {v84_5 : Int32} {v84_6 : Int32} (i0 : ι) (K : ∀ (i : ι) (uo : MS), v_X4_spread_J84 uo U84 v84_0 v84_1 v84_4 v84_5 v84_6 → P uo) (h : w_X4_spread_J84 Q U84 v84_0 v84_1 v84_4 v84_5 v84_6) : w_X4_spread_J84 (fun u => Q u ∧ P u) U84 v84_0 v84_1 v84_4 v84_5 v84_6 := by
  unfold w_X4_spread_J84 at h ⊢
  intro y53_ y54_ y55_ y56_
  replace h := h y53_ y54_ y55_ y56_
  replace K := fun i uo z => K i uo ⟨y53_, y54_, y55_, y56_, z⟩
  refine ⟨fun c => ?_, fun c => ?_⟩
  · replace h := h.1 c
    replace K := fun i uo z => K i uo (Or.inl ⟨c, z⟩)
    exact ru_X4_spread_J110 i0 K h
  · replace h := h.2 c
    replace K := fun i uo z => K i uo (Or.inr ⟨c, z⟩)
    obtain ⟨g57_, h⟩ := h
    refine ⟨g57_, ?_⟩
    replace K := fun i uo z => K i uo ⟨g57_, z⟩
    refine ⟨fun c => ?_, fun c => ?_⟩
    · replace h := h.1 c
      replace K := fun i uo z => K i uo (Or.inl ⟨c, z⟩)
      exact ru_X4_spread_J110 i0 K h
    · replace h := h.2 c
      replace K := fun i uo z => K i uo (Or.inr ⟨c, z⟩)
      exact ru_X4_spread_J102 i0 K h
set_option maxRecDepth 100000 in
theorem ruX4_spread {S : MS} {p0 : Nat} {x1 : Int32} {x2 : Int32} {Q : MS → Prop} (h : wX4_spread S p0 x1 x2 Q) : wX4_spread S p0 x1 x2 (fun u => Q u ∧ vX4_spread S p0 x1 x2 u) := by
  have i0 : Unit := ()
  have K : ∀ (i : Unit) (uo : MS), vX4_spread S p0 x1 x2 uo → vX4_spread S p0 x1 x2 uo := fun _ _ z => z
  unfold wX4_spread at h ⊢
  obtain ⟨g58_, h⟩ := h
  refine ⟨g58_, ?_⟩
  replace K := fun i uo z => K i uo ⟨g58_, z⟩
  obtain ⟨g59_, h⟩ := h
  refine ⟨g59_, ?_⟩
  replace K := fun i uo z => K i uo ⟨g59_, z⟩
  obtain ⟨g60_, h⟩ := h
  refine ⟨g60_, ?_⟩
  replace K := fun i uo z => K i uo ⟨g60_, z⟩
  intro a8 ea8 
  replace h := h a8 ea8 
  replace K := fun i uo z => K i uo ⟨a8, ea8, z⟩
  obtain ⟨Q9, h0, h⟩ := h
  refine ⟨_, ruX6_placesOf h0, ?_⟩
  intro r10 S11 q61_ y62_ y63_
  replace h := h r10 S11 q61_.1 y62_ y63_
  replace K := fun i uo z => K i uo ⟨r10, S11, q61_.2, y62_, y63_, z⟩
  obtain ⟨g64_, h⟩ := h
  refine ⟨g64_, ?_⟩
  replace K := fun i uo z => K i uo ⟨g64_, z⟩
  obtain ⟨g65_, h⟩ := h
  refine ⟨g65_, ?_⟩
  replace K := fun i uo z => K i uo ⟨g65_, z⟩
  intro y66_ y67_
  replace h := h y66_ y67_
  replace K := fun i uo z => K i uo ⟨y66_, y67_, z⟩
  obtain ⟨Q9, h0, h⟩ := h
  refine ⟨_, ruX10_placesGiven h0, ?_⟩
  intro r19 S20 q68_ y69_ y70_
  replace h := h r19 S20 q68_.1 y69_ y70_
  replace K := fun i uo z => K i uo ⟨r19, S20, q68_.2, y69_, y70_, z⟩
  intro a23 ea23 
  replace h := h a23 ea23 
  replace K := fun i uo z => K i uo ⟨a23, ea23, z⟩
  obtain ⟨g71_, h⟩ := h
  refine ⟨g71_, ?_⟩
  replace K := fun i uo z => K i uo ⟨g71_, z⟩
  intro y72_
  replace h := h y72_
  replace K := fun i uo z => K i uo ⟨y72_, z⟩
  obtain ⟨Q9, h0, h⟩ := h
  refine ⟨_, ruX8_isCaught h0, ?_⟩
  intro r27 S28 q73_ y74_ y75_
  replace h := h r27 S28 q73_.1 y74_ y75_
  replace K := fun i uo z => K i uo ⟨r27, S28, q73_.2, y74_, y75_, z⟩
  obtain ⟨g76_, h⟩ := h
  refine ⟨g76_, ?_⟩
  replace K := fun i uo z => K i uo ⟨g76_, z⟩
  obtain ⟨g77_, h⟩ := h
  refine ⟨g77_, ?_⟩
  replace K := fun i uo z => K i uo ⟨g77_, z⟩
  intro a35 ea35 
  replace h := h a35 ea35 
  replace K := fun i uo z => K i uo ⟨a35, ea35, z⟩
  obtain ⟨g78_, h⟩ := h
  refine ⟨g78_, ?_⟩
  replace K := fun i uo z => K i uo ⟨g78_, z⟩
  intro a39 ea39 
  replace h := h a39 ea39 
  replace K := fun i uo z => K i uo ⟨a39, ea39, z⟩
  refine ⟨fun c => ?_, fun c => ?_⟩
  · replace h := h.1 c
    replace K := fun i uo z => K i uo (Or.inl ⟨c, z⟩)
    exact ru_X4_spread_J102 i0 K h
  · replace h := h.2 c
    replace K := fun i uo z => K i uo (Or.inr ⟨c, z⟩)
    refine ⟨fun c => ?_, fun c => ?_⟩
    · replace h := h.1 c
      replace K := fun i uo z => K i uo (Or.inl ⟨c, z⟩)
      exact ru_X4_spread_J102 i0 K h
    · replace h := h.2 c
      replace K := fun i uo z => K i uo (Or.inr ⟨c, z⟩)
      refine ⟨fun c => ?_, fun c => ?_⟩
      · replace h := h.1 c
        replace K := fun i uo z => K i uo (Or.inl ⟨c, z⟩)
        exact ru_X4_spread_J84 i0 K h
      · replace h := h.2 c
        replace K := fun i uo z => K i uo (Or.inr ⟨c, z⟩)
        refine ⟨fun c => ?_, fun c => ?_⟩
        · replace h := h.1 c
          replace K := fun i uo z => K i uo (Or.inl ⟨c, z⟩)
          exact ru_X4_spread_J102 i0 K h
        · replace h := h.2 c
          replace K := fun i uo z => K i uo (Or.inr ⟨c, z⟩)
          exact ru_X4_spread_J84 i0 K h
set_option maxRecDepth 100000 in
theorem vw_X4_spread_J102 {uo : MS} {U102 : MS} {v102_0 : Nat} {v102_1 : Int32} (h : v_X4_spread_J102 uo U102 v102_0 v102_1) : w_X4_spread_J102 (fun u => u = uo) U102 v102_0 v102_1 := by
  unfold v_X4_spread_J102 at h
  unfold w_X4_spread_J102
  intro _ _
  replace h := h.2.2
  obtain ⟨g9, h⟩ := h
  refine ⟨g9, ?_⟩
  obtain ⟨g9, h⟩ := h
  refine ⟨g9, ?_⟩
  obtain ⟨v9, e9, h⟩ := h
  intro x9 d9 _ _
  have c9 : v9 = x9 := e9.trans d9.symm
  subst c9
  replace h := h.2.2
  exact h.symm
set_option maxRecDepth 100000 in
theorem vp_X4_spread_J102 {uo : MS} {P : MS → Prop} {U102 : MS} {v102_0 : Nat} {v102_1 : Int32} (h : v_X4_spread_J102 uo U102 v102_0 v102_1) (w : w_X4_spread_J102 P U102 v102_0 v102_1) : P uo := by
  unfold v_X4_spread_J102 at h
  unfold w_X4_spread_J102 at w
  obtain ⟨y1_, y2_, h⟩ := h
  replace w := w y1_ y2_
  replace h := h.2
  replace w := w.2
  replace h := h.2
  replace w := w.2
  obtain ⟨v9, e9, y3_, y4_, h⟩ := h
  replace w := w v9 e9 y3_ y4_
  rw [h]
  exact w
set_option maxRecDepth 100000 in
theorem vw_X4_spread_J240 {uo : MS} {k195 k195v : MS → Nat → Int32 → Int32 → Int32 → Prop} {U240 : MS} {v240_0 : Nat} {v240_1 : Int32} {v240_5 : Int32} {v240_8 : Int32} (hk195 : ∀ (u : MS) (z0 : Nat) (z1 : Int32) (z2 : Int32) (z3 : Int32), k195v u z0 z1 z2 z3 → k195 u z0 z1 z2 z3) (h : v_X4_spread_J240 uo k195v U240 v240_0 v240_1 v240_5 v240_8) : w_X4_spread_J240 (fun u => u = uo) k195 U240 v240_0 v240_1 v240_5 v240_8 := by
  unfold v_X4_spread_J240 at h
  unfold w_X4_spread_J240
  intro _ _ _
  replace h := h.2.2.2
  obtain ⟨v9, e9, h⟩ := h
  intro x9 d9 
  have c9 : v9 = x9 := e9.trans d9.symm
  subst c9
  exact hk195 _ _ _ _ _ h
set_option maxRecDepth 100000 in
theorem vp_X4_spread_J240 {uo : MS} {P : MS → Prop} {k195 k195v : MS → Nat → Int32 → Int32 → Int32 → Prop} {U240 : MS} {v240_0 : Nat} {v240_1 : Int32} {v240_5 : Int32} {v240_8 : Int32} (hk195 : ∀ (u : MS) (z0 : Nat) (z1 : Int32) (z2 : Int32) (z3 : Int32), k195v u z0 z1 z2 z3 → k195 u z0 z1 z2 z3 → P uo) (h : v_X4_spread_J240 uo k195v U240 v240_0 v240_1 v240_5 v240_8) (w : w_X4_spread_J240 P k195 U240 v240_0 v240_1 v240_5 v240_8) : P uo := by
  unfold v_X4_spread_J240 at h
  unfold w_X4_spread_J240 at w
  obtain ⟨y5_, y6_, y7_, h⟩ := h
  replace w := w y5_ y6_ y7_
  obtain ⟨v9, e9, h⟩ := h
  replace w := w v9 e9 
  exact hk195 _ _ _ _ _ h w
set_option maxRecDepth 100000 in
theorem vw_X4_spread_L195 {uo : MS} : ∀ (n : Nat) {U195 : MS} {v195_0 : Nat} {v195_1 : Int32} {v195_5 : Int32} {v195_8 : Int32}, v_X4_spread_L195 uo n U195 v195_0 v195_1 v195_5 v195_8 → w_X4_spread_L195 (fun u => u = uo) n U195 v195_0 v195_1 v195_5 v195_8 := by
  intro n
  induction n with
  | zero => intro U195 v195_0 v195_1 v195_5 v195_8 h; unfold v_X4_spread_L195 at h; exact h.elim
  | succ n ih =>
    intro U195 v195_0 v195_1 v195_5 v195_8 h
    unfold v_X4_spread_L195 at h
    unfold w_X4_spread_L195
    intro _ _ _
    replace h := h.2.2.2
    rcases h with ⟨c, h⟩ | ⟨c, h⟩
    · refine ⟨fun _ => ?_, fun c2 => absurd c c2⟩
      exact h.symm
    · refine ⟨fun c2 => absurd c2 c, fun _ => ?_⟩
      obtain ⟨g9, h⟩ := h
      refine ⟨g9, ?_⟩
      rcases h with ⟨c, h⟩ | ⟨c, h⟩
      · refine ⟨fun _ => ?_, fun c2 => absurd c c2⟩
        exact h.symm
      · refine ⟨fun c2 => absurd c2 c, fun _ => ?_⟩
        obtain ⟨g9, h⟩ := h
        refine ⟨g9, ?_⟩
        obtain ⟨g9, h⟩ := h
        refine ⟨g9, ?_⟩
        obtain ⟨v9, e9, h⟩ := h
        intro x9 d9 
        have c9 : v9 = x9 := e9.trans d9.symm
        subst c9
        rcases h with ⟨c, h⟩ | ⟨c, h⟩
        · refine ⟨fun _ => ?_, fun c2 => absurd c c2⟩
          exact vw_X4_spread_J240 (fun _ _ _ _ _ h => ih h) h
        · refine ⟨fun c2 => absurd c2 c, fun _ => ?_⟩
          obtain ⟨g9, h⟩ := h
          refine ⟨g9, ?_⟩
          obtain ⟨g9, h⟩ := h
          refine ⟨g9, ?_⟩
          obtain ⟨g9, h⟩ := h
          refine ⟨g9, ?_⟩
          intro _
          replace h := h.2
          obtain ⟨q9, z9, h⟩ := h
          refine ⟨_, vwX4_comeTo z9, ?_⟩
          intro q8 d9 _ _
          subst d9
          replace h := h.2.2
          exact vw_X4_spread_J240 (fun _ _ _ _ _ h => ih h) h
set_option maxRecDepth 100000 in
theorem vp_X4_spread_L195 {uo : MS} {P : MS → Prop} : ∀ (n m : Nat) {U195 : MS} {v195_0 : Nat} {v195_1 : Int32} {v195_5 : Int32} {v195_8 : Int32}, v_X4_spread_L195 uo n U195 v195_0 v195_1 v195_5 v195_8 → w_X4_spread_L195 P m U195 v195_0 v195_1 v195_5 v195_8 → P uo := by
  intro n
  induction n with
  | zero => intro m U195 v195_0 v195_1 v195_5 v195_8 h; unfold v_X4_spread_L195 at h; exact h.elim
  | succ n ih =>
    intro m U195 v195_0 v195_1 v195_5 v195_8 h w
    cases m with
    | zero => unfold w_X4_spread_L195 at w; exact w.elim
    | succ m =>
      unfold v_X4_spread_L195 at h
      unfold w_X4_spread_L195 at w
      obtain ⟨y8_, y9_, y10_, h⟩ := h
      replace w := w y8_ y9_ y10_
      rcases h with ⟨c, h⟩ | ⟨c, h⟩
      · replace w := w.1 c
        rw [h]
        exact w
      · replace w := w.2 c
        replace h := h.2
        replace w := w.2
        rcases h with ⟨c, h⟩ | ⟨c, h⟩
        · replace w := w.1 c
          rw [h]
          exact w
        · replace w := w.2 c
          replace h := h.2
          replace w := w.2
          replace h := h.2
          replace w := w.2
          obtain ⟨v9, e9, h⟩ := h
          replace w := w v9 e9 
          rcases h with ⟨c, h⟩ | ⟨c, h⟩
          · replace w := w.1 c
            exact vp_X4_spread_J240 (fun _ _ _ _ _ h w => ih m h w) h w
          · replace w := w.2 c
            replace h := h.2
            replace w := w.2
            replace h := h.2
            replace w := w.2
            replace h := h.2
            replace w := w.2
            obtain ⟨y11_, h⟩ := h
            replace w := w y11_
            obtain ⟨q9, z9, y12_, y13_, h⟩ := h
            obtain ⟨Q9, w0, w⟩ := w
            replace w := w q9 (vpX4_comeTo z9 w0) y12_ y13_
            exact vp_X4_spread_J240 (fun _ _ _ _ _ h w => ih m h w) h w
set_option maxRecDepth 100000 in
theorem vw_X4_spread_L163 {uo : MS} : ∀ (n : Nat) {U163 : MS} {v163_0 : Nat} {v163_1 : Int32} {v163_4 : Int32} {v163_5 : Int32} {v163_7 : Int32} {v163_8 : Int32}, v_X4_spread_L163 uo n U163 v163_0 v163_1 v163_4 v163_5 v163_7 v163_8 → w_X4_spread_L163 (fun u => u = uo) n U163 v163_0 v163_1 v163_4 v163_5 v163_7 v163_8 := by
  intro n
  induction n with
  | zero => intro U163 v163_0 v163_1 v163_4 v163_5 v163_7 v163_8 h; unfold v_X4_spread_L163 at h; exact h.elim
  | succ n ih =>
    intro U163 v163_0 v163_1 v163_4 v163_5 v163_7 v163_8 h
    unfold v_X4_spread_L163 at h
    unfold w_X4_spread_L163
    intro _ _ _
    replace h := h.2.2.2
    rcases h with ⟨c, h⟩ | ⟨c, h⟩
    · refine ⟨fun _ => ?_, fun c2 => absurd c c2⟩
      obtain ⟨n9, h⟩ := h
      exact ⟨n9, vw_X4_spread_L195 n9 h⟩
    · refine ⟨fun c2 => absurd c2 c, fun _ => ?_⟩
      obtain ⟨g9, h⟩ := h
      refine ⟨g9, ?_⟩
      obtain ⟨g9, h⟩ := h
      refine ⟨g9, ?_⟩
      obtain ⟨v9, e9, h⟩ := h
      intro x9 d9 
      have c9 : v9 = x9 := e9.trans d9.symm
      subst c9
      intro _
      replace h := h.2
      obtain ⟨q9, z9, h⟩ := h
      refine ⟨_, vwX4_comeTo z9, ?_⟩
      intro q8 d9 _ _
      subst d9
      replace h := h.2.2
      obtain ⟨v9, e9, h⟩ := h
      intro x9 d9 
      have c9 : v9 = x9 := e9.trans d9.symm
      subst c9
      exact ih h
set_option maxRecDepth 100000 in
theorem vp_X4_spread_L163 {uo : MS} {P : MS → Prop} : ∀ (n m : Nat) {U163 : MS} {v163_0 : Nat} {v163_1 : Int32} {v163_4 : Int32} {v163_5 : Int32} {v163_7 : Int32} {v163_8 : Int32}, v_X4_spread_L163 uo n U163 v163_0 v163_1 v163_4 v163_5 v163_7 v163_8 → w_X4_spread_L163 P m U163 v163_0 v163_1 v163_4 v163_5 v163_7 v163_8 → P uo := by
  intro n
  induction n with
  | zero => intro m U163 v163_0 v163_1 v163_4 v163_5 v163_7 v163_8 h; unfold v_X4_spread_L163 at h; exact h.elim
  | succ n ih =>
    intro m U163 v163_0 v163_1 v163_4 v163_5 v163_7 v163_8 h w
    cases m with
    | zero => unfold w_X4_spread_L163 at w; exact w.elim
    | succ m =>
      unfold v_X4_spread_L163 at h
      unfold w_X4_spread_L163 at w
      obtain ⟨y14_, y15_, y16_, h⟩ := h
      replace w := w y14_ y15_ y16_
      rcases h with ⟨c, h⟩ | ⟨c, h⟩
      · replace w := w.1 c
        obtain ⟨n9, h⟩ := h
        obtain ⟨n8, w⟩ := w
        exact vp_X4_spread_L195 n9 n8 h w
      · replace w := w.2 c
        replace h := h.2
        replace w := w.2
        replace h := h.2
        replace w := w.2
        obtain ⟨v9, e9, h⟩ := h
        replace w := w v9 e9 
        obtain ⟨y17_, h⟩ := h
        replace w := w y17_
        obtain ⟨q9, z9, y18_, y19_, h⟩ := h
        obtain ⟨Q9, w0, w⟩ := w
        replace w := w q9 (vpX4_comeTo z9 w0) y18_ y19_
        obtain ⟨v9, e9, h⟩ := h
        replace w := w v9 e9 
        exact ih m h w
set_option maxRecDepth 100000 in
theorem vw_X4_spread_J150 {uo : MS} {U150 : MS} {v150_0 : Nat} {v150_1 : Int32} {v150_4 : Int32} {v150_5 : Int32} (h : v_X4_spread_J150 uo U150 v150_0 v150_1 v150_4 v150_5) : w_X4_spread_J150 (fun u => u = uo) U150 v150_0 v150_1 v150_4 v150_5 := by
  unfold v_X4_spread_J150 at h
  unfold w_X4_spread_J150
  intro _ _ _
  replace h := h.2.2.2
  obtain ⟨g9, h⟩ := h
  refine ⟨g9, ?_⟩
  obtain ⟨g9, h⟩ := h
  refine ⟨g9, ?_⟩
  obtain ⟨v9, e9, h⟩ := h
  intro x9 d9 
  have c9 : v9 = x9 := e9.trans d9.symm
  subst c9
  obtain ⟨n9, h⟩ := h
  exact ⟨n9, vw_X4_spread_L163 n9 h⟩
set_option maxRecDepth 100000 in
theorem vp_X4_spread_J150 {uo : MS} {P : MS → Prop} {U150 : MS} {v150_0 : Nat} {v150_1 : Int32} {v150_4 : Int32} {v150_5 : Int32} (h : v_X4_spread_J150 uo U150 v150_0 v150_1 v150_4 v150_5) (w : w_X4_spread_J150 P U150 v150_0 v150_1 v150_4 v150_5) : P uo := by
  unfold v_X4_spread_J150 at h
  unfold w_X4_spread_J150 at w
  obtain ⟨y20_, y21_, y22_, h⟩ := h
  replace w := w y20_ y21_ y22_
  replace h := h.2
  replace w := w.2
  replace h := h.2
  replace w := w.2
  obtain ⟨v9, e9, h⟩ := h
  replace w := w v9 e9 
  obtain ⟨n9, h⟩ := h
  obtain ⟨n8, w⟩ := w
  exact vp_X4_spread_L163 n9 n8 h w
set_option maxRecDepth 100000 in
theorem vw_X4_spread_J127 {uo : MS} {U127 : MS} {t127_0 : Int32} {t127_1 : Int32} {t127_2 : Int32} {t127_3 : Nat} {v127_0 : Nat} {v127_1 : Int32} {v127_4 : Int32} {v127_5 : Int32} {v127_6 : Int32} (h : v_X4_spread_J127 uo U127 t127_0 t127_1 t127_2 t127_3 v127_0 v127_1 v127_4 v127_5 v127_6) : w_X4_spread_J127 (fun u => u = uo) U127 t127_0 t127_1 t127_2 t127_3 v127_0 v127_1 v127_4 v127_5 v127_6 := by
  unfold v_X4_spread_J127 at h
  unfold w_X4_spread_J127
  intro _ _ _ _ _ _
  replace h := h.2.2.2.2.2.2
  obtain ⟨v9, e9, h⟩ := h
  intro x9 d9 _ _
  have c9 : v9 = x9 := e9.trans d9.symm
  subst c9
  replace h := h.2.2
  rcases h with ⟨c, h⟩ | ⟨c, h⟩
  · refine ⟨fun _ => ?_, fun c2 => absurd c c2⟩
    exact vw_X4_spread_J150 h
  · refine ⟨fun c2 => absurd c2 c, fun _ => ?_⟩
    intro _
    replace h := h.2
    obtain ⟨q9, z9, h⟩ := h
    refine ⟨_, vwX4_comeTo z9, ?_⟩
    intro q8 d9 _ _
    subst d9
    replace h := h.2.2
    exact vw_X4_spread_J150 h
set_option maxRecDepth 100000 in
theorem vp_X4_spread_J127 {uo : MS} {P : MS → Prop} {U127 : MS} {t127_0 : Int32} {t127_1 : Int32} {t127_2 : Int32} {t127_3 : Nat} {v127_0 : Nat} {v127_1 : Int32} {v127_4 : Int32} {v127_5 : Int32} {v127_6 : Int32} (h : v_X4_spread_J127 uo U127 t127_0 t127_1 t127_2 t127_3 v127_0 v127_1 v127_4 v127_5 v127_6) (w : w_X4_spread_J127 P U127 t127_0 t127_1 t127_2 t127_3 v127_0 v127_1 v127_4 v127_5 v127_6) : P uo := by
  unfold v_X4_spread_J127 at h
  unfold w_X4_spread_J127 at w
  obtain ⟨y23_, y24_, y25_, y26_, y27_, y28_, h⟩ := h
  replace w := w y23_ y24_ y25_ y26_ y27_ y28_
  obtain ⟨v9, e9, y29_, y30_, h⟩ := h
  replace w := w v9 e9 y29_ y30_
  rcases h with ⟨c, h⟩ | ⟨c, h⟩
  · replace w := w.1 c
    exact vp_X4_spread_J150 h w
  · replace w := w.2 c
    obtain ⟨y31_, h⟩ := h
    replace w := w y31_
    obtain ⟨q9, z9, y32_, y33_, h⟩ := h
    obtain ⟨Q9, w0, w⟩ := w
    replace w := w q9 (vpX4_comeTo z9 w0) y32_ y33_
    exact vp_X4_spread_J150 h w
set_option maxRecDepth 100000 in
theorem vw_X4_spread_J110 {uo : MS} {U110 : MS} {v110_0 : Nat} {v110_1 : Int32} {v110_4 : Int32} {v110_5 : Int32} {v110_6 : Int32} (h : v_X4_spread_J110 uo U110 v110_0 v110_1 v110_4 v110_5 v110_6) : w_X4_spread_J110 (fun u => u = uo) U110 v110_0 v110_1 v110_4 v110_5 v110_6 := by
  unfold v_X4_spread_J110 at h
  unfold w_X4_spread_J110
  intro _ _ _ _
  replace h := h.2.2.2.2
  rcases h with ⟨c, h⟩ | ⟨c, h⟩
  · refine ⟨fun _ => ?_, fun c2 => absurd c c2⟩
    exact vw_X4_spread_J127 h
  · refine ⟨fun c2 => absurd c2 c, fun _ => ?_⟩
    exact vw_X4_spread_J127 h
set_option maxRecDepth 100000 in
theorem vp_X4_spread_J110 {uo : MS} {P : MS → Prop} {U110 : MS} {v110_0 : Nat} {v110_1 : Int32} {v110_4 : Int32} {v110_5 : Int32} {v110_6 : Int32} (h : v_X4_spread_J110 uo U110 v110_0 v110_1 v110_4 v110_5 v110_6) (w : w_X4_spread_J110 P U110 v110_0 v110_1 v110_4 v110_5 v110_6) : P uo := by
  unfold v_X4_spread_J110 at h
  unfold w_X4_spread_J110 at w
  obtain ⟨y34_, y35_, y36_, y37_, h⟩ := h
  replace w := w y34_ y35_ y36_ y37_
  rcases h with ⟨c, h⟩ | ⟨c, h⟩
  · replace w := w.1 c
    exact vp_X4_spread_J127 h w
  · replace w := w.2 c
    exact vp_X4_spread_J127 h w
set_option maxRecDepth 100000 in
theorem vw_X4_spread_J84 {uo : MS} {U84 : MS} {v84_0 : Nat} {v84_1 : Int32} {v84_4 : Int32} {v84_5 : Int32} {v84_6 : Int32} (h : v_X4_spread_J84 uo U84 v84_0 v84_1 v84_4 v84_5 v84_6) : w_X4_spread_J84 (fun u => u = uo) U84 v84_0 v84_1 v84_4 v84_5 v84_6 := by
  unfold v_X4_spread_J84 at h
  unfold w_X4_spread_J84
  intro _ _ _ _
  replace h := h.2.2.2.2
  rcases h with ⟨c, h⟩ | ⟨c, h⟩
  · refine ⟨fun _ => ?_, fun c2 => absurd c c2⟩
    exact vw_X4_spread_J110 h
  · refine ⟨fun c2 => absurd c2 c, fun _ => ?_⟩
    obtain ⟨g9, h⟩ := h
    refine ⟨g9, ?_⟩
    rcases h with ⟨c, h⟩ | ⟨c, h⟩
    · refine ⟨fun _ => ?_, fun c2 => absurd c c2⟩
      exact vw_X4_spread_J110 h
    · refine ⟨fun c2 => absurd c2 c, fun _ => ?_⟩
      exact vw_X4_spread_J102 h
set_option maxRecDepth 100000 in
theorem vp_X4_spread_J84 {uo : MS} {P : MS → Prop} {U84 : MS} {v84_0 : Nat} {v84_1 : Int32} {v84_4 : Int32} {v84_5 : Int32} {v84_6 : Int32} (h : v_X4_spread_J84 uo U84 v84_0 v84_1 v84_4 v84_5 v84_6) (w : w_X4_spread_J84 P U84 v84_0 v84_1 v84_4 v84_5 v84_6) : P uo := by
  unfold v_X4_spread_J84 at h
  unfold w_X4_spread_J84 at w
  obtain ⟨y38_, y39_, y40_, y41_, h⟩ := h
  replace w := w y38_ y39_ y40_ y41_
  rcases h with ⟨c, h⟩ | ⟨c, h⟩
  · replace w := w.1 c
    exact vp_X4_spread_J110 h w
  · replace w := w.2 c
    replace h := h.2
    replace w := w.2
    rcases h with ⟨c, h⟩ | ⟨c, h⟩
    · replace w := w.1 c
      exact vp_X4_spread_J110 h w
    · replace w := w.2 c
      exact vp_X4_spread_J102 h w
set_option maxRecDepth 100000 in
theorem vwX4_spread {S : MS} {p0 : Nat} {x1 : Int32} {x2 : Int32} {uo : MS} (h : vX4_spread S p0 x1 x2 uo) : wX4_spread S p0 x1 x2 (fun u => u = uo) := by
  unfold vX4_spread at h
  unfold wX4_spread
  obtain ⟨g9, h⟩ := h
  refine ⟨g9, ?_⟩
  obtain ⟨g9, h⟩ := h
  refine ⟨g9, ?_⟩
  obtain ⟨g9, h⟩ := h
  refine ⟨g9, ?_⟩
  obtain ⟨v9, e9, h⟩ := h
  intro x9 d9 
  have c9 : v9 = x9 := e9.trans d9.symm
  subst c9
  obtain ⟨p9, q9, z9, h⟩ := h
  refine ⟨_, vwX6_placesOf z9, ?_⟩
  rintro p8 q8 ⟨d8, d9⟩ _ _
  subst d8
  subst d9
  replace h := h.2.2
  obtain ⟨g9, h⟩ := h
  refine ⟨g9, ?_⟩
  obtain ⟨g9, h⟩ := h
  refine ⟨g9, ?_⟩
  intro _ _
  replace h := h.2.2
  obtain ⟨p9, q9, z9, h⟩ := h
  refine ⟨_, vwX10_placesGiven z9, ?_⟩
  rintro p8 q8 ⟨d8, d9⟩ _ _
  subst d8
  subst d9
  replace h := h.2.2
  obtain ⟨v9, e9, h⟩ := h
  intro x9 d9 
  have c9 : v9 = x9 := e9.trans d9.symm
  subst c9
  obtain ⟨g9, h⟩ := h
  refine ⟨g9, ?_⟩
  intro _
  replace h := h.2
  obtain ⟨p9, q9, z9, h⟩ := h
  refine ⟨_, vwX8_isCaught z9, ?_⟩
  rintro p8 q8 ⟨d8, d9⟩ _ _
  subst d8
  subst d9
  replace h := h.2.2
  obtain ⟨g9, h⟩ := h
  refine ⟨g9, ?_⟩
  obtain ⟨g9, h⟩ := h
  refine ⟨g9, ?_⟩
  obtain ⟨v9, e9, h⟩ := h
  intro x9 d9 
  have c9 : v9 = x9 := e9.trans d9.symm
  subst c9
  obtain ⟨g9, h⟩ := h
  refine ⟨g9, ?_⟩
  obtain ⟨v9, e9, h⟩ := h
  intro x9 d9 
  have c9 : v9 = x9 := e9.trans d9.symm
  subst c9
  rcases h with ⟨c, h⟩ | ⟨c, h⟩
  · refine ⟨fun _ => ?_, fun c2 => absurd c c2⟩
    exact vw_X4_spread_J102 h
  · refine ⟨fun c2 => absurd c2 c, fun _ => ?_⟩
    rcases h with ⟨c, h⟩ | ⟨c, h⟩
    · refine ⟨fun _ => ?_, fun c2 => absurd c c2⟩
      exact vw_X4_spread_J102 h
    · refine ⟨fun c2 => absurd c2 c, fun _ => ?_⟩
      rcases h with ⟨c, h⟩ | ⟨c, h⟩
      · refine ⟨fun _ => ?_, fun c2 => absurd c c2⟩
        exact vw_X4_spread_J84 h
      · refine ⟨fun c2 => absurd c2 c, fun _ => ?_⟩
        rcases h with ⟨c, h⟩ | ⟨c, h⟩
        · refine ⟨fun _ => ?_, fun c2 => absurd c c2⟩
          exact vw_X4_spread_J102 h
        · refine ⟨fun c2 => absurd c2 c, fun _ => ?_⟩
          exact vw_X4_spread_J84 h
set_option maxRecDepth 100000 in
theorem vpX4_spread {S : MS} {p0 : Nat} {x1 : Int32} {x2 : Int32} {uo : MS} {P : MS → Prop} (h : vX4_spread S p0 x1 x2 uo) (w : wX4_spread S p0 x1 x2 P) : P uo := by
  unfold vX4_spread at h
  unfold wX4_spread at w
  replace h := h.2
  replace w := w.2
  replace h := h.2
  replace w := w.2
  replace h := h.2
  replace w := w.2
  obtain ⟨v9, e9, h⟩ := h
  replace w := w v9 e9 
  obtain ⟨p9, q9, z9, y42_, y43_, h⟩ := h
  obtain ⟨Q9, w0, w⟩ := w
  replace w := w p9 q9 (vpX6_placesOf z9 w0) y42_ y43_
  replace h := h.2
  replace w := w.2
  replace h := h.2
  replace w := w.2
  obtain ⟨y44_, y45_, h⟩ := h
  replace w := w y44_ y45_
  obtain ⟨p9, q9, z9, y46_, y47_, h⟩ := h
  obtain ⟨Q9, w0, w⟩ := w
  replace w := w p9 q9 (vpX10_placesGiven z9 w0) y46_ y47_
  obtain ⟨v9, e9, h⟩ := h
  replace w := w v9 e9 
  replace h := h.2
  replace w := w.2
  obtain ⟨y48_, h⟩ := h
  replace w := w y48_
  obtain ⟨p9, q9, z9, y49_, y50_, h⟩ := h
  obtain ⟨Q9, w0, w⟩ := w
  replace w := w p9 q9 (vpX8_isCaught z9 w0) y49_ y50_
  replace h := h.2
  replace w := w.2
  replace h := h.2
  replace w := w.2
  obtain ⟨v9, e9, h⟩ := h
  replace w := w v9 e9 
  replace h := h.2
  replace w := w.2
  obtain ⟨v9, e9, h⟩ := h
  replace w := w v9 e9 
  rcases h with ⟨c, h⟩ | ⟨c, h⟩
  · replace w := w.1 c
    exact vp_X4_spread_J102 h w
  · replace w := w.2 c
    rcases h with ⟨c, h⟩ | ⟨c, h⟩
    · replace w := w.1 c
      exact vp_X4_spread_J102 h w
    · replace w := w.2 c
      rcases h with ⟨c, h⟩ | ⟨c, h⟩
      · replace w := w.1 c
        exact vp_X4_spread_J84 h w
      · replace w := w.2 c
        rcases h with ⟨c, h⟩ | ⟨c, h⟩
        · replace w := w.1 c
          exact vp_X4_spread_J102 h w
        · replace w := w.2 c
          exact vp_X4_spread_J84 h w
