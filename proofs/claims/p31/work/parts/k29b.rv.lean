def v_goBoth (S : MS) (x1 : Int32) (x2 : Int32) (ro : Int32) (uo : MS) : Prop := (((0 : Int) ≤ x1.toInt ∧ x1.toInt < 1200) ∧ (∃ S2 : MS, S2 = wI S 81 x1.toInt.toNat (vp_nar .boolean (1 : Int32)) ∧ (((0 : Int) ≤ x2.toInt ∧ x2.toInt < 1200) ∧ (∃ S4 : MS, S4 = wI S2 81 x2.toInt.toNat (vp_nar .boolean (1 : Int32)) ∧ (ro = (1 : Int32) ∧ uo = S4)))))
set_option maxRecDepth 100000 in
theorem ru_goBoth {S : MS} {x1 : Int32} {x2 : Int32} {Q : Int32 → MS → Prop} (h : w_goBoth S x1 x2 Q) : ∃ ro uo, v_goBoth S x1 x2 ro uo ∧ Q ro uo := by
  have i0 : Unit := ()
  have K : ∀ (i : Unit) (ro : Int32) (uo : MS), v_goBoth S x1 x2 ro uo → v_goBoth S x1 x2 ro uo := fun _ _ _ z => z
  unfold w_goBoth at h
  obtain ⟨g1_, h⟩ := h
  replace K := fun i ro uo z => K i ro uo ⟨g1_, z⟩
  obtain ⟨S2, eS2⟩ : ∃ x9 : MS, x9 = wI S 81 x1.toInt.toNat (vp_nar .boolean (1 : Int32)) := ⟨_, rfl⟩
  replace h := h S2 eS2
  replace K := fun i ro uo z => K i ro uo ⟨S2, eS2, z⟩
  obtain ⟨g2_, h⟩ := h
  replace K := fun i ro uo z => K i ro uo ⟨g2_, z⟩
  obtain ⟨S4, eS4⟩ : ∃ x9 : MS, x9 = wI S2 81 x2.toInt.toNat (vp_nar .boolean (1 : Int32)) := ⟨_, rfl⟩
  replace h := h S4 eS4
  replace K := fun i ro uo z => K i ro uo ⟨S4, eS4, z⟩
  exact ⟨_, _, K i0 _ _ ⟨rfl, rfl⟩, h⟩
set_option maxRecDepth 100000 in
theorem vw_goBoth {S : MS} {x1 : Int32} {x2 : Int32} {ro : Int32} {uo : MS} (h : v_goBoth S x1 x2 ro uo) : w_goBoth S x1 x2 (fun r u => r = ro ∧ u = uo) := by
  unfold v_goBoth at h
  unfold w_goBoth
  obtain ⟨g9, h⟩ := h
  refine ⟨g9, ?_⟩
  obtain ⟨v9, e9, h⟩ := h
  intro x9 d9
  have c9 : v9 = x9 := e9.trans d9.symm
  subst c9
  obtain ⟨g9, h⟩ := h
  refine ⟨g9, ?_⟩
  obtain ⟨v9, e9, h⟩ := h
  intro x9 d9
  have c9 : v9 = x9 := e9.trans d9.symm
  subst c9
  exact ⟨h.1.symm, h.2.symm⟩
set_option maxRecDepth 100000 in
theorem vz_goBoth {S : MS} {x1 : Int32} {x2 : Int32} {ro : Int32} {uo : MS} {Q : Int32 → MS → Prop} (h : v_goBoth S x1 x2 ro uo) (w : w_goBoth S x1 x2 Q) : Q ro uo := by
  unfold v_goBoth at h
  unfold w_goBoth at w
  replace h := h.2
  replace w := w.2
  obtain ⟨v9, e9, h⟩ := h
  replace w := w v9 e9
  replace h := h.2
  replace w := w.2
  obtain ⟨v9, e9, h⟩ := h
  replace w := w v9 e9
  rw [h.1, h.2]
  exact w
def v_isBack_J73 (ro : Int32) (uo : MS) (U73 : MS) : Prop := (ro = (0 : Int32) ∧ uo = U73)
def v_isBack (S : MS) (x1 : Int32) (x2 : Int32) (ro : Int32) (uo : MS) : Prop := (((0 : Int) ≤ x1.toInt ∧ x1.toInt < 1200) ∧ (d_isStore S (qI S 78 x1.toInt.toNat) ∧ (((f_isStore S (qI S 78 x1.toInt.toNat)).toInt = 0 ∧ (v_isBack_J73 ro uo S)) ∨ (¬ (f_isStore S (qI S 78 x1.toInt.toNat)).toInt = 0 ∧ (((0 : Int) ≤ x2.toInt ∧ x2.toInt < 1200) ∧ (((0 : Int) ≤ x1.toInt ∧ x1.toInt < 1200) ∧ (((qI S 78 x2.toInt.toNat).toInt = ((qI S 78 x1.toInt.toNat) - (33 : Int32)).toInt ∧ (((0 : Int) ≤ x1.toInt ∧ x1.toInt < 1200) ∧ (((0 : Int) ≤ x2.toInt ∧ x2.toInt < 1200) ∧ (((qI S 79 x1.toInt.toNat).toInt = (qI S 79 x2.toInt.toNat).toInt ∧ (∃ (r19 : Int32) (S20 : MS), v_liveBehind S x2 r19 S20 ∧ (((0 : Int) ≤ x2.toInt ∧ x2.toInt < 1200) ∧ (((0 : Int) ≤ x2.toInt ∧ x2.toInt < 1200) ∧ (d_bitsOf S20 (qI S20 78 x2.toInt.toNat) (qI S20 79 x2.toInt.toNat) ∧ (((r19 &&& (f_bitsOf S20 (qI S20 78 x2.toInt.toNat) (qI S20 79 x2.toInt.toNat))).toInt = 0 ∧ (ro = (1 : Int32) ∧ uo = S20)) ∨ (¬ (r19 &&& (f_bitsOf S20 (qI S20 78 x2.toInt.toNat) (qI S20 79 x2.toInt.toNat))).toInt = 0 ∧ (v_isBack_J73 ro uo S20)))))))) ∨ (¬ (qI S 79 x1.toInt.toNat).toInt = (qI S 79 x2.toInt.toNat).toInt ∧ (v_isBack_J73 ro uo S)))))) ∨ (¬ (qI S 78 x2.toInt.toNat).toInt = ((qI S 78 x1.toInt.toNat) - (33 : Int32)).toInt ∧ (v_isBack_J73 ro uo S)))))))))
set_option maxRecDepth 100000 in
theorem ru_isBack_J73 {ι : Type} {P : Int32 → MS → Prop} {Q : Int32 → MS → Prop} {U73 : MS} (i0 : ι) (K : ∀ (i : ι) (ro : Int32) (uo : MS), v_isBack_J73 ro uo U73 → P ro uo) (h : w_isBack_J73 Q U73) : ∃ ro uo, P ro uo ∧ Q ro uo := by
  unfold w_isBack_J73 at h
  exact ⟨_, _, K i0 _ _ ⟨rfl, rfl⟩, h⟩
set_option maxRecDepth 100000 in
theorem ru_isBack {S : MS} {x1 : Int32} {x2 : Int32} {Q : Int32 → MS → Prop} (h : w_isBack S x1 x2 Q) : ∃ ro uo, v_isBack S x1 x2 ro uo ∧ Q ro uo := by
  have i0 : Unit := ()
  have K : ∀ (i : Unit) (ro : Int32) (uo : MS), v_isBack S x1 x2 ro uo → v_isBack S x1 x2 ro uo := fun _ _ _ z => z
  unfold w_isBack at h
  obtain ⟨g1_, h⟩ := h
  replace K := fun i ro uo z => K i ro uo ⟨g1_, z⟩
  obtain ⟨g2_, h⟩ := h
  replace K := fun i ro uo z => K i ro uo ⟨g2_, z⟩
  by_cases c : (f_isStore S (qI S 78 x1.toInt.toNat)).toInt = 0
  · replace h := h.1 c
    replace K := fun i ro uo z => K i ro uo (Or.inl ⟨c, z⟩)
    exact ru_isBack_J73 i0 K h
  · replace h := h.2 c
    replace K := fun i ro uo z => K i ro uo (Or.inr ⟨c, z⟩)
    obtain ⟨g3_, h⟩ := h
    replace K := fun i ro uo z => K i ro uo ⟨g3_, z⟩
    obtain ⟨g4_, h⟩ := h
    replace K := fun i ro uo z => K i ro uo ⟨g4_, z⟩
    by_cases c : (qI S 78 x2.toInt.toNat).toInt = ((qI S 78 x1.toInt.toNat) - (33 : Int32)).toInt
    · replace h := h.1 c
      replace K := fun i ro uo z => K i ro uo (Or.inl ⟨c, z⟩)
      obtain ⟨g5_, h⟩ := h
      replace K := fun i ro uo z => K i ro uo ⟨g5_, z⟩
      obtain ⟨g6_, h⟩ := h
      replace K := fun i ro uo z => K i ro uo ⟨g6_, z⟩
      by_cases c : (qI S 79 x1.toInt.toNat).toInt = (qI S 79 x2.toInt.toNat).toInt
      · replace h := h.1 c
        replace K := fun i ro uo z => K i ro uo (Or.inl ⟨c, z⟩)
        obtain ⟨Q9, h0, h⟩ := h
        obtain ⟨r19, S20, z9, g9⟩ := ru_liveBehind h0
        replace h := h r19 S20 g9
        replace K := fun i ro uo z => K i ro uo ⟨r19, S20, z9, z⟩
        obtain ⟨g7_, h⟩ := h
        replace K := fun i ro uo z => K i ro uo ⟨g7_, z⟩
        obtain ⟨g8_, h⟩ := h
        replace K := fun i ro uo z => K i ro uo ⟨g8_, z⟩
        obtain ⟨g9_, h⟩ := h
        replace K := fun i ro uo z => K i ro uo ⟨g9_, z⟩
        by_cases c : (r19 &&& (f_bitsOf S20 (qI S20 78 x2.toInt.toNat) (qI S20 79 x2.toInt.toNat))).toInt = 0
        · replace h := h.1 c
          replace K := fun i ro uo z => K i ro uo (Or.inl ⟨c, z⟩)
          exact ⟨_, _, K i0 _ _ ⟨rfl, rfl⟩, h⟩
        · replace h := h.2 c
          replace K := fun i ro uo z => K i ro uo (Or.inr ⟨c, z⟩)
          exact ru_isBack_J73 i0 K h
      · replace h := h.2 c
        replace K := fun i ro uo z => K i ro uo (Or.inr ⟨c, z⟩)
        exact ru_isBack_J73 i0 K h
    · replace h := h.2 c
      replace K := fun i ro uo z => K i ro uo (Or.inr ⟨c, z⟩)
      exact ru_isBack_J73 i0 K h
set_option maxRecDepth 100000 in
theorem vw_isBack_J73 {ro : Int32} {uo : MS} {U73 : MS} (h : v_isBack_J73 ro uo U73) : w_isBack_J73 (fun r u => r = ro ∧ u = uo) U73 := by
  unfold v_isBack_J73 at h
  unfold w_isBack_J73
  exact ⟨h.1.symm, h.2.symm⟩
set_option maxRecDepth 100000 in
theorem vz_isBack_J73 {ro : Int32} {uo : MS} {Q : Int32 → MS → Prop} {U73 : MS} (h : v_isBack_J73 ro uo U73) (w : w_isBack_J73 Q U73) : Q ro uo := by
  unfold v_isBack_J73 at h
  unfold w_isBack_J73 at w
  rw [h.1, h.2]
  exact w
set_option maxRecDepth 100000 in
theorem vw_isBack {S : MS} {x1 : Int32} {x2 : Int32} {ro : Int32} {uo : MS} (h : v_isBack S x1 x2 ro uo) : w_isBack S x1 x2 (fun r u => r = ro ∧ u = uo) := by
  unfold v_isBack at h
  unfold w_isBack
  obtain ⟨g9, h⟩ := h
  refine ⟨g9, ?_⟩
  obtain ⟨g9, h⟩ := h
  refine ⟨g9, ?_⟩
  rcases h with ⟨c, h⟩ | ⟨c, h⟩
  · refine ⟨fun _ => ?_, fun c2 => absurd c c2⟩
    exact vw_isBack_J73 h
  · refine ⟨fun c2 => absurd c2 c, fun _ => ?_⟩
    obtain ⟨g9, h⟩ := h
    refine ⟨g9, ?_⟩
    obtain ⟨g9, h⟩ := h
    refine ⟨g9, ?_⟩
    rcases h with ⟨c, h⟩ | ⟨c, h⟩
    · refine ⟨fun _ => ?_, fun c2 => absurd c c2⟩
      obtain ⟨g9, h⟩ := h
      refine ⟨g9, ?_⟩
      obtain ⟨g9, h⟩ := h
      refine ⟨g9, ?_⟩
      rcases h with ⟨c, h⟩ | ⟨c, h⟩
      · refine ⟨fun _ => ?_, fun c2 => absurd c c2⟩
        obtain ⟨p9, q9, z9, h⟩ := h
        refine ⟨_, vw_liveBehind z9, ?_⟩
        rintro p8 q8 ⟨d8, d9⟩
        subst d8
        subst d9
        obtain ⟨g9, h⟩ := h
        refine ⟨g9, ?_⟩
        obtain ⟨g9, h⟩ := h
        refine ⟨g9, ?_⟩
        obtain ⟨g9, h⟩ := h
        refine ⟨g9, ?_⟩
        rcases h with ⟨c, h⟩ | ⟨c, h⟩
        · refine ⟨fun _ => ?_, fun c2 => absurd c c2⟩
          exact ⟨h.1.symm, h.2.symm⟩
        · refine ⟨fun c2 => absurd c2 c, fun _ => ?_⟩
          exact vw_isBack_J73 h
      · refine ⟨fun c2 => absurd c2 c, fun _ => ?_⟩
        exact vw_isBack_J73 h
    · refine ⟨fun c2 => absurd c2 c, fun _ => ?_⟩
      exact vw_isBack_J73 h
set_option maxRecDepth 100000 in
theorem vz_isBack {S : MS} {x1 : Int32} {x2 : Int32} {ro : Int32} {uo : MS} {Q : Int32 → MS → Prop} (h : v_isBack S x1 x2 ro uo) (w : w_isBack S x1 x2 Q) : Q ro uo := by
  unfold v_isBack at h
  unfold w_isBack at w
  replace h := h.2
  replace w := w.2
  replace h := h.2
  replace w := w.2
  rcases h with ⟨c, h⟩ | ⟨c, h⟩
  · replace w := w.1 c
    exact vz_isBack_J73 h w
  · replace w := w.2 c
    replace h := h.2
    replace w := w.2
    replace h := h.2
    replace w := w.2
    rcases h with ⟨c, h⟩ | ⟨c, h⟩
    · replace w := w.1 c
      replace h := h.2
      replace w := w.2
      replace h := h.2
      replace w := w.2
      rcases h with ⟨c, h⟩ | ⟨c, h⟩
      · replace w := w.1 c
        obtain ⟨p9, q9, z9, h⟩ := h
        obtain ⟨Q9, w0, w⟩ := w
        replace w := w p9 q9 (vz_liveBehind z9 w0)
        replace h := h.2
        replace w := w.2
        replace h := h.2
        replace w := w.2
        replace h := h.2
        replace w := w.2
        rcases h with ⟨c, h⟩ | ⟨c, h⟩
        · replace w := w.1 c
          rw [h.1, h.2]
          exact w
        · replace w := w.2 c
          exact vz_isBack_J73 h w
      · replace w := w.2 c
        exact vz_isBack_J73 h w
    · replace w := w.2 c
      exact vz_isBack_J73 h w
def v_lastOne_L7 (ro : Int32) (uo : MS) : Nat → MS → Int32 → Prop
  | 0, _, _ => False
  | n7 + 1, U7, v7_1 => (((0 : Int) ≤ v7_1.toInt ∧ v7_1.toInt < 1200) ∧ (((qI U7 81 v7_1.toInt.toNat).toInt = 0 ∧ (ro = v7_1 ∧ uo = U7)) ∨ (¬ (qI U7 81 v7_1.toInt.toNat).toInt = 0 ∧ (∃ a6 : Int32, a6 = (v7_1 + Int32.ofInt (-1)) ∧ ((v_lastOne_L7 ro uo n7) U7 a6)))))
def v_lastOne (S : MS) (ro : Int32) (uo : MS) : Prop := (∃ a2 : Int32, a2 = ((qI S 0 129) - (1 : Int32)) ∧ (∃ n, v_lastOne_L7 ro uo n S a2))
set_option maxRecDepth 100000 in
theorem ru_lastOne_L7 {ι : Type} {P : Int32 → MS → Prop} {Q : Int32 → MS → Prop} : ∀ (n : Nat) {U7 : MS} {v7_1 : Int32} (i0 : ι), (∀ (i : ι) (ro : Int32) (uo : MS), (∃ n8, v_lastOne_L7 ro uo n8 U7 v7_1) → P ro uo) → w_lastOne_L7 Q n U7 v7_1 → ∃ ro uo, P ro uo ∧ Q ro uo := by
  intro n
  induction n with
  | zero => intro U7 v7_1 i0 K h; unfold w_lastOne_L7 at h; exact h.elim
  | succ n ih =>
    intro U7 v7_1 i0 K h
    unfold w_lastOne_L7 at h
    replace K := fun (i : ι × Nat) ro uo (z : v_lastOne_L7 ro uo (i.2 + 1) U7 v7_1) => K i.1 ro uo ⟨i.2 + 1, z⟩
    have i00 := i0
    replace i0 : ι × Nat := (i0, 0)
    obtain ⟨g1_, h⟩ := h
    replace K := fun i ro uo z => K i ro uo ⟨g1_, z⟩
    by_cases c : (qI U7 81 v7_1.toInt.toNat).toInt = 0
    · replace h := h.1 c
      replace K := fun i ro uo z => K i ro uo (Or.inl ⟨c, z⟩)
      exact ⟨_, _, K i0 _ _ ⟨rfl, rfl⟩, h⟩
    · replace h := h.2 c
      replace K := fun i ro uo z => K i ro uo (Or.inr ⟨c, z⟩)
      obtain ⟨a6, ea6⟩ : ∃ x9 : Int32, x9 = (v7_1 + Int32.ofInt (-1)) := ⟨_, rfl⟩
      replace h := h a6 ea6
      replace K := fun i ro uo z => K i ro uo ⟨a6, ea6, z⟩
      exact ih i00 (fun i ro uo ⟨n8, z⟩ => K (i, n8) ro uo z) h
set_option maxRecDepth 100000 in
theorem ru_lastOne {S : MS} {Q : Int32 → MS → Prop} (h : w_lastOne S Q) : ∃ ro uo, v_lastOne S ro uo ∧ Q ro uo := by
  have i0 : Unit := ()
  have K : ∀ (i : Unit) (ro : Int32) (uo : MS), v_lastOne S ro uo → v_lastOne S ro uo := fun _ _ _ z => z
  unfold w_lastOne at h
  obtain ⟨a2, ea2⟩ : ∃ x9 : Int32, x9 = ((qI S 0 129) - (1 : Int32)) := ⟨_, rfl⟩
  replace h := h a2 ea2
  replace K := fun i ro uo z => K i ro uo ⟨a2, ea2, z⟩
  obtain ⟨n9, h⟩ := h
  exact ru_lastOne_L7 n9 i0 K h
set_option maxRecDepth 100000 in
theorem vw_lastOne_L7 {ro : Int32} {uo : MS} : ∀ (n : Nat) {U7 : MS} {v7_1 : Int32}, v_lastOne_L7 ro uo n U7 v7_1 → w_lastOne_L7 (fun r u => r = ro ∧ u = uo) n U7 v7_1 := by
  intro n
  induction n with
  | zero => intro U7 v7_1 h; unfold v_lastOne_L7 at h; exact h.elim
  | succ n ih =>
    intro U7 v7_1 h
    unfold v_lastOne_L7 at h
    unfold w_lastOne_L7
    obtain ⟨g9, h⟩ := h
    refine ⟨g9, ?_⟩
    rcases h with ⟨c, h⟩ | ⟨c, h⟩
    · refine ⟨fun _ => ?_, fun c2 => absurd c c2⟩
      exact ⟨h.1.symm, h.2.symm⟩
    · refine ⟨fun c2 => absurd c2 c, fun _ => ?_⟩
      obtain ⟨v9, e9, h⟩ := h
      intro x9 d9
      have c9 : v9 = x9 := e9.trans d9.symm
      subst c9
      exact ih h
set_option maxRecDepth 100000 in
theorem vz_lastOne_L7 {ro : Int32} {uo : MS} {Q : Int32 → MS → Prop} : ∀ (n m : Nat) {U7 : MS} {v7_1 : Int32}, v_lastOne_L7 ro uo n U7 v7_1 → w_lastOne_L7 Q m U7 v7_1 → Q ro uo := by
  intro n
  induction n with
  | zero => intro m U7 v7_1 h; unfold v_lastOne_L7 at h; exact h.elim
  | succ n ih =>
    intro m U7 v7_1 h w
    cases m with
    | zero => unfold w_lastOne_L7 at w; exact w.elim
    | succ m =>
      unfold v_lastOne_L7 at h
      unfold w_lastOne_L7 at w
      replace h := h.2
      replace w := w.2
      rcases h with ⟨c, h⟩ | ⟨c, h⟩
      · replace w := w.1 c
        rw [h.1, h.2]
        exact w
      · replace w := w.2 c
        obtain ⟨v9, e9, h⟩ := h
        replace w := w v9 e9
        exact ih m h w
set_option maxRecDepth 100000 in
theorem vw_lastOne {S : MS} {ro : Int32} {uo : MS} (h : v_lastOne S ro uo) : w_lastOne S (fun r u => r = ro ∧ u = uo) := by
  unfold v_lastOne at h
  unfold w_lastOne
  obtain ⟨v9, e9, h⟩ := h
  intro x9 d9
  have c9 : v9 = x9 := e9.trans d9.symm
  subst c9
  obtain ⟨n9, h⟩ := h
  exact ⟨n9, vw_lastOne_L7 n9 h⟩
set_option maxRecDepth 100000 in
theorem vz_lastOne {S : MS} {ro : Int32} {uo : MS} {Q : Int32 → MS → Prop} (h : v_lastOne S ro uo) (w : w_lastOne S Q) : Q ro uo := by
  unfold v_lastOne at h
  unfold w_lastOne at w
  obtain ⟨v9, e9, h⟩ := h
  replace w := w v9 e9
  obtain ⟨n9, h⟩ := h
  obtain ⟨n8, w⟩ := w
  exact vz_lastOne_L7 n9 n8 h w
def v_leads_L12 (ro : Int32) (uo : MS) : Nat → MS → Int32 → Prop
  | 0, _, _ => False
  | n12 + 1, U12, v12_2 => (((0 : Int) ≤ v12_2.toInt ∧ v12_2.toInt < 1200) ∧ (((qI U12 78 v12_2.toInt.toNat).toInt = 167 ∧ (((0 : Int) ≤ v12_2.toInt ∧ v12_2.toInt < 1200) ∧ (((qI U12 89 v12_2.toInt.toNat).toInt = (qI U12 0 139).toInt ∧ (ro = (-1 : Int32) ∧ uo = U12)) ∨ (¬ (qI U12 89 v12_2.toInt.toNat).toInt = (qI U12 0 139).toInt ∧ (((0 : Int) ≤ v12_2.toInt ∧ v12_2.toInt < 1200) ∧ (∃ S10 : MS, S10 = wI U12 89 v12_2.toInt.toNat (qI U12 0 139) ∧ (∃ (r12 : Int32) (S13 : MS), v_wayOf S10 v12_2 (0 : Int32) r12 S13 ∧ ((v_leads_L12 ro uo n12) S13 r12)))))))) ∨ (¬ (qI U12 78 v12_2.toInt.toNat).toInt = 167 ∧ (ro = v12_2 ∧ uo = U12))))
def v_leads (S : MS) (x1 : Int32) (ro : Int32) (uo : MS) : Prop := (∃ S2 : MS, S2 = wI S 0 139 ((qI S 0 139) + (1 : Int32)) ∧ (∃ n, v_leads_L12 ro uo n S2 x1))
set_option maxRecDepth 100000 in
theorem ru_leads_L12 {ι : Type} {P : Int32 → MS → Prop} {Q : Int32 → MS → Prop} : ∀ (n : Nat) {U12 : MS} {v12_2 : Int32} (i0 : ι), (∀ (i : ι) (ro : Int32) (uo : MS), (∃ n8, v_leads_L12 ro uo n8 U12 v12_2) → P ro uo) → w_leads_L12 Q n U12 v12_2 → ∃ ro uo, P ro uo ∧ Q ro uo := by
  intro n
  induction n with
  | zero => intro U12 v12_2 i0 K h; unfold w_leads_L12 at h; exact h.elim
  | succ n ih =>
    intro U12 v12_2 i0 K h
    unfold w_leads_L12 at h
    replace K := fun (i : ι × Nat) ro uo (z : v_leads_L12 ro uo (i.2 + 1) U12 v12_2) => K i.1 ro uo ⟨i.2 + 1, z⟩
    have i00 := i0
    replace i0 : ι × Nat := (i0, 0)
    obtain ⟨g1_, h⟩ := h
    replace K := fun i ro uo z => K i ro uo ⟨g1_, z⟩
    by_cases c : (qI U12 78 v12_2.toInt.toNat).toInt = 167
    · replace h := h.1 c
      replace K := fun i ro uo z => K i ro uo (Or.inl ⟨c, z⟩)
      obtain ⟨g2_, h⟩ := h
      replace K := fun i ro uo z => K i ro uo ⟨g2_, z⟩
      by_cases c : (qI U12 89 v12_2.toInt.toNat).toInt = (qI U12 0 139).toInt
      · replace h := h.1 c
        replace K := fun i ro uo z => K i ro uo (Or.inl ⟨c, z⟩)
        exact ⟨_, _, K i0 _ _ ⟨rfl, rfl⟩, h⟩
      · replace h := h.2 c
        replace K := fun i ro uo z => K i ro uo (Or.inr ⟨c, z⟩)
        obtain ⟨g3_, h⟩ := h
        replace K := fun i ro uo z => K i ro uo ⟨g3_, z⟩
        obtain ⟨S10, eS10⟩ : ∃ x9 : MS, x9 = wI U12 89 v12_2.toInt.toNat (qI U12 0 139) := ⟨_, rfl⟩
        replace h := h S10 eS10
        replace K := fun i ro uo z => K i ro uo ⟨S10, eS10, z⟩
        obtain ⟨Q9, h0, h⟩ := h
        obtain ⟨r12, S13, z9, g9⟩ := ru_wayOf h0
        replace h := h r12 S13 g9
        replace K := fun i ro uo z => K i ro uo ⟨r12, S13, z9, z⟩
        exact ih i00 (fun i ro uo ⟨n8, z⟩ => K (i, n8) ro uo z) h
    · replace h := h.2 c
      replace K := fun i ro uo z => K i ro uo (Or.inr ⟨c, z⟩)
      exact ⟨_, _, K i0 _ _ ⟨rfl, rfl⟩, h⟩
set_option maxRecDepth 100000 in
theorem ru_leads {S : MS} {x1 : Int32} {Q : Int32 → MS → Prop} (h : w_leads S x1 Q) : ∃ ro uo, v_leads S x1 ro uo ∧ Q ro uo := by
  have i0 : Unit := ()
  have K : ∀ (i : Unit) (ro : Int32) (uo : MS), v_leads S x1 ro uo → v_leads S x1 ro uo := fun _ _ _ z => z
  unfold w_leads at h
  obtain ⟨S2, eS2⟩ : ∃ x9 : MS, x9 = wI S 0 139 ((qI S 0 139) + (1 : Int32)) := ⟨_, rfl⟩
  replace h := h S2 eS2
  replace K := fun i ro uo z => K i ro uo ⟨S2, eS2, z⟩
  obtain ⟨n9, h⟩ := h
  exact ru_leads_L12 n9 i0 K h
set_option maxRecDepth 100000 in
theorem vw_leads_L12 {ro : Int32} {uo : MS} : ∀ (n : Nat) {U12 : MS} {v12_2 : Int32}, v_leads_L12 ro uo n U12 v12_2 → w_leads_L12 (fun r u => r = ro ∧ u = uo) n U12 v12_2 := by
  intro n
  induction n with
  | zero => intro U12 v12_2 h; unfold v_leads_L12 at h; exact h.elim
  | succ n ih =>
    intro U12 v12_2 h
    unfold v_leads_L12 at h
    unfold w_leads_L12
    obtain ⟨g9, h⟩ := h
    refine ⟨g9, ?_⟩
    rcases h with ⟨c, h⟩ | ⟨c, h⟩
    · refine ⟨fun _ => ?_, fun c2 => absurd c c2⟩
      obtain ⟨g9, h⟩ := h
      refine ⟨g9, ?_⟩
      rcases h with ⟨c, h⟩ | ⟨c, h⟩
      · refine ⟨fun _ => ?_, fun c2 => absurd c c2⟩
        exact ⟨h.1.symm, h.2.symm⟩
      · refine ⟨fun c2 => absurd c2 c, fun _ => ?_⟩
        obtain ⟨g9, h⟩ := h
        refine ⟨g9, ?_⟩
        obtain ⟨v9, e9, h⟩ := h
        intro x9 d9
        have c9 : v9 = x9 := e9.trans d9.symm
        subst c9
        obtain ⟨p9, q9, z9, h⟩ := h
        refine ⟨_, vw_wayOf z9, ?_⟩
        rintro p8 q8 ⟨d8, d9⟩
        subst d8
        subst d9
        exact ih h
    · refine ⟨fun c2 => absurd c2 c, fun _ => ?_⟩
      exact ⟨h.1.symm, h.2.symm⟩
set_option maxRecDepth 100000 in
theorem vz_leads_L12 {ro : Int32} {uo : MS} {Q : Int32 → MS → Prop} : ∀ (n m : Nat) {U12 : MS} {v12_2 : Int32}, v_leads_L12 ro uo n U12 v12_2 → w_leads_L12 Q m U12 v12_2 → Q ro uo := by
  intro n
  induction n with
  | zero => intro m U12 v12_2 h; unfold v_leads_L12 at h; exact h.elim
  | succ n ih =>
    intro m U12 v12_2 h w
    cases m with
    | zero => unfold w_leads_L12 at w; exact w.elim
    | succ m =>
      unfold v_leads_L12 at h
      unfold w_leads_L12 at w
      replace h := h.2
      replace w := w.2
      rcases h with ⟨c, h⟩ | ⟨c, h⟩
      · replace w := w.1 c
        replace h := h.2
        replace w := w.2
        rcases h with ⟨c, h⟩ | ⟨c, h⟩
        · replace w := w.1 c
          rw [h.1, h.2]
          exact w
        · replace w := w.2 c
          replace h := h.2
          replace w := w.2
          obtain ⟨v9, e9, h⟩ := h
          replace w := w v9 e9
          obtain ⟨p9, q9, z9, h⟩ := h
          obtain ⟨Q9, w0, w⟩ := w
          replace w := w p9 q9 (vz_wayOf z9 w0)
          exact ih m h w
      · replace w := w.2 c
        rw [h.1, h.2]
        exact w
set_option maxRecDepth 100000 in
theorem vw_leads {S : MS} {x1 : Int32} {ro : Int32} {uo : MS} (h : v_leads S x1 ro uo) : w_leads S x1 (fun r u => r = ro ∧ u = uo) := by
  unfold v_leads at h
  unfold w_leads
  obtain ⟨v9, e9, h⟩ := h
  intro x9 d9
  have c9 : v9 = x9 := e9.trans d9.symm
  subst c9
  obtain ⟨n9, h⟩ := h
  exact ⟨n9, vw_leads_L12 n9 h⟩
set_option maxRecDepth 100000 in
theorem vz_leads {S : MS} {x1 : Int32} {ro : Int32} {uo : MS} {Q : Int32 → MS → Prop} (h : v_leads S x1 ro uo) (w : w_leads S x1 Q) : Q ro uo := by
  unfold v_leads at h
  unfold w_leads at w
  obtain ⟨v9, e9, h⟩ := h
  replace w := w v9 e9
  obtain ⟨n9, h⟩ := h
  obtain ⟨n8, w⟩ := w
  exact vz_leads_L12 n9 n8 h w
def v_setWay (S : MS) (x1 : Int32) (x2 : Int32) (x3 : Int32) (uo : MS) : Prop := (((0 : Int) ≤ x1.toInt ∧ x1.toInt < 1200) ∧ (d_isJump S (qI S 78 x1.toInt.toNat) ∧ (((f_isJump S (qI S 78 x1.toInt.toNat)).toInt = 0 ∧ (((0 : Int) ≤ x1.toInt ∧ x1.toInt < 1200) ∧ (((0 : Int) ≤ ((qI S 79 x1.toInt.toNat) + ((2 : Int32) * x2)).toInt ∧ ((qI S 79 x1.toInt.toNat) + ((2 : Int32) * x2)).toInt < 40000) ∧ (∃ S12 : MS, S12 = wI S 75 ((((qI S 79 x1.toInt.toNat) + ((2 : Int32) * x2)).toInt).toNat) x3 ∧ (uo = S12))))) ∨ (¬ (f_isJump S (qI S 78 x1.toInt.toNat)).toInt = 0 ∧ (((0 : Int) ≤ x1.toInt ∧ x1.toInt < 1200) ∧ (∃ S14 : MS, S14 = wI S 79 x1.toInt.toNat x3 ∧ (uo = S14)))))))
set_option maxRecDepth 100000 in
theorem ru_setWay {S : MS} {x1 : Int32} {x2 : Int32} {x3 : Int32} {Q : MS → Prop} (h : w_setWay S x1 x2 x3 Q) : ∃ uo, v_setWay S x1 x2 x3 uo ∧ Q uo := by
  have i0 : Unit := ()
  have K : ∀ (i : Unit) (uo : MS), v_setWay S x1 x2 x3 uo → v_setWay S x1 x2 x3 uo := fun _ _ z => z
  unfold w_setWay at h
  obtain ⟨g1_, h⟩ := h
  replace K := fun i uo z => K i uo ⟨g1_, z⟩
  obtain ⟨g2_, h⟩ := h
  replace K := fun i uo z => K i uo ⟨g2_, z⟩
  by_cases c : (f_isJump S (qI S 78 x1.toInt.toNat)).toInt = 0
  · replace h := h.1 c
    replace K := fun i uo z => K i uo (Or.inl ⟨c, z⟩)
    obtain ⟨g3_, h⟩ := h
    replace K := fun i uo z => K i uo ⟨g3_, z⟩
    obtain ⟨g4_, h⟩ := h
    replace K := fun i uo z => K i uo ⟨g4_, z⟩
    obtain ⟨S12, eS12⟩ : ∃ x9 : MS, x9 = wI S 75 ((((qI S 79 x1.toInt.toNat) + ((2 : Int32) * x2)).toInt).toNat) x3 := ⟨_, rfl⟩
    replace h := h S12 eS12
    replace K := fun i uo z => K i uo ⟨S12, eS12, z⟩
    exact ⟨_, K i0 _ rfl, h⟩
  · replace h := h.2 c
    replace K := fun i uo z => K i uo (Or.inr ⟨c, z⟩)
    obtain ⟨g5_, h⟩ := h
    replace K := fun i uo z => K i uo ⟨g5_, z⟩
    obtain ⟨S14, eS14⟩ : ∃ x9 : MS, x9 = wI S 79 x1.toInt.toNat x3 := ⟨_, rfl⟩
    replace h := h S14 eS14
    replace K := fun i uo z => K i uo ⟨S14, eS14, z⟩
    exact ⟨_, K i0 _ rfl, h⟩
set_option maxRecDepth 100000 in
theorem vw_setWay {S : MS} {x1 : Int32} {x2 : Int32} {x3 : Int32} {uo : MS} (h : v_setWay S x1 x2 x3 uo) : w_setWay S x1 x2 x3 (fun u => u = uo) := by
  unfold v_setWay at h
  unfold w_setWay
  obtain ⟨g9, h⟩ := h
  refine ⟨g9, ?_⟩
  obtain ⟨g9, h⟩ := h
  refine ⟨g9, ?_⟩
  rcases h with ⟨c, h⟩ | ⟨c, h⟩
  · refine ⟨fun _ => ?_, fun c2 => absurd c c2⟩
    obtain ⟨g9, h⟩ := h
    refine ⟨g9, ?_⟩
    obtain ⟨g9, h⟩ := h
    refine ⟨g9, ?_⟩
    obtain ⟨v9, e9, h⟩ := h
    intro x9 d9
    have c9 : v9 = x9 := e9.trans d9.symm
    subst c9
    exact h.symm
  · refine ⟨fun c2 => absurd c2 c, fun _ => ?_⟩
    obtain ⟨g9, h⟩ := h
    refine ⟨g9, ?_⟩
    obtain ⟨v9, e9, h⟩ := h
    intro x9 d9
    have c9 : v9 = x9 := e9.trans d9.symm
    subst c9
    exact h.symm
set_option maxRecDepth 100000 in
theorem vz_setWay {S : MS} {x1 : Int32} {x2 : Int32} {x3 : Int32} {uo : MS} {Q : MS → Prop} (h : v_setWay S x1 x2 x3 uo) (w : w_setWay S x1 x2 x3 Q) : Q uo := by
  unfold v_setWay at h
  unfold w_setWay at w
  replace h := h.2
  replace w := w.2
  replace h := h.2
  replace w := w.2
  rcases h with ⟨c, h⟩ | ⟨c, h⟩
  · replace w := w.1 c
    replace h := h.2
    replace w := w.2
    replace h := h.2
    replace w := w.2
    obtain ⟨v9, e9, h⟩ := h
    replace w := w v9 e9
    rw [h]
    exact w
  · replace w := w.2 c
    replace h := h.2
    replace w := w.2
    obtain ⟨v9, e9, h⟩ := h
    replace w := w v9 e9
    rw [h]
    exact w
def v_threaded_J64 (ro : Int32) (uo : MS) (k4 : MS → Int32 → Int32 → Int32 → Prop) (U64 : MS) (v64_1 : Int32) (v64_2 : Int32) (v64_3 : Int32) : Prop := (∃ a13 : Int32, a13 = (v64_3 + Int32.ofInt 1) ∧ (k4 U64 v64_1 v64_2 a13))
def v_threaded_L4 (ro : Int32) (uo : MS) : Nat → MS → Int32 → Int32 → Int32 → Prop
  | 0, _, _, _, _ => False
  | n4 + 1, U4, v4_1, v4_2, v4_3 => (d_waysOf U4 v4_1 ∧ (((f_waysOf U4 v4_1).toInt ≤ v4_3.toInt ∧ (ro = v4_2 ∧ uo = U4)) ∨ (¬ (f_waysOf U4 v4_1).toInt ≤ v4_3.toInt ∧ (∃ (r6 : Int32) (S7 : MS), v_wayOf U4 v4_1 v4_3 r6 S7 ∧ (∃ (r10 : Int32) (S11 : MS), v_leads S7 r6 r10 S11 ∧ ((r10.toInt < 0 ∧ (v_threaded_J64 ro uo (v_threaded_L4 ro uo n4) S11 v4_1 v4_2 v4_3)) ∨ (¬ r10.toInt < 0 ∧ ((r10.toInt = r6.toInt ∧ (v_threaded_J64 ro uo (v_threaded_L4 ro uo n4) S11 v4_1 v4_2 v4_3)) ∨ (¬ r10.toInt = r6.toInt ∧ (∃ (S17 : MS), v_setWay S11 v4_1 v4_3 r10 S17 ∧ (∃ S21 : MS, S21 = wI S17 77 2 ((qI S17 77 2) + (1 : Int32)) ∧ (v_threaded_J64 ro uo (v_threaded_L4 ro uo n4) S21 v4_1 1 v4_3))))))))))))
def v_threaded (S : MS) (x1 : Int32) (ro : Int32) (uo : MS) : Prop := (∃ n, v_threaded_L4 ro uo n S x1 0 0)
set_option maxRecDepth 100000 in
theorem ru_threaded_J64 {ι : Type} {P : Int32 → MS → Prop} {Q : Int32 → MS → Prop} {k4 : MS → Int32 → Int32 → Int32 → Prop} {k4v : ι → Int32 → MS → MS → Int32 → Int32 → Int32 → Prop} {U64 : MS} {v64_1 : Int32} {v64_2 : Int32} {v64_3 : Int32} (i0 : ι) (hk4 : ∀ (u : MS) (z0 : Int32) (z1 : Int32) (z2 : Int32), k4 u z0 z1 z2 → (∀ (i : ι) (ro : Int32) (uo : MS), k4v i ro uo u z0 z1 z2 → P ro uo) → ∃ ro uo, P ro uo ∧ Q ro uo) (K : ∀ (i : ι) (ro : Int32) (uo : MS), v_threaded_J64 ro uo (k4v i ro uo) U64 v64_1 v64_2 v64_3 → P ro uo) (h : w_threaded_J64 Q k4 U64 v64_1 v64_2 v64_3) : ∃ ro uo, P ro uo ∧ Q ro uo := by
  unfold w_threaded_J64 at h
  obtain ⟨a13, ea13⟩ : ∃ x9 : Int32, x9 = (v64_3 + Int32.ofInt 1) := ⟨_, rfl⟩
  replace h := h a13 ea13
  replace K := fun i ro uo z => K i ro uo ⟨a13, ea13, z⟩
  exact hk4 _ _ _ _ h K
set_option maxRecDepth 100000 in
theorem ru_threaded_L4 {ι : Type} {P : Int32 → MS → Prop} {Q : Int32 → MS → Prop} : ∀ (n : Nat) {U4 : MS} {v4_1 : Int32} {v4_2 : Int32} {v4_3 : Int32} (i0 : ι), (∀ (i : ι) (ro : Int32) (uo : MS), (∃ n8, v_threaded_L4 ro uo n8 U4 v4_1 v4_2 v4_3) → P ro uo) → w_threaded_L4 Q n U4 v4_1 v4_2 v4_3 → ∃ ro uo, P ro uo ∧ Q ro uo := by
  intro n
  induction n with
  | zero => intro U4 v4_1 v4_2 v4_3 i0 K h; unfold w_threaded_L4 at h; exact h.elim
  | succ n ih =>
    intro U4 v4_1 v4_2 v4_3 i0 K h
    unfold w_threaded_L4 at h
    replace K := fun (i : ι × Nat) ro uo (z : v_threaded_L4 ro uo (i.2 + 1) U4 v4_1 v4_2 v4_3) => K i.1 ro uo ⟨i.2 + 1, z⟩
    have i00 := i0
    replace i0 : ι × Nat := (i0, 0)
    obtain ⟨g1_, h⟩ := h
    replace K := fun i ro uo z => K i ro uo ⟨g1_, z⟩
    by_cases c : (f_waysOf U4 v4_1).toInt ≤ v4_3.toInt
    · replace h := h.1 c
      replace K := fun i ro uo z => K i ro uo (Or.inl ⟨c, z⟩)
      exact ⟨_, _, K i0 _ _ ⟨rfl, rfl⟩, h⟩
    · replace h := h.2 c
      replace K := fun i ro uo z => K i ro uo (Or.inr ⟨c, z⟩)
      obtain ⟨Q9, h0, h⟩ := h
      obtain ⟨r6, S7, z9, g9⟩ := ru_wayOf h0
      replace h := h r6 S7 g9
      replace K := fun i ro uo z => K i ro uo ⟨r6, S7, z9, z⟩
      obtain ⟨Q9, h0, h⟩ := h
      obtain ⟨r10, S11, z9, g9⟩ := ru_leads h0
      replace h := h r10 S11 g9
      replace K := fun i ro uo z => K i ro uo ⟨r10, S11, z9, z⟩
      by_cases c : r10.toInt < 0
      · replace h := h.1 c
        replace K := fun i ro uo z => K i ro uo (Or.inl ⟨c, z⟩)
        exact ru_threaded_J64 i0 (fun _ _ _ _ h K => ih i00 (fun i ro uo ⟨n8, z⟩ => K (i, n8) ro uo z) h) K h
      · replace h := h.2 c
        replace K := fun i ro uo z => K i ro uo (Or.inr ⟨c, z⟩)
        by_cases c : r10.toInt = r6.toInt
        · replace h := h.1 c
          replace K := fun i ro uo z => K i ro uo (Or.inl ⟨c, z⟩)
          exact ru_threaded_J64 i0 (fun _ _ _ _ h K => ih i00 (fun i ro uo ⟨n8, z⟩ => K (i, n8) ro uo z) h) K h
        · replace h := h.2 c
          replace K := fun i ro uo z => K i ro uo (Or.inr ⟨c, z⟩)
          obtain ⟨Q9, h0, h⟩ := h
          obtain ⟨S17, z9, g9⟩ := ru_setWay h0
          replace h := h S17 g9
          replace K := fun i ro uo z => K i ro uo ⟨S17, z9, z⟩
          obtain ⟨S21, eS21⟩ : ∃ x9 : MS, x9 = wI S17 77 2 ((qI S17 77 2) + (1 : Int32)) := ⟨_, rfl⟩
          replace h := h S21 eS21
          replace K := fun i ro uo z => K i ro uo ⟨S21, eS21, z⟩
          exact ru_threaded_J64 i0 (fun _ _ _ _ h K => ih i00 (fun i ro uo ⟨n8, z⟩ => K (i, n8) ro uo z) h) K h
set_option maxRecDepth 100000 in
theorem ru_threaded {S : MS} {x1 : Int32} {Q : Int32 → MS → Prop} (h : w_threaded S x1 Q) : ∃ ro uo, v_threaded S x1 ro uo ∧ Q ro uo := by
  have i0 : Unit := ()
  have K : ∀ (i : Unit) (ro : Int32) (uo : MS), v_threaded S x1 ro uo → v_threaded S x1 ro uo := fun _ _ _ z => z
  unfold w_threaded at h
  obtain ⟨n9, h⟩ := h
  exact ru_threaded_L4 n9 i0 K h
set_option maxRecDepth 100000 in
theorem vw_threaded_J64 {ro : Int32} {uo : MS} {k4 k4v : MS → Int32 → Int32 → Int32 → Prop} {U64 : MS} {v64_1 : Int32} {v64_2 : Int32} {v64_3 : Int32} (hk4 : ∀ (u : MS) (z0 : Int32) (z1 : Int32) (z2 : Int32), k4v u z0 z1 z2 → k4 u z0 z1 z2) (h : v_threaded_J64 ro uo k4v U64 v64_1 v64_2 v64_3) : w_threaded_J64 (fun r u => r = ro ∧ u = uo) k4 U64 v64_1 v64_2 v64_3 := by
  unfold v_threaded_J64 at h
  unfold w_threaded_J64
  obtain ⟨v9, e9, h⟩ := h
  intro x9 d9
  have c9 : v9 = x9 := e9.trans d9.symm
  subst c9
  exact hk4 _ _ _ _ h
set_option maxRecDepth 100000 in
theorem vz_threaded_J64 {ro : Int32} {uo : MS} {Q : Int32 → MS → Prop} {k4 k4v : MS → Int32 → Int32 → Int32 → Prop} {U64 : MS} {v64_1 : Int32} {v64_2 : Int32} {v64_3 : Int32} (hk4 : ∀ (u : MS) (z0 : Int32) (z1 : Int32) (z2 : Int32), k4v u z0 z1 z2 → k4 u z0 z1 z2 → Q ro uo) (h : v_threaded_J64 ro uo k4v U64 v64_1 v64_2 v64_3) (w : w_threaded_J64 Q k4 U64 v64_1 v64_2 v64_3) : Q ro uo := by
  unfold v_threaded_J64 at h
  unfold w_threaded_J64 at w
  obtain ⟨v9, e9, h⟩ := h
  replace w := w v9 e9
  exact hk4 _ _ _ _ h w
set_option maxRecDepth 100000 in
theorem vw_threaded_L4 {ro : Int32} {uo : MS} : ∀ (n : Nat) {U4 : MS} {v4_1 : Int32} {v4_2 : Int32} {v4_3 : Int32}, v_threaded_L4 ro uo n U4 v4_1 v4_2 v4_3 → w_threaded_L4 (fun r u => r = ro ∧ u = uo) n U4 v4_1 v4_2 v4_3 := by
  intro n
  induction n with
  | zero => intro U4 v4_1 v4_2 v4_3 h; unfold v_threaded_L4 at h; exact h.elim
  | succ n ih =>
    intro U4 v4_1 v4_2 v4_3 h
    unfold v_threaded_L4 at h
    unfold w_threaded_L4
    obtain ⟨g9, h⟩ := h
    refine ⟨g9, ?_⟩
    rcases h with ⟨c, h⟩ | ⟨c, h⟩
    · refine ⟨fun _ => ?_, fun c2 => absurd c c2⟩
      exact ⟨h.1.symm, h.2.symm⟩
    · refine ⟨fun c2 => absurd c2 c, fun _ => ?_⟩
      obtain ⟨p9, q9, z9, h⟩ := h
      refine ⟨_, vw_wayOf z9, ?_⟩
      rintro p8 q8 ⟨d8, d9⟩
      subst d8
      subst d9
      obtain ⟨p9, q9, z9, h⟩ := h
      refine ⟨_, vw_leads z9, ?_⟩
      rintro p8 q8 ⟨d8, d9⟩
      subst d8
      subst d9
      rcases h with ⟨c, h⟩ | ⟨c, h⟩
      · refine ⟨fun _ => ?_, fun c2 => absurd c c2⟩
        exact vw_threaded_J64 (fun _ _ _ _ h => ih h) h
      · refine ⟨fun c2 => absurd c2 c, fun _ => ?_⟩
        rcases h with ⟨c, h⟩ | ⟨c, h⟩
        · refine ⟨fun _ => ?_, fun c2 => absurd c c2⟩
          exact vw_threaded_J64 (fun _ _ _ _ h => ih h) h
        · refine ⟨fun c2 => absurd c2 c, fun _ => ?_⟩
          obtain ⟨q9, z9, h⟩ := h
          refine ⟨_, vw_setWay z9, ?_⟩
          intro q8 d9
          subst d9
          obtain ⟨v9, e9, h⟩ := h
          intro x9 d9
          have c9 : v9 = x9 := e9.trans d9.symm
          subst c9
          exact vw_threaded_J64 (fun _ _ _ _ h => ih h) h
set_option maxRecDepth 100000 in
theorem vz_threaded_L4 {ro : Int32} {uo : MS} {Q : Int32 → MS → Prop} : ∀ (n m : Nat) {U4 : MS} {v4_1 : Int32} {v4_2 : Int32} {v4_3 : Int32}, v_threaded_L4 ro uo n U4 v4_1 v4_2 v4_3 → w_threaded_L4 Q m U4 v4_1 v4_2 v4_3 → Q ro uo := by
  intro n
  induction n with
  | zero => intro m U4 v4_1 v4_2 v4_3 h; unfold v_threaded_L4 at h; exact h.elim
  | succ n ih =>
    intro m U4 v4_1 v4_2 v4_3 h w
    cases m with
    | zero => unfold w_threaded_L4 at w; exact w.elim
    | succ m =>
      unfold v_threaded_L4 at h
      unfold w_threaded_L4 at w
      replace h := h.2
      replace w := w.2
      rcases h with ⟨c, h⟩ | ⟨c, h⟩
      · replace w := w.1 c
        rw [h.1, h.2]
        exact w
      · replace w := w.2 c
        obtain ⟨p9, q9, z9, h⟩ := h
        obtain ⟨Q9, w0, w⟩ := w
        replace w := w p9 q9 (vz_wayOf z9 w0)
        obtain ⟨p9, q9, z9, h⟩ := h
        obtain ⟨Q9, w0, w⟩ := w
        replace w := w p9 q9 (vz_leads z9 w0)
        rcases h with ⟨c, h⟩ | ⟨c, h⟩
        · replace w := w.1 c
          exact vz_threaded_J64 (fun _ _ _ _ h w => ih m h w) h w
        · replace w := w.2 c
          rcases h with ⟨c, h⟩ | ⟨c, h⟩
          · replace w := w.1 c
            exact vz_threaded_J64 (fun _ _ _ _ h w => ih m h w) h w
          · replace w := w.2 c
            obtain ⟨q9, z9, h⟩ := h
            obtain ⟨Q9, w0, w⟩ := w
            replace w := w q9 (vz_setWay z9 w0)
            obtain ⟨v9, e9, h⟩ := h
            replace w := w v9 e9
            exact vz_threaded_J64 (fun _ _ _ _ h w => ih m h w) h w
set_option maxRecDepth 100000 in
theorem vw_threaded {S : MS} {x1 : Int32} {ro : Int32} {uo : MS} (h : v_threaded S x1 ro uo) : w_threaded S x1 (fun r u => r = ro ∧ u = uo) := by
  unfold v_threaded at h
  unfold w_threaded
  obtain ⟨n9, h⟩ := h
  exact ⟨n9, vw_threaded_L4 n9 h⟩
set_option maxRecDepth 100000 in
theorem vz_threaded {S : MS} {x1 : Int32} {ro : Int32} {uo : MS} {Q : Int32 → MS → Prop} (h : v_threaded S x1 ro uo) (w : w_threaded S x1 Q) : Q ro uo := by
  unfold v_threaded at h
  unfold w_threaded at w
  obtain ⟨n9, h⟩ := h
  obtain ⟨n8, w⟩ := w
  exact vz_threaded_L4 n9 n8 h w
def v_turnedRow_J193 (ro : Int32) (uo : MS) (U193 : MS) (v193_2 : Int32) : Prop := (((0 : Int) ≤ v193_2.toInt ∧ v193_2.toInt < 1200) ∧ (∃ S7 : MS, S7 = wI U193 81 v193_2.toInt.toNat (vp_nar .boolean (1 : Int32)) ∧ (ro = (1 : Int32) ∧ uo = S7)))
def v_turnedRow_J145 (ro : Int32) (uo : MS) (U145 : MS) (v145_1 : Int32) (v145_2 : Int32) (v145_3 : Int32) : Prop := (((0 : Int) ≤ v145_1.toInt ∧ v145_1.toInt < 1200) ∧ (((qI U145 78 v145_1.toInt.toNat).toInt = 18 ∧ ((v145_3.toInt < 145 ∧ (ro = (0 : Int32) ∧ uo = U145)) ∨ (¬ v145_3.toInt < 145 ∧ ((147 < v145_3.toInt ∧ (ro = (0 : Int32) ∧ uo = U145)) ∨ (¬ 147 < v145_3.toInt ∧ (((0 : Int) ≤ v145_1.toInt ∧ v145_1.toInt < 1200) ∧ (d_turned U145 v145_3 ((qI U145 79 v145_1.toInt.toNat).toInt64) ∧ (∃ (S25 : MS), v_become U145 v145_1 (18 : Int32) (f_turned U145 v145_3 ((qI U145 79 v145_1.toInt.toNat).toInt64)) S25 ∧ (v_turnedRow_J193 ro uo S25 v145_2))))))))) ∨ (¬ (qI U145 78 v145_1.toInt.toNat).toInt = 18 ∧ (ro = (0 : Int32) ∧ uo = U145))))
def v_turnedRow_J110 (ro : Int32) (uo : MS) (U110 : MS) (v110_1 : Int32) (v110_2 : Int32) (v110_3 : Int32) : Prop := (((0 : Int) ≤ v110_1.toInt ∧ v110_1.toInt < 1200) ∧ (((qI U110 78 v110_1.toInt.toNat).toInt = 20 ∧ ((v110_3.toInt = 136 ∧ (d_worthAt U110 v110_1 ∧ (∃ (S33 : MS), v_become U110 v110_1 (18 : Int32) (((f_worthAt U110 v110_1).toInt32).toInt64) S33 ∧ (v_turnedRow_J193 ro uo S33 v110_2)))) ∨ (¬ v110_3.toInt = 136 ∧ (v_turnedRow_J145 ro uo U110 v110_1 v110_2 v110_3)))) ∨ (¬ (qI U110 78 v110_1.toInt.toNat).toInt = 20 ∧ (v_turnedRow_J145 ro uo U110 v110_1 v110_2 v110_3))))
def v_turnedRow_J75 (ro : Int32) (uo : MS) (U75 : MS) (v75_1 : Int32) (v75_2 : Int32) (v75_3 : Int32) : Prop := (((0 : Int) ≤ v75_1.toInt ∧ v75_1.toInt < 1200) ∧ (((qI U75 78 v75_1.toInt.toNat).toInt = 18 ∧ ((v75_3.toInt = 133 ∧ (((0 : Int) ≤ v75_1.toInt ∧ v75_1.toInt < 1200) ∧ (∃ (S40 : MS), v_become U75 v75_1 (20 : Int32) ((qI U75 79 v75_1.toInt.toNat).toInt64) S40 ∧ (v_turnedRow_J193 ro uo S40 v75_2)))) ∨ (¬ v75_3.toInt = 133 ∧ (v_turnedRow_J110 ro uo U75 v75_1 v75_2 v75_3)))) ∨ (¬ (qI U75 78 v75_1.toInt.toNat).toInt = 18 ∧ (v_turnedRow_J110 ro uo U75 v75_1 v75_2 v75_3))))
def v_turnedRow_J42 (ro : Int32) (uo : MS) (U42 : MS) (v42_1 : Int32) (v42_2 : Int32) (v42_3 : Int32) : Prop := (((0 : Int) ≤ v42_1.toInt ∧ v42_1.toInt < 1200) ∧ (((qI U42 78 v42_1.toInt.toNat).toInt = 20 ∧ ((v42_3.toInt = 117 ∧ (d_worthAt U42 v42_1 ∧ (∃ (S49 : MS), v_become U42 v42_1 (20 : Int32) (-(f_worthAt U42 v42_1)) S49 ∧ (v_turnedRow_J193 ro uo S49 v42_2)))) ∨ (¬ v42_3.toInt = 117 ∧ (v_turnedRow_J75 ro uo U42 v42_1 v42_2 v42_3)))) ∨ (¬ (qI U42 78 v42_1.toInt.toNat).toInt = 20 ∧ (v_turnedRow_J75 ro uo U42 v42_1 v42_2 v42_3))))
def v_turnedRow (S : MS) (x1 : Int32) (x2 : Int32) (ro : Int32) (uo : MS) : Prop := (((0 : Int) ≤ x2.toInt ∧ x2.toInt < 1200) ∧ (∃ a3 : Int32, a3 = (qI S 78 x2.toInt.toNat) ∧ (((0 : Int) ≤ x1.toInt ∧ x1.toInt < 1200) ∧ (((qI S 78 x1.toInt.toNat).toInt = 18 ∧ ((a3.toInt = 116 ∧ (((0 : Int) ≤ x1.toInt ∧ x1.toInt < 1200) ∧ (∃ (S57 : MS), v_become S x1 (18 : Int32) ((-(qI S 79 x1.toInt.toNat)).toInt64) S57 ∧ (v_turnedRow_J193 ro uo S57 x2)))) ∨ (¬ a3.toInt = 116 ∧ (v_turnedRow_J42 ro uo S x1 x2 a3)))) ∨ (¬ (qI S 78 x1.toInt.toNat).toInt = 18 ∧ (v_turnedRow_J42 ro uo S x1 x2 a3))))))
set_option maxRecDepth 100000 in
theorem ru_turnedRow_J193 {ι : Type} {P : Int32 → MS → Prop} {Q : Int32 → MS → Prop} {U193 : MS} {v193_2 : Int32} (i0 : ι) (K : ∀ (i : ι) (ro : Int32) (uo : MS), v_turnedRow_J193 ro uo U193 v193_2 → P ro uo) (h : w_turnedRow_J193 Q U193 v193_2) : ∃ ro uo, P ro uo ∧ Q ro uo := by
  unfold w_turnedRow_J193 at h
  obtain ⟨g1_, h⟩ := h
  replace K := fun i ro uo z => K i ro uo ⟨g1_, z⟩
  obtain ⟨S7, eS7⟩ : ∃ x9 : MS, x9 = wI U193 81 v193_2.toInt.toNat (vp_nar .boolean (1 : Int32)) := ⟨_, rfl⟩
  replace h := h S7 eS7
  replace K := fun i ro uo z => K i ro uo ⟨S7, eS7, z⟩
  exact ⟨_, _, K i0 _ _ ⟨rfl, rfl⟩, h⟩
set_option maxRecDepth 100000 in
theorem ru_turnedRow_J145 {ι : Type} {P : Int32 → MS → Prop} {Q : Int32 → MS → Prop} {U145 : MS} {v145_1 : Int32} {v145_2 : Int32} {v145_3 : Int32} (i0 : ι) (K : ∀ (i : ι) (ro : Int32) (uo : MS), v_turnedRow_J145 ro uo U145 v145_1 v145_2 v145_3 → P ro uo) (h : w_turnedRow_J145 Q U145 v145_1 v145_2 v145_3) : ∃ ro uo, P ro uo ∧ Q ro uo := by
  unfold w_turnedRow_J145 at h
  obtain ⟨g2_, h⟩ := h
  replace K := fun i ro uo z => K i ro uo ⟨g2_, z⟩
  by_cases c : (qI U145 78 v145_1.toInt.toNat).toInt = 18
  · replace h := h.1 c
    replace K := fun i ro uo z => K i ro uo (Or.inl ⟨c, z⟩)
    by_cases c : v145_3.toInt < 145
    · replace h := h.1 c
      replace K := fun i ro uo z => K i ro uo (Or.inl ⟨c, z⟩)
      exact ⟨_, _, K i0 _ _ ⟨rfl, rfl⟩, h⟩
    · replace h := h.2 c
      replace K := fun i ro uo z => K i ro uo (Or.inr ⟨c, z⟩)
      by_cases c : 147 < v145_3.toInt
      · replace h := h.1 c
        replace K := fun i ro uo z => K i ro uo (Or.inl ⟨c, z⟩)
        exact ⟨_, _, K i0 _ _ ⟨rfl, rfl⟩, h⟩
      · replace h := h.2 c
        replace K := fun i ro uo z => K i ro uo (Or.inr ⟨c, z⟩)
        obtain ⟨g3_, h⟩ := h
        replace K := fun i ro uo z => K i ro uo ⟨g3_, z⟩
        obtain ⟨g4_, h⟩ := h
        replace K := fun i ro uo z => K i ro uo ⟨g4_, z⟩
        obtain ⟨Q9, h0, h⟩ := h
        obtain ⟨S25, z9, g9⟩ := ru_become h0
        replace h := h S25 g9
        replace K := fun i ro uo z => K i ro uo ⟨S25, z9, z⟩
        exact ru_turnedRow_J193 i0 K h
  · replace h := h.2 c
    replace K := fun i ro uo z => K i ro uo (Or.inr ⟨c, z⟩)
    exact ⟨_, _, K i0 _ _ ⟨rfl, rfl⟩, h⟩
set_option maxRecDepth 100000 in
theorem ru_turnedRow_J110 {ι : Type} {P : Int32 → MS → Prop} {Q : Int32 → MS → Prop} {U110 : MS} {v110_1 : Int32} {v110_2 : Int32} {v110_3 : Int32} (i0 : ι) (K : ∀ (i : ι) (ro : Int32) (uo : MS), v_turnedRow_J110 ro uo U110 v110_1 v110_2 v110_3 → P ro uo) (h : w_turnedRow_J110 Q U110 v110_1 v110_2 v110_3) : ∃ ro uo, P ro uo ∧ Q ro uo := by
  unfold w_turnedRow_J110 at h
  obtain ⟨g5_, h⟩ := h
  replace K := fun i ro uo z => K i ro uo ⟨g5_, z⟩
  by_cases c : (qI U110 78 v110_1.toInt.toNat).toInt = 20
  · replace h := h.1 c
    replace K := fun i ro uo z => K i ro uo (Or.inl ⟨c, z⟩)
    by_cases c : v110_3.toInt = 136
    · replace h := h.1 c
      replace K := fun i ro uo z => K i ro uo (Or.inl ⟨c, z⟩)
      obtain ⟨g6_, h⟩ := h
      replace K := fun i ro uo z => K i ro uo ⟨g6_, z⟩
      obtain ⟨Q9, h0, h⟩ := h
      obtain ⟨S33, z9, g9⟩ := ru_become h0
      replace h := h S33 g9
      replace K := fun i ro uo z => K i ro uo ⟨S33, z9, z⟩
      exact ru_turnedRow_J193 i0 K h
    · replace h := h.2 c
      replace K := fun i ro uo z => K i ro uo (Or.inr ⟨c, z⟩)
      exact ru_turnedRow_J145 i0 K h
  · replace h := h.2 c
    replace K := fun i ro uo z => K i ro uo (Or.inr ⟨c, z⟩)
    exact ru_turnedRow_J145 i0 K h
set_option maxRecDepth 100000 in
theorem ru_turnedRow_J75 {ι : Type} {P : Int32 → MS → Prop} {Q : Int32 → MS → Prop} {U75 : MS} {v75_1 : Int32} {v75_2 : Int32} {v75_3 : Int32} (i0 : ι) (K : ∀ (i : ι) (ro : Int32) (uo : MS), v_turnedRow_J75 ro uo U75 v75_1 v75_2 v75_3 → P ro uo) (h : w_turnedRow_J75 Q U75 v75_1 v75_2 v75_3) : ∃ ro uo, P ro uo ∧ Q ro uo := by
  unfold w_turnedRow_J75 at h
  obtain ⟨g7_, h⟩ := h
  replace K := fun i ro uo z => K i ro uo ⟨g7_, z⟩
  by_cases c : (qI U75 78 v75_1.toInt.toNat).toInt = 18
  · replace h := h.1 c
    replace K := fun i ro uo z => K i ro uo (Or.inl ⟨c, z⟩)
    by_cases c : v75_3.toInt = 133
    · replace h := h.1 c
      replace K := fun i ro uo z => K i ro uo (Or.inl ⟨c, z⟩)
      obtain ⟨g8_, h⟩ := h
      replace K := fun i ro uo z => K i ro uo ⟨g8_, z⟩
      obtain ⟨Q9, h0, h⟩ := h
      obtain ⟨S40, z9, g9⟩ := ru_become h0
      replace h := h S40 g9
      replace K := fun i ro uo z => K i ro uo ⟨S40, z9, z⟩
      exact ru_turnedRow_J193 i0 K h
    · replace h := h.2 c
      replace K := fun i ro uo z => K i ro uo (Or.inr ⟨c, z⟩)
      exact ru_turnedRow_J110 i0 K h
  · replace h := h.2 c
    replace K := fun i ro uo z => K i ro uo (Or.inr ⟨c, z⟩)
    exact ru_turnedRow_J110 i0 K h
set_option maxRecDepth 100000 in
theorem ru_turnedRow_J42 {ι : Type} {P : Int32 → MS → Prop} {Q : Int32 → MS → Prop} {U42 : MS} {v42_1 : Int32} {v42_2 : Int32} {v42_3 : Int32} (i0 : ι) (K : ∀ (i : ι) (ro : Int32) (uo : MS), v_turnedRow_J42 ro uo U42 v42_1 v42_2 v42_3 → P ro uo) (h : w_turnedRow_J42 Q U42 v42_1 v42_2 v42_3) : ∃ ro uo, P ro uo ∧ Q ro uo := by
  unfold w_turnedRow_J42 at h
  obtain ⟨g9_, h⟩ := h
  replace K := fun i ro uo z => K i ro uo ⟨g9_, z⟩
  by_cases c : (qI U42 78 v42_1.toInt.toNat).toInt = 20
  · replace h := h.1 c
    replace K := fun i ro uo z => K i ro uo (Or.inl ⟨c, z⟩)
    by_cases c : v42_3.toInt = 117
    · replace h := h.1 c
      replace K := fun i ro uo z => K i ro uo (Or.inl ⟨c, z⟩)
      obtain ⟨g10_, h⟩ := h
      replace K := fun i ro uo z => K i ro uo ⟨g10_, z⟩
      obtain ⟨Q9, h0, h⟩ := h
      obtain ⟨S49, z9, g9⟩ := ru_become h0
      replace h := h S49 g9
      replace K := fun i ro uo z => K i ro uo ⟨S49, z9, z⟩
      exact ru_turnedRow_J193 i0 K h
    · replace h := h.2 c
      replace K := fun i ro uo z => K i ro uo (Or.inr ⟨c, z⟩)
      exact ru_turnedRow_J75 i0 K h
  · replace h := h.2 c
    replace K := fun i ro uo z => K i ro uo (Or.inr ⟨c, z⟩)
    exact ru_turnedRow_J75 i0 K h
set_option maxRecDepth 100000 in
theorem ru_turnedRow {S : MS} {x1 : Int32} {x2 : Int32} {Q : Int32 → MS → Prop} (h : w_turnedRow S x1 x2 Q) : ∃ ro uo, v_turnedRow S x1 x2 ro uo ∧ Q ro uo := by
  have i0 : Unit := ()
  have K : ∀ (i : Unit) (ro : Int32) (uo : MS), v_turnedRow S x1 x2 ro uo → v_turnedRow S x1 x2 ro uo := fun _ _ _ z => z
  unfold w_turnedRow at h
  obtain ⟨g11_, h⟩ := h
  replace K := fun i ro uo z => K i ro uo ⟨g11_, z⟩
  obtain ⟨a3, ea3⟩ : ∃ x9 : Int32, x9 = (qI S 78 x2.toInt.toNat) := ⟨_, rfl⟩
  replace h := h a3 ea3
  replace K := fun i ro uo z => K i ro uo ⟨a3, ea3, z⟩
  obtain ⟨g12_, h⟩ := h
  replace K := fun i ro uo z => K i ro uo ⟨g12_, z⟩
  by_cases c : (qI S 78 x1.toInt.toNat).toInt = 18
  · replace h := h.1 c
    replace K := fun i ro uo z => K i ro uo (Or.inl ⟨c, z⟩)
    by_cases c : a3.toInt = 116
    · replace h := h.1 c
      replace K := fun i ro uo z => K i ro uo (Or.inl ⟨c, z⟩)
      obtain ⟨g13_, h⟩ := h
      replace K := fun i ro uo z => K i ro uo ⟨g13_, z⟩
      obtain ⟨Q9, h0, h⟩ := h
      obtain ⟨S57, z9, g9⟩ := ru_become h0
      replace h := h S57 g9
      replace K := fun i ro uo z => K i ro uo ⟨S57, z9, z⟩
      exact ru_turnedRow_J193 i0 K h
    · replace h := h.2 c
      replace K := fun i ro uo z => K i ro uo (Or.inr ⟨c, z⟩)
      exact ru_turnedRow_J42 i0 K h
  · replace h := h.2 c
    replace K := fun i ro uo z => K i ro uo (Or.inr ⟨c, z⟩)
    exact ru_turnedRow_J42 i0 K h
set_option maxRecDepth 100000 in
theorem vw_turnedRow_J193 {ro : Int32} {uo : MS} {U193 : MS} {v193_2 : Int32} (h : v_turnedRow_J193 ro uo U193 v193_2) : w_turnedRow_J193 (fun r u => r = ro ∧ u = uo) U193 v193_2 := by
  unfold v_turnedRow_J193 at h
  unfold w_turnedRow_J193
  obtain ⟨g9, h⟩ := h
  refine ⟨g9, ?_⟩
  obtain ⟨v9, e9, h⟩ := h
  intro x9 d9
  have c9 : v9 = x9 := e9.trans d9.symm
  subst c9
  exact ⟨h.1.symm, h.2.symm⟩
set_option maxRecDepth 100000 in
theorem vz_turnedRow_J193 {ro : Int32} {uo : MS} {Q : Int32 → MS → Prop} {U193 : MS} {v193_2 : Int32} (h : v_turnedRow_J193 ro uo U193 v193_2) (w : w_turnedRow_J193 Q U193 v193_2) : Q ro uo := by
  unfold v_turnedRow_J193 at h
  unfold w_turnedRow_J193 at w
  replace h := h.2
  replace w := w.2
  obtain ⟨v9, e9, h⟩ := h
  replace w := w v9 e9
  rw [h.1, h.2]
  exact w
set_option maxRecDepth 100000 in
theorem vw_turnedRow_J145 {ro : Int32} {uo : MS} {U145 : MS} {v145_1 : Int32} {v145_2 : Int32} {v145_3 : Int32} (h : v_turnedRow_J145 ro uo U145 v145_1 v145_2 v145_3) : w_turnedRow_J145 (fun r u => r = ro ∧ u = uo) U145 v145_1 v145_2 v145_3 := by
  unfold v_turnedRow_J145 at h
  unfold w_turnedRow_J145
  obtain ⟨g9, h⟩ := h
  refine ⟨g9, ?_⟩
  rcases h with ⟨c, h⟩ | ⟨c, h⟩
  · refine ⟨fun _ => ?_, fun c2 => absurd c c2⟩
    rcases h with ⟨c, h⟩ | ⟨c, h⟩
    · refine ⟨fun _ => ?_, fun c2 => absurd c c2⟩
      exact ⟨h.1.symm, h.2.symm⟩
    · refine ⟨fun c2 => absurd c2 c, fun _ => ?_⟩
      rcases h with ⟨c, h⟩ | ⟨c, h⟩
      · refine ⟨fun _ => ?_, fun c2 => absurd c c2⟩
        exact ⟨h.1.symm, h.2.symm⟩
      · refine ⟨fun c2 => absurd c2 c, fun _ => ?_⟩
        obtain ⟨g9, h⟩ := h
        refine ⟨g9, ?_⟩
        obtain ⟨g9, h⟩ := h
        refine ⟨g9, ?_⟩
        obtain ⟨q9, z9, h⟩ := h
        refine ⟨_, vw_become z9, ?_⟩
        intro q8 d9
        subst d9
        exact vw_turnedRow_J193 h
  · refine ⟨fun c2 => absurd c2 c, fun _ => ?_⟩
    exact ⟨h.1.symm, h.2.symm⟩
set_option maxRecDepth 100000 in
theorem vz_turnedRow_J145 {ro : Int32} {uo : MS} {Q : Int32 → MS → Prop} {U145 : MS} {v145_1 : Int32} {v145_2 : Int32} {v145_3 : Int32} (h : v_turnedRow_J145 ro uo U145 v145_1 v145_2 v145_3) (w : w_turnedRow_J145 Q U145 v145_1 v145_2 v145_3) : Q ro uo := by
  unfold v_turnedRow_J145 at h
  unfold w_turnedRow_J145 at w
  replace h := h.2
  replace w := w.2
  rcases h with ⟨c, h⟩ | ⟨c, h⟩
  · replace w := w.1 c
    rcases h with ⟨c, h⟩ | ⟨c, h⟩
    · replace w := w.1 c
      rw [h.1, h.2]
      exact w
    · replace w := w.2 c
      rcases h with ⟨c, h⟩ | ⟨c, h⟩
      · replace w := w.1 c
        rw [h.1, h.2]
        exact w
      · replace w := w.2 c
        replace h := h.2
        replace w := w.2
        replace h := h.2
        replace w := w.2
        obtain ⟨q9, z9, h⟩ := h
        obtain ⟨Q9, w0, w⟩ := w
        replace w := w q9 (vz_become z9 w0)
        exact vz_turnedRow_J193 h w
  · replace w := w.2 c
    rw [h.1, h.2]
    exact w
set_option maxRecDepth 100000 in
theorem vw_turnedRow_J110 {ro : Int32} {uo : MS} {U110 : MS} {v110_1 : Int32} {v110_2 : Int32} {v110_3 : Int32} (h : v_turnedRow_J110 ro uo U110 v110_1 v110_2 v110_3) : w_turnedRow_J110 (fun r u => r = ro ∧ u = uo) U110 v110_1 v110_2 v110_3 := by
  unfold v_turnedRow_J110 at h
  unfold w_turnedRow_J110
  obtain ⟨g9, h⟩ := h
  refine ⟨g9, ?_⟩
  rcases h with ⟨c, h⟩ | ⟨c, h⟩
  · refine ⟨fun _ => ?_, fun c2 => absurd c c2⟩
    rcases h with ⟨c, h⟩ | ⟨c, h⟩
    · refine ⟨fun _ => ?_, fun c2 => absurd c c2⟩
      obtain ⟨g9, h⟩ := h
      refine ⟨g9, ?_⟩
      obtain ⟨q9, z9, h⟩ := h
      refine ⟨_, vw_become z9, ?_⟩
      intro q8 d9
      subst d9
      exact vw_turnedRow_J193 h
    · refine ⟨fun c2 => absurd c2 c, fun _ => ?_⟩
      exact vw_turnedRow_J145 h
  · refine ⟨fun c2 => absurd c2 c, fun _ => ?_⟩
    exact vw_turnedRow_J145 h
set_option maxRecDepth 100000 in
theorem vz_turnedRow_J110 {ro : Int32} {uo : MS} {Q : Int32 → MS → Prop} {U110 : MS} {v110_1 : Int32} {v110_2 : Int32} {v110_3 : Int32} (h : v_turnedRow_J110 ro uo U110 v110_1 v110_2 v110_3) (w : w_turnedRow_J110 Q U110 v110_1 v110_2 v110_3) : Q ro uo := by
  unfold v_turnedRow_J110 at h
  unfold w_turnedRow_J110 at w
  replace h := h.2
  replace w := w.2
  rcases h with ⟨c, h⟩ | ⟨c, h⟩
  · replace w := w.1 c
    rcases h with ⟨c, h⟩ | ⟨c, h⟩
    · replace w := w.1 c
      replace h := h.2
      replace w := w.2
      obtain ⟨q9, z9, h⟩ := h
      obtain ⟨Q9, w0, w⟩ := w
      replace w := w q9 (vz_become z9 w0)
      exact vz_turnedRow_J193 h w
    · replace w := w.2 c
      exact vz_turnedRow_J145 h w
  · replace w := w.2 c
    exact vz_turnedRow_J145 h w
set_option maxRecDepth 100000 in
theorem vw_turnedRow_J75 {ro : Int32} {uo : MS} {U75 : MS} {v75_1 : Int32} {v75_2 : Int32} {v75_3 : Int32} (h : v_turnedRow_J75 ro uo U75 v75_1 v75_2 v75_3) : w_turnedRow_J75 (fun r u => r = ro ∧ u = uo) U75 v75_1 v75_2 v75_3 := by
  unfold v_turnedRow_J75 at h
  unfold w_turnedRow_J75
  obtain ⟨g9, h⟩ := h
  refine ⟨g9, ?_⟩
  rcases h with ⟨c, h⟩ | ⟨c, h⟩
  · refine ⟨fun _ => ?_, fun c2 => absurd c c2⟩
    rcases h with ⟨c, h⟩ | ⟨c, h⟩
    · refine ⟨fun _ => ?_, fun c2 => absurd c c2⟩
      obtain ⟨g9, h⟩ := h
      refine ⟨g9, ?_⟩
      obtain ⟨q9, z9, h⟩ := h
      refine ⟨_, vw_become z9, ?_⟩
      intro q8 d9
      subst d9
      exact vw_turnedRow_J193 h
    · refine ⟨fun c2 => absurd c2 c, fun _ => ?_⟩
      exact vw_turnedRow_J110 h
  · refine ⟨fun c2 => absurd c2 c, fun _ => ?_⟩
    exact vw_turnedRow_J110 h
set_option maxRecDepth 100000 in
theorem vz_turnedRow_J75 {ro : Int32} {uo : MS} {Q : Int32 → MS → Prop} {U75 : MS} {v75_1 : Int32} {v75_2 : Int32} {v75_3 : Int32} (h : v_turnedRow_J75 ro uo U75 v75_1 v75_2 v75_3) (w : w_turnedRow_J75 Q U75 v75_1 v75_2 v75_3) : Q ro uo := by
  unfold v_turnedRow_J75 at h
  unfold w_turnedRow_J75 at w
  replace h := h.2
  replace w := w.2
  rcases h with ⟨c, h⟩ | ⟨c, h⟩
  · replace w := w.1 c
    rcases h with ⟨c, h⟩ | ⟨c, h⟩
    · replace w := w.1 c
      replace h := h.2
      replace w := w.2
      obtain ⟨q9, z9, h⟩ := h
      obtain ⟨Q9, w0, w⟩ := w
      replace w := w q9 (vz_become z9 w0)
      exact vz_turnedRow_J193 h w
    · replace w := w.2 c
      exact vz_turnedRow_J110 h w
  · replace w := w.2 c
    exact vz_turnedRow_J110 h w
set_option maxRecDepth 100000 in
theorem vw_turnedRow_J42 {ro : Int32} {uo : MS} {U42 : MS} {v42_1 : Int32} {v42_2 : Int32} {v42_3 : Int32} (h : v_turnedRow_J42 ro uo U42 v42_1 v42_2 v42_3) : w_turnedRow_J42 (fun r u => r = ro ∧ u = uo) U42 v42_1 v42_2 v42_3 := by
  unfold v_turnedRow_J42 at h
  unfold w_turnedRow_J42
  obtain ⟨g9, h⟩ := h
  refine ⟨g9, ?_⟩
  rcases h with ⟨c, h⟩ | ⟨c, h⟩
  · refine ⟨fun _ => ?_, fun c2 => absurd c c2⟩
    rcases h with ⟨c, h⟩ | ⟨c, h⟩
    · refine ⟨fun _ => ?_, fun c2 => absurd c c2⟩
      obtain ⟨g9, h⟩ := h
      refine ⟨g9, ?_⟩
      obtain ⟨q9, z9, h⟩ := h
      refine ⟨_, vw_become z9, ?_⟩
      intro q8 d9
      subst d9
      exact vw_turnedRow_J193 h
    · refine ⟨fun c2 => absurd c2 c, fun _ => ?_⟩
      exact vw_turnedRow_J75 h
  · refine ⟨fun c2 => absurd c2 c, fun _ => ?_⟩
    exact vw_turnedRow_J75 h
set_option maxRecDepth 100000 in
theorem vz_turnedRow_J42 {ro : Int32} {uo : MS} {Q : Int32 → MS → Prop} {U42 : MS} {v42_1 : Int32} {v42_2 : Int32} {v42_3 : Int32} (h : v_turnedRow_J42 ro uo U42 v42_1 v42_2 v42_3) (w : w_turnedRow_J42 Q U42 v42_1 v42_2 v42_3) : Q ro uo := by
  unfold v_turnedRow_J42 at h
  unfold w_turnedRow_J42 at w
  replace h := h.2
  replace w := w.2
  rcases h with ⟨c, h⟩ | ⟨c, h⟩
  · replace w := w.1 c
    rcases h with ⟨c, h⟩ | ⟨c, h⟩
    · replace w := w.1 c
      replace h := h.2
      replace w := w.2
      obtain ⟨q9, z9, h⟩ := h
      obtain ⟨Q9, w0, w⟩ := w
      replace w := w q9 (vz_become z9 w0)
      exact vz_turnedRow_J193 h w
    · replace w := w.2 c
      exact vz_turnedRow_J75 h w
  · replace w := w.2 c
    exact vz_turnedRow_J75 h w
set_option maxRecDepth 100000 in
theorem vw_turnedRow {S : MS} {x1 : Int32} {x2 : Int32} {ro : Int32} {uo : MS} (h : v_turnedRow S x1 x2 ro uo) : w_turnedRow S x1 x2 (fun r u => r = ro ∧ u = uo) := by
  unfold v_turnedRow at h
  unfold w_turnedRow
  obtain ⟨g9, h⟩ := h
  refine ⟨g9, ?_⟩
  obtain ⟨v9, e9, h⟩ := h
  intro x9 d9
  have c9 : v9 = x9 := e9.trans d9.symm
  subst c9
  obtain ⟨g9, h⟩ := h
  refine ⟨g9, ?_⟩
  rcases h with ⟨c, h⟩ | ⟨c, h⟩
  · refine ⟨fun _ => ?_, fun c2 => absurd c c2⟩
    rcases h with ⟨c, h⟩ | ⟨c, h⟩
    · refine ⟨fun _ => ?_, fun c2 => absurd c c2⟩
      obtain ⟨g9, h⟩ := h
      refine ⟨g9, ?_⟩
      obtain ⟨q9, z9, h⟩ := h
      refine ⟨_, vw_become z9, ?_⟩
      intro q8 d9
      subst d9
      exact vw_turnedRow_J193 h
    · refine ⟨fun c2 => absurd c2 c, fun _ => ?_⟩
      exact vw_turnedRow_J42 h
  · refine ⟨fun c2 => absurd c2 c, fun _ => ?_⟩
    exact vw_turnedRow_J42 h
set_option maxRecDepth 100000 in
theorem vz_turnedRow {S : MS} {x1 : Int32} {x2 : Int32} {ro : Int32} {uo : MS} {Q : Int32 → MS → Prop} (h : v_turnedRow S x1 x2 ro uo) (w : w_turnedRow S x1 x2 Q) : Q ro uo := by
  unfold v_turnedRow at h
  unfold w_turnedRow at w
  replace h := h.2
  replace w := w.2
  obtain ⟨v9, e9, h⟩ := h
  replace w := w v9 e9
  replace h := h.2
  replace w := w.2
  rcases h with ⟨c, h⟩ | ⟨c, h⟩
  · replace w := w.1 c
    rcases h with ⟨c, h⟩ | ⟨c, h⟩
    · replace w := w.1 c
      replace h := h.2
      replace w := w.2
      obtain ⟨q9, z9, h⟩ := h
      obtain ⟨Q9, w0, w⟩ := w
      replace w := w q9 (vz_become z9 w0)
      exact vz_turnedRow_J193 h w
    · replace w := w.2 c
      exact vz_turnedRow_J42 h w
  · replace w := w.2 c
    exact vz_turnedRow_J42 h w
def v_apply_J365 (ro : Int32) (uo : MS) (U365 : MS) (v365_1 : Int32) (v365_6 : Int32) : Prop := ((v365_6.toInt = 0 ∧ (ro = v365_6 ∧ uo = U365)) ∨ (¬ v365_6.toInt = 0 ∧ (((0 : Int) ≤ v365_1.toInt ∧ v365_1.toInt < 12) ∧ (((0 : Int) ≤ v365_1.toInt ∧ v365_1.toInt < 12) ∧ (∃ S16 : MS, S16 = wI U365 77 v365_1.toInt.toNat ((qI U365 77 v365_1.toInt.toNat) + (1 : Int32)) ∧ (ro = v365_6 ∧ uo = S16))))))
def v_apply_J128 (ro : Int32) (uo : MS) (U128 : MS) (t128_0 : Int32) (v128_1 : Int32) (v128_2 : Int32) : Prop := ((t128_0.toInt = 0 ∧ (v_apply_J365 ro uo U128 v128_1 t128_0)) ∨ (¬ t128_0.toInt = 0 ∧ (((0 : Int) ≤ v128_2.toInt ∧ v128_2.toInt < 1200) ∧ (∃ S21 : MS, S21 = wI U128 81 v128_2.toInt.toNat (vp_nar .boolean (1 : Int32)) ∧ (v_apply_J365 ro uo S21 v128_1 t128_0)))))
def v_apply_J127 (ro : Int32) (uo : MS) (U127 : MS) (v127_1 : Int32) (v127_2 : Int32) : Prop := (v_apply_J128 ro uo U127 0 v127_1 v127_2)
def v_apply_J159 (ro : Int32) (uo : MS) (U159 : MS) (t159_0 : Int32) (v159_1 : Int32) (v159_2 : Int32) : Prop := ((t159_0.toInt = 0 ∧ (v_apply_J365 ro uo U159 v159_1 t159_0)) ∨ (¬ t159_0.toInt = 0 ∧ (((0 : Int) ≤ v159_2.toInt ∧ v159_2.toInt < 1200) ∧ (∃ S32 : MS, S32 = wI U159 81 v159_2.toInt.toNat (vp_nar .boolean (1 : Int32)) ∧ (v_apply_J365 ro uo S32 v159_1 t159_0)))))
def v_apply_J197 (ro : Int32) (uo : MS) (U197 : MS) (t197_0 : Int32) (v197_1 : Int32) : Prop := (v_apply_J365 ro uo U197 v197_1 t197_0)
def v_apply_J196 (ro : Int32) (uo : MS) (U196 : MS) (v196_1 : Int32) : Prop := (v_apply_J197 ro uo U196 0 v196_1)
def v_apply_J222 (ro : Int32) (uo : MS) (U222 : MS) (t222_0 : Int32) (v222_1 : Int32) : Prop := (v_apply_J365 ro uo U222 v222_1 t222_0)
def v_apply_J221 (ro : Int32) (uo : MS) (U221 : MS) (v221_1 : Int32) : Prop := (v_apply_J222 ro uo U221 0 v221_1)
def v_apply_J248 (ro : Int32) (uo : MS) (U248 : MS) (t248_0 : Int32) (v248_1 : Int32) : Prop := (v_apply_J365 ro uo U248 v248_1 t248_0)
def v_apply_J247 (ro : Int32) (uo : MS) (U247 : MS) (v247_1 : Int32) : Prop := (v_apply_J248 ro uo U247 0 v247_1)
def v_apply_J283 (ro : Int32) (uo : MS) (U283 : MS) (t283_0 : Int32) (v283_1 : Int32) : Prop := (v_apply_J365 ro uo U283 v283_1 t283_0)
def v_apply_J282 (ro : Int32) (uo : MS) (U282 : MS) (v282_1 : Int32) : Prop := (v_apply_J283 ro uo U282 0 v282_1)
def v_apply_J318 (ro : Int32) (uo : MS) (U318 : MS) (t318_0 : Int32) (v318_1 : Int32) : Prop := (v_apply_J365 ro uo U318 v318_1 t318_0)
def v_apply_J317 (ro : Int32) (uo : MS) (U317 : MS) (v317_1 : Int32) : Prop := (v_apply_J318 ro uo U317 0 v317_1)
def v_apply_J353 (ro : Int32) (uo : MS) (U353 : MS) (t353_0 : Int32) (v353_1 : Int32) : Prop := (v_apply_J365 ro uo U353 v353_1 t353_0)
def v_apply_J352 (ro : Int32) (uo : MS) (U352 : MS) (v352_1 : Int32) : Prop := (v_apply_J353 ro uo U352 0 v352_1)
def v_apply_J51 (ro : Int32) (uo : MS) (U51 : MS) (t51_0 : Int32) (v51_1 : Int32) (v51_2 : Int32) (v51_3 : Int32) (v51_4 : Int32) : Prop := ((v51_1.toInt = 3 ∧ (((0 : Int) ≤ v51_2.toInt ∧ v51_2.toInt < 1200) ∧ (((qI U51 78 v51_2.toInt.toNat).toInt = 167 ∧ (∃ (r24 : Int32) (S25 : MS), v_wayOf U51 v51_2 (0 : Int32) r24 S25 ∧ ((r24.toInt = v51_4.toInt ∧ (v_apply_J128 ro uo S25 1 v51_1 v51_2)) ∨ (¬ r24.toInt = v51_4.toInt ∧ (v_apply_J127 ro uo S25 v51_1 v51_2))))) ∨ (¬ (qI U51 78 v51_2.toInt.toNat).toInt = 167 ∧ (v_apply_J127 ro uo U51 v51_1 v51_2))))) ∨ (¬ v51_1.toInt = 3 ∧ ((v51_1.toInt = 4 ∧ (((0 : Int) ≤ v51_2.toInt ∧ v51_2.toInt < 1200) ∧ (((qI U51 78 v51_2.toInt.toNat).toInt = 0 ∧ (v_apply_J159 ro uo U51 1 v51_1 v51_2)) ∨ (¬ (qI U51 78 v51_2.toInt.toNat).toInt = 0 ∧ (v_apply_J159 ro uo U51 0 v51_1 v51_2))))) ∨ (¬ v51_1.toInt = 4 ∧ ((v51_1.toInt = 5 ∧ ((t51_0.toInt = 0 ∧ (v_apply_J196 ro uo U51 v51_1)) ∨ (¬ t51_0.toInt = 0 ∧ (∃ (r36 : Int32) (S37 : MS), v_folded U51 v51_2 v51_4 v51_3 r36 S37 ∧ ((r36.toInt = 0 ∧ (v_apply_J196 ro uo S37 v51_1)) ∨ (¬ r36.toInt = 0 ∧ (v_apply_J197 ro uo S37 1 v51_1))))))) ∨ (¬ v51_1.toInt = 5 ∧ ((v51_1.toInt = 6 ∧ ((t51_0.toInt = 0 ∧ (v_apply_J221 ro uo U51 v51_1)) ∨ (¬ t51_0.toInt = 0 ∧ (∃ (r42 : Int32) (S43 : MS), v_turnedRow U51 v51_2 v51_4 r42 S43 ∧ ((r42.toInt = 0 ∧ (v_apply_J221 ro uo S43 v51_1)) ∨ (¬ r42.toInt = 0 ∧ (v_apply_J222 ro uo S43 1 v51_1))))))) ∨ (¬ v51_1.toInt = 6 ∧ ((v51_1.toInt = 7 ∧ ((t51_0.toInt = 0 ∧ (v_apply_J247 ro uo U51 v51_1)) ∨ (¬ t51_0.toInt = 0 ∧ (∃ (r48 : Int32) (S49 : MS), v_decided U51 v51_2 v51_4 v51_3 r48 S49 ∧ ((r48.toInt = 0 ∧ (v_apply_J247 ro uo S49 v51_1)) ∨ (¬ r48.toInt = 0 ∧ (v_apply_J248 ro uo S49 1 v51_1))))))) ∨ (¬ v51_1.toInt = 7 ∧ ((v51_1.toInt = 8 ∧ ((t51_0.toInt = 0 ∧ (v_apply_J282 ro uo U51 v51_1)) ∨ (¬ t51_0.toInt = 0 ∧ (d_isIdle U51 v51_2 v51_4 ∧ (((f_isIdle U51 v51_2 v51_4).toInt = 0 ∧ (v_apply_J282 ro uo U51 v51_1)) ∨ (¬ (f_isIdle U51 v51_2 v51_4).toInt = 0 ∧ (∃ (r58 : Int32) (S59 : MS), v_goBoth U51 v51_2 v51_4 r58 S59 ∧ ((r58.toInt = 0 ∧ (v_apply_J282 ro uo S59 v51_1)) ∨ (¬ r58.toInt = 0 ∧ (v_apply_J283 ro uo S59 1 v51_1)))))))))) ∨ (¬ v51_1.toInt = 8 ∧ ((v51_1.toInt = 9 ∧ ((t51_0.toInt = 0 ∧ (v_apply_J317 ro uo U51 v51_1)) ∨ (¬ t51_0.toInt = 0 ∧ (d_isDropped U51 v51_2 v51_4 ∧ (((f_isDropped U51 v51_2 v51_4).toInt = 0 ∧ (v_apply_J317 ro uo U51 v51_1)) ∨ (¬ (f_isDropped U51 v51_2 v51_4).toInt = 0 ∧ (∃ (r68 : Int32) (S69 : MS), v_goBoth U51 v51_2 v51_4 r68 S69 ∧ ((r68.toInt = 0 ∧ (v_apply_J317 ro uo S69 v51_1)) ∨ (¬ r68.toInt = 0 ∧ (v_apply_J318 ro uo S69 1 v51_1)))))))))) ∨ (¬ v51_1.toInt = 9 ∧ ((v51_1.toInt = 10 ∧ ((t51_0.toInt = 0 ∧ (v_apply_J352 ro uo U51 v51_1)) ∨ (¬ t51_0.toInt = 0 ∧ (∃ (r74 : Int32) (S75 : MS), v_isBack U51 v51_2 v51_4 r74 S75 ∧ ((r74.toInt = 0 ∧ (v_apply_J352 ro uo S75 v51_1)) ∨ (¬ r74.toInt = 0 ∧ (∃ (r79 : Int32) (S80 : MS), v_goBoth S75 v51_2 v51_4 r79 S80 ∧ ((r79.toInt = 0 ∧ (v_apply_J352 ro uo S80 v51_1)) ∨ (¬ r79.toInt = 0 ∧ (v_apply_J353 ro uo S80 1 v51_1)))))))))) ∨ (¬ v51_1.toInt = 10 ∧ (∃ (r84 : Int32) (S85 : MS), v_dead U51 v51_2 r84 S85 ∧ (v_apply_J365 ro uo S85 v51_1 r84))))))))))))))))))
def v_apply_J50 (ro : Int32) (uo : MS) (U50 : MS) (v50_1 : Int32) (v50_2 : Int32) (v50_3 : Int32) (v50_4 : Int32) : Prop := (v_apply_J51 ro uo U50 0 v50_1 v50_2 v50_3 v50_4)
def v_apply (S : MS) (x1 : Int32) (x2 : Int32) (ro : Int32) (uo : MS) : Prop := ((x1.toInt = 2 ∧ (∃ (r92 : Int32) (S93 : MS), v_threaded S x2 r92 S93 ∧ (ro = r92 ∧ uo = S93))) ∨ (¬ x1.toInt = 2 ∧ (∃ (r3 : Int32) (S4 : MS), v_lastOne S r3 S4 ∧ ((x2.toInt = r3.toInt ∧ (ro = (0 : Int32) ∧ uo = S4)) ∨ (¬ x2.toInt = r3.toInt ∧ (∃ (r8 : Int32) (S9 : MS), v_behind S4 x2 r8 S9 ∧ ((r8.toInt = r3.toInt ∧ (v_apply_J50 ro uo S9 x1 x2 r3 r8)) ∨ (¬ r8.toInt = r3.toInt ∧ (((0 : Int) ≤ r8.toInt ∧ r8.toInt < 1201) ∧ (((qI S9 87 r8.toInt.toNat).toInt = 0 ∧ (v_apply_J51 ro uo S9 1 x1 x2 r3 r8)) ∨ (¬ (qI S9 87 r8.toInt.toNat).toInt = 0 ∧ (v_apply_J50 ro uo S9 x1 x2 r3 r8))))))))))))
set_option maxRecDepth 100000 in
theorem ru_apply_J365 {ι : Type} {P : Int32 → MS → Prop} {Q : Int32 → MS → Prop} {U365 : MS} {v365_1 : Int32} {v365_6 : Int32} (i0 : ι) (K : ∀ (i : ι) (ro : Int32) (uo : MS), v_apply_J365 ro uo U365 v365_1 v365_6 → P ro uo) (h : w_apply_J365 Q U365 v365_1 v365_6) : ∃ ro uo, P ro uo ∧ Q ro uo := by
  unfold w_apply_J365 at h
  by_cases c : v365_6.toInt = 0
  · replace h := h.1 c
    replace K := fun i ro uo z => K i ro uo (Or.inl ⟨c, z⟩)
    exact ⟨_, _, K i0 _ _ ⟨rfl, rfl⟩, h⟩
  · replace h := h.2 c
    replace K := fun i ro uo z => K i ro uo (Or.inr ⟨c, z⟩)
    obtain ⟨g1_, h⟩ := h
    replace K := fun i ro uo z => K i ro uo ⟨g1_, z⟩
    obtain ⟨g2_, h⟩ := h
    replace K := fun i ro uo z => K i ro uo ⟨g2_, z⟩
    obtain ⟨S16, eS16⟩ : ∃ x9 : MS, x9 = wI U365 77 v365_1.toInt.toNat ((qI U365 77 v365_1.toInt.toNat) + (1 : Int32)) := ⟨_, rfl⟩
    replace h := h S16 eS16
    replace K := fun i ro uo z => K i ro uo ⟨S16, eS16, z⟩
    exact ⟨_, _, K i0 _ _ ⟨rfl, rfl⟩, h⟩
set_option maxRecDepth 100000 in
theorem ru_apply_J128 {ι : Type} {P : Int32 → MS → Prop} {Q : Int32 → MS → Prop} {U128 : MS} {t128_0 : Int32} {v128_1 : Int32} {v128_2 : Int32} (i0 : ι) (K : ∀ (i : ι) (ro : Int32) (uo : MS), v_apply_J128 ro uo U128 t128_0 v128_1 v128_2 → P ro uo) (h : w_apply_J128 Q U128 t128_0 v128_1 v128_2) : ∃ ro uo, P ro uo ∧ Q ro uo := by
  unfold w_apply_J128 at h
  by_cases c : t128_0.toInt = 0
  · replace h := h.1 c
    replace K := fun i ro uo z => K i ro uo (Or.inl ⟨c, z⟩)
    exact ru_apply_J365 i0 K h
  · replace h := h.2 c
    replace K := fun i ro uo z => K i ro uo (Or.inr ⟨c, z⟩)
    obtain ⟨g3_, h⟩ := h
    replace K := fun i ro uo z => K i ro uo ⟨g3_, z⟩
    obtain ⟨S21, eS21⟩ : ∃ x9 : MS, x9 = wI U128 81 v128_2.toInt.toNat (vp_nar .boolean (1 : Int32)) := ⟨_, rfl⟩
    replace h := h S21 eS21
    replace K := fun i ro uo z => K i ro uo ⟨S21, eS21, z⟩
    exact ru_apply_J365 i0 K h
set_option maxRecDepth 100000 in
theorem ru_apply_J127 {ι : Type} {P : Int32 → MS → Prop} {Q : Int32 → MS → Prop} {U127 : MS} {v127_1 : Int32} {v127_2 : Int32} (i0 : ι) (K : ∀ (i : ι) (ro : Int32) (uo : MS), v_apply_J127 ro uo U127 v127_1 v127_2 → P ro uo) (h : w_apply_J127 Q U127 v127_1 v127_2) : ∃ ro uo, P ro uo ∧ Q ro uo := by
  unfold w_apply_J127 at h
  exact ru_apply_J128 i0 K h
set_option maxRecDepth 100000 in
theorem ru_apply_J159 {ι : Type} {P : Int32 → MS → Prop} {Q : Int32 → MS → Prop} {U159 : MS} {t159_0 : Int32} {v159_1 : Int32} {v159_2 : Int32} (i0 : ι) (K : ∀ (i : ι) (ro : Int32) (uo : MS), v_apply_J159 ro uo U159 t159_0 v159_1 v159_2 → P ro uo) (h : w_apply_J159 Q U159 t159_0 v159_1 v159_2) : ∃ ro uo, P ro uo ∧ Q ro uo := by
  unfold w_apply_J159 at h
  by_cases c : t159_0.toInt = 0
  · replace h := h.1 c
    replace K := fun i ro uo z => K i ro uo (Or.inl ⟨c, z⟩)
    exact ru_apply_J365 i0 K h
  · replace h := h.2 c
    replace K := fun i ro uo z => K i ro uo (Or.inr ⟨c, z⟩)
    obtain ⟨g4_, h⟩ := h
    replace K := fun i ro uo z => K i ro uo ⟨g4_, z⟩
    obtain ⟨S32, eS32⟩ : ∃ x9 : MS, x9 = wI U159 81 v159_2.toInt.toNat (vp_nar .boolean (1 : Int32)) := ⟨_, rfl⟩
    replace h := h S32 eS32
    replace K := fun i ro uo z => K i ro uo ⟨S32, eS32, z⟩
    exact ru_apply_J365 i0 K h
set_option maxRecDepth 100000 in
theorem ru_apply_J197 {ι : Type} {P : Int32 → MS → Prop} {Q : Int32 → MS → Prop} {U197 : MS} {t197_0 : Int32} {v197_1 : Int32} (i0 : ι) (K : ∀ (i : ι) (ro : Int32) (uo : MS), v_apply_J197 ro uo U197 t197_0 v197_1 → P ro uo) (h : w_apply_J197 Q U197 t197_0 v197_1) : ∃ ro uo, P ro uo ∧ Q ro uo := by
  unfold w_apply_J197 at h
  exact ru_apply_J365 i0 K h
set_option maxRecDepth 100000 in
theorem ru_apply_J196 {ι : Type} {P : Int32 → MS → Prop} {Q : Int32 → MS → Prop} {U196 : MS} {v196_1 : Int32} (i0 : ι) (K : ∀ (i : ι) (ro : Int32) (uo : MS), v_apply_J196 ro uo U196 v196_1 → P ro uo) (h : w_apply_J196 Q U196 v196_1) : ∃ ro uo, P ro uo ∧ Q ro uo := by
  unfold w_apply_J196 at h
  exact ru_apply_J197 i0 K h
set_option maxRecDepth 100000 in
theorem ru_apply_J222 {ι : Type} {P : Int32 → MS → Prop} {Q : Int32 → MS → Prop} {U222 : MS} {t222_0 : Int32} {v222_1 : Int32} (i0 : ι) (K : ∀ (i : ι) (ro : Int32) (uo : MS), v_apply_J222 ro uo U222 t222_0 v222_1 → P ro uo) (h : w_apply_J222 Q U222 t222_0 v222_1) : ∃ ro uo, P ro uo ∧ Q ro uo := by
  unfold w_apply_J222 at h
  exact ru_apply_J365 i0 K h
set_option maxRecDepth 100000 in
theorem ru_apply_J221 {ι : Type} {P : Int32 → MS → Prop} {Q : Int32 → MS → Prop} {U221 : MS} {v221_1 : Int32} (i0 : ι) (K : ∀ (i : ι) (ro : Int32) (uo : MS), v_apply_J221 ro uo U221 v221_1 → P ro uo) (h : w_apply_J221 Q U221 v221_1) : ∃ ro uo, P ro uo ∧ Q ro uo := by
  unfold w_apply_J221 at h
  exact ru_apply_J222 i0 K h
set_option maxRecDepth 100000 in
theorem ru_apply_J248 {ι : Type} {P : Int32 → MS → Prop} {Q : Int32 → MS → Prop} {U248 : MS} {t248_0 : Int32} {v248_1 : Int32} (i0 : ι) (K : ∀ (i : ι) (ro : Int32) (uo : MS), v_apply_J248 ro uo U248 t248_0 v248_1 → P ro uo) (h : w_apply_J248 Q U248 t248_0 v248_1) : ∃ ro uo, P ro uo ∧ Q ro uo := by
  unfold w_apply_J248 at h
  exact ru_apply_J365 i0 K h
set_option maxRecDepth 100000 in
theorem ru_apply_J247 {ι : Type} {P : Int32 → MS → Prop} {Q : Int32 → MS → Prop} {U247 : MS} {v247_1 : Int32} (i0 : ι) (K : ∀ (i : ι) (ro : Int32) (uo : MS), v_apply_J247 ro uo U247 v247_1 → P ro uo) (h : w_apply_J247 Q U247 v247_1) : ∃ ro uo, P ro uo ∧ Q ro uo := by
  unfold w_apply_J247 at h
  exact ru_apply_J248 i0 K h
set_option maxRecDepth 100000 in
theorem ru_apply_J283 {ι : Type} {P : Int32 → MS → Prop} {Q : Int32 → MS → Prop} {U283 : MS} {t283_0 : Int32} {v283_1 : Int32} (i0 : ι) (K : ∀ (i : ι) (ro : Int32) (uo : MS), v_apply_J283 ro uo U283 t283_0 v283_1 → P ro uo) (h : w_apply_J283 Q U283 t283_0 v283_1) : ∃ ro uo, P ro uo ∧ Q ro uo := by
  unfold w_apply_J283 at h
  exact ru_apply_J365 i0 K h
set_option maxRecDepth 100000 in
theorem ru_apply_J282 {ι : Type} {P : Int32 → MS → Prop} {Q : Int32 → MS → Prop} {U282 : MS} {v282_1 : Int32} (i0 : ι) (K : ∀ (i : ι) (ro : Int32) (uo : MS), v_apply_J282 ro uo U282 v282_1 → P ro uo) (h : w_apply_J282 Q U282 v282_1) : ∃ ro uo, P ro uo ∧ Q ro uo := by
  unfold w_apply_J282 at h
  exact ru_apply_J283 i0 K h
set_option maxRecDepth 100000 in
theorem ru_apply_J318 {ι : Type} {P : Int32 → MS → Prop} {Q : Int32 → MS → Prop} {U318 : MS} {t318_0 : Int32} {v318_1 : Int32} (i0 : ι) (K : ∀ (i : ι) (ro : Int32) (uo : MS), v_apply_J318 ro uo U318 t318_0 v318_1 → P ro uo) (h : w_apply_J318 Q U318 t318_0 v318_1) : ∃ ro uo, P ro uo ∧ Q ro uo := by
  unfold w_apply_J318 at h
  exact ru_apply_J365 i0 K h
set_option maxRecDepth 100000 in
theorem ru_apply_J317 {ι : Type} {P : Int32 → MS → Prop} {Q : Int32 → MS → Prop} {U317 : MS} {v317_1 : Int32} (i0 : ι) (K : ∀ (i : ι) (ro : Int32) (uo : MS), v_apply_J317 ro uo U317 v317_1 → P ro uo) (h : w_apply_J317 Q U317 v317_1) : ∃ ro uo, P ro uo ∧ Q ro uo := by
  unfold w_apply_J317 at h
  exact ru_apply_J318 i0 K h
set_option maxRecDepth 100000 in
theorem ru_apply_J353 {ι : Type} {P : Int32 → MS → Prop} {Q : Int32 → MS → Prop} {U353 : MS} {t353_0 : Int32} {v353_1 : Int32} (i0 : ι) (K : ∀ (i : ι) (ro : Int32) (uo : MS), v_apply_J353 ro uo U353 t353_0 v353_1 → P ro uo) (h : w_apply_J353 Q U353 t353_0 v353_1) : ∃ ro uo, P ro uo ∧ Q ro uo := by
  unfold w_apply_J353 at h
  exact ru_apply_J365 i0 K h
set_option maxRecDepth 100000 in
theorem ru_apply_J352 {ι : Type} {P : Int32 → MS → Prop} {Q : Int32 → MS → Prop} {U352 : MS} {v352_1 : Int32} (i0 : ι) (K : ∀ (i : ι) (ro : Int32) (uo : MS), v_apply_J352 ro uo U352 v352_1 → P ro uo) (h : w_apply_J352 Q U352 v352_1) : ∃ ro uo, P ro uo ∧ Q ro uo := by
  unfold w_apply_J352 at h
  exact ru_apply_J353 i0 K h
set_option maxRecDepth 100000 in
theorem ru_apply_J51 {ι : Type} {P : Int32 → MS → Prop} {Q : Int32 → MS → Prop} {U51 : MS} {t51_0 : Int32} {v51_1 : Int32} {v51_2 : Int32} {v51_3 : Int32} {v51_4 : Int32} (i0 : ι) (K : ∀ (i : ι) (ro : Int32) (uo : MS), v_apply_J51 ro uo U51 t51_0 v51_1 v51_2 v51_3 v51_4 → P ro uo) (h : w_apply_J51 Q U51 t51_0 v51_1 v51_2 v51_3 v51_4) : ∃ ro uo, P ro uo ∧ Q ro uo := by
  unfold w_apply_J51 at h
  by_cases c : v51_1.toInt = 3
  · replace h := h.1 c
    replace K := fun i ro uo z => K i ro uo (Or.inl ⟨c, z⟩)
    obtain ⟨g5_, h⟩ := h
    replace K := fun i ro uo z => K i ro uo ⟨g5_, z⟩
    by_cases c : (qI U51 78 v51_2.toInt.toNat).toInt = 167
    · replace h := h.1 c
      replace K := fun i ro uo z => K i ro uo (Or.inl ⟨c, z⟩)
      obtain ⟨Q9, h0, h⟩ := h
      obtain ⟨r24, S25, z9, g9⟩ := ru_wayOf h0
      replace h := h r24 S25 g9
      replace K := fun i ro uo z => K i ro uo ⟨r24, S25, z9, z⟩
      by_cases c : r24.toInt = v51_4.toInt
      · replace h := h.1 c
        replace K := fun i ro uo z => K i ro uo (Or.inl ⟨c, z⟩)
        exact ru_apply_J128 i0 K h
      · replace h := h.2 c
        replace K := fun i ro uo z => K i ro uo (Or.inr ⟨c, z⟩)
        exact ru_apply_J127 i0 K h
    · replace h := h.2 c
      replace K := fun i ro uo z => K i ro uo (Or.inr ⟨c, z⟩)
      exact ru_apply_J127 i0 K h
  · replace h := h.2 c
    replace K := fun i ro uo z => K i ro uo (Or.inr ⟨c, z⟩)
    by_cases c : v51_1.toInt = 4
    · replace h := h.1 c
      replace K := fun i ro uo z => K i ro uo (Or.inl ⟨c, z⟩)
      obtain ⟨g6_, h⟩ := h
      replace K := fun i ro uo z => K i ro uo ⟨g6_, z⟩
      by_cases c : (qI U51 78 v51_2.toInt.toNat).toInt = 0
      · replace h := h.1 c
        replace K := fun i ro uo z => K i ro uo (Or.inl ⟨c, z⟩)
        exact ru_apply_J159 i0 K h
      · replace h := h.2 c
        replace K := fun i ro uo z => K i ro uo (Or.inr ⟨c, z⟩)
        exact ru_apply_J159 i0 K h
    · replace h := h.2 c
      replace K := fun i ro uo z => K i ro uo (Or.inr ⟨c, z⟩)
      by_cases c : v51_1.toInt = 5
      · replace h := h.1 c
        replace K := fun i ro uo z => K i ro uo (Or.inl ⟨c, z⟩)
        by_cases c : t51_0.toInt = 0
        · replace h := h.1 c
          replace K := fun i ro uo z => K i ro uo (Or.inl ⟨c, z⟩)
          exact ru_apply_J196 i0 K h
        · replace h := h.2 c
          replace K := fun i ro uo z => K i ro uo (Or.inr ⟨c, z⟩)
          obtain ⟨Q9, h0, h⟩ := h
          obtain ⟨r36, S37, z9, g9⟩ := ru_folded h0
          replace h := h r36 S37 g9
          replace K := fun i ro uo z => K i ro uo ⟨r36, S37, z9, z⟩
          by_cases c : r36.toInt = 0
          · replace h := h.1 c
            replace K := fun i ro uo z => K i ro uo (Or.inl ⟨c, z⟩)
            exact ru_apply_J196 i0 K h
          · replace h := h.2 c
            replace K := fun i ro uo z => K i ro uo (Or.inr ⟨c, z⟩)
            exact ru_apply_J197 i0 K h
      · replace h := h.2 c
        replace K := fun i ro uo z => K i ro uo (Or.inr ⟨c, z⟩)
        by_cases c : v51_1.toInt = 6
        · replace h := h.1 c
          replace K := fun i ro uo z => K i ro uo (Or.inl ⟨c, z⟩)
          by_cases c : t51_0.toInt = 0
          · replace h := h.1 c
            replace K := fun i ro uo z => K i ro uo (Or.inl ⟨c, z⟩)
            exact ru_apply_J221 i0 K h
          · replace h := h.2 c
            replace K := fun i ro uo z => K i ro uo (Or.inr ⟨c, z⟩)
            obtain ⟨Q9, h0, h⟩ := h
            obtain ⟨r42, S43, z9, g9⟩ := ru_turnedRow h0
            replace h := h r42 S43 g9
            replace K := fun i ro uo z => K i ro uo ⟨r42, S43, z9, z⟩
            by_cases c : r42.toInt = 0
            · replace h := h.1 c
              replace K := fun i ro uo z => K i ro uo (Or.inl ⟨c, z⟩)
              exact ru_apply_J221 i0 K h
            · replace h := h.2 c
              replace K := fun i ro uo z => K i ro uo (Or.inr ⟨c, z⟩)
              exact ru_apply_J222 i0 K h
        · replace h := h.2 c
          replace K := fun i ro uo z => K i ro uo (Or.inr ⟨c, z⟩)
          by_cases c : v51_1.toInt = 7
          · replace h := h.1 c
            replace K := fun i ro uo z => K i ro uo (Or.inl ⟨c, z⟩)
            by_cases c : t51_0.toInt = 0
            · replace h := h.1 c
              replace K := fun i ro uo z => K i ro uo (Or.inl ⟨c, z⟩)
              exact ru_apply_J247 i0 K h
            · replace h := h.2 c
              replace K := fun i ro uo z => K i ro uo (Or.inr ⟨c, z⟩)
              obtain ⟨Q9, h0, h⟩ := h
              obtain ⟨r48, S49, z9, g9⟩ := ru_decided h0
              replace h := h r48 S49 g9
              replace K := fun i ro uo z => K i ro uo ⟨r48, S49, z9, z⟩
              by_cases c : r48.toInt = 0
              · replace h := h.1 c
                replace K := fun i ro uo z => K i ro uo (Or.inl ⟨c, z⟩)
                exact ru_apply_J247 i0 K h
              · replace h := h.2 c
                replace K := fun i ro uo z => K i ro uo (Or.inr ⟨c, z⟩)
                exact ru_apply_J248 i0 K h
          · replace h := h.2 c
            replace K := fun i ro uo z => K i ro uo (Or.inr ⟨c, z⟩)
            by_cases c : v51_1.toInt = 8
            · replace h := h.1 c
              replace K := fun i ro uo z => K i ro uo (Or.inl ⟨c, z⟩)
              by_cases c : t51_0.toInt = 0
              · replace h := h.1 c
                replace K := fun i ro uo z => K i ro uo (Or.inl ⟨c, z⟩)
                exact ru_apply_J282 i0 K h
              · replace h := h.2 c
                replace K := fun i ro uo z => K i ro uo (Or.inr ⟨c, z⟩)
                obtain ⟨g7_, h⟩ := h
                replace K := fun i ro uo z => K i ro uo ⟨g7_, z⟩
                by_cases c : (f_isIdle U51 v51_2 v51_4).toInt = 0
                · replace h := h.1 c
                  replace K := fun i ro uo z => K i ro uo (Or.inl ⟨c, z⟩)
                  exact ru_apply_J282 i0 K h
                · replace h := h.2 c
                  replace K := fun i ro uo z => K i ro uo (Or.inr ⟨c, z⟩)
                  obtain ⟨Q9, h0, h⟩ := h
                  obtain ⟨r58, S59, z9, g9⟩ := ru_goBoth h0
                  replace h := h r58 S59 g9
                  replace K := fun i ro uo z => K i ro uo ⟨r58, S59, z9, z⟩
                  by_cases c : r58.toInt = 0
                  · replace h := h.1 c
                    replace K := fun i ro uo z => K i ro uo (Or.inl ⟨c, z⟩)
                    exact ru_apply_J282 i0 K h
                  · replace h := h.2 c
                    replace K := fun i ro uo z => K i ro uo (Or.inr ⟨c, z⟩)
                    exact ru_apply_J283 i0 K h
            · replace h := h.2 c
              replace K := fun i ro uo z => K i ro uo (Or.inr ⟨c, z⟩)
              by_cases c : v51_1.toInt = 9
              · replace h := h.1 c
                replace K := fun i ro uo z => K i ro uo (Or.inl ⟨c, z⟩)
                by_cases c : t51_0.toInt = 0
                · replace h := h.1 c
                  replace K := fun i ro uo z => K i ro uo (Or.inl ⟨c, z⟩)
                  exact ru_apply_J317 i0 K h
                · replace h := h.2 c
                  replace K := fun i ro uo z => K i ro uo (Or.inr ⟨c, z⟩)
                  obtain ⟨g8_, h⟩ := h
                  replace K := fun i ro uo z => K i ro uo ⟨g8_, z⟩
                  by_cases c : (f_isDropped U51 v51_2 v51_4).toInt = 0
                  · replace h := h.1 c
                    replace K := fun i ro uo z => K i ro uo (Or.inl ⟨c, z⟩)
                    exact ru_apply_J317 i0 K h
                  · replace h := h.2 c
                    replace K := fun i ro uo z => K i ro uo (Or.inr ⟨c, z⟩)
                    obtain ⟨Q9, h0, h⟩ := h
                    obtain ⟨r68, S69, z9, g9⟩ := ru_goBoth h0
                    replace h := h r68 S69 g9
                    replace K := fun i ro uo z => K i ro uo ⟨r68, S69, z9, z⟩
                    by_cases c : r68.toInt = 0
                    · replace h := h.1 c
                      replace K := fun i ro uo z => K i ro uo (Or.inl ⟨c, z⟩)
                      exact ru_apply_J317 i0 K h
                    · replace h := h.2 c
                      replace K := fun i ro uo z => K i ro uo (Or.inr ⟨c, z⟩)
                      exact ru_apply_J318 i0 K h
              · replace h := h.2 c
                replace K := fun i ro uo z => K i ro uo (Or.inr ⟨c, z⟩)
                by_cases c : v51_1.toInt = 10
                · replace h := h.1 c
                  replace K := fun i ro uo z => K i ro uo (Or.inl ⟨c, z⟩)
                  by_cases c : t51_0.toInt = 0
                  · replace h := h.1 c
                    replace K := fun i ro uo z => K i ro uo (Or.inl ⟨c, z⟩)
                    exact ru_apply_J352 i0 K h
                  · replace h := h.2 c
                    replace K := fun i ro uo z => K i ro uo (Or.inr ⟨c, z⟩)
                    obtain ⟨Q9, h0, h⟩ := h
                    obtain ⟨r74, S75, z9, g9⟩ := ru_isBack h0
                    replace h := h r74 S75 g9
                    replace K := fun i ro uo z => K i ro uo ⟨r74, S75, z9, z⟩
                    by_cases c : r74.toInt = 0
                    · replace h := h.1 c
                      replace K := fun i ro uo z => K i ro uo (Or.inl ⟨c, z⟩)
                      exact ru_apply_J352 i0 K h
                    · replace h := h.2 c
                      replace K := fun i ro uo z => K i ro uo (Or.inr ⟨c, z⟩)
                      obtain ⟨Q9, h0, h⟩ := h
                      obtain ⟨r79, S80, z9, g9⟩ := ru_goBoth h0
                      replace h := h r79 S80 g9
                      replace K := fun i ro uo z => K i ro uo ⟨r79, S80, z9, z⟩
                      by_cases c : r79.toInt = 0
                      · replace h := h.1 c
                        replace K := fun i ro uo z => K i ro uo (Or.inl ⟨c, z⟩)
                        exact ru_apply_J352 i0 K h
                      · replace h := h.2 c
                        replace K := fun i ro uo z => K i ro uo (Or.inr ⟨c, z⟩)
                        exact ru_apply_J353 i0 K h
                · replace h := h.2 c
                  replace K := fun i ro uo z => K i ro uo (Or.inr ⟨c, z⟩)
                  obtain ⟨Q9, h0, h⟩ := h
                  obtain ⟨r84, S85, z9, g9⟩ := ru_dead h0
                  replace h := h r84 S85 g9
                  replace K := fun i ro uo z => K i ro uo ⟨r84, S85, z9, z⟩
                  exact ru_apply_J365 i0 K h
set_option maxRecDepth 100000 in
theorem ru_apply_J50 {ι : Type} {P : Int32 → MS → Prop} {Q : Int32 → MS → Prop} {U50 : MS} {v50_1 : Int32} {v50_2 : Int32} {v50_3 : Int32} {v50_4 : Int32} (i0 : ι) (K : ∀ (i : ι) (ro : Int32) (uo : MS), v_apply_J50 ro uo U50 v50_1 v50_2 v50_3 v50_4 → P ro uo) (h : w_apply_J50 Q U50 v50_1 v50_2 v50_3 v50_4) : ∃ ro uo, P ro uo ∧ Q ro uo := by
  unfold w_apply_J50 at h
  exact ru_apply_J51 i0 K h
set_option maxRecDepth 100000 in
theorem ru_apply {S : MS} {x1 : Int32} {x2 : Int32} {Q : Int32 → MS → Prop} (h : w_apply S x1 x2 Q) : ∃ ro uo, v_apply S x1 x2 ro uo ∧ Q ro uo := by
  have i0 : Unit := ()
  have K : ∀ (i : Unit) (ro : Int32) (uo : MS), v_apply S x1 x2 ro uo → v_apply S x1 x2 ro uo := fun _ _ _ z => z
  unfold w_apply at h
  by_cases c : x1.toInt = 2
  · replace h := h.1 c
    replace K := fun i ro uo z => K i ro uo (Or.inl ⟨c, z⟩)
    obtain ⟨Q9, h0, h⟩ := h
    obtain ⟨r92, S93, z9, g9⟩ := ru_threaded h0
    replace h := h r92 S93 g9
    replace K := fun i ro uo z => K i ro uo ⟨r92, S93, z9, z⟩
    exact ⟨_, _, K i0 _ _ ⟨rfl, rfl⟩, h⟩
  · replace h := h.2 c
    replace K := fun i ro uo z => K i ro uo (Or.inr ⟨c, z⟩)
    obtain ⟨Q9, h0, h⟩ := h
    obtain ⟨r3, S4, z9, g9⟩ := ru_lastOne h0
    replace h := h r3 S4 g9
    replace K := fun i ro uo z => K i ro uo ⟨r3, S4, z9, z⟩
    by_cases c : x2.toInt = r3.toInt
    · replace h := h.1 c
      replace K := fun i ro uo z => K i ro uo (Or.inl ⟨c, z⟩)
      exact ⟨_, _, K i0 _ _ ⟨rfl, rfl⟩, h⟩
    · replace h := h.2 c
      replace K := fun i ro uo z => K i ro uo (Or.inr ⟨c, z⟩)
      obtain ⟨Q9, h0, h⟩ := h
      obtain ⟨r8, S9, z9, g9⟩ := ru_behind h0
      replace h := h r8 S9 g9
      replace K := fun i ro uo z => K i ro uo ⟨r8, S9, z9, z⟩
      by_cases c : r8.toInt = r3.toInt
      · replace h := h.1 c
        replace K := fun i ro uo z => K i ro uo (Or.inl ⟨c, z⟩)
        exact ru_apply_J50 i0 K h
      · replace h := h.2 c
        replace K := fun i ro uo z => K i ro uo (Or.inr ⟨c, z⟩)
        obtain ⟨g9_, h⟩ := h
        replace K := fun i ro uo z => K i ro uo ⟨g9_, z⟩
        by_cases c : (qI S9 87 r8.toInt.toNat).toInt = 0
        · replace h := h.1 c
          replace K := fun i ro uo z => K i ro uo (Or.inl ⟨c, z⟩)
          exact ru_apply_J51 i0 K h
        · replace h := h.2 c
          replace K := fun i ro uo z => K i ro uo (Or.inr ⟨c, z⟩)
          exact ru_apply_J50 i0 K h
set_option maxRecDepth 100000 in
theorem vw_apply_J365 {ro : Int32} {uo : MS} {U365 : MS} {v365_1 : Int32} {v365_6 : Int32} (h : v_apply_J365 ro uo U365 v365_1 v365_6) : w_apply_J365 (fun r u => r = ro ∧ u = uo) U365 v365_1 v365_6 := by
  unfold v_apply_J365 at h
  unfold w_apply_J365
  rcases h with ⟨c, h⟩ | ⟨c, h⟩
  · refine ⟨fun _ => ?_, fun c2 => absurd c c2⟩
    exact ⟨h.1.symm, h.2.symm⟩
  · refine ⟨fun c2 => absurd c2 c, fun _ => ?_⟩
    obtain ⟨g9, h⟩ := h
    refine ⟨g9, ?_⟩
    obtain ⟨g9, h⟩ := h
    refine ⟨g9, ?_⟩
    obtain ⟨v9, e9, h⟩ := h
    intro x9 d9
    have c9 : v9 = x9 := e9.trans d9.symm
    subst c9
    exact ⟨h.1.symm, h.2.symm⟩
set_option maxRecDepth 100000 in
theorem vz_apply_J365 {ro : Int32} {uo : MS} {Q : Int32 → MS → Prop} {U365 : MS} {v365_1 : Int32} {v365_6 : Int32} (h : v_apply_J365 ro uo U365 v365_1 v365_6) (w : w_apply_J365 Q U365 v365_1 v365_6) : Q ro uo := by
  unfold v_apply_J365 at h
  unfold w_apply_J365 at w
  rcases h with ⟨c, h⟩ | ⟨c, h⟩
  · replace w := w.1 c
    rw [h.1, h.2]
    exact w
  · replace w := w.2 c
    replace h := h.2
    replace w := w.2
    replace h := h.2
    replace w := w.2
    obtain ⟨v9, e9, h⟩ := h
    replace w := w v9 e9
    rw [h.1, h.2]
    exact w
set_option maxRecDepth 100000 in
theorem vw_apply_J128 {ro : Int32} {uo : MS} {U128 : MS} {t128_0 : Int32} {v128_1 : Int32} {v128_2 : Int32} (h : v_apply_J128 ro uo U128 t128_0 v128_1 v128_2) : w_apply_J128 (fun r u => r = ro ∧ u = uo) U128 t128_0 v128_1 v128_2 := by
  unfold v_apply_J128 at h
  unfold w_apply_J128
  rcases h with ⟨c, h⟩ | ⟨c, h⟩
  · refine ⟨fun _ => ?_, fun c2 => absurd c c2⟩
    exact vw_apply_J365 h
  · refine ⟨fun c2 => absurd c2 c, fun _ => ?_⟩
    obtain ⟨g9, h⟩ := h
    refine ⟨g9, ?_⟩
    obtain ⟨v9, e9, h⟩ := h
    intro x9 d9
    have c9 : v9 = x9 := e9.trans d9.symm
    subst c9
    exact vw_apply_J365 h
set_option maxRecDepth 100000 in
theorem vz_apply_J128 {ro : Int32} {uo : MS} {Q : Int32 → MS → Prop} {U128 : MS} {t128_0 : Int32} {v128_1 : Int32} {v128_2 : Int32} (h : v_apply_J128 ro uo U128 t128_0 v128_1 v128_2) (w : w_apply_J128 Q U128 t128_0 v128_1 v128_2) : Q ro uo := by
  unfold v_apply_J128 at h
  unfold w_apply_J128 at w
  rcases h with ⟨c, h⟩ | ⟨c, h⟩
  · replace w := w.1 c
    exact vz_apply_J365 h w
  · replace w := w.2 c
    replace h := h.2
    replace w := w.2
    obtain ⟨v9, e9, h⟩ := h
    replace w := w v9 e9
    exact vz_apply_J365 h w
set_option maxRecDepth 100000 in
theorem vw_apply_J127 {ro : Int32} {uo : MS} {U127 : MS} {v127_1 : Int32} {v127_2 : Int32} (h : v_apply_J127 ro uo U127 v127_1 v127_2) : w_apply_J127 (fun r u => r = ro ∧ u = uo) U127 v127_1 v127_2 := by
  unfold v_apply_J127 at h
  unfold w_apply_J127
  exact vw_apply_J128 h
set_option maxRecDepth 100000 in
theorem vz_apply_J127 {ro : Int32} {uo : MS} {Q : Int32 → MS → Prop} {U127 : MS} {v127_1 : Int32} {v127_2 : Int32} (h : v_apply_J127 ro uo U127 v127_1 v127_2) (w : w_apply_J127 Q U127 v127_1 v127_2) : Q ro uo := by
  unfold v_apply_J127 at h
  unfold w_apply_J127 at w
  exact vz_apply_J128 h w
set_option maxRecDepth 100000 in
theorem vw_apply_J159 {ro : Int32} {uo : MS} {U159 : MS} {t159_0 : Int32} {v159_1 : Int32} {v159_2 : Int32} (h : v_apply_J159 ro uo U159 t159_0 v159_1 v159_2) : w_apply_J159 (fun r u => r = ro ∧ u = uo) U159 t159_0 v159_1 v159_2 := by
  unfold v_apply_J159 at h
  unfold w_apply_J159
  rcases h with ⟨c, h⟩ | ⟨c, h⟩
  · refine ⟨fun _ => ?_, fun c2 => absurd c c2⟩
    exact vw_apply_J365 h
  · refine ⟨fun c2 => absurd c2 c, fun _ => ?_⟩
    obtain ⟨g9, h⟩ := h
    refine ⟨g9, ?_⟩
    obtain ⟨v9, e9, h⟩ := h
    intro x9 d9
    have c9 : v9 = x9 := e9.trans d9.symm
    subst c9
    exact vw_apply_J365 h
set_option maxRecDepth 100000 in
theorem vz_apply_J159 {ro : Int32} {uo : MS} {Q : Int32 → MS → Prop} {U159 : MS} {t159_0 : Int32} {v159_1 : Int32} {v159_2 : Int32} (h : v_apply_J159 ro uo U159 t159_0 v159_1 v159_2) (w : w_apply_J159 Q U159 t159_0 v159_1 v159_2) : Q ro uo := by
  unfold v_apply_J159 at h
  unfold w_apply_J159 at w
  rcases h with ⟨c, h⟩ | ⟨c, h⟩
  · replace w := w.1 c
    exact vz_apply_J365 h w
  · replace w := w.2 c
    replace h := h.2
    replace w := w.2
    obtain ⟨v9, e9, h⟩ := h
    replace w := w v9 e9
    exact vz_apply_J365 h w
set_option maxRecDepth 100000 in
theorem vw_apply_J197 {ro : Int32} {uo : MS} {U197 : MS} {t197_0 : Int32} {v197_1 : Int32} (h : v_apply_J197 ro uo U197 t197_0 v197_1) : w_apply_J197 (fun r u => r = ro ∧ u = uo) U197 t197_0 v197_1 := by
  unfold v_apply_J197 at h
  unfold w_apply_J197
  exact vw_apply_J365 h
set_option maxRecDepth 100000 in
theorem vz_apply_J197 {ro : Int32} {uo : MS} {Q : Int32 → MS → Prop} {U197 : MS} {t197_0 : Int32} {v197_1 : Int32} (h : v_apply_J197 ro uo U197 t197_0 v197_1) (w : w_apply_J197 Q U197 t197_0 v197_1) : Q ro uo := by
  unfold v_apply_J197 at h
  unfold w_apply_J197 at w
  exact vz_apply_J365 h w
set_option maxRecDepth 100000 in
theorem vw_apply_J196 {ro : Int32} {uo : MS} {U196 : MS} {v196_1 : Int32} (h : v_apply_J196 ro uo U196 v196_1) : w_apply_J196 (fun r u => r = ro ∧ u = uo) U196 v196_1 := by
  unfold v_apply_J196 at h
  unfold w_apply_J196
  exact vw_apply_J197 h
set_option maxRecDepth 100000 in
theorem vz_apply_J196 {ro : Int32} {uo : MS} {Q : Int32 → MS → Prop} {U196 : MS} {v196_1 : Int32} (h : v_apply_J196 ro uo U196 v196_1) (w : w_apply_J196 Q U196 v196_1) : Q ro uo := by
  unfold v_apply_J196 at h
  unfold w_apply_J196 at w
  exact vz_apply_J197 h w
set_option maxRecDepth 100000 in
theorem vw_apply_J222 {ro : Int32} {uo : MS} {U222 : MS} {t222_0 : Int32} {v222_1 : Int32} (h : v_apply_J222 ro uo U222 t222_0 v222_1) : w_apply_J222 (fun r u => r = ro ∧ u = uo) U222 t222_0 v222_1 := by
  unfold v_apply_J222 at h
  unfold w_apply_J222
  exact vw_apply_J365 h
set_option maxRecDepth 100000 in
theorem vz_apply_J222 {ro : Int32} {uo : MS} {Q : Int32 → MS → Prop} {U222 : MS} {t222_0 : Int32} {v222_1 : Int32} (h : v_apply_J222 ro uo U222 t222_0 v222_1) (w : w_apply_J222 Q U222 t222_0 v222_1) : Q ro uo := by
  unfold v_apply_J222 at h
  unfold w_apply_J222 at w
  exact vz_apply_J365 h w
set_option maxRecDepth 100000 in
theorem vw_apply_J221 {ro : Int32} {uo : MS} {U221 : MS} {v221_1 : Int32} (h : v_apply_J221 ro uo U221 v221_1) : w_apply_J221 (fun r u => r = ro ∧ u = uo) U221 v221_1 := by
  unfold v_apply_J221 at h
  unfold w_apply_J221
  exact vw_apply_J222 h
set_option maxRecDepth 100000 in
theorem vz_apply_J221 {ro : Int32} {uo : MS} {Q : Int32 → MS → Prop} {U221 : MS} {v221_1 : Int32} (h : v_apply_J221 ro uo U221 v221_1) (w : w_apply_J221 Q U221 v221_1) : Q ro uo := by
  unfold v_apply_J221 at h
  unfold w_apply_J221 at w
  exact vz_apply_J222 h w
set_option maxRecDepth 100000 in
theorem vw_apply_J248 {ro : Int32} {uo : MS} {U248 : MS} {t248_0 : Int32} {v248_1 : Int32} (h : v_apply_J248 ro uo U248 t248_0 v248_1) : w_apply_J248 (fun r u => r = ro ∧ u = uo) U248 t248_0 v248_1 := by
  unfold v_apply_J248 at h
  unfold w_apply_J248
  exact vw_apply_J365 h
set_option maxRecDepth 100000 in
theorem vz_apply_J248 {ro : Int32} {uo : MS} {Q : Int32 → MS → Prop} {U248 : MS} {t248_0 : Int32} {v248_1 : Int32} (h : v_apply_J248 ro uo U248 t248_0 v248_1) (w : w_apply_J248 Q U248 t248_0 v248_1) : Q ro uo := by
  unfold v_apply_J248 at h
  unfold w_apply_J248 at w
  exact vz_apply_J365 h w
set_option maxRecDepth 100000 in
theorem vw_apply_J247 {ro : Int32} {uo : MS} {U247 : MS} {v247_1 : Int32} (h : v_apply_J247 ro uo U247 v247_1) : w_apply_J247 (fun r u => r = ro ∧ u = uo) U247 v247_1 := by
  unfold v_apply_J247 at h
  unfold w_apply_J247
  exact vw_apply_J248 h
set_option maxRecDepth 100000 in
theorem vz_apply_J247 {ro : Int32} {uo : MS} {Q : Int32 → MS → Prop} {U247 : MS} {v247_1 : Int32} (h : v_apply_J247 ro uo U247 v247_1) (w : w_apply_J247 Q U247 v247_1) : Q ro uo := by
  unfold v_apply_J247 at h
  unfold w_apply_J247 at w
  exact vz_apply_J248 h w
set_option maxRecDepth 100000 in
theorem vw_apply_J283 {ro : Int32} {uo : MS} {U283 : MS} {t283_0 : Int32} {v283_1 : Int32} (h : v_apply_J283 ro uo U283 t283_0 v283_1) : w_apply_J283 (fun r u => r = ro ∧ u = uo) U283 t283_0 v283_1 := by
  unfold v_apply_J283 at h
  unfold w_apply_J283
  exact vw_apply_J365 h
set_option maxRecDepth 100000 in
theorem vz_apply_J283 {ro : Int32} {uo : MS} {Q : Int32 → MS → Prop} {U283 : MS} {t283_0 : Int32} {v283_1 : Int32} (h : v_apply_J283 ro uo U283 t283_0 v283_1) (w : w_apply_J283 Q U283 t283_0 v283_1) : Q ro uo := by
  unfold v_apply_J283 at h
  unfold w_apply_J283 at w
  exact vz_apply_J365 h w
set_option maxRecDepth 100000 in
theorem vw_apply_J282 {ro : Int32} {uo : MS} {U282 : MS} {v282_1 : Int32} (h : v_apply_J282 ro uo U282 v282_1) : w_apply_J282 (fun r u => r = ro ∧ u = uo) U282 v282_1 := by
  unfold v_apply_J282 at h
  unfold w_apply_J282
  exact vw_apply_J283 h
set_option maxRecDepth 100000 in
theorem vz_apply_J282 {ro : Int32} {uo : MS} {Q : Int32 → MS → Prop} {U282 : MS} {v282_1 : Int32} (h : v_apply_J282 ro uo U282 v282_1) (w : w_apply_J282 Q U282 v282_1) : Q ro uo := by
  unfold v_apply_J282 at h
  unfold w_apply_J282 at w
  exact vz_apply_J283 h w
set_option maxRecDepth 100000 in
theorem vw_apply_J318 {ro : Int32} {uo : MS} {U318 : MS} {t318_0 : Int32} {v318_1 : Int32} (h : v_apply_J318 ro uo U318 t318_0 v318_1) : w_apply_J318 (fun r u => r = ro ∧ u = uo) U318 t318_0 v318_1 := by
  unfold v_apply_J318 at h
  unfold w_apply_J318
  exact vw_apply_J365 h
set_option maxRecDepth 100000 in
theorem vz_apply_J318 {ro : Int32} {uo : MS} {Q : Int32 → MS → Prop} {U318 : MS} {t318_0 : Int32} {v318_1 : Int32} (h : v_apply_J318 ro uo U318 t318_0 v318_1) (w : w_apply_J318 Q U318 t318_0 v318_1) : Q ro uo := by
  unfold v_apply_J318 at h
  unfold w_apply_J318 at w
  exact vz_apply_J365 h w
set_option maxRecDepth 100000 in
theorem vw_apply_J317 {ro : Int32} {uo : MS} {U317 : MS} {v317_1 : Int32} (h : v_apply_J317 ro uo U317 v317_1) : w_apply_J317 (fun r u => r = ro ∧ u = uo) U317 v317_1 := by
  unfold v_apply_J317 at h
  unfold w_apply_J317
  exact vw_apply_J318 h
set_option maxRecDepth 100000 in
theorem vz_apply_J317 {ro : Int32} {uo : MS} {Q : Int32 → MS → Prop} {U317 : MS} {v317_1 : Int32} (h : v_apply_J317 ro uo U317 v317_1) (w : w_apply_J317 Q U317 v317_1) : Q ro uo := by
  unfold v_apply_J317 at h
  unfold w_apply_J317 at w
  exact vz_apply_J318 h w
set_option maxRecDepth 100000 in
theorem vw_apply_J353 {ro : Int32} {uo : MS} {U353 : MS} {t353_0 : Int32} {v353_1 : Int32} (h : v_apply_J353 ro uo U353 t353_0 v353_1) : w_apply_J353 (fun r u => r = ro ∧ u = uo) U353 t353_0 v353_1 := by
  unfold v_apply_J353 at h
  unfold w_apply_J353
  exact vw_apply_J365 h
set_option maxRecDepth 100000 in
theorem vz_apply_J353 {ro : Int32} {uo : MS} {Q : Int32 → MS → Prop} {U353 : MS} {t353_0 : Int32} {v353_1 : Int32} (h : v_apply_J353 ro uo U353 t353_0 v353_1) (w : w_apply_J353 Q U353 t353_0 v353_1) : Q ro uo := by
  unfold v_apply_J353 at h
  unfold w_apply_J353 at w
  exact vz_apply_J365 h w
set_option maxRecDepth 100000 in
theorem vw_apply_J352 {ro : Int32} {uo : MS} {U352 : MS} {v352_1 : Int32} (h : v_apply_J352 ro uo U352 v352_1) : w_apply_J352 (fun r u => r = ro ∧ u = uo) U352 v352_1 := by
  unfold v_apply_J352 at h
  unfold w_apply_J352
  exact vw_apply_J353 h
set_option maxRecDepth 100000 in
theorem vz_apply_J352 {ro : Int32} {uo : MS} {Q : Int32 → MS → Prop} {U352 : MS} {v352_1 : Int32} (h : v_apply_J352 ro uo U352 v352_1) (w : w_apply_J352 Q U352 v352_1) : Q ro uo := by
  unfold v_apply_J352 at h
  unfold w_apply_J352 at w
  exact vz_apply_J353 h w
set_option maxRecDepth 100000 in
theorem vw_apply_J51 {ro : Int32} {uo : MS} {U51 : MS} {t51_0 : Int32} {v51_1 : Int32} {v51_2 : Int32} {v51_3 : Int32} {v51_4 : Int32} (h : v_apply_J51 ro uo U51 t51_0 v51_1 v51_2 v51_3 v51_4) : w_apply_J51 (fun r u => r = ro ∧ u = uo) U51 t51_0 v51_1 v51_2 v51_3 v51_4 := by
  unfold v_apply_J51 at h
  unfold w_apply_J51
  rcases h with ⟨c, h⟩ | ⟨c, h⟩
  · refine ⟨fun _ => ?_, fun c2 => absurd c c2⟩
    obtain ⟨g9, h⟩ := h
    refine ⟨g9, ?_⟩
    rcases h with ⟨c, h⟩ | ⟨c, h⟩
    · refine ⟨fun _ => ?_, fun c2 => absurd c c2⟩
      obtain ⟨p9, q9, z9, h⟩ := h
      refine ⟨_, vw_wayOf z9, ?_⟩
      rintro p8 q8 ⟨d8, d9⟩
      subst d8
      subst d9
      rcases h with ⟨c, h⟩ | ⟨c, h⟩
      · refine ⟨fun _ => ?_, fun c2 => absurd c c2⟩
        exact vw_apply_J128 h
      · refine ⟨fun c2 => absurd c2 c, fun _ => ?_⟩
        exact vw_apply_J127 h
    · refine ⟨fun c2 => absurd c2 c, fun _ => ?_⟩
      exact vw_apply_J127 h
  · refine ⟨fun c2 => absurd c2 c, fun _ => ?_⟩
    rcases h with ⟨c, h⟩ | ⟨c, h⟩
    · refine ⟨fun _ => ?_, fun c2 => absurd c c2⟩
      obtain ⟨g9, h⟩ := h
      refine ⟨g9, ?_⟩
      rcases h with ⟨c, h⟩ | ⟨c, h⟩
      · refine ⟨fun _ => ?_, fun c2 => absurd c c2⟩
        exact vw_apply_J159 h
      · refine ⟨fun c2 => absurd c2 c, fun _ => ?_⟩
        exact vw_apply_J159 h
    · refine ⟨fun c2 => absurd c2 c, fun _ => ?_⟩
      rcases h with ⟨c, h⟩ | ⟨c, h⟩
      · refine ⟨fun _ => ?_, fun c2 => absurd c c2⟩
        rcases h with ⟨c, h⟩ | ⟨c, h⟩
        · refine ⟨fun _ => ?_, fun c2 => absurd c c2⟩
          exact vw_apply_J196 h
        · refine ⟨fun c2 => absurd c2 c, fun _ => ?_⟩
          obtain ⟨p9, q9, z9, h⟩ := h
          refine ⟨_, vw_folded z9, ?_⟩
          rintro p8 q8 ⟨d8, d9⟩
          subst d8
          subst d9
          rcases h with ⟨c, h⟩ | ⟨c, h⟩
          · refine ⟨fun _ => ?_, fun c2 => absurd c c2⟩
            exact vw_apply_J196 h
          · refine ⟨fun c2 => absurd c2 c, fun _ => ?_⟩
            exact vw_apply_J197 h
      · refine ⟨fun c2 => absurd c2 c, fun _ => ?_⟩
        rcases h with ⟨c, h⟩ | ⟨c, h⟩
        · refine ⟨fun _ => ?_, fun c2 => absurd c c2⟩
          rcases h with ⟨c, h⟩ | ⟨c, h⟩
          · refine ⟨fun _ => ?_, fun c2 => absurd c c2⟩
            exact vw_apply_J221 h
          · refine ⟨fun c2 => absurd c2 c, fun _ => ?_⟩
            obtain ⟨p9, q9, z9, h⟩ := h
            refine ⟨_, vw_turnedRow z9, ?_⟩
            rintro p8 q8 ⟨d8, d9⟩
            subst d8
            subst d9
            rcases h with ⟨c, h⟩ | ⟨c, h⟩
            · refine ⟨fun _ => ?_, fun c2 => absurd c c2⟩
              exact vw_apply_J221 h
            · refine ⟨fun c2 => absurd c2 c, fun _ => ?_⟩
              exact vw_apply_J222 h
        · refine ⟨fun c2 => absurd c2 c, fun _ => ?_⟩
          rcases h with ⟨c, h⟩ | ⟨c, h⟩
          · refine ⟨fun _ => ?_, fun c2 => absurd c c2⟩
            rcases h with ⟨c, h⟩ | ⟨c, h⟩
            · refine ⟨fun _ => ?_, fun c2 => absurd c c2⟩
              exact vw_apply_J247 h
            · refine ⟨fun c2 => absurd c2 c, fun _ => ?_⟩
              obtain ⟨p9, q9, z9, h⟩ := h
              refine ⟨_, vw_decided z9, ?_⟩
              rintro p8 q8 ⟨d8, d9⟩
              subst d8
              subst d9
              rcases h with ⟨c, h⟩ | ⟨c, h⟩
              · refine ⟨fun _ => ?_, fun c2 => absurd c c2⟩
                exact vw_apply_J247 h
              · refine ⟨fun c2 => absurd c2 c, fun _ => ?_⟩
                exact vw_apply_J248 h
          · refine ⟨fun c2 => absurd c2 c, fun _ => ?_⟩
            rcases h with ⟨c, h⟩ | ⟨c, h⟩
            · refine ⟨fun _ => ?_, fun c2 => absurd c c2⟩
              rcases h with ⟨c, h⟩ | ⟨c, h⟩
              · refine ⟨fun _ => ?_, fun c2 => absurd c c2⟩
                exact vw_apply_J282 h
              · refine ⟨fun c2 => absurd c2 c, fun _ => ?_⟩
                obtain ⟨g9, h⟩ := h
                refine ⟨g9, ?_⟩
                rcases h with ⟨c, h⟩ | ⟨c, h⟩
                · refine ⟨fun _ => ?_, fun c2 => absurd c c2⟩
                  exact vw_apply_J282 h
                · refine ⟨fun c2 => absurd c2 c, fun _ => ?_⟩
                  obtain ⟨p9, q9, z9, h⟩ := h
                  refine ⟨_, vw_goBoth z9, ?_⟩
                  rintro p8 q8 ⟨d8, d9⟩
                  subst d8
                  subst d9
                  rcases h with ⟨c, h⟩ | ⟨c, h⟩
                  · refine ⟨fun _ => ?_, fun c2 => absurd c c2⟩
                    exact vw_apply_J282 h
                  · refine ⟨fun c2 => absurd c2 c, fun _ => ?_⟩
                    exact vw_apply_J283 h
            · refine ⟨fun c2 => absurd c2 c, fun _ => ?_⟩
              rcases h with ⟨c, h⟩ | ⟨c, h⟩
              · refine ⟨fun _ => ?_, fun c2 => absurd c c2⟩
                rcases h with ⟨c, h⟩ | ⟨c, h⟩
                · refine ⟨fun _ => ?_, fun c2 => absurd c c2⟩
                  exact vw_apply_J317 h
                · refine ⟨fun c2 => absurd c2 c, fun _ => ?_⟩
                  obtain ⟨g9, h⟩ := h
                  refine ⟨g9, ?_⟩
                  rcases h with ⟨c, h⟩ | ⟨c, h⟩
                  · refine ⟨fun _ => ?_, fun c2 => absurd c c2⟩
                    exact vw_apply_J317 h
                  · refine ⟨fun c2 => absurd c2 c, fun _ => ?_⟩
                    obtain ⟨p9, q9, z9, h⟩ := h
                    refine ⟨_, vw_goBoth z9, ?_⟩
                    rintro p8 q8 ⟨d8, d9⟩
                    subst d8
                    subst d9
                    rcases h with ⟨c, h⟩ | ⟨c, h⟩
                    · refine ⟨fun _ => ?_, fun c2 => absurd c c2⟩
                      exact vw_apply_J317 h
                    · refine ⟨fun c2 => absurd c2 c, fun _ => ?_⟩
                      exact vw_apply_J318 h
              · refine ⟨fun c2 => absurd c2 c, fun _ => ?_⟩
                rcases h with ⟨c, h⟩ | ⟨c, h⟩
                · refine ⟨fun _ => ?_, fun c2 => absurd c c2⟩
                  rcases h with ⟨c, h⟩ | ⟨c, h⟩
                  · refine ⟨fun _ => ?_, fun c2 => absurd c c2⟩
                    exact vw_apply_J352 h
                  · refine ⟨fun c2 => absurd c2 c, fun _ => ?_⟩
                    obtain ⟨p9, q9, z9, h⟩ := h
                    refine ⟨_, vw_isBack z9, ?_⟩
                    rintro p8 q8 ⟨d8, d9⟩
                    subst d8
                    subst d9
                    rcases h with ⟨c, h⟩ | ⟨c, h⟩
                    · refine ⟨fun _ => ?_, fun c2 => absurd c c2⟩
                      exact vw_apply_J352 h
                    · refine ⟨fun c2 => absurd c2 c, fun _ => ?_⟩
                      obtain ⟨p9, q9, z9, h⟩ := h
                      refine ⟨_, vw_goBoth z9, ?_⟩
                      rintro p8 q8 ⟨d8, d9⟩
                      subst d8
                      subst d9
                      rcases h with ⟨c, h⟩ | ⟨c, h⟩
                      · refine ⟨fun _ => ?_, fun c2 => absurd c c2⟩
                        exact vw_apply_J352 h
                      · refine ⟨fun c2 => absurd c2 c, fun _ => ?_⟩
                        exact vw_apply_J353 h
                · refine ⟨fun c2 => absurd c2 c, fun _ => ?_⟩
                  obtain ⟨p9, q9, z9, h⟩ := h
                  refine ⟨_, vw_dead z9, ?_⟩
                  rintro p8 q8 ⟨d8, d9⟩
                  subst d8
                  subst d9
                  exact vw_apply_J365 h
set_option maxRecDepth 100000 in
theorem vz_apply_J51 {ro : Int32} {uo : MS} {Q : Int32 → MS → Prop} {U51 : MS} {t51_0 : Int32} {v51_1 : Int32} {v51_2 : Int32} {v51_3 : Int32} {v51_4 : Int32} (h : v_apply_J51 ro uo U51 t51_0 v51_1 v51_2 v51_3 v51_4) (w : w_apply_J51 Q U51 t51_0 v51_1 v51_2 v51_3 v51_4) : Q ro uo := by
  unfold v_apply_J51 at h
  unfold w_apply_J51 at w
  rcases h with ⟨c, h⟩ | ⟨c, h⟩
  · replace w := w.1 c
    replace h := h.2
    replace w := w.2
    rcases h with ⟨c, h⟩ | ⟨c, h⟩
    · replace w := w.1 c
      obtain ⟨p9, q9, z9, h⟩ := h
      obtain ⟨Q9, w0, w⟩ := w
      replace w := w p9 q9 (vz_wayOf z9 w0)
      rcases h with ⟨c, h⟩ | ⟨c, h⟩
      · replace w := w.1 c
        exact vz_apply_J128 h w
      · replace w := w.2 c
        exact vz_apply_J127 h w
    · replace w := w.2 c
      exact vz_apply_J127 h w
  · replace w := w.2 c
    rcases h with ⟨c, h⟩ | ⟨c, h⟩
    · replace w := w.1 c
      replace h := h.2
      replace w := w.2
      rcases h with ⟨c, h⟩ | ⟨c, h⟩
      · replace w := w.1 c
        exact vz_apply_J159 h w
      · replace w := w.2 c
        exact vz_apply_J159 h w
    · replace w := w.2 c
      rcases h with ⟨c, h⟩ | ⟨c, h⟩
      · replace w := w.1 c
        rcases h with ⟨c, h⟩ | ⟨c, h⟩
        · replace w := w.1 c
          exact vz_apply_J196 h w
        · replace w := w.2 c
          obtain ⟨p9, q9, z9, h⟩ := h
          obtain ⟨Q9, w0, w⟩ := w
          replace w := w p9 q9 (vz_folded z9 w0)
          rcases h with ⟨c, h⟩ | ⟨c, h⟩
          · replace w := w.1 c
            exact vz_apply_J196 h w
          · replace w := w.2 c
            exact vz_apply_J197 h w
      · replace w := w.2 c
        rcases h with ⟨c, h⟩ | ⟨c, h⟩
        · replace w := w.1 c
          rcases h with ⟨c, h⟩ | ⟨c, h⟩
          · replace w := w.1 c
            exact vz_apply_J221 h w
          · replace w := w.2 c
            obtain ⟨p9, q9, z9, h⟩ := h
            obtain ⟨Q9, w0, w⟩ := w
            replace w := w p9 q9 (vz_turnedRow z9 w0)
            rcases h with ⟨c, h⟩ | ⟨c, h⟩
            · replace w := w.1 c
              exact vz_apply_J221 h w
            · replace w := w.2 c
              exact vz_apply_J222 h w
        · replace w := w.2 c
          rcases h with ⟨c, h⟩ | ⟨c, h⟩
          · replace w := w.1 c
            rcases h with ⟨c, h⟩ | ⟨c, h⟩
            · replace w := w.1 c
              exact vz_apply_J247 h w
            · replace w := w.2 c
              obtain ⟨p9, q9, z9, h⟩ := h
              obtain ⟨Q9, w0, w⟩ := w
              replace w := w p9 q9 (vz_decided z9 w0)
              rcases h with ⟨c, h⟩ | ⟨c, h⟩
              · replace w := w.1 c
                exact vz_apply_J247 h w
              · replace w := w.2 c
                exact vz_apply_J248 h w
          · replace w := w.2 c
            rcases h with ⟨c, h⟩ | ⟨c, h⟩
            · replace w := w.1 c
              rcases h with ⟨c, h⟩ | ⟨c, h⟩
              · replace w := w.1 c
                exact vz_apply_J282 h w
              · replace w := w.2 c
                replace h := h.2
                replace w := w.2
                rcases h with ⟨c, h⟩ | ⟨c, h⟩
                · replace w := w.1 c
                  exact vz_apply_J282 h w
                · replace w := w.2 c
                  obtain ⟨p9, q9, z9, h⟩ := h
                  obtain ⟨Q9, w0, w⟩ := w
                  replace w := w p9 q9 (vz_goBoth z9 w0)
                  rcases h with ⟨c, h⟩ | ⟨c, h⟩
                  · replace w := w.1 c
                    exact vz_apply_J282 h w
                  · replace w := w.2 c
                    exact vz_apply_J283 h w
            · replace w := w.2 c
              rcases h with ⟨c, h⟩ | ⟨c, h⟩
              · replace w := w.1 c
                rcases h with ⟨c, h⟩ | ⟨c, h⟩
                · replace w := w.1 c
                  exact vz_apply_J317 h w
                · replace w := w.2 c
                  replace h := h.2
                  replace w := w.2
                  rcases h with ⟨c, h⟩ | ⟨c, h⟩
                  · replace w := w.1 c
                    exact vz_apply_J317 h w
                  · replace w := w.2 c
                    obtain ⟨p9, q9, z9, h⟩ := h
                    obtain ⟨Q9, w0, w⟩ := w
                    replace w := w p9 q9 (vz_goBoth z9 w0)
                    rcases h with ⟨c, h⟩ | ⟨c, h⟩
                    · replace w := w.1 c
                      exact vz_apply_J317 h w
                    · replace w := w.2 c
                      exact vz_apply_J318 h w
              · replace w := w.2 c
                rcases h with ⟨c, h⟩ | ⟨c, h⟩
                · replace w := w.1 c
                  rcases h with ⟨c, h⟩ | ⟨c, h⟩
                  · replace w := w.1 c
                    exact vz_apply_J352 h w
                  · replace w := w.2 c
                    obtain ⟨p9, q9, z9, h⟩ := h
                    obtain ⟨Q9, w0, w⟩ := w
                    replace w := w p9 q9 (vz_isBack z9 w0)
                    rcases h with ⟨c, h⟩ | ⟨c, h⟩
                    · replace w := w.1 c
                      exact vz_apply_J352 h w
                    · replace w := w.2 c
                      obtain ⟨p9, q9, z9, h⟩ := h
                      obtain ⟨Q9, w0, w⟩ := w
                      replace w := w p9 q9 (vz_goBoth z9 w0)
                      rcases h with ⟨c, h⟩ | ⟨c, h⟩
                      · replace w := w.1 c
                        exact vz_apply_J352 h w
                      · replace w := w.2 c
                        exact vz_apply_J353 h w
                · replace w := w.2 c
                  obtain ⟨p9, q9, z9, h⟩ := h
                  obtain ⟨Q9, w0, w⟩ := w
                  replace w := w p9 q9 (vz_dead z9 w0)
                  exact vz_apply_J365 h w
set_option maxRecDepth 100000 in
theorem vw_apply_J50 {ro : Int32} {uo : MS} {U50 : MS} {v50_1 : Int32} {v50_2 : Int32} {v50_3 : Int32} {v50_4 : Int32} (h : v_apply_J50 ro uo U50 v50_1 v50_2 v50_3 v50_4) : w_apply_J50 (fun r u => r = ro ∧ u = uo) U50 v50_1 v50_2 v50_3 v50_4 := by
  unfold v_apply_J50 at h
  unfold w_apply_J50
  exact vw_apply_J51 h
set_option maxRecDepth 100000 in
theorem vz_apply_J50 {ro : Int32} {uo : MS} {Q : Int32 → MS → Prop} {U50 : MS} {v50_1 : Int32} {v50_2 : Int32} {v50_3 : Int32} {v50_4 : Int32} (h : v_apply_J50 ro uo U50 v50_1 v50_2 v50_3 v50_4) (w : w_apply_J50 Q U50 v50_1 v50_2 v50_3 v50_4) : Q ro uo := by
  unfold v_apply_J50 at h
  unfold w_apply_J50 at w
  exact vz_apply_J51 h w
set_option maxRecDepth 100000 in
theorem vw_apply {S : MS} {x1 : Int32} {x2 : Int32} {ro : Int32} {uo : MS} (h : v_apply S x1 x2 ro uo) : w_apply S x1 x2 (fun r u => r = ro ∧ u = uo) := by
  unfold v_apply at h
  unfold w_apply
  rcases h with ⟨c, h⟩ | ⟨c, h⟩
  · refine ⟨fun _ => ?_, fun c2 => absurd c c2⟩
    obtain ⟨p9, q9, z9, h⟩ := h
    refine ⟨_, vw_threaded z9, ?_⟩
    rintro p8 q8 ⟨d8, d9⟩
    subst d8
    subst d9
    exact ⟨h.1.symm, h.2.symm⟩
  · refine ⟨fun c2 => absurd c2 c, fun _ => ?_⟩
    obtain ⟨p9, q9, z9, h⟩ := h
    refine ⟨_, vw_lastOne z9, ?_⟩
    rintro p8 q8 ⟨d8, d9⟩
    subst d8
    subst d9
    rcases h with ⟨c, h⟩ | ⟨c, h⟩
    · refine ⟨fun _ => ?_, fun c2 => absurd c c2⟩
      exact ⟨h.1.symm, h.2.symm⟩
    · refine ⟨fun c2 => absurd c2 c, fun _ => ?_⟩
      obtain ⟨p9, q9, z9, h⟩ := h
      refine ⟨_, vw_behind z9, ?_⟩
      rintro p8 q8 ⟨d8, d9⟩
      subst d8
      subst d9
      rcases h with ⟨c, h⟩ | ⟨c, h⟩
      · refine ⟨fun _ => ?_, fun c2 => absurd c c2⟩
        exact vw_apply_J50 h
      · refine ⟨fun c2 => absurd c2 c, fun _ => ?_⟩
        obtain ⟨g9, h⟩ := h
        refine ⟨g9, ?_⟩
        rcases h with ⟨c, h⟩ | ⟨c, h⟩
        · refine ⟨fun _ => ?_, fun c2 => absurd c c2⟩
          exact vw_apply_J51 h
        · refine ⟨fun c2 => absurd c2 c, fun _ => ?_⟩
          exact vw_apply_J50 h
set_option maxRecDepth 100000 in
theorem vz_apply {S : MS} {x1 : Int32} {x2 : Int32} {ro : Int32} {uo : MS} {Q : Int32 → MS → Prop} (h : v_apply S x1 x2 ro uo) (w : w_apply S x1 x2 Q) : Q ro uo := by
  unfold v_apply at h
  unfold w_apply at w
  rcases h with ⟨c, h⟩ | ⟨c, h⟩
  · replace w := w.1 c
    obtain ⟨p9, q9, z9, h⟩ := h
    obtain ⟨Q9, w0, w⟩ := w
    replace w := w p9 q9 (vz_threaded z9 w0)
    rw [h.1, h.2]
    exact w
  · replace w := w.2 c
    obtain ⟨p9, q9, z9, h⟩ := h
    obtain ⟨Q9, w0, w⟩ := w
    replace w := w p9 q9 (vz_lastOne z9 w0)
    rcases h with ⟨c, h⟩ | ⟨c, h⟩
    · replace w := w.1 c
      rw [h.1, h.2]
      exact w
    · replace w := w.2 c
      obtain ⟨p9, q9, z9, h⟩ := h
      obtain ⟨Q9, w0, w⟩ := w
      replace w := w p9 q9 (vz_behind z9 w0)
      rcases h with ⟨c, h⟩ | ⟨c, h⟩
      · replace w := w.1 c
        exact vz_apply_J50 h w
      · replace w := w.2 c
        replace h := h.2
        replace w := w.2
        rcases h with ⟨c, h⟩ | ⟨c, h⟩
        · replace w := w.1 c
          exact vz_apply_J51 h w
        · replace w := w.2 c
          exact vz_apply_J50 h w
def v_argument (S : MS) (y1 : Int64) (ro : Int32) (uo : MS) : Prop := (((qI S 0 88).toInt = 8 ∧ (ro = (-1 : Int32) ∧ uo = S)) ∨ (¬ (qI S 0 88).toInt = 8 ∧ (((0 : Int) ≤ (qI S 0 88).toInt ∧ (qI S 0 88).toInt < 8) ∧ (∃ S3 : MS, S3 = wJ S 41 (((qI S 0 88).toInt).toNat) y1 ∧ (∃ S5 : MS, S5 = wI S3 0 88 ((qI S3 0 88) + (1 : Int32)) ∧ (ro = (qI S5 0 88) ∧ uo = S5))))))
set_option maxRecDepth 100000 in
theorem ru_argument {S : MS} {y1 : Int64} {Q : Int32 → MS → Prop} (h : w_argument S y1 Q) : ∃ ro uo, v_argument S y1 ro uo ∧ Q ro uo := by
  have i0 : Unit := ()
  have K : ∀ (i : Unit) (ro : Int32) (uo : MS), v_argument S y1 ro uo → v_argument S y1 ro uo := fun _ _ _ z => z
  unfold w_argument at h
  by_cases c : (qI S 0 88).toInt = 8
  · replace h := h.1 c
    replace K := fun i ro uo z => K i ro uo (Or.inl ⟨c, z⟩)
    exact ⟨_, _, K i0 _ _ ⟨rfl, rfl⟩, h⟩
  · replace h := h.2 c
    replace K := fun i ro uo z => K i ro uo (Or.inr ⟨c, z⟩)
    obtain ⟨g1_, h⟩ := h
    replace K := fun i ro uo z => K i ro uo ⟨g1_, z⟩
    obtain ⟨S3, eS3⟩ : ∃ x9 : MS, x9 = wJ S 41 (((qI S 0 88).toInt).toNat) y1 := ⟨_, rfl⟩
    replace h := h S3 eS3
    replace K := fun i ro uo z => K i ro uo ⟨S3, eS3, z⟩
    obtain ⟨S5, eS5⟩ : ∃ x9 : MS, x9 = wI S3 0 88 ((qI S3 0 88) + (1 : Int32)) := ⟨_, rfl⟩
    replace h := h S5 eS5
    replace K := fun i ro uo z => K i ro uo ⟨S5, eS5, z⟩
    exact ⟨_, _, K i0 _ _ ⟨rfl, rfl⟩, h⟩
set_option maxRecDepth 100000 in
theorem vw_argument {S : MS} {y1 : Int64} {ro : Int32} {uo : MS} (h : v_argument S y1 ro uo) : w_argument S y1 (fun r u => r = ro ∧ u = uo) := by
  unfold v_argument at h
  unfold w_argument
  rcases h with ⟨c, h⟩ | ⟨c, h⟩
  · refine ⟨fun _ => ?_, fun c2 => absurd c c2⟩
    exact ⟨h.1.symm, h.2.symm⟩
  · refine ⟨fun c2 => absurd c2 c, fun _ => ?_⟩
    obtain ⟨g9, h⟩ := h
    refine ⟨g9, ?_⟩
    obtain ⟨v9, e9, h⟩ := h
    intro x9 d9
    have c9 : v9 = x9 := e9.trans d9.symm
    subst c9
    obtain ⟨v9, e9, h⟩ := h
    intro x9 d9
    have c9 : v9 = x9 := e9.trans d9.symm
    subst c9
    exact ⟨h.1.symm, h.2.symm⟩
set_option maxRecDepth 100000 in
theorem vz_argument {S : MS} {y1 : Int64} {ro : Int32} {uo : MS} {Q : Int32 → MS → Prop} (h : v_argument S y1 ro uo) (w : w_argument S y1 Q) : Q ro uo := by
  unfold v_argument at h
  unfold w_argument at w
  rcases h with ⟨c, h⟩ | ⟨c, h⟩
  · replace w := w.1 c
    rw [h.1, h.2]
    exact w
  · replace w := w.2 c
    replace h := h.2
    replace w := w.2
    obtain ⟨v9, e9, h⟩ := h
    replace w := w v9 e9
    obtain ⟨v9, e9, h⟩ := h
    replace w := w v9 e9
    rw [h.1, h.2]
    exact w
def v_broken (S : MS) (x1 : Int32) (x2 : Int32) (ro : Nat) (uo : MS) : Prop := (∃ S1 : MS, S1 = wI S 0 7 x1 ∧ (∃ S2 : MS, S2 = wI S1 0 8 x2 ∧ (ro = 3 ∧ uo = S2)))
set_option maxRecDepth 100000 in
theorem ru_broken {S : MS} {x1 : Int32} {x2 : Int32} {Q : Nat → MS → Prop} (h : w_broken S x1 x2 Q) : ∃ ro uo, v_broken S x1 x2 ro uo ∧ Q ro uo := by
  have i0 : Unit := ()
  have K : ∀ (i : Unit) (ro : Nat) (uo : MS), v_broken S x1 x2 ro uo → v_broken S x1 x2 ro uo := fun _ _ _ z => z
  unfold w_broken at h
  obtain ⟨S1, eS1⟩ : ∃ x9 : MS, x9 = wI S 0 7 x1 := ⟨_, rfl⟩
  replace h := h S1 eS1
  replace K := fun i ro uo z => K i ro uo ⟨S1, eS1, z⟩
  obtain ⟨S2, eS2⟩ : ∃ x9 : MS, x9 = wI S1 0 8 x2 := ⟨_, rfl⟩
  replace h := h S2 eS2
  replace K := fun i ro uo z => K i ro uo ⟨S2, eS2, z⟩
  exact ⟨_, _, K i0 _ _ ⟨rfl, rfl⟩, h⟩
set_option maxRecDepth 100000 in
theorem vw_broken {S : MS} {x1 : Int32} {x2 : Int32} {ro : Nat} {uo : MS} (h : v_broken S x1 x2 ro uo) : w_broken S x1 x2 (fun r u => r = ro ∧ u = uo) := by
  unfold v_broken at h
  unfold w_broken
  obtain ⟨v9, e9, h⟩ := h
  intro x9 d9
  have c9 : v9 = x9 := e9.trans d9.symm
  subst c9
  obtain ⟨v9, e9, h⟩ := h
  intro x9 d9
  have c9 : v9 = x9 := e9.trans d9.symm
  subst c9
  exact ⟨h.1.symm, h.2.symm⟩
set_option maxRecDepth 100000 in
theorem vz_broken {S : MS} {x1 : Int32} {x2 : Int32} {ro : Nat} {uo : MS} {Q : Nat → MS → Prop} (h : v_broken S x1 x2 ro uo) (w : w_broken S x1 x2 Q) : Q ro uo := by
  unfold v_broken at h
  unfold w_broken at w
  obtain ⟨v9, e9, h⟩ := h
  replace w := w v9 e9
  obtain ⟨v9, e9, h⟩ := h
  replace w := w v9 e9
  rw [h.1, h.2]
  exact w
def v_over (S : MS) (y1 : Int64) (oo : (Int32 × MS) ⊕ MS) : Prop := (((lg_cmp (((qI S 0 13).toInt64) + y1) ((qI S 0 12).toInt64)).toInt ≤ 0 ∧ (∃ a4 : Int32, a4 = (qI S 0 13) ∧ (∃ S6 : MS, S6 = wI S 0 13 ((qI S 0 13) + (y1.toInt32)) ∧ (oo = .inl (a4, S6))))) ∨ (¬ (lg_cmp (((qI S 0 13).toInt64) + y1) ((qI S 0 12).toInt64)).toInt ≤ 0 ∧ (∃ (b11 : Nat) (S9 : MS), v_broken S (2 : Int32) (qI S 0 12) b11 S9 ∧ (oo = .inr S9))))
set_option maxRecDepth 100000 in
theorem ru_over {S : MS} {y1 : Int64} {Q : Int32 → MS → Prop} {E : MS → Prop} (h : w_over S y1 Q E) : ∃ oo, v_over S y1 oo ∧ oQ Q E oo := by
  have i0 : Unit := ()
  have K : ∀ (i : Unit) (oo : (Int32 × MS) ⊕ MS), v_over S y1 oo → v_over S y1 oo := fun _ _ z => z
  unfold w_over at h
  by_cases c : (lg_cmp (((qI S 0 13).toInt64) + y1) ((qI S 0 12).toInt64)).toInt ≤ 0
  · replace h := h.1 c
    replace K := fun i oo z => K i oo (Or.inl ⟨c, z⟩)
    obtain ⟨a4, ea4⟩ : ∃ x9 : Int32, x9 = (qI S 0 13) := ⟨_, rfl⟩
    replace h := h a4 ea4
    replace K := fun i oo z => K i oo ⟨a4, ea4, z⟩
    obtain ⟨S6, eS6⟩ : ∃ x9 : MS, x9 = wI S 0 13 ((qI S 0 13) + (y1.toInt32)) := ⟨_, rfl⟩
    replace h := h S6 eS6
    replace K := fun i oo z => K i oo ⟨S6, eS6, z⟩
    exact ⟨.inl (_, _), K i0 _ rfl, h⟩
  · replace h := h.2 c
    replace K := fun i oo z => K i oo (Or.inr ⟨c, z⟩)
    obtain ⟨Q9, h0, h⟩ := h
    obtain ⟨b11, S9, z9, g9⟩ := ru_broken h0
    replace h := h b11 S9 g9
    replace K := fun i oo z => K i oo ⟨b11, S9, z9, z⟩
    exact ⟨.inr S9, K i0 _ rfl, h⟩
set_option maxRecDepth 100000 in
theorem vw_over {S : MS} {y1 : Int64} {oo : (Int32 × MS) ⊕ MS} (h : v_over S y1 oo) : w_over S y1 (fun r u => oo = .inl (r, u)) (fun u => oo = .inr u) := by
  unfold v_over at h
  unfold w_over
  rcases h with ⟨c, h⟩ | ⟨c, h⟩
  · refine ⟨fun _ => ?_, fun c2 => absurd c c2⟩
    obtain ⟨v9, e9, h⟩ := h
    intro x9 d9
    have c9 : v9 = x9 := e9.trans d9.symm
    subst c9
    obtain ⟨v9, e9, h⟩ := h
    intro x9 d9
    have c9 : v9 = x9 := e9.trans d9.symm
    subst c9
    exact h
  · refine ⟨fun c2 => absurd c2 c, fun _ => ?_⟩
    obtain ⟨p9, q9, z9, h⟩ := h
    refine ⟨_, vw_broken z9, ?_⟩
    rintro p8 q8 ⟨d8, d9⟩
    subst d8
    subst d9
    exact h
set_option maxRecDepth 100000 in
theorem vz_over {S : MS} {y1 : Int64} {oo : (Int32 × MS) ⊕ MS} {Q : Int32 → MS → Prop} {E : MS → Prop} (h : v_over S y1 oo) (w : w_over S y1 Q E) : oQ Q E oo := by
  unfold v_over at h
  unfold w_over at w
  rcases h with ⟨c, h⟩ | ⟨c, h⟩
  · replace w := w.1 c
    obtain ⟨v9, e9, h⟩ := h
    replace w := w v9 e9
    obtain ⟨v9, e9, h⟩ := h
    replace w := w v9 e9
    rw [h]
    exact w
  · replace w := w.2 c
    obtain ⟨p9, q9, z9, h⟩ := h
    obtain ⟨Q9, w0, w⟩ := w
    replace w := w p9 q9 (vz_broken z9 w0)
    rw [h]
    exact w
def v_attributesOf_L14 (oo : MS ⊕ MS) : Nat → MS → Int32 → Int32 → Int32 → Prop
  | 0, _, _, _, _ => False
  | n14 + 1, U14, v14_1, v14_2, v14_3 => ((v14_2.toInt ≤ v14_3.toInt ∧ (oo = .inl U14)) ∨ (¬ v14_2.toInt ≤ v14_3.toInt ∧ ((∃ (r11 : Int32) (S12 : MS), v_over U14 (2 : Int64) (.inl (r11, S12)) ∧ ((∃ (r15 : Int32) (S16 : MS), v_over S12 (4 : Int64) (.inl (r15, S16)) ∧ (d_four S16 r15 ∧ ((∃ (r23 : Int32) (S24 : MS), v_over S16 (((f_four S16 r15).toInt64) &&& (4294967295 : Int64)) (.inl (r23, S24)) ∧ (((0 : Int) ≤ (qI S24 0 25).toInt ∧ (qI S24 0 25).toInt < 3000) ∧ (∃ S27 : MS, S27 = wI S24 10 (((qI S24 0 25).toInt).toNat) r11 ∧ (((0 : Int) ≤ (qI S27 0 25).toInt ∧ (qI S27 0 25).toInt < 3000) ∧ (∃ S29 : MS, S29 = wI S27 11 (((qI S27 0 25).toInt).toNat) v14_1 ∧ (∃ S31 : MS, S31 = wI S29 0 25 ((qI S29 0 25) + (1 : Int32)) ∧ (∃ a32 : Int32, a32 = (v14_3 + Int32.ofInt 1) ∧ ((v_attributesOf_L14 oo n14) S31 v14_1 v14_2 a32)))))))) ∨ (∃ u9 : MS, v_over S16 (((f_four S16 r15).toInt64) &&& (4294967295 : Int64)) (.inr u9) ∧ (oo = .inr u9))))) ∨ (∃ u9 : MS, v_over S12 (4 : Int64) (.inr u9) ∧ (oo = .inr u9)))) ∨ (∃ u9 : MS, v_over U14 (2 : Int64) (.inr u9) ∧ (oo = .inr u9)))))
def v_attributesOf (S : MS) (x1 : Int32) (oo : MS ⊕ MS) : Prop := ((∃ (r2 : Int32) (S3 : MS), v_over S (2 : Int64) (.inl (r2, S3)) ∧ (d_two S3 r2 ∧ (∃ a8 : Int32, a8 = (f_two S3 r2) ∧ (∃ n, v_attributesOf_L14 oo n S3 x1 a8 0)))) ∨ (∃ u9 : MS, v_over S (2 : Int64) (.inr u9) ∧ (oo = .inr u9)))
set_option maxRecDepth 100000 in
theorem ru_attributesOf_L14 {ι : Type} {P : MS ⊕ MS → Prop} {Q : MS → Prop} {E : MS → Prop} : ∀ (n : Nat) {U14 : MS} {v14_1 : Int32} {v14_2 : Int32} {v14_3 : Int32} (i0 : ι), (∀ (i : ι) (oo : MS ⊕ MS), (∃ n8, v_attributesOf_L14 oo n8 U14 v14_1 v14_2 v14_3) → P oo) → w_attributesOf_L14 Q E n U14 v14_1 v14_2 v14_3 → ∃ oo, P oo ∧ oV Q E oo := by
  intro n
  induction n with
  | zero => intro U14 v14_1 v14_2 v14_3 i0 K h; unfold w_attributesOf_L14 at h; exact h.elim
  | succ n ih =>
    intro U14 v14_1 v14_2 v14_3 i0 K h
    unfold w_attributesOf_L14 at h
    replace K := fun (i : ι × Nat) oo (z : v_attributesOf_L14 oo (i.2 + 1) U14 v14_1 v14_2 v14_3) => K i.1 oo ⟨i.2 + 1, z⟩
    have i00 := i0
    replace i0 : ι × Nat := (i0, 0)
    by_cases c : v14_2.toInt ≤ v14_3.toInt
    · replace h := h.1 c
      replace K := fun i oo z => K i oo (Or.inl ⟨c, z⟩)
      exact ⟨.inl _, K i0 _ rfl, h⟩
    · replace h := h.2 c
      replace K := fun i oo z => K i oo (Or.inr ⟨c, z⟩)
      obtain ⟨Q9, E9, h0, h⟩ := h
      obtain ⟨o9, z9, g9⟩ := ru_over h0
      rcases o9 with ⟨r11, S12⟩ | u9
      · replace h := h.1 r11 S12 g9
        replace K := fun i oo z => K i oo (Or.inl ⟨r11, S12, z9, z⟩)
        obtain ⟨Q9, E9, h0, h⟩ := h
        obtain ⟨o9, z9, g9⟩ := ru_over h0
        rcases o9 with ⟨r15, S16⟩ | u9
        · replace h := h.1 r15 S16 g9
          replace K := fun i oo z => K i oo (Or.inl ⟨r15, S16, z9, z⟩)
          obtain ⟨g1_, h⟩ := h
          replace K := fun i oo z => K i oo ⟨g1_, z⟩
          obtain ⟨Q9, E9, h0, h⟩ := h
          obtain ⟨o9, z9, g9⟩ := ru_over h0
          rcases o9 with ⟨r23, S24⟩ | u9
          · replace h := h.1 r23 S24 g9
            replace K := fun i oo z => K i oo (Or.inl ⟨r23, S24, z9, z⟩)
            obtain ⟨g2_, h⟩ := h
            replace K := fun i oo z => K i oo ⟨g2_, z⟩
            obtain ⟨S27, eS27⟩ : ∃ x9 : MS, x9 = wI S24 10 (((qI S24 0 25).toInt).toNat) r11 := ⟨_, rfl⟩
            replace h := h S27 eS27
            replace K := fun i oo z => K i oo ⟨S27, eS27, z⟩
            obtain ⟨g3_, h⟩ := h
            replace K := fun i oo z => K i oo ⟨g3_, z⟩
            obtain ⟨S29, eS29⟩ : ∃ x9 : MS, x9 = wI S27 11 (((qI S27 0 25).toInt).toNat) v14_1 := ⟨_, rfl⟩
            replace h := h S29 eS29
            replace K := fun i oo z => K i oo ⟨S29, eS29, z⟩
            obtain ⟨S31, eS31⟩ : ∃ x9 : MS, x9 = wI S29 0 25 ((qI S29 0 25) + (1 : Int32)) := ⟨_, rfl⟩
            replace h := h S31 eS31
            replace K := fun i oo z => K i oo ⟨S31, eS31, z⟩
            obtain ⟨a32, ea32⟩ : ∃ x9 : Int32, x9 = (v14_3 + Int32.ofInt 1) := ⟨_, rfl⟩
            replace h := h a32 ea32
            replace K := fun i oo z => K i oo ⟨a32, ea32, z⟩
            exact ih i00 (fun i oo ⟨n8, z⟩ => K (i, n8) oo z) h
          · replace h := h.2 u9 g9
            replace K := fun i oo z => K i oo (Or.inr ⟨u9, z9, z⟩)
            exact ⟨.inr u9, K i0 _ rfl, h⟩
        · replace h := h.2 u9 g9
          replace K := fun i oo z => K i oo (Or.inr ⟨u9, z9, z⟩)
          exact ⟨.inr u9, K i0 _ rfl, h⟩
      · replace h := h.2 u9 g9
        replace K := fun i oo z => K i oo (Or.inr ⟨u9, z9, z⟩)
        exact ⟨.inr u9, K i0 _ rfl, h⟩
set_option maxRecDepth 100000 in
theorem ru_attributesOf {S : MS} {x1 : Int32} {Q : MS → Prop} {E : MS → Prop} (h : w_attributesOf S x1 Q E) : ∃ oo, v_attributesOf S x1 oo ∧ oV Q E oo := by
  have i0 : Unit := ()
  have K : ∀ (i : Unit) (oo : MS ⊕ MS), v_attributesOf S x1 oo → v_attributesOf S x1 oo := fun _ _ z => z
  unfold w_attributesOf at h
  obtain ⟨Q9, E9, h0, h⟩ := h
  obtain ⟨o9, z9, g9⟩ := ru_over h0
  rcases o9 with ⟨r2, S3⟩ | u9
  · replace h := h.1 r2 S3 g9
    replace K := fun i oo z => K i oo (Or.inl ⟨r2, S3, z9, z⟩)
    obtain ⟨g4_, h⟩ := h
    replace K := fun i oo z => K i oo ⟨g4_, z⟩
    obtain ⟨a8, ea8⟩ : ∃ x9 : Int32, x9 = (f_two S3 r2) := ⟨_, rfl⟩
    replace h := h a8 ea8
    replace K := fun i oo z => K i oo ⟨a8, ea8, z⟩
    obtain ⟨n9, h⟩ := h
    exact ru_attributesOf_L14 n9 i0 K h
  · replace h := h.2 u9 g9
    replace K := fun i oo z => K i oo (Or.inr ⟨u9, z9, z⟩)
    exact ⟨.inr u9, K i0 _ rfl, h⟩
set_option maxRecDepth 100000 in
theorem vw_attributesOf_L14 {oo : MS ⊕ MS} : ∀ (n : Nat) {U14 : MS} {v14_1 : Int32} {v14_2 : Int32} {v14_3 : Int32}, v_attributesOf_L14 oo n U14 v14_1 v14_2 v14_3 → w_attributesOf_L14 (fun u => oo = .inl u) (fun u => oo = .inr u) n U14 v14_1 v14_2 v14_3 := by
  intro n
  induction n with
  | zero => intro U14 v14_1 v14_2 v14_3 h; unfold v_attributesOf_L14 at h; exact h.elim
  | succ n ih =>
    intro U14 v14_1 v14_2 v14_3 h
    unfold v_attributesOf_L14 at h
    unfold w_attributesOf_L14
    rcases h with ⟨c, h⟩ | ⟨c, h⟩
    · refine ⟨fun _ => ?_, fun c2 => absurd c c2⟩
      exact h
    · refine ⟨fun c2 => absurd c2 c, fun _ => ?_⟩
      rcases h with ⟨p9, q9, z9, h⟩ | ⟨q9, z9, h⟩
      · refine ⟨_, _, vw_over z9, ?_, ?_⟩
        · intro p8 q8 d9
          injection d9 with d9
          injection d9 with d8 d9
          subst d8
          subst d9
          rcases h with ⟨p9, q9, z9, h⟩ | ⟨q9, z9, h⟩
          · refine ⟨_, _, vw_over z9, ?_, ?_⟩
            · intro p8 q8 d9
              injection d9 with d9
              injection d9 with d8 d9
              subst d8
              subst d9
              obtain ⟨g9, h⟩ := h
              refine ⟨g9, ?_⟩
              rcases h with ⟨p9, q9, z9, h⟩ | ⟨q9, z9, h⟩
              · refine ⟨_, _, vw_over z9, ?_, ?_⟩
                · intro p8 q8 d9
                  injection d9 with d9
                  injection d9 with d8 d9
                  subst d8
                  subst d9
                  obtain ⟨g9, h⟩ := h
                  refine ⟨g9, ?_⟩
                  obtain ⟨v9, e9, h⟩ := h
                  intro x9 d9
                  have c9 : v9 = x9 := e9.trans d9.symm
                  subst c9
                  obtain ⟨g9, h⟩ := h
                  refine ⟨g9, ?_⟩
                  obtain ⟨v9, e9, h⟩ := h
                  intro x9 d9
                  have c9 : v9 = x9 := e9.trans d9.symm
                  subst c9
                  obtain ⟨v9, e9, h⟩ := h
                  intro x9 d9
                  have c9 : v9 = x9 := e9.trans d9.symm
                  subst c9
                  obtain ⟨v9, e9, h⟩ := h
                  intro x9 d9
                  have c9 : v9 = x9 := e9.trans d9.symm
                  subst c9
                  exact ih h
                · intro q8 d9
                  exact nomatch d9
              · refine ⟨_, _, vw_over z9, ?_, ?_⟩
                · intro p8 q8 d9
                  exact nomatch d9
                · intro q8 d9
                  injection d9 with d9
                  subst d9
                  exact h
            · intro q8 d9
              exact nomatch d9
          · refine ⟨_, _, vw_over z9, ?_, ?_⟩
            · intro p8 q8 d9
              exact nomatch d9
            · intro q8 d9
              injection d9 with d9
              subst d9
              exact h
        · intro q8 d9
          exact nomatch d9
      · refine ⟨_, _, vw_over z9, ?_, ?_⟩
        · intro p8 q8 d9
          exact nomatch d9
        · intro q8 d9
          injection d9 with d9
          subst d9
          exact h
set_option maxRecDepth 100000 in
theorem vz_attributesOf_L14 {oo : MS ⊕ MS} {Q : MS → Prop} {E : MS → Prop} : ∀ (n m : Nat) {U14 : MS} {v14_1 : Int32} {v14_2 : Int32} {v14_3 : Int32}, v_attributesOf_L14 oo n U14 v14_1 v14_2 v14_3 → w_attributesOf_L14 Q E m U14 v14_1 v14_2 v14_3 → oV Q E oo := by
  intro n
  induction n with
  | zero => intro m U14 v14_1 v14_2 v14_3 h; unfold v_attributesOf_L14 at h; exact h.elim
  | succ n ih =>
    intro m U14 v14_1 v14_2 v14_3 h w
    cases m with
    | zero => unfold w_attributesOf_L14 at w; exact w.elim
    | succ m =>
      unfold v_attributesOf_L14 at h
      unfold w_attributesOf_L14 at w
      rcases h with ⟨c, h⟩ | ⟨c, h⟩
      · replace w := w.1 c
        rw [h]
        exact w
      · replace w := w.2 c
        obtain ⟨Q9, E9, w0, w⟩ := w
        rcases h with ⟨p9, q9, z9, h⟩ | ⟨q9, z9, h⟩
        · replace w := w.1 p9 q9 (vz_over z9 w0)
          obtain ⟨Q9, E9, w0, w⟩ := w
          rcases h with ⟨p9, q9, z9, h⟩ | ⟨q9, z9, h⟩
          · replace w := w.1 p9 q9 (vz_over z9 w0)
            replace h := h.2
            replace w := w.2
            obtain ⟨Q9, E9, w0, w⟩ := w
            rcases h with ⟨p9, q9, z9, h⟩ | ⟨q9, z9, h⟩
            · replace w := w.1 p9 q9 (vz_over z9 w0)
              replace h := h.2
              replace w := w.2
              obtain ⟨v9, e9, h⟩ := h
              replace w := w v9 e9
              replace h := h.2
              replace w := w.2
              obtain ⟨v9, e9, h⟩ := h
              replace w := w v9 e9
              obtain ⟨v9, e9, h⟩ := h
              replace w := w v9 e9
              obtain ⟨v9, e9, h⟩ := h
              replace w := w v9 e9
              exact ih m h w
            · replace w := w.2 q9 (vz_over z9 w0)
              rw [h]
              exact w
          · replace w := w.2 q9 (vz_over z9 w0)
            rw [h]
            exact w
        · replace w := w.2 q9 (vz_over z9 w0)
          rw [h]
          exact w
set_option maxRecDepth 100000 in
theorem vw_attributesOf {S : MS} {x1 : Int32} {oo : MS ⊕ MS} (h : v_attributesOf S x1 oo) : w_attributesOf S x1 (fun u => oo = .inl u) (fun u => oo = .inr u) := by
  unfold v_attributesOf at h
  unfold w_attributesOf
  rcases h with ⟨p9, q9, z9, h⟩ | ⟨q9, z9, h⟩
  · refine ⟨_, _, vw_over z9, ?_, ?_⟩
    · intro p8 q8 d9
      injection d9 with d9
      injection d9 with d8 d9
      subst d8
      subst d9
      obtain ⟨g9, h⟩ := h
      refine ⟨g9, ?_⟩
      obtain ⟨v9, e9, h⟩ := h
      intro x9 d9
      have c9 : v9 = x9 := e9.trans d9.symm
      subst c9
      obtain ⟨n9, h⟩ := h
      exact ⟨n9, vw_attributesOf_L14 n9 h⟩
    · intro q8 d9
      exact nomatch d9
  · refine ⟨_, _, vw_over z9, ?_, ?_⟩
    · intro p8 q8 d9
      exact nomatch d9
    · intro q8 d9
      injection d9 with d9
      subst d9
      exact h
set_option maxRecDepth 100000 in
theorem vz_attributesOf {S : MS} {x1 : Int32} {oo : MS ⊕ MS} {Q : MS → Prop} {E : MS → Prop} (h : v_attributesOf S x1 oo) (w : w_attributesOf S x1 Q E) : oV Q E oo := by
  unfold v_attributesOf at h
  unfold w_attributesOf at w
  obtain ⟨Q9, E9, w0, w⟩ := w
  rcases h with ⟨p9, q9, z9, h⟩ | ⟨q9, z9, h⟩
  · replace w := w.1 p9 q9 (vz_over z9 w0)
    replace h := h.2
    replace w := w.2
    obtain ⟨v9, e9, h⟩ := h
    replace w := w v9 e9
    obtain ⟨n9, h⟩ := h
    obtain ⟨n8, w⟩ := w
    exact vz_attributesOf_L14 n9 n8 h w
  · replace w := w.2 q9 (vz_over z9 w0)
    rw [h]
    exact w
def v_narrowed_J89 (ro : Int32) (uo : MS) (k5 : MS → Int32 → Int32 → Int32 → Int32 → Prop) (U89 : MS) (t89_0 : Int32) (v89_1 : Int32) (v89_2 : Int32) (v89_4 : Int32) (v89_6 : Int32) : Prop := (((0 : Int) ≤ (((38 : Int32) * v89_2) + v89_4).toInt ∧ (((38 : Int32) * v89_2) + v89_4).toInt < 45600) ∧ (∃ S17 : MS, S17 = wI U89 54 (((((38 : Int32) * v89_2) + v89_4).toInt).toNat) v89_6 ∧ (∃ a18 : Int32, a18 = (v89_4 + Int32.ofInt 1) ∧ (k5 S17 v89_1 v89_2 t89_0 a18))))
def v_narrowed_J84 (ro : Int32) (uo : MS) (k5 : MS → Int32 → Int32 → Int32 → Int32 → Prop) (U84 : MS) (v84_1 : Int32) (v84_2 : Int32) (v84_4 : Int32) (v84_6 : Int32) : Prop := (v_narrowed_J89 ro uo k5 U84 1 v84_1 v84_2 v84_4 v84_6)
def v_narrowed_J31 (ro : Int32) (uo : MS) (k5 : MS → Int32 → Int32 → Int32 → Int32 → Prop) (U31 : MS) (t31_0 : Int32) (v31_1 : Int32) (v31_2 : Int32) (v31_3 : Int32) (v31_4 : Int32) : Prop := (((0 : Int) ≤ (((38 : Int32) * v31_2) + v31_4).toInt ∧ (((38 : Int32) * v31_2) + v31_4).toInt < 45600) ∧ (((0 : Int) ≤ (((38 : Int32) * v31_1) + v31_4).toInt ∧ (((38 : Int32) * v31_1) + v31_4).toInt < 45600) ∧ (∃ a13 : Int32, a13 = ((qI U31 54 (((((38 : Int32) * v31_2) + v31_4).toInt).toNat)) &&& ((qI U31 54 (((((38 : Int32) * v31_1) + v31_4).toInt).toNat)) ||| t31_0)) ∧ ((v31_3.toInt = 0 ∧ (((0 : Int) ≤ (((38 : Int32) * v31_2) + v31_4).toInt ∧ (((38 : Int32) * v31_2) + v31_4).toInt < 45600) ∧ ((a13.toInt = (qI U31 54 (((((38 : Int32) * v31_2) + v31_4).toInt).toNat)).toInt ∧ (v_narrowed_J89 ro uo k5 U31 0 v31_1 v31_2 v31_4 a13)) ∨ (¬ a13.toInt = (qI U31 54 (((((38 : Int32) * v31_2) + v31_4).toInt).toNat)).toInt ∧ (v_narrowed_J84 ro uo k5 U31 v31_1 v31_2 v31_4 a13))))) ∨ (¬ v31_3.toInt = 0 ∧ (v_narrowed_J84 ro uo k5 U31 v31_1 v31_2 v31_4 a13))))))
def v_narrowed_L5 (ro : Int32) (uo : MS) : Nat → MS → Int32 → Int32 → Int32 → Int32 → Prop
  | 0, _, _, _, _, _ => False
  | n5 + 1, U5, v5_1, v5_2, v5_3, v5_4 => ((38 ≤ v5_4.toInt ∧ (ro = v5_3 ∧ uo = U5)) ∨ (¬ 38 ≤ v5_4.toInt ∧ (((v5_2 / (32 : Int32)).toInt = v5_4.toInt ∧ (v_narrowed_J31 ro uo (v_narrowed_L5 ro uo n5) U5 ((1 : Int32) <<< ((v5_2 - v5_2 / (32 : Int32) * (32 : Int32)) &&& 31)) v5_1 v5_2 v5_3 v5_4)) ∨ (¬ (v5_2 / (32 : Int32)).toInt = v5_4.toInt ∧ (v_narrowed_J31 ro uo (v_narrowed_L5 ro uo n5) U5 0 v5_1 v5_2 v5_3 v5_4)))))
def v_narrowed (S : MS) (x1 : Int32) (x2 : Int32) (ro : Int32) (uo : MS) : Prop := (∃ n, v_narrowed_L5 ro uo n S x1 x2 0 0)
set_option maxRecDepth 100000 in
theorem ru_narrowed_J89 {ι : Type} {P : Int32 → MS → Prop} {Q : Int32 → MS → Prop} {k5 : MS → Int32 → Int32 → Int32 → Int32 → Prop} {k5v : ι → Int32 → MS → MS → Int32 → Int32 → Int32 → Int32 → Prop} {U89 : MS} {t89_0 : Int32} {v89_1 : Int32} {v89_2 : Int32} {v89_4 : Int32} {v89_6 : Int32} (i0 : ι) (hk5 : ∀ (u : MS) (z0 : Int32) (z1 : Int32) (z2 : Int32) (z3 : Int32), k5 u z0 z1 z2 z3 → (∀ (i : ι) (ro : Int32) (uo : MS), k5v i ro uo u z0 z1 z2 z3 → P ro uo) → ∃ ro uo, P ro uo ∧ Q ro uo) (K : ∀ (i : ι) (ro : Int32) (uo : MS), v_narrowed_J89 ro uo (k5v i ro uo) U89 t89_0 v89_1 v89_2 v89_4 v89_6 → P ro uo) (h : w_narrowed_J89 Q k5 U89 t89_0 v89_1 v89_2 v89_4 v89_6) : ∃ ro uo, P ro uo ∧ Q ro uo := by
  unfold w_narrowed_J89 at h
  obtain ⟨g1_, h⟩ := h
  replace K := fun i ro uo z => K i ro uo ⟨g1_, z⟩
  obtain ⟨S17, eS17⟩ : ∃ x9 : MS, x9 = wI U89 54 (((((38 : Int32) * v89_2) + v89_4).toInt).toNat) v89_6 := ⟨_, rfl⟩
  replace h := h S17 eS17
  replace K := fun i ro uo z => K i ro uo ⟨S17, eS17, z⟩
  obtain ⟨a18, ea18⟩ : ∃ x9 : Int32, x9 = (v89_4 + Int32.ofInt 1) := ⟨_, rfl⟩
  replace h := h a18 ea18
  replace K := fun i ro uo z => K i ro uo ⟨a18, ea18, z⟩
  exact hk5 _ _ _ _ _ h K
set_option maxRecDepth 100000 in
theorem ru_narrowed_J84 {ι : Type} {P : Int32 → MS → Prop} {Q : Int32 → MS → Prop} {k5 : MS → Int32 → Int32 → Int32 → Int32 → Prop} {k5v : ι → Int32 → MS → MS → Int32 → Int32 → Int32 → Int32 → Prop} {U84 : MS} {v84_1 : Int32} {v84_2 : Int32} {v84_4 : Int32} {v84_6 : Int32} (i0 : ι) (hk5 : ∀ (u : MS) (z0 : Int32) (z1 : Int32) (z2 : Int32) (z3 : Int32), k5 u z0 z1 z2 z3 → (∀ (i : ι) (ro : Int32) (uo : MS), k5v i ro uo u z0 z1 z2 z3 → P ro uo) → ∃ ro uo, P ro uo ∧ Q ro uo) (K : ∀ (i : ι) (ro : Int32) (uo : MS), v_narrowed_J84 ro uo (k5v i ro uo) U84 v84_1 v84_2 v84_4 v84_6 → P ro uo) (h : w_narrowed_J84 Q k5 U84 v84_1 v84_2 v84_4 v84_6) : ∃ ro uo, P ro uo ∧ Q ro uo := by
  unfold w_narrowed_J84 at h
  exact ru_narrowed_J89 i0 hk5 K h
set_option maxRecDepth 100000 in
theorem ru_narrowed_J31 {ι : Type} {P : Int32 → MS → Prop} {Q : Int32 → MS → Prop} {k5 : MS → Int32 → Int32 → Int32 → Int32 → Prop} {k5v : ι → Int32 → MS → MS → Int32 → Int32 → Int32 → Int32 → Prop} {U31 : MS} {t31_0 : Int32} {v31_1 : Int32} {v31_2 : Int32} {v31_3 : Int32} {v31_4 : Int32} (i0 : ι) (hk5 : ∀ (u : MS) (z0 : Int32) (z1 : Int32) (z2 : Int32) (z3 : Int32), k5 u z0 z1 z2 z3 → (∀ (i : ι) (ro : Int32) (uo : MS), k5v i ro uo u z0 z1 z2 z3 → P ro uo) → ∃ ro uo, P ro uo ∧ Q ro uo) (K : ∀ (i : ι) (ro : Int32) (uo : MS), v_narrowed_J31 ro uo (k5v i ro uo) U31 t31_0 v31_1 v31_2 v31_3 v31_4 → P ro uo) (h : w_narrowed_J31 Q k5 U31 t31_0 v31_1 v31_2 v31_3 v31_4) : ∃ ro uo, P ro uo ∧ Q ro uo := by
  unfold w_narrowed_J31 at h
  obtain ⟨g2_, h⟩ := h
  replace K := fun i ro uo z => K i ro uo ⟨g2_, z⟩
  obtain ⟨g3_, h⟩ := h
  replace K := fun i ro uo z => K i ro uo ⟨g3_, z⟩
  obtain ⟨a13, ea13⟩ : ∃ x9 : Int32, x9 = ((qI U31 54 (((((38 : Int32) * v31_2) + v31_4).toInt).toNat)) &&& ((qI U31 54 (((((38 : Int32) * v31_1) + v31_4).toInt).toNat)) ||| t31_0)) := ⟨_, rfl⟩
  replace h := h a13 ea13
  replace K := fun i ro uo z => K i ro uo ⟨a13, ea13, z⟩
  by_cases c : v31_3.toInt = 0
  · replace h := h.1 c
    replace K := fun i ro uo z => K i ro uo (Or.inl ⟨c, z⟩)
    obtain ⟨g4_, h⟩ := h
    replace K := fun i ro uo z => K i ro uo ⟨g4_, z⟩
    by_cases c : a13.toInt = (qI U31 54 (((((38 : Int32) * v31_2) + v31_4).toInt).toNat)).toInt
    · replace h := h.1 c
      replace K := fun i ro uo z => K i ro uo (Or.inl ⟨c, z⟩)
      exact ru_narrowed_J89 i0 hk5 K h
    · replace h := h.2 c
      replace K := fun i ro uo z => K i ro uo (Or.inr ⟨c, z⟩)
      exact ru_narrowed_J84 i0 hk5 K h
  · replace h := h.2 c
    replace K := fun i ro uo z => K i ro uo (Or.inr ⟨c, z⟩)
    exact ru_narrowed_J84 i0 hk5 K h
set_option maxRecDepth 100000 in
theorem ru_narrowed_L5 {ι : Type} {P : Int32 → MS → Prop} {Q : Int32 → MS → Prop} : ∀ (n : Nat) {U5 : MS} {v5_1 : Int32} {v5_2 : Int32} {v5_3 : Int32} {v5_4 : Int32} (i0 : ι), (∀ (i : ι) (ro : Int32) (uo : MS), (∃ n8, v_narrowed_L5 ro uo n8 U5 v5_1 v5_2 v5_3 v5_4) → P ro uo) → w_narrowed_L5 Q n U5 v5_1 v5_2 v5_3 v5_4 → ∃ ro uo, P ro uo ∧ Q ro uo := by
  intro n
  induction n with
  | zero => intro U5 v5_1 v5_2 v5_3 v5_4 i0 K h; unfold w_narrowed_L5 at h; exact h.elim
  | succ n ih =>
    intro U5 v5_1 v5_2 v5_3 v5_4 i0 K h
    unfold w_narrowed_L5 at h
    replace K := fun (i : ι × Nat) ro uo (z : v_narrowed_L5 ro uo (i.2 + 1) U5 v5_1 v5_2 v5_3 v5_4) => K i.1 ro uo ⟨i.2 + 1, z⟩
    have i00 := i0
    replace i0 : ι × Nat := (i0, 0)
    by_cases c : 38 ≤ v5_4.toInt
    · replace h := h.1 c
      replace K := fun i ro uo z => K i ro uo (Or.inl ⟨c, z⟩)
      exact ⟨_, _, K i0 _ _ ⟨rfl, rfl⟩, h⟩
    · replace h := h.2 c
      replace K := fun i ro uo z => K i ro uo (Or.inr ⟨c, z⟩)
      by_cases c : (v5_2 / (32 : Int32)).toInt = v5_4.toInt
      · replace h := h.1 c
        replace K := fun i ro uo z => K i ro uo (Or.inl ⟨c, z⟩)
        exact ru_narrowed_J31 i0 (fun _ _ _ _ _ h K => ih i00 (fun i ro uo ⟨n8, z⟩ => K (i, n8) ro uo z) h) K h
      · replace h := h.2 c
        replace K := fun i ro uo z => K i ro uo (Or.inr ⟨c, z⟩)
        exact ru_narrowed_J31 i0 (fun _ _ _ _ _ h K => ih i00 (fun i ro uo ⟨n8, z⟩ => K (i, n8) ro uo z) h) K h
set_option maxRecDepth 100000 in
theorem ru_narrowed {S : MS} {x1 : Int32} {x2 : Int32} {Q : Int32 → MS → Prop} (h : w_narrowed S x1 x2 Q) : ∃ ro uo, v_narrowed S x1 x2 ro uo ∧ Q ro uo := by
  have i0 : Unit := ()
  have K : ∀ (i : Unit) (ro : Int32) (uo : MS), v_narrowed S x1 x2 ro uo → v_narrowed S x1 x2 ro uo := fun _ _ _ z => z
  unfold w_narrowed at h
  obtain ⟨n9, h⟩ := h
  exact ru_narrowed_L5 n9 i0 K h
set_option maxRecDepth 100000 in
theorem vw_narrowed_J89 {ro : Int32} {uo : MS} {k5 k5v : MS → Int32 → Int32 → Int32 → Int32 → Prop} {U89 : MS} {t89_0 : Int32} {v89_1 : Int32} {v89_2 : Int32} {v89_4 : Int32} {v89_6 : Int32} (hk5 : ∀ (u : MS) (z0 : Int32) (z1 : Int32) (z2 : Int32) (z3 : Int32), k5v u z0 z1 z2 z3 → k5 u z0 z1 z2 z3) (h : v_narrowed_J89 ro uo k5v U89 t89_0 v89_1 v89_2 v89_4 v89_6) : w_narrowed_J89 (fun r u => r = ro ∧ u = uo) k5 U89 t89_0 v89_1 v89_2 v89_4 v89_6 := by
  unfold v_narrowed_J89 at h
  unfold w_narrowed_J89
  obtain ⟨g9, h⟩ := h
  refine ⟨g9, ?_⟩
  obtain ⟨v9, e9, h⟩ := h
  intro x9 d9
  have c9 : v9 = x9 := e9.trans d9.symm
  subst c9
  obtain ⟨v9, e9, h⟩ := h
  intro x9 d9
  have c9 : v9 = x9 := e9.trans d9.symm
  subst c9
  exact hk5 _ _ _ _ _ h
set_option maxRecDepth 100000 in
theorem vz_narrowed_J89 {ro : Int32} {uo : MS} {Q : Int32 → MS → Prop} {k5 k5v : MS → Int32 → Int32 → Int32 → Int32 → Prop} {U89 : MS} {t89_0 : Int32} {v89_1 : Int32} {v89_2 : Int32} {v89_4 : Int32} {v89_6 : Int32} (hk5 : ∀ (u : MS) (z0 : Int32) (z1 : Int32) (z2 : Int32) (z3 : Int32), k5v u z0 z1 z2 z3 → k5 u z0 z1 z2 z3 → Q ro uo) (h : v_narrowed_J89 ro uo k5v U89 t89_0 v89_1 v89_2 v89_4 v89_6) (w : w_narrowed_J89 Q k5 U89 t89_0 v89_1 v89_2 v89_4 v89_6) : Q ro uo := by
  unfold v_narrowed_J89 at h
  unfold w_narrowed_J89 at w
  replace h := h.2
  replace w := w.2
  obtain ⟨v9, e9, h⟩ := h
  replace w := w v9 e9
  obtain ⟨v9, e9, h⟩ := h
  replace w := w v9 e9
  exact hk5 _ _ _ _ _ h w
set_option maxRecDepth 100000 in
theorem vw_narrowed_J84 {ro : Int32} {uo : MS} {k5 k5v : MS → Int32 → Int32 → Int32 → Int32 → Prop} {U84 : MS} {v84_1 : Int32} {v84_2 : Int32} {v84_4 : Int32} {v84_6 : Int32} (hk5 : ∀ (u : MS) (z0 : Int32) (z1 : Int32) (z2 : Int32) (z3 : Int32), k5v u z0 z1 z2 z3 → k5 u z0 z1 z2 z3) (h : v_narrowed_J84 ro uo k5v U84 v84_1 v84_2 v84_4 v84_6) : w_narrowed_J84 (fun r u => r = ro ∧ u = uo) k5 U84 v84_1 v84_2 v84_4 v84_6 := by
  unfold v_narrowed_J84 at h
  unfold w_narrowed_J84
  exact vw_narrowed_J89 hk5 h
set_option maxRecDepth 100000 in
theorem vz_narrowed_J84 {ro : Int32} {uo : MS} {Q : Int32 → MS → Prop} {k5 k5v : MS → Int32 → Int32 → Int32 → Int32 → Prop} {U84 : MS} {v84_1 : Int32} {v84_2 : Int32} {v84_4 : Int32} {v84_6 : Int32} (hk5 : ∀ (u : MS) (z0 : Int32) (z1 : Int32) (z2 : Int32) (z3 : Int32), k5v u z0 z1 z2 z3 → k5 u z0 z1 z2 z3 → Q ro uo) (h : v_narrowed_J84 ro uo k5v U84 v84_1 v84_2 v84_4 v84_6) (w : w_narrowed_J84 Q k5 U84 v84_1 v84_2 v84_4 v84_6) : Q ro uo := by
  unfold v_narrowed_J84 at h
  unfold w_narrowed_J84 at w
  exact vz_narrowed_J89 hk5 h w
set_option maxRecDepth 100000 in
theorem vw_narrowed_J31 {ro : Int32} {uo : MS} {k5 k5v : MS → Int32 → Int32 → Int32 → Int32 → Prop} {U31 : MS} {t31_0 : Int32} {v31_1 : Int32} {v31_2 : Int32} {v31_3 : Int32} {v31_4 : Int32} (hk5 : ∀ (u : MS) (z0 : Int32) (z1 : Int32) (z2 : Int32) (z3 : Int32), k5v u z0 z1 z2 z3 → k5 u z0 z1 z2 z3) (h : v_narrowed_J31 ro uo k5v U31 t31_0 v31_1 v31_2 v31_3 v31_4) : w_narrowed_J31 (fun r u => r = ro ∧ u = uo) k5 U31 t31_0 v31_1 v31_2 v31_3 v31_4 := by
  unfold v_narrowed_J31 at h
  unfold w_narrowed_J31
  obtain ⟨g9, h⟩ := h
  refine ⟨g9, ?_⟩
  obtain ⟨g9, h⟩ := h
  refine ⟨g9, ?_⟩
  obtain ⟨v9, e9, h⟩ := h
  intro x9 d9
  have c9 : v9 = x9 := e9.trans d9.symm
  subst c9
  rcases h with ⟨c, h⟩ | ⟨c, h⟩
  · refine ⟨fun _ => ?_, fun c2 => absurd c c2⟩
    obtain ⟨g9, h⟩ := h
    refine ⟨g9, ?_⟩
    rcases h with ⟨c, h⟩ | ⟨c, h⟩
    · refine ⟨fun _ => ?_, fun c2 => absurd c c2⟩
      exact vw_narrowed_J89 hk5 h
    · refine ⟨fun c2 => absurd c2 c, fun _ => ?_⟩
      exact vw_narrowed_J84 hk5 h
  · refine ⟨fun c2 => absurd c2 c, fun _ => ?_⟩
    exact vw_narrowed_J84 hk5 h
set_option maxRecDepth 100000 in
theorem vz_narrowed_J31 {ro : Int32} {uo : MS} {Q : Int32 → MS → Prop} {k5 k5v : MS → Int32 → Int32 → Int32 → Int32 → Prop} {U31 : MS} {t31_0 : Int32} {v31_1 : Int32} {v31_2 : Int32} {v31_3 : Int32} {v31_4 : Int32} (hk5 : ∀ (u : MS) (z0 : Int32) (z1 : Int32) (z2 : Int32) (z3 : Int32), k5v u z0 z1 z2 z3 → k5 u z0 z1 z2 z3 → Q ro uo) (h : v_narrowed_J31 ro uo k5v U31 t31_0 v31_1 v31_2 v31_3 v31_4) (w : w_narrowed_J31 Q k5 U31 t31_0 v31_1 v31_2 v31_3 v31_4) : Q ro uo := by
  unfold v_narrowed_J31 at h
  unfold w_narrowed_J31 at w
  replace h := h.2
  replace w := w.2
  replace h := h.2
  replace w := w.2
  obtain ⟨v9, e9, h⟩ := h
  replace w := w v9 e9
  rcases h with ⟨c, h⟩ | ⟨c, h⟩
  · replace w := w.1 c
    replace h := h.2
    replace w := w.2
    rcases h with ⟨c, h⟩ | ⟨c, h⟩
    · replace w := w.1 c
      exact vz_narrowed_J89 hk5 h w
    · replace w := w.2 c
      exact vz_narrowed_J84 hk5 h w
  · replace w := w.2 c
    exact vz_narrowed_J84 hk5 h w
set_option maxRecDepth 100000 in
theorem vw_narrowed_L5 {ro : Int32} {uo : MS} : ∀ (n : Nat) {U5 : MS} {v5_1 : Int32} {v5_2 : Int32} {v5_3 : Int32} {v5_4 : Int32}, v_narrowed_L5 ro uo n U5 v5_1 v5_2 v5_3 v5_4 → w_narrowed_L5 (fun r u => r = ro ∧ u = uo) n U5 v5_1 v5_2 v5_3 v5_4 := by
  intro n
  induction n with
  | zero => intro U5 v5_1 v5_2 v5_3 v5_4 h; unfold v_narrowed_L5 at h; exact h.elim
  | succ n ih =>
    intro U5 v5_1 v5_2 v5_3 v5_4 h
    unfold v_narrowed_L5 at h
    unfold w_narrowed_L5
    rcases h with ⟨c, h⟩ | ⟨c, h⟩
    · refine ⟨fun _ => ?_, fun c2 => absurd c c2⟩
      exact ⟨h.1.symm, h.2.symm⟩
    · refine ⟨fun c2 => absurd c2 c, fun _ => ?_⟩
      rcases h with ⟨c, h⟩ | ⟨c, h⟩
      · refine ⟨fun _ => ?_, fun c2 => absurd c c2⟩
        exact vw_narrowed_J31 (fun _ _ _ _ _ h => ih h) h
      · refine ⟨fun c2 => absurd c2 c, fun _ => ?_⟩
        exact vw_narrowed_J31 (fun _ _ _ _ _ h => ih h) h
set_option maxRecDepth 100000 in
theorem vz_narrowed_L5 {ro : Int32} {uo : MS} {Q : Int32 → MS → Prop} : ∀ (n m : Nat) {U5 : MS} {v5_1 : Int32} {v5_2 : Int32} {v5_3 : Int32} {v5_4 : Int32}, v_narrowed_L5 ro uo n U5 v5_1 v5_2 v5_3 v5_4 → w_narrowed_L5 Q m U5 v5_1 v5_2 v5_3 v5_4 → Q ro uo := by
  intro n
  induction n with
  | zero => intro m U5 v5_1 v5_2 v5_3 v5_4 h; unfold v_narrowed_L5 at h; exact h.elim
  | succ n ih =>
    intro m U5 v5_1 v5_2 v5_3 v5_4 h w
    cases m with
    | zero => unfold w_narrowed_L5 at w; exact w.elim
    | succ m =>
      unfold v_narrowed_L5 at h
      unfold w_narrowed_L5 at w
      rcases h with ⟨c, h⟩ | ⟨c, h⟩
      · replace w := w.1 c
        rw [h.1, h.2]
        exact w
      · replace w := w.2 c
        rcases h with ⟨c, h⟩ | ⟨c, h⟩
        · replace w := w.1 c
          exact vz_narrowed_J31 (fun _ _ _ _ _ h w => ih m h w) h w
        · replace w := w.2 c
          exact vz_narrowed_J31 (fun _ _ _ _ _ h w => ih m h w) h w
set_option maxRecDepth 100000 in
theorem vw_narrowed {S : MS} {x1 : Int32} {x2 : Int32} {ro : Int32} {uo : MS} (h : v_narrowed S x1 x2 ro uo) : w_narrowed S x1 x2 (fun r u => r = ro ∧ u = uo) := by
  unfold v_narrowed at h
  unfold w_narrowed
  obtain ⟨n9, h⟩ := h
  exact ⟨n9, vw_narrowed_L5 n9 h⟩
set_option maxRecDepth 100000 in
theorem vz_narrowed {S : MS} {x1 : Int32} {x2 : Int32} {ro : Int32} {uo : MS} {Q : Int32 → MS → Prop} (h : v_narrowed S x1 x2 ro uo) (w : w_narrowed S x1 x2 Q) : Q ro uo := by
  unfold v_narrowed at h
  unfold w_narrowed at w
  obtain ⟨n9, h⟩ := h
  obtain ⟨n8, w⟩ := w
  exact vz_narrowed_L5 n9 n8 h w
def v_nearestOf_J61 (ro : Int32) (uo : MS) (k7 : MS → Int32 → Int32 → Int32 → Int32 → Prop) (U61 : MS) (v61_1 : Int32) (v61_2 : Int32) (v61_3 : Int32) (v61_4 : Int32) : Prop := (∃ a2 : Int32, a2 = (v61_4 + Int32.ofInt 1) ∧ (k7 U61 v61_1 v61_2 v61_3 a2))
def v_nearestOf_J49 (ro : Int32) (uo : MS) (k7 : MS → Int32 → Int32 → Int32 → Int32 → Prop) (U49 : MS) (v49_1 : Int32) (v49_2 : Int32) (v49_3 : Int32) (v49_4 : Int32) : Prop := (((0 : Int) ≤ v49_4.toInt ∧ v49_4.toInt < 1200) ∧ (∃ a13 : Int32, a13 = (if v49_3 < (qI U49 59 v49_4.toInt.toNat) then (qI U49 59 v49_4.toInt.toNat) else v49_3) ∧ (v_nearestOf_J61 ro uo k7 U49 v49_1 v49_2 a13 v49_4)))
def v_nearestOf_L7 (ro : Int32) (uo : MS) : Nat → MS → Int32 → Int32 → Int32 → Int32 → Prop
  | 0, _, _, _, _, _ => False
  | n7 + 1, U7, v7_1, v7_2, v7_3, v7_4 => (((qI U7 0 105).toInt ≤ v7_4.toInt ∧ (ro = v7_2 ∧ uo = U7)) ∨ (¬ (qI U7 0 105).toInt ≤ v7_4.toInt ∧ ((v7_4.toInt = v7_1.toInt ∧ (v_nearestOf_J61 ro uo (v_nearestOf_L7 ro uo n7) U7 v7_1 v7_2 v7_3 v7_4)) ∨ (¬ v7_4.toInt = v7_1.toInt ∧ (d_dominates U7 v7_4 v7_1 ∧ (((f_dominates U7 v7_4 v7_1).toInt = 0 ∧ (v_nearestOf_J61 ro uo (v_nearestOf_L7 ro uo n7) U7 v7_1 v7_2 v7_3 v7_4)) ∨ (¬ (f_dominates U7 v7_4 v7_1).toInt = 0 ∧ (((0 : Int) ≤ v7_4.toInt ∧ v7_4.toInt < 1200) ∧ (((qI U7 59 v7_4.toInt.toNat).toInt ≤ v7_3.toInt ∧ (v_nearestOf_J49 ro uo (v_nearestOf_L7 ro uo n7) U7 v7_1 v7_2 v7_3 v7_4)) ∨ (¬ (qI U7 59 v7_4.toInt.toNat).toInt ≤ v7_3.toInt ∧ (v_nearestOf_J49 ro uo (v_nearestOf_L7 ro uo n7) U7 v7_1 v7_4 v7_3 v7_4)))))))))))
def v_nearestOf (S : MS) (x1 : Int32) (ro : Int32) (uo : MS) : Prop := (∃ n, v_nearestOf_L7 ro uo n S x1 (-1) 0 0)
set_option maxRecDepth 100000 in
theorem ru_nearestOf_J61 {ι : Type} {P : Int32 → MS → Prop} {Q : Int32 → MS → Prop} {k7 : MS → Int32 → Int32 → Int32 → Int32 → Prop} {k7v : ι → Int32 → MS → MS → Int32 → Int32 → Int32 → Int32 → Prop} {U61 : MS} {v61_1 : Int32} {v61_2 : Int32} {v61_3 : Int32} {v61_4 : Int32} (i0 : ι) (hk7 : ∀ (u : MS) (z0 : Int32) (z1 : Int32) (z2 : Int32) (z3 : Int32), k7 u z0 z1 z2 z3 → (∀ (i : ι) (ro : Int32) (uo : MS), k7v i ro uo u z0 z1 z2 z3 → P ro uo) → ∃ ro uo, P ro uo ∧ Q ro uo) (K : ∀ (i : ι) (ro : Int32) (uo : MS), v_nearestOf_J61 ro uo (k7v i ro uo) U61 v61_1 v61_2 v61_3 v61_4 → P ro uo) (h : w_nearestOf_J61 Q k7 U61 v61_1 v61_2 v61_3 v61_4) : ∃ ro uo, P ro uo ∧ Q ro uo := by
  unfold w_nearestOf_J61 at h
  obtain ⟨a2, ea2⟩ : ∃ x9 : Int32, x9 = (v61_4 + Int32.ofInt 1) := ⟨_, rfl⟩
  replace h := h a2 ea2
  replace K := fun i ro uo z => K i ro uo ⟨a2, ea2, z⟩
  exact hk7 _ _ _ _ _ h K
set_option maxRecDepth 100000 in
theorem ru_nearestOf_J49 {ι : Type} {P : Int32 → MS → Prop} {Q : Int32 → MS → Prop} {k7 : MS → Int32 → Int32 → Int32 → Int32 → Prop} {k7v : ι → Int32 → MS → MS → Int32 → Int32 → Int32 → Int32 → Prop} {U49 : MS} {v49_1 : Int32} {v49_2 : Int32} {v49_3 : Int32} {v49_4 : Int32} (i0 : ι) (hk7 : ∀ (u : MS) (z0 : Int32) (z1 : Int32) (z2 : Int32) (z3 : Int32), k7 u z0 z1 z2 z3 → (∀ (i : ι) (ro : Int32) (uo : MS), k7v i ro uo u z0 z1 z2 z3 → P ro uo) → ∃ ro uo, P ro uo ∧ Q ro uo) (K : ∀ (i : ι) (ro : Int32) (uo : MS), v_nearestOf_J49 ro uo (k7v i ro uo) U49 v49_1 v49_2 v49_3 v49_4 → P ro uo) (h : w_nearestOf_J49 Q k7 U49 v49_1 v49_2 v49_3 v49_4) : ∃ ro uo, P ro uo ∧ Q ro uo := by
  unfold w_nearestOf_J49 at h
  obtain ⟨g1_, h⟩ := h
  replace K := fun i ro uo z => K i ro uo ⟨g1_, z⟩
  obtain ⟨a13, ea13⟩ : ∃ x9 : Int32, x9 = (if v49_3 < (qI U49 59 v49_4.toInt.toNat) then (qI U49 59 v49_4.toInt.toNat) else v49_3) := ⟨_, rfl⟩
  replace h := h a13 ea13
  replace K := fun i ro uo z => K i ro uo ⟨a13, ea13, z⟩
  exact ru_nearestOf_J61 i0 hk7 K h
set_option maxRecDepth 100000 in
theorem ru_nearestOf_L7 {ι : Type} {P : Int32 → MS → Prop} {Q : Int32 → MS → Prop} : ∀ (n : Nat) {U7 : MS} {v7_1 : Int32} {v7_2 : Int32} {v7_3 : Int32} {v7_4 : Int32} (i0 : ι), (∀ (i : ι) (ro : Int32) (uo : MS), (∃ n8, v_nearestOf_L7 ro uo n8 U7 v7_1 v7_2 v7_3 v7_4) → P ro uo) → w_nearestOf_L7 Q n U7 v7_1 v7_2 v7_3 v7_4 → ∃ ro uo, P ro uo ∧ Q ro uo := by
  intro n
  induction n with
  | zero => intro U7 v7_1 v7_2 v7_3 v7_4 i0 K h; unfold w_nearestOf_L7 at h; exact h.elim
  | succ n ih =>
    intro U7 v7_1 v7_2 v7_3 v7_4 i0 K h
    unfold w_nearestOf_L7 at h
    replace K := fun (i : ι × Nat) ro uo (z : v_nearestOf_L7 ro uo (i.2 + 1) U7 v7_1 v7_2 v7_3 v7_4) => K i.1 ro uo ⟨i.2 + 1, z⟩
    have i00 := i0
    replace i0 : ι × Nat := (i0, 0)
    by_cases c : (qI U7 0 105).toInt ≤ v7_4.toInt
    · replace h := h.1 c
      replace K := fun i ro uo z => K i ro uo (Or.inl ⟨c, z⟩)
      exact ⟨_, _, K i0 _ _ ⟨rfl, rfl⟩, h⟩
    · replace h := h.2 c
      replace K := fun i ro uo z => K i ro uo (Or.inr ⟨c, z⟩)
      by_cases c : v7_4.toInt = v7_1.toInt
      · replace h := h.1 c
        replace K := fun i ro uo z => K i ro uo (Or.inl ⟨c, z⟩)
        exact ru_nearestOf_J61 i0 (fun _ _ _ _ _ h K => ih i00 (fun i ro uo ⟨n8, z⟩ => K (i, n8) ro uo z) h) K h
      · replace h := h.2 c
        replace K := fun i ro uo z => K i ro uo (Or.inr ⟨c, z⟩)
        obtain ⟨g2_, h⟩ := h
        replace K := fun i ro uo z => K i ro uo ⟨g2_, z⟩
        by_cases c : (f_dominates U7 v7_4 v7_1).toInt = 0
        · replace h := h.1 c
          replace K := fun i ro uo z => K i ro uo (Or.inl ⟨c, z⟩)
          exact ru_nearestOf_J61 i0 (fun _ _ _ _ _ h K => ih i00 (fun i ro uo ⟨n8, z⟩ => K (i, n8) ro uo z) h) K h
        · replace h := h.2 c
          replace K := fun i ro uo z => K i ro uo (Or.inr ⟨c, z⟩)
          obtain ⟨g3_, h⟩ := h
          replace K := fun i ro uo z => K i ro uo ⟨g3_, z⟩
          by_cases c : (qI U7 59 v7_4.toInt.toNat).toInt ≤ v7_3.toInt
          · replace h := h.1 c
            replace K := fun i ro uo z => K i ro uo (Or.inl ⟨c, z⟩)
            exact ru_nearestOf_J49 i0 (fun _ _ _ _ _ h K => ih i00 (fun i ro uo ⟨n8, z⟩ => K (i, n8) ro uo z) h) K h
          · replace h := h.2 c
            replace K := fun i ro uo z => K i ro uo (Or.inr ⟨c, z⟩)
            exact ru_nearestOf_J49 i0 (fun _ _ _ _ _ h K => ih i00 (fun i ro uo ⟨n8, z⟩ => K (i, n8) ro uo z) h) K h
set_option maxRecDepth 100000 in
theorem ru_nearestOf {S : MS} {x1 : Int32} {Q : Int32 → MS → Prop} (h : w_nearestOf S x1 Q) : ∃ ro uo, v_nearestOf S x1 ro uo ∧ Q ro uo := by
  have i0 : Unit := ()
  have K : ∀ (i : Unit) (ro : Int32) (uo : MS), v_nearestOf S x1 ro uo → v_nearestOf S x1 ro uo := fun _ _ _ z => z
  unfold w_nearestOf at h
  obtain ⟨n9, h⟩ := h
  exact ru_nearestOf_L7 n9 i0 K h
set_option maxRecDepth 100000 in
theorem vw_nearestOf_J61 {ro : Int32} {uo : MS} {k7 k7v : MS → Int32 → Int32 → Int32 → Int32 → Prop} {U61 : MS} {v61_1 : Int32} {v61_2 : Int32} {v61_3 : Int32} {v61_4 : Int32} (hk7 : ∀ (u : MS) (z0 : Int32) (z1 : Int32) (z2 : Int32) (z3 : Int32), k7v u z0 z1 z2 z3 → k7 u z0 z1 z2 z3) (h : v_nearestOf_J61 ro uo k7v U61 v61_1 v61_2 v61_3 v61_4) : w_nearestOf_J61 (fun r u => r = ro ∧ u = uo) k7 U61 v61_1 v61_2 v61_3 v61_4 := by
  unfold v_nearestOf_J61 at h
  unfold w_nearestOf_J61
  obtain ⟨v9, e9, h⟩ := h
  intro x9 d9
  have c9 : v9 = x9 := e9.trans d9.symm
  subst c9
  exact hk7 _ _ _ _ _ h
set_option maxRecDepth 100000 in
theorem vz_nearestOf_J61 {ro : Int32} {uo : MS} {Q : Int32 → MS → Prop} {k7 k7v : MS → Int32 → Int32 → Int32 → Int32 → Prop} {U61 : MS} {v61_1 : Int32} {v61_2 : Int32} {v61_3 : Int32} {v61_4 : Int32} (hk7 : ∀ (u : MS) (z0 : Int32) (z1 : Int32) (z2 : Int32) (z3 : Int32), k7v u z0 z1 z2 z3 → k7 u z0 z1 z2 z3 → Q ro uo) (h : v_nearestOf_J61 ro uo k7v U61 v61_1 v61_2 v61_3 v61_4) (w : w_nearestOf_J61 Q k7 U61 v61_1 v61_2 v61_3 v61_4) : Q ro uo := by
  unfold v_nearestOf_J61 at h
  unfold w_nearestOf_J61 at w
  obtain ⟨v9, e9, h⟩ := h
  replace w := w v9 e9
  exact hk7 _ _ _ _ _ h w
set_option maxRecDepth 100000 in
theorem vw_nearestOf_J49 {ro : Int32} {uo : MS} {k7 k7v : MS → Int32 → Int32 → Int32 → Int32 → Prop} {U49 : MS} {v49_1 : Int32} {v49_2 : Int32} {v49_3 : Int32} {v49_4 : Int32} (hk7 : ∀ (u : MS) (z0 : Int32) (z1 : Int32) (z2 : Int32) (z3 : Int32), k7v u z0 z1 z2 z3 → k7 u z0 z1 z2 z3) (h : v_nearestOf_J49 ro uo k7v U49 v49_1 v49_2 v49_3 v49_4) : w_nearestOf_J49 (fun r u => r = ro ∧ u = uo) k7 U49 v49_1 v49_2 v49_3 v49_4 := by
  unfold v_nearestOf_J49 at h
  unfold w_nearestOf_J49
  obtain ⟨g9, h⟩ := h
  refine ⟨g9, ?_⟩
  obtain ⟨v9, e9, h⟩ := h
  intro x9 d9
  have c9 : v9 = x9 := e9.trans d9.symm
  subst c9
  exact vw_nearestOf_J61 hk7 h
set_option maxRecDepth 100000 in
theorem vz_nearestOf_J49 {ro : Int32} {uo : MS} {Q : Int32 → MS → Prop} {k7 k7v : MS → Int32 → Int32 → Int32 → Int32 → Prop} {U49 : MS} {v49_1 : Int32} {v49_2 : Int32} {v49_3 : Int32} {v49_4 : Int32} (hk7 : ∀ (u : MS) (z0 : Int32) (z1 : Int32) (z2 : Int32) (z3 : Int32), k7v u z0 z1 z2 z3 → k7 u z0 z1 z2 z3 → Q ro uo) (h : v_nearestOf_J49 ro uo k7v U49 v49_1 v49_2 v49_3 v49_4) (w : w_nearestOf_J49 Q k7 U49 v49_1 v49_2 v49_3 v49_4) : Q ro uo := by
  unfold v_nearestOf_J49 at h
  unfold w_nearestOf_J49 at w
  replace h := h.2
  replace w := w.2
  obtain ⟨v9, e9, h⟩ := h
  replace w := w v9 e9
  exact vz_nearestOf_J61 hk7 h w
set_option maxRecDepth 100000 in
theorem vw_nearestOf_L7 {ro : Int32} {uo : MS} : ∀ (n : Nat) {U7 : MS} {v7_1 : Int32} {v7_2 : Int32} {v7_3 : Int32} {v7_4 : Int32}, v_nearestOf_L7 ro uo n U7 v7_1 v7_2 v7_3 v7_4 → w_nearestOf_L7 (fun r u => r = ro ∧ u = uo) n U7 v7_1 v7_2 v7_3 v7_4 := by
  intro n
  induction n with
  | zero => intro U7 v7_1 v7_2 v7_3 v7_4 h; unfold v_nearestOf_L7 at h; exact h.elim
  | succ n ih =>
    intro U7 v7_1 v7_2 v7_3 v7_4 h
    unfold v_nearestOf_L7 at h
    unfold w_nearestOf_L7
    rcases h with ⟨c, h⟩ | ⟨c, h⟩
    · refine ⟨fun _ => ?_, fun c2 => absurd c c2⟩
      exact ⟨h.1.symm, h.2.symm⟩
    · refine ⟨fun c2 => absurd c2 c, fun _ => ?_⟩
      rcases h with ⟨c, h⟩ | ⟨c, h⟩
      · refine ⟨fun _ => ?_, fun c2 => absurd c c2⟩
        exact vw_nearestOf_J61 (fun _ _ _ _ _ h => ih h) h
      · refine ⟨fun c2 => absurd c2 c, fun _ => ?_⟩
        obtain ⟨g9, h⟩ := h
        refine ⟨g9, ?_⟩
        rcases h with ⟨c, h⟩ | ⟨c, h⟩
        · refine ⟨fun _ => ?_, fun c2 => absurd c c2⟩
          exact vw_nearestOf_J61 (fun _ _ _ _ _ h => ih h) h
        · refine ⟨fun c2 => absurd c2 c, fun _ => ?_⟩
          obtain ⟨g9, h⟩ := h
          refine ⟨g9, ?_⟩
          rcases h with ⟨c, h⟩ | ⟨c, h⟩
          · refine ⟨fun _ => ?_, fun c2 => absurd c c2⟩
            exact vw_nearestOf_J49 (fun _ _ _ _ _ h => ih h) h
          · refine ⟨fun c2 => absurd c2 c, fun _ => ?_⟩
            exact vw_nearestOf_J49 (fun _ _ _ _ _ h => ih h) h
set_option maxRecDepth 100000 in
theorem vz_nearestOf_L7 {ro : Int32} {uo : MS} {Q : Int32 → MS → Prop} : ∀ (n m : Nat) {U7 : MS} {v7_1 : Int32} {v7_2 : Int32} {v7_3 : Int32} {v7_4 : Int32}, v_nearestOf_L7 ro uo n U7 v7_1 v7_2 v7_3 v7_4 → w_nearestOf_L7 Q m U7 v7_1 v7_2 v7_3 v7_4 → Q ro uo := by
  intro n
  induction n with
  | zero => intro m U7 v7_1 v7_2 v7_3 v7_4 h; unfold v_nearestOf_L7 at h; exact h.elim
  | succ n ih =>
    intro m U7 v7_1 v7_2 v7_3 v7_4 h w
    cases m with
    | zero => unfold w_nearestOf_L7 at w; exact w.elim
    | succ m =>
      unfold v_nearestOf_L7 at h
      unfold w_nearestOf_L7 at w
      rcases h with ⟨c, h⟩ | ⟨c, h⟩
      · replace w := w.1 c
        rw [h.1, h.2]
        exact w
      · replace w := w.2 c
        rcases h with ⟨c, h⟩ | ⟨c, h⟩
        · replace w := w.1 c
          exact vz_nearestOf_J61 (fun _ _ _ _ _ h w => ih m h w) h w
        · replace w := w.2 c
          replace h := h.2
          replace w := w.2
          rcases h with ⟨c, h⟩ | ⟨c, h⟩
          · replace w := w.1 c
            exact vz_nearestOf_J61 (fun _ _ _ _ _ h w => ih m h w) h w
          · replace w := w.2 c
            replace h := h.2
            replace w := w.2
            rcases h with ⟨c, h⟩ | ⟨c, h⟩
            · replace w := w.1 c
              exact vz_nearestOf_J49 (fun _ _ _ _ _ h w => ih m h w) h w
            · replace w := w.2 c
              exact vz_nearestOf_J49 (fun _ _ _ _ _ h w => ih m h w) h w
set_option maxRecDepth 100000 in
theorem vw_nearestOf {S : MS} {x1 : Int32} {ro : Int32} {uo : MS} (h : v_nearestOf S x1 ro uo) : w_nearestOf S x1 (fun r u => r = ro ∧ u = uo) := by
  unfold v_nearestOf at h
  unfold w_nearestOf
  obtain ⟨n9, h⟩ := h
  exact ⟨n9, vw_nearestOf_L7 n9 h⟩
set_option maxRecDepth 100000 in
theorem vz_nearestOf {S : MS} {x1 : Int32} {ro : Int32} {uo : MS} {Q : Int32 → MS → Prop} (h : v_nearestOf S x1 ro uo) (w : w_nearestOf S x1 Q) : Q ro uo := by
  unfold v_nearestOf at h
  unfold w_nearestOf at w
  obtain ⟨n9, h⟩ := h
  obtain ⟨n8, w⟩ := w
  exact vz_nearestOf_L7 n9 n8 h w
