def v_switchSpan_J73 (ro : Int32) (uo : MS) (U73 : MS) : Prop := (ro = (0 : Int32) ∧ uo = U73)
def v_switchSpan_L136 (ro : Int32) (uo : MS) : Nat → MS → Int32 → Int32 → Int32 → Int32 → Prop
  | 0, _, _, _, _, _ => False
  | n136 + 1, U136, v136_1, v136_3, v136_4, v136_5 => ((v136_4.toInt ≤ v136_5.toInt ∧ (ro = (((v136_3 + (8 : Int32)) + ((8 : Int32) * v136_4)) - v136_1) ∧ uo = U136)) ∨ (¬ v136_4.toInt ≤ v136_5.toInt ∧ (d_codeFour U136 ((v136_3 + (8 : Int32)) + ((8 : Int32) * v136_5)) ∧ (d_codeFour U136 (v136_3 + ((8 : Int32) * v136_5)) ∧ (((f_codeFour U136 (v136_3 + ((8 : Int32) * v136_5))).toInt < (f_codeFour U136 ((v136_3 + (8 : Int32)) + ((8 : Int32) * v136_5))).toInt ∧ (∃ a36 : Int32, a36 = (v136_5 + Int32.ofInt 1) ∧ ((v_switchSpan_L136 ro uo n136) U136 v136_1 v136_3 v136_4 a36))) ∨ (¬ (f_codeFour U136 (v136_3 + ((8 : Int32) * v136_5))).toInt < (f_codeFour U136 ((v136_3 + (8 : Int32)) + ((8 : Int32) * v136_5))).toInt ∧ (ro = (0 : Int32) ∧ uo = U136)))))))
def v_switchSpan_J20 (ro : Int32) (uo : MS) (U20 : MS) (t20_0 : Int32) (t20_1 : Int32) (v20_1 : Int32) (v20_2 : Int32) (v20_3 : Int32) : Prop := (((t20_1 + t20_0).toInt ≤ (qI U20 0 37).toInt ∧ ((v20_2.toInt = 170 ∧ (d_codeFour U20 (v20_3 + (8 : Int32)) ∧ (d_codeFour U20 (v20_3 + (4 : Int32)) ∧ (∃ a46 : Int64, a46 = (((f_codeFour U20 (v20_3 + (8 : Int32))).toInt64) - ((f_codeFour U20 (v20_3 + (4 : Int32))).toInt64)) ∧ (((lg_cmp a46 0).toInt < 0 ∧ (v_switchSpan_J73 ro uo U20)) ∨ (¬ (lg_cmp a46 0).toInt < 0 ∧ (((lg_cmp a46 (200 : Int64)).toInt ≤ 0 ∧ (ro = (((v20_3 + (12 : Int32)) + ((4 : Int32) * ((a46.toInt32) + (1 : Int32)))) - v20_1) ∧ uo = U20)) ∨ (¬ (lg_cmp a46 (200 : Int64)).toInt ≤ 0 ∧ (v_switchSpan_J73 ro uo U20))))))))) ∨ (¬ v20_2.toInt = 170 ∧ (d_codeFour U20 (v20_3 + (4 : Int32)) ∧ (∃ a12 : Int32, a12 = (f_codeFour U20 (v20_3 + (4 : Int32))) ∧ ((a12.toInt < 0 ∧ (ro = (0 : Int32) ∧ uo = U20)) ∨ (¬ a12.toInt < 0 ∧ ((200 < a12.toInt ∧ (ro = (0 : Int32) ∧ uo = U20)) ∨ (¬ 200 < a12.toInt ∧ ((((v20_3 + (8 : Int32)) + ((8 : Int32) * a12)).toInt ≤ (qI U20 0 37).toInt ∧ (∃ n, v_switchSpan_L136 ro uo n U20 v20_1 v20_3 a12 1)) ∨ (¬ ((v20_3 + (8 : Int32)) + ((8 : Int32) * a12)).toInt ≤ (qI U20 0 37).toInt ∧ (ro = (0 : Int32) ∧ uo = U20)))))))))))) ∨ (¬ (t20_1 + t20_0).toInt ≤ (qI U20 0 37).toInt ∧ (ro = (0 : Int32) ∧ uo = U20)))
def v_switchSpan (S : MS) (x1 : Int32) (x2 : Int32) (ro : Int32) (uo : MS) : Prop := (d_switchFrom S x1 ∧ (∃ a4 : Int32, a4 = (f_switchFrom S x1) ∧ ((x2.toInt = 170 ∧ (v_switchSpan_J20 ro uo S 12 a4 x1 x2 a4)) ∨ (¬ x2.toInt = 170 ∧ (v_switchSpan_J20 ro uo S 8 a4 x1 x2 a4)))))
set_option maxRecDepth 100000 in
theorem ru_switchSpan_J73 {ι : Type} {P : Int32 → MS → Prop} {Q : Int32 → MS → Prop} {U73 : MS} (i0 : ι) (K : ∀ (i : ι) (ro : Int32) (uo : MS), v_switchSpan_J73 ro uo U73 → P ro uo) (h : w_switchSpan_J73 Q U73) : ∃ ro uo, P ro uo ∧ Q ro uo := by
  unfold w_switchSpan_J73 at h
  exact ⟨_, _, K i0 _ _ ⟨rfl, rfl⟩, h⟩
set_option maxRecDepth 100000 in
theorem ru_switchSpan_L136 {ι : Type} {P : Int32 → MS → Prop} {Q : Int32 → MS → Prop} : ∀ (n : Nat) {U136 : MS} {v136_1 : Int32} {v136_3 : Int32} {v136_4 : Int32} {v136_5 : Int32} (i0 : ι), (∀ (i : ι) (ro : Int32) (uo : MS), (∃ n8, v_switchSpan_L136 ro uo n8 U136 v136_1 v136_3 v136_4 v136_5) → P ro uo) → w_switchSpan_L136 Q n U136 v136_1 v136_3 v136_4 v136_5 → ∃ ro uo, P ro uo ∧ Q ro uo := by
  intro n
  induction n with
  | zero => intro U136 v136_1 v136_3 v136_4 v136_5 i0 K h; unfold w_switchSpan_L136 at h; exact h.elim
  | succ n ih =>
    intro U136 v136_1 v136_3 v136_4 v136_5 i0 K h
    unfold w_switchSpan_L136 at h
    replace K := fun (i : ι × Nat) ro uo (z : v_switchSpan_L136 ro uo (i.2 + 1) U136 v136_1 v136_3 v136_4 v136_5) => K i.1 ro uo ⟨i.2 + 1, z⟩
    have i00 := i0
    replace i0 : ι × Nat := (i0, 0)
    by_cases c : v136_4.toInt ≤ v136_5.toInt
    · replace h := h.1 c
      replace K := fun i ro uo z => K i ro uo (Or.inl ⟨c, z⟩)
      exact ⟨_, _, K i0 _ _ ⟨rfl, rfl⟩, h⟩
    · replace h := h.2 c
      replace K := fun i ro uo z => K i ro uo (Or.inr ⟨c, z⟩)
      obtain ⟨g1_, h⟩ := h
      replace K := fun i ro uo z => K i ro uo ⟨g1_, z⟩
      obtain ⟨g2_, h⟩ := h
      replace K := fun i ro uo z => K i ro uo ⟨g2_, z⟩
      by_cases c : (f_codeFour U136 (v136_3 + ((8 : Int32) * v136_5))).toInt < (f_codeFour U136 ((v136_3 + (8 : Int32)) + ((8 : Int32) * v136_5))).toInt
      · replace h := h.1 c
        replace K := fun i ro uo z => K i ro uo (Or.inl ⟨c, z⟩)
        obtain ⟨a36, ea36⟩ : ∃ x9 : Int32, x9 = (v136_5 + Int32.ofInt 1) := ⟨_, rfl⟩
        replace h := h a36 ea36
        replace K := fun i ro uo z => K i ro uo ⟨a36, ea36, z⟩
        exact ih i00 (fun i ro uo ⟨n8, z⟩ => K (i, n8) ro uo z) h
      · replace h := h.2 c
        replace K := fun i ro uo z => K i ro uo (Or.inr ⟨c, z⟩)
        exact ⟨_, _, K i0 _ _ ⟨rfl, rfl⟩, h⟩
set_option maxRecDepth 100000 in
theorem ru_switchSpan_J20 {ι : Type} {P : Int32 → MS → Prop} {Q : Int32 → MS → Prop} {U20 : MS} {t20_0 : Int32} {t20_1 : Int32} {v20_1 : Int32} {v20_2 : Int32} {v20_3 : Int32} (i0 : ι) (K : ∀ (i : ι) (ro : Int32) (uo : MS), v_switchSpan_J20 ro uo U20 t20_0 t20_1 v20_1 v20_2 v20_3 → P ro uo) (h : w_switchSpan_J20 Q U20 t20_0 t20_1 v20_1 v20_2 v20_3) : ∃ ro uo, P ro uo ∧ Q ro uo := by
  unfold w_switchSpan_J20 at h
  by_cases c : (t20_1 + t20_0).toInt ≤ (qI U20 0 37).toInt
  · replace h := h.1 c
    replace K := fun i ro uo z => K i ro uo (Or.inl ⟨c, z⟩)
    by_cases c : v20_2.toInt = 170
    · replace h := h.1 c
      replace K := fun i ro uo z => K i ro uo (Or.inl ⟨c, z⟩)
      obtain ⟨g3_, h⟩ := h
      replace K := fun i ro uo z => K i ro uo ⟨g3_, z⟩
      obtain ⟨g4_, h⟩ := h
      replace K := fun i ro uo z => K i ro uo ⟨g4_, z⟩
      obtain ⟨a46, ea46⟩ : ∃ x9 : Int64, x9 = (((f_codeFour U20 (v20_3 + (8 : Int32))).toInt64) - ((f_codeFour U20 (v20_3 + (4 : Int32))).toInt64)) := ⟨_, rfl⟩
      replace h := h a46 ea46
      replace K := fun i ro uo z => K i ro uo ⟨a46, ea46, z⟩
      by_cases c : (lg_cmp a46 0).toInt < 0
      · replace h := h.1 c
        replace K := fun i ro uo z => K i ro uo (Or.inl ⟨c, z⟩)
        exact ru_switchSpan_J73 i0 K h
      · replace h := h.2 c
        replace K := fun i ro uo z => K i ro uo (Or.inr ⟨c, z⟩)
        by_cases c : (lg_cmp a46 (200 : Int64)).toInt ≤ 0
        · replace h := h.1 c
          replace K := fun i ro uo z => K i ro uo (Or.inl ⟨c, z⟩)
          exact ⟨_, _, K i0 _ _ ⟨rfl, rfl⟩, h⟩
        · replace h := h.2 c
          replace K := fun i ro uo z => K i ro uo (Or.inr ⟨c, z⟩)
          exact ru_switchSpan_J73 i0 K h
    · replace h := h.2 c
      replace K := fun i ro uo z => K i ro uo (Or.inr ⟨c, z⟩)
      obtain ⟨g5_, h⟩ := h
      replace K := fun i ro uo z => K i ro uo ⟨g5_, z⟩
      obtain ⟨a12, ea12⟩ : ∃ x9 : Int32, x9 = (f_codeFour U20 (v20_3 + (4 : Int32))) := ⟨_, rfl⟩
      replace h := h a12 ea12
      replace K := fun i ro uo z => K i ro uo ⟨a12, ea12, z⟩
      by_cases c : a12.toInt < 0
      · replace h := h.1 c
        replace K := fun i ro uo z => K i ro uo (Or.inl ⟨c, z⟩)
        exact ⟨_, _, K i0 _ _ ⟨rfl, rfl⟩, h⟩
      · replace h := h.2 c
        replace K := fun i ro uo z => K i ro uo (Or.inr ⟨c, z⟩)
        by_cases c : 200 < a12.toInt
        · replace h := h.1 c
          replace K := fun i ro uo z => K i ro uo (Or.inl ⟨c, z⟩)
          exact ⟨_, _, K i0 _ _ ⟨rfl, rfl⟩, h⟩
        · replace h := h.2 c
          replace K := fun i ro uo z => K i ro uo (Or.inr ⟨c, z⟩)
          by_cases c : ((v20_3 + (8 : Int32)) + ((8 : Int32) * a12)).toInt ≤ (qI U20 0 37).toInt
          · replace h := h.1 c
            replace K := fun i ro uo z => K i ro uo (Or.inl ⟨c, z⟩)
            obtain ⟨n9, h⟩ := h
            exact ru_switchSpan_L136 n9 i0 K h
          · replace h := h.2 c
            replace K := fun i ro uo z => K i ro uo (Or.inr ⟨c, z⟩)
            exact ⟨_, _, K i0 _ _ ⟨rfl, rfl⟩, h⟩
  · replace h := h.2 c
    replace K := fun i ro uo z => K i ro uo (Or.inr ⟨c, z⟩)
    exact ⟨_, _, K i0 _ _ ⟨rfl, rfl⟩, h⟩
set_option maxRecDepth 100000 in
theorem ru_switchSpan {S : MS} {x1 : Int32} {x2 : Int32} {Q : Int32 → MS → Prop} (h : w_switchSpan S x1 x2 Q) : ∃ ro uo, v_switchSpan S x1 x2 ro uo ∧ Q ro uo := by
  have i0 : Unit := ()
  have K : ∀ (i : Unit) (ro : Int32) (uo : MS), v_switchSpan S x1 x2 ro uo → v_switchSpan S x1 x2 ro uo := fun _ _ _ z => z
  unfold w_switchSpan at h
  obtain ⟨g6_, h⟩ := h
  replace K := fun i ro uo z => K i ro uo ⟨g6_, z⟩
  obtain ⟨a4, ea4⟩ : ∃ x9 : Int32, x9 = (f_switchFrom S x1) := ⟨_, rfl⟩
  replace h := h a4 ea4
  replace K := fun i ro uo z => K i ro uo ⟨a4, ea4, z⟩
  by_cases c : x2.toInt = 170
  · replace h := h.1 c
    replace K := fun i ro uo z => K i ro uo (Or.inl ⟨c, z⟩)
    exact ru_switchSpan_J20 i0 K h
  · replace h := h.2 c
    replace K := fun i ro uo z => K i ro uo (Or.inr ⟨c, z⟩)
    exact ru_switchSpan_J20 i0 K h
set_option maxRecDepth 100000 in
theorem vw_switchSpan_J73 {ro : Int32} {uo : MS} {U73 : MS} (h : v_switchSpan_J73 ro uo U73) : w_switchSpan_J73 (fun r u => r = ro ∧ u = uo) U73 := by
  unfold v_switchSpan_J73 at h
  unfold w_switchSpan_J73
  exact ⟨h.1.symm, h.2.symm⟩
set_option maxRecDepth 100000 in
theorem vz_switchSpan_J73 {ro : Int32} {uo : MS} {Q : Int32 → MS → Prop} {U73 : MS} (h : v_switchSpan_J73 ro uo U73) (w : w_switchSpan_J73 Q U73) : Q ro uo := by
  unfold v_switchSpan_J73 at h
  unfold w_switchSpan_J73 at w
  rw [h.1, h.2]
  exact w
set_option maxRecDepth 100000 in
theorem vw_switchSpan_L136 {ro : Int32} {uo : MS} : ∀ (n : Nat) {U136 : MS} {v136_1 : Int32} {v136_3 : Int32} {v136_4 : Int32} {v136_5 : Int32}, v_switchSpan_L136 ro uo n U136 v136_1 v136_3 v136_4 v136_5 → w_switchSpan_L136 (fun r u => r = ro ∧ u = uo) n U136 v136_1 v136_3 v136_4 v136_5 := by
  intro n
  induction n with
  | zero => intro U136 v136_1 v136_3 v136_4 v136_5 h; unfold v_switchSpan_L136 at h; exact h.elim
  | succ n ih =>
    intro U136 v136_1 v136_3 v136_4 v136_5 h
    unfold v_switchSpan_L136 at h
    unfold w_switchSpan_L136
    rcases h with ⟨c, h⟩ | ⟨c, h⟩
    · refine ⟨fun _ => ?_, fun c2 => absurd c c2⟩
      exact ⟨h.1.symm, h.2.symm⟩
    · refine ⟨fun c2 => absurd c2 c, fun _ => ?_⟩
      obtain ⟨g9, h⟩ := h
      refine ⟨g9, ?_⟩
      obtain ⟨g9, h⟩ := h
      refine ⟨g9, ?_⟩
      rcases h with ⟨c, h⟩ | ⟨c, h⟩
      · refine ⟨fun _ => ?_, fun c2 => absurd c c2⟩
        obtain ⟨v9, e9, h⟩ := h
        intro x9 d9
        have c9 : v9 = x9 := e9.trans d9.symm
        subst c9
        exact ih h
      · refine ⟨fun c2 => absurd c2 c, fun _ => ?_⟩
        exact ⟨h.1.symm, h.2.symm⟩
set_option maxRecDepth 100000 in
theorem vz_switchSpan_L136 {ro : Int32} {uo : MS} {Q : Int32 → MS → Prop} : ∀ (n m : Nat) {U136 : MS} {v136_1 : Int32} {v136_3 : Int32} {v136_4 : Int32} {v136_5 : Int32}, v_switchSpan_L136 ro uo n U136 v136_1 v136_3 v136_4 v136_5 → w_switchSpan_L136 Q m U136 v136_1 v136_3 v136_4 v136_5 → Q ro uo := by
  intro n
  induction n with
  | zero => intro m U136 v136_1 v136_3 v136_4 v136_5 h; unfold v_switchSpan_L136 at h; exact h.elim
  | succ n ih =>
    intro m U136 v136_1 v136_3 v136_4 v136_5 h w
    cases m with
    | zero => unfold w_switchSpan_L136 at w; exact w.elim
    | succ m =>
      unfold v_switchSpan_L136 at h
      unfold w_switchSpan_L136 at w
      rcases h with ⟨c, h⟩ | ⟨c, h⟩
      · replace w := w.1 c
        rw [h.1, h.2]
        exact w
      · replace w := w.2 c
        replace h := h.2
        replace w := w.2
        replace h := h.2
        replace w := w.2
        rcases h with ⟨c, h⟩ | ⟨c, h⟩
        · replace w := w.1 c
          obtain ⟨v9, e9, h⟩ := h
          replace w := w v9 e9
          exact ih m h w
        · replace w := w.2 c
          rw [h.1, h.2]
          exact w
set_option maxRecDepth 100000 in
theorem vw_switchSpan_J20 {ro : Int32} {uo : MS} {U20 : MS} {t20_0 : Int32} {t20_1 : Int32} {v20_1 : Int32} {v20_2 : Int32} {v20_3 : Int32} (h : v_switchSpan_J20 ro uo U20 t20_0 t20_1 v20_1 v20_2 v20_3) : w_switchSpan_J20 (fun r u => r = ro ∧ u = uo) U20 t20_0 t20_1 v20_1 v20_2 v20_3 := by
  unfold v_switchSpan_J20 at h
  unfold w_switchSpan_J20
  rcases h with ⟨c, h⟩ | ⟨c, h⟩
  · refine ⟨fun _ => ?_, fun c2 => absurd c c2⟩
    rcases h with ⟨c, h⟩ | ⟨c, h⟩
    · refine ⟨fun _ => ?_, fun c2 => absurd c c2⟩
      obtain ⟨g9, h⟩ := h
      refine ⟨g9, ?_⟩
      obtain ⟨g9, h⟩ := h
      refine ⟨g9, ?_⟩
      obtain ⟨v9, e9, h⟩ := h
      intro x9 d9
      have c9 : v9 = x9 := e9.trans d9.symm
      subst c9
      rcases h with ⟨c, h⟩ | ⟨c, h⟩
      · refine ⟨fun _ => ?_, fun c2 => absurd c c2⟩
        exact vw_switchSpan_J73 h
      · refine ⟨fun c2 => absurd c2 c, fun _ => ?_⟩
        rcases h with ⟨c, h⟩ | ⟨c, h⟩
        · refine ⟨fun _ => ?_, fun c2 => absurd c c2⟩
          exact ⟨h.1.symm, h.2.symm⟩
        · refine ⟨fun c2 => absurd c2 c, fun _ => ?_⟩
          exact vw_switchSpan_J73 h
    · refine ⟨fun c2 => absurd c2 c, fun _ => ?_⟩
      obtain ⟨g9, h⟩ := h
      refine ⟨g9, ?_⟩
      obtain ⟨v9, e9, h⟩ := h
      intro x9 d9
      have c9 : v9 = x9 := e9.trans d9.symm
      subst c9
      rcases h with ⟨c, h⟩ | ⟨c, h⟩
      · refine ⟨fun _ => ?_, fun c2 => absurd c c2⟩
        exact ⟨h.1.symm, h.2.symm⟩
      · refine ⟨fun c2 => absurd c2 c, fun _ => ?_⟩
        rcases h with ⟨c, h⟩ | ⟨c, h⟩
        · refine ⟨fun _ => ?_, fun c2 => absurd c c2⟩
          exact ⟨h.1.symm, h.2.symm⟩
        · refine ⟨fun c2 => absurd c2 c, fun _ => ?_⟩
          rcases h with ⟨c, h⟩ | ⟨c, h⟩
          · refine ⟨fun _ => ?_, fun c2 => absurd c c2⟩
            obtain ⟨n9, h⟩ := h
            exact ⟨n9, vw_switchSpan_L136 n9 h⟩
          · refine ⟨fun c2 => absurd c2 c, fun _ => ?_⟩
            exact ⟨h.1.symm, h.2.symm⟩
  · refine ⟨fun c2 => absurd c2 c, fun _ => ?_⟩
    exact ⟨h.1.symm, h.2.symm⟩
set_option maxRecDepth 100000 in
theorem vz_switchSpan_J20 {ro : Int32} {uo : MS} {Q : Int32 → MS → Prop} {U20 : MS} {t20_0 : Int32} {t20_1 : Int32} {v20_1 : Int32} {v20_2 : Int32} {v20_3 : Int32} (h : v_switchSpan_J20 ro uo U20 t20_0 t20_1 v20_1 v20_2 v20_3) (w : w_switchSpan_J20 Q U20 t20_0 t20_1 v20_1 v20_2 v20_3) : Q ro uo := by
  unfold v_switchSpan_J20 at h
  unfold w_switchSpan_J20 at w
  rcases h with ⟨c, h⟩ | ⟨c, h⟩
  · replace w := w.1 c
    rcases h with ⟨c, h⟩ | ⟨c, h⟩
    · replace w := w.1 c
      replace h := h.2
      replace w := w.2
      replace h := h.2
      replace w := w.2
      obtain ⟨v9, e9, h⟩ := h
      replace w := w v9 e9
      rcases h with ⟨c, h⟩ | ⟨c, h⟩
      · replace w := w.1 c
        exact vz_switchSpan_J73 h w
      · replace w := w.2 c
        rcases h with ⟨c, h⟩ | ⟨c, h⟩
        · replace w := w.1 c
          rw [h.1, h.2]
          exact w
        · replace w := w.2 c
          exact vz_switchSpan_J73 h w
    · replace w := w.2 c
      replace h := h.2
      replace w := w.2
      obtain ⟨v9, e9, h⟩ := h
      replace w := w v9 e9
      rcases h with ⟨c, h⟩ | ⟨c, h⟩
      · replace w := w.1 c
        rw [h.1, h.2]
        exact w
      · replace w := w.2 c
        rcases h with ⟨c, h⟩ | ⟨c, h⟩
        · replace w := w.1 c
          rw [h.1, h.2]
          exact w
        · replace w := w.2 c
          rcases h with ⟨c, h⟩ | ⟨c, h⟩
          · replace w := w.1 c
            obtain ⟨n9, h⟩ := h
            obtain ⟨n8, w⟩ := w
            exact vz_switchSpan_L136 n9 n8 h w
          · replace w := w.2 c
            rw [h.1, h.2]
            exact w
  · replace w := w.2 c
    rw [h.1, h.2]
    exact w
set_option maxRecDepth 100000 in
theorem vw_switchSpan {S : MS} {x1 : Int32} {x2 : Int32} {ro : Int32} {uo : MS} (h : v_switchSpan S x1 x2 ro uo) : w_switchSpan S x1 x2 (fun r u => r = ro ∧ u = uo) := by
  unfold v_switchSpan at h
  unfold w_switchSpan
  obtain ⟨g9, h⟩ := h
  refine ⟨g9, ?_⟩
  obtain ⟨v9, e9, h⟩ := h
  intro x9 d9
  have c9 : v9 = x9 := e9.trans d9.symm
  subst c9
  rcases h with ⟨c, h⟩ | ⟨c, h⟩
  · refine ⟨fun _ => ?_, fun c2 => absurd c c2⟩
    exact vw_switchSpan_J20 h
  · refine ⟨fun c2 => absurd c2 c, fun _ => ?_⟩
    exact vw_switchSpan_J20 h
set_option maxRecDepth 100000 in
theorem vz_switchSpan {S : MS} {x1 : Int32} {x2 : Int32} {ro : Int32} {uo : MS} {Q : Int32 → MS → Prop} (h : v_switchSpan S x1 x2 ro uo) (w : w_switchSpan S x1 x2 Q) : Q ro uo := by
  unfold v_switchSpan at h
  unfold w_switchSpan at w
  replace h := h.2
  replace w := w.2
  obtain ⟨v9, e9, h⟩ := h
  replace w := w v9 e9
  rcases h with ⟨c, h⟩ | ⟨c, h⟩
  · replace w := w.1 c
    exact vz_switchSpan_J20 h w
  · replace w := w.2 c
    exact vz_switchSpan_J20 h w
def v_span_J152 (ro : Int32) (uo : MS) (U152 : MS) (v152_3 : Int32) : Prop := (ro = v152_3 ∧ uo = U152)
def v_span_J113 (ro : Int32) (uo : MS) (U113 : MS) (v113_1 : Int32) (v113_2 : Int32) (v113_3 : Int32) : Prop := ((v113_3.toInt ≤ 0 ∧ (ro = (-1 : Int32) ∧ uo = U113)) ∨ (¬ v113_3.toInt ≤ 0 ∧ (((v113_1 + v113_3).toInt ≤ (qI U113 0 37).toInt ∧ ((v113_2.toInt = 188 ∧ (d_codeOctet U113 (v113_1 + (1 : Int32)) ∧ (((f_codeOctet U113 (v113_1 + (1 : Int32))).toInt = 10 ∧ (v_span_J152 ro uo U113 v113_3)) ∨ (¬ (f_codeOctet U113 (v113_1 + (1 : Int32))).toInt = 10 ∧ (ro = (-1 : Int32) ∧ uo = U113))))) ∨ (¬ v113_2.toInt = 188 ∧ (v_span_J152 ro uo U113 v113_3)))) ∨ (¬ (v113_1 + v113_3).toInt ≤ (qI U113 0 37).toInt ∧ (ro = (-1 : Int32) ∧ uo = U113)))))
def v_span_J101 (ro : Int32) (uo : MS) (U101 : MS) (v101_1 : Int32) (v101_2 : Int32) (v101_3 : Int32) : Prop := ((v101_3.toInt = (-1) ∧ (∃ (r20 : Int32) (S21 : MS), v_switchSpan U101 v101_1 v101_2 r20 S21 ∧ (v_span_J113 ro uo S21 v101_1 v101_2 r20))) ∨ (¬ v101_3.toInt = (-1) ∧ (v_span_J113 ro uo U101 v101_1 v101_2 v101_3)))
def v_span_J100 (ro : Int32) (uo : MS) (U100 : MS) (t100_0 : Int32) (v100_1 : Int32) (v100_2 : Int32) : Prop := (v_span_J101 ro uo U100 v100_1 v100_2 t100_0)
def v_span_J95 (ro : Int32) (uo : MS) (U95 : MS) (v95_1 : Int32) (v95_2 : Int32) : Prop := (v_span_J100 ro uo U95 4 v95_1 v95_2)
def v_span_J38 (ro : Int32) (uo : MS) (U38 : MS) (t38_0 : Int32) (v38_1 : Int32) (v38_2 : Int32) : Prop := ((t38_0.toInt = 132 ∧ (v_span_J100 ro uo U38 6 v38_1 v38_2)) ∨ (¬ t38_0.toInt = 132 ∧ ((t38_0.toInt = 21 ∧ (v_span_J95 ro uo U38 v38_1 v38_2)) ∨ (¬ t38_0.toInt = 21 ∧ ((t38_0.toInt = 22 ∧ (v_span_J95 ro uo U38 v38_1 v38_2)) ∨ (¬ t38_0.toInt = 22 ∧ ((t38_0.toInt = 25 ∧ (v_span_J95 ro uo U38 v38_1 v38_2)) ∨ (¬ t38_0.toInt = 25 ∧ ((t38_0.toInt = 54 ∧ (v_span_J95 ro uo U38 v38_1 v38_2)) ∨ (¬ t38_0.toInt = 54 ∧ ((t38_0.toInt = 55 ∧ (v_span_J95 ro uo U38 v38_1 v38_2)) ∨ (¬ t38_0.toInt = 55 ∧ ((t38_0.toInt = 58 ∧ (v_span_J95 ro uo U38 v38_1 v38_2)) ∨ (¬ t38_0.toInt = 58 ∧ (v_span_J100 ro uo U38 0 v38_1 v38_2)))))))))))))))
def v_span (S : MS) (x1 : Int32) (ro : Int32) (uo : MS) : Prop := (d_codeOctet S x1 ∧ (∃ a4 : Int32, a4 = (f_codeOctet S x1) ∧ (d_spanOf S a4 ∧ (∃ a8 : Int32, a8 = (f_spanOf S a4) ∧ ((a8.toInt = (-2) ∧ (((qI S 0 37).toInt ≤ (x1 + (1 : Int32)).toInt ∧ (v_span_J38 ro uo S 0 x1 a4)) ∨ (¬ (qI S 0 37).toInt ≤ (x1 + (1 : Int32)).toInt ∧ (d_codeOctet S (x1 + (1 : Int32)) ∧ (v_span_J38 ro uo S (f_codeOctet S (x1 + (1 : Int32))) x1 a4))))) ∨ (¬ a8.toInt = (-2) ∧ (v_span_J101 ro uo S x1 a4 a8)))))))
set_option maxRecDepth 100000 in
theorem ru_span_J152 {ι : Type} {P : Int32 → MS → Prop} {Q : Int32 → MS → Prop} {U152 : MS} {v152_3 : Int32} (i0 : ι) (K : ∀ (i : ι) (ro : Int32) (uo : MS), v_span_J152 ro uo U152 v152_3 → P ro uo) (h : w_span_J152 Q U152 v152_3) : ∃ ro uo, P ro uo ∧ Q ro uo := by
  unfold w_span_J152 at h
  exact ⟨_, _, K i0 _ _ ⟨rfl, rfl⟩, h⟩
set_option maxRecDepth 100000 in
theorem ru_span_J113 {ι : Type} {P : Int32 → MS → Prop} {Q : Int32 → MS → Prop} {U113 : MS} {v113_1 : Int32} {v113_2 : Int32} {v113_3 : Int32} (i0 : ι) (K : ∀ (i : ι) (ro : Int32) (uo : MS), v_span_J113 ro uo U113 v113_1 v113_2 v113_3 → P ro uo) (h : w_span_J113 Q U113 v113_1 v113_2 v113_3) : ∃ ro uo, P ro uo ∧ Q ro uo := by
  unfold w_span_J113 at h
  by_cases c : v113_3.toInt ≤ 0
  · replace h := h.1 c
    replace K := fun i ro uo z => K i ro uo (Or.inl ⟨c, z⟩)
    exact ⟨_, _, K i0 _ _ ⟨rfl, rfl⟩, h⟩
  · replace h := h.2 c
    replace K := fun i ro uo z => K i ro uo (Or.inr ⟨c, z⟩)
    by_cases c : (v113_1 + v113_3).toInt ≤ (qI U113 0 37).toInt
    · replace h := h.1 c
      replace K := fun i ro uo z => K i ro uo (Or.inl ⟨c, z⟩)
      by_cases c : v113_2.toInt = 188
      · replace h := h.1 c
        replace K := fun i ro uo z => K i ro uo (Or.inl ⟨c, z⟩)
        obtain ⟨g1_, h⟩ := h
        replace K := fun i ro uo z => K i ro uo ⟨g1_, z⟩
        by_cases c : (f_codeOctet U113 (v113_1 + (1 : Int32))).toInt = 10
        · replace h := h.1 c
          replace K := fun i ro uo z => K i ro uo (Or.inl ⟨c, z⟩)
          exact ru_span_J152 i0 K h
        · replace h := h.2 c
          replace K := fun i ro uo z => K i ro uo (Or.inr ⟨c, z⟩)
          exact ⟨_, _, K i0 _ _ ⟨rfl, rfl⟩, h⟩
      · replace h := h.2 c
        replace K := fun i ro uo z => K i ro uo (Or.inr ⟨c, z⟩)
        exact ru_span_J152 i0 K h
    · replace h := h.2 c
      replace K := fun i ro uo z => K i ro uo (Or.inr ⟨c, z⟩)
      exact ⟨_, _, K i0 _ _ ⟨rfl, rfl⟩, h⟩
set_option maxRecDepth 100000 in
theorem ru_span_J101 {ι : Type} {P : Int32 → MS → Prop} {Q : Int32 → MS → Prop} {U101 : MS} {v101_1 : Int32} {v101_2 : Int32} {v101_3 : Int32} (i0 : ι) (K : ∀ (i : ι) (ro : Int32) (uo : MS), v_span_J101 ro uo U101 v101_1 v101_2 v101_3 → P ro uo) (h : w_span_J101 Q U101 v101_1 v101_2 v101_3) : ∃ ro uo, P ro uo ∧ Q ro uo := by
  unfold w_span_J101 at h
  by_cases c : v101_3.toInt = (-1)
  · replace h := h.1 c
    replace K := fun i ro uo z => K i ro uo (Or.inl ⟨c, z⟩)
    obtain ⟨Q9, h0, h⟩ := h
    obtain ⟨r20, S21, z9, g9⟩ := ru_switchSpan h0
    replace h := h r20 S21 g9
    replace K := fun i ro uo z => K i ro uo ⟨r20, S21, z9, z⟩
    exact ru_span_J113 i0 K h
  · replace h := h.2 c
    replace K := fun i ro uo z => K i ro uo (Or.inr ⟨c, z⟩)
    exact ru_span_J113 i0 K h
set_option maxRecDepth 100000 in
theorem ru_span_J100 {ι : Type} {P : Int32 → MS → Prop} {Q : Int32 → MS → Prop} {U100 : MS} {t100_0 : Int32} {v100_1 : Int32} {v100_2 : Int32} (i0 : ι) (K : ∀ (i : ι) (ro : Int32) (uo : MS), v_span_J100 ro uo U100 t100_0 v100_1 v100_2 → P ro uo) (h : w_span_J100 Q U100 t100_0 v100_1 v100_2) : ∃ ro uo, P ro uo ∧ Q ro uo := by
  unfold w_span_J100 at h
  exact ru_span_J101 i0 K h
set_option maxRecDepth 100000 in
theorem ru_span_J95 {ι : Type} {P : Int32 → MS → Prop} {Q : Int32 → MS → Prop} {U95 : MS} {v95_1 : Int32} {v95_2 : Int32} (i0 : ι) (K : ∀ (i : ι) (ro : Int32) (uo : MS), v_span_J95 ro uo U95 v95_1 v95_2 → P ro uo) (h : w_span_J95 Q U95 v95_1 v95_2) : ∃ ro uo, P ro uo ∧ Q ro uo := by
  unfold w_span_J95 at h
  exact ru_span_J100 i0 K h
set_option maxRecDepth 100000 in
theorem ru_span_J38 {ι : Type} {P : Int32 → MS → Prop} {Q : Int32 → MS → Prop} {U38 : MS} {t38_0 : Int32} {v38_1 : Int32} {v38_2 : Int32} (i0 : ι) (K : ∀ (i : ι) (ro : Int32) (uo : MS), v_span_J38 ro uo U38 t38_0 v38_1 v38_2 → P ro uo) (h : w_span_J38 Q U38 t38_0 v38_1 v38_2) : ∃ ro uo, P ro uo ∧ Q ro uo := by
  unfold w_span_J38 at h
  by_cases c : t38_0.toInt = 132
  · replace h := h.1 c
    replace K := fun i ro uo z => K i ro uo (Or.inl ⟨c, z⟩)
    exact ru_span_J100 i0 K h
  · replace h := h.2 c
    replace K := fun i ro uo z => K i ro uo (Or.inr ⟨c, z⟩)
    by_cases c : t38_0.toInt = 21
    · replace h := h.1 c
      replace K := fun i ro uo z => K i ro uo (Or.inl ⟨c, z⟩)
      exact ru_span_J95 i0 K h
    · replace h := h.2 c
      replace K := fun i ro uo z => K i ro uo (Or.inr ⟨c, z⟩)
      by_cases c : t38_0.toInt = 22
      · replace h := h.1 c
        replace K := fun i ro uo z => K i ro uo (Or.inl ⟨c, z⟩)
        exact ru_span_J95 i0 K h
      · replace h := h.2 c
        replace K := fun i ro uo z => K i ro uo (Or.inr ⟨c, z⟩)
        by_cases c : t38_0.toInt = 25
        · replace h := h.1 c
          replace K := fun i ro uo z => K i ro uo (Or.inl ⟨c, z⟩)
          exact ru_span_J95 i0 K h
        · replace h := h.2 c
          replace K := fun i ro uo z => K i ro uo (Or.inr ⟨c, z⟩)
          by_cases c : t38_0.toInt = 54
          · replace h := h.1 c
            replace K := fun i ro uo z => K i ro uo (Or.inl ⟨c, z⟩)
            exact ru_span_J95 i0 K h
          · replace h := h.2 c
            replace K := fun i ro uo z => K i ro uo (Or.inr ⟨c, z⟩)
            by_cases c : t38_0.toInt = 55
            · replace h := h.1 c
              replace K := fun i ro uo z => K i ro uo (Or.inl ⟨c, z⟩)
              exact ru_span_J95 i0 K h
            · replace h := h.2 c
              replace K := fun i ro uo z => K i ro uo (Or.inr ⟨c, z⟩)
              by_cases c : t38_0.toInt = 58
              · replace h := h.1 c
                replace K := fun i ro uo z => K i ro uo (Or.inl ⟨c, z⟩)
                exact ru_span_J95 i0 K h
              · replace h := h.2 c
                replace K := fun i ro uo z => K i ro uo (Or.inr ⟨c, z⟩)
                exact ru_span_J100 i0 K h
set_option maxRecDepth 100000 in
theorem ru_span {S : MS} {x1 : Int32} {Q : Int32 → MS → Prop} (h : w_span S x1 Q) : ∃ ro uo, v_span S x1 ro uo ∧ Q ro uo := by
  have i0 : Unit := ()
  have K : ∀ (i : Unit) (ro : Int32) (uo : MS), v_span S x1 ro uo → v_span S x1 ro uo := fun _ _ _ z => z
  unfold w_span at h
  obtain ⟨g2_, h⟩ := h
  replace K := fun i ro uo z => K i ro uo ⟨g2_, z⟩
  obtain ⟨a4, ea4⟩ : ∃ x9 : Int32, x9 = (f_codeOctet S x1) := ⟨_, rfl⟩
  replace h := h a4 ea4
  replace K := fun i ro uo z => K i ro uo ⟨a4, ea4, z⟩
  obtain ⟨g3_, h⟩ := h
  replace K := fun i ro uo z => K i ro uo ⟨g3_, z⟩
  obtain ⟨a8, ea8⟩ : ∃ x9 : Int32, x9 = (f_spanOf S a4) := ⟨_, rfl⟩
  replace h := h a8 ea8
  replace K := fun i ro uo z => K i ro uo ⟨a8, ea8, z⟩
  by_cases c : a8.toInt = (-2)
  · replace h := h.1 c
    replace K := fun i ro uo z => K i ro uo (Or.inl ⟨c, z⟩)
    by_cases c : (qI S 0 37).toInt ≤ (x1 + (1 : Int32)).toInt
    · replace h := h.1 c
      replace K := fun i ro uo z => K i ro uo (Or.inl ⟨c, z⟩)
      exact ru_span_J38 i0 K h
    · replace h := h.2 c
      replace K := fun i ro uo z => K i ro uo (Or.inr ⟨c, z⟩)
      obtain ⟨g4_, h⟩ := h
      replace K := fun i ro uo z => K i ro uo ⟨g4_, z⟩
      exact ru_span_J38 i0 K h
  · replace h := h.2 c
    replace K := fun i ro uo z => K i ro uo (Or.inr ⟨c, z⟩)
    exact ru_span_J101 i0 K h
set_option maxRecDepth 100000 in
theorem vw_span_J152 {ro : Int32} {uo : MS} {U152 : MS} {v152_3 : Int32} (h : v_span_J152 ro uo U152 v152_3) : w_span_J152 (fun r u => r = ro ∧ u = uo) U152 v152_3 := by
  unfold v_span_J152 at h
  unfold w_span_J152
  exact ⟨h.1.symm, h.2.symm⟩
set_option maxRecDepth 100000 in
theorem vz_span_J152 {ro : Int32} {uo : MS} {Q : Int32 → MS → Prop} {U152 : MS} {v152_3 : Int32} (h : v_span_J152 ro uo U152 v152_3) (w : w_span_J152 Q U152 v152_3) : Q ro uo := by
  unfold v_span_J152 at h
  unfold w_span_J152 at w
  rw [h.1, h.2]
  exact w
set_option maxRecDepth 100000 in
theorem vw_span_J113 {ro : Int32} {uo : MS} {U113 : MS} {v113_1 : Int32} {v113_2 : Int32} {v113_3 : Int32} (h : v_span_J113 ro uo U113 v113_1 v113_2 v113_3) : w_span_J113 (fun r u => r = ro ∧ u = uo) U113 v113_1 v113_2 v113_3 := by
  unfold v_span_J113 at h
  unfold w_span_J113
  rcases h with ⟨c, h⟩ | ⟨c, h⟩
  · refine ⟨fun _ => ?_, fun c2 => absurd c c2⟩
    exact ⟨h.1.symm, h.2.symm⟩
  · refine ⟨fun c2 => absurd c2 c, fun _ => ?_⟩
    rcases h with ⟨c, h⟩ | ⟨c, h⟩
    · refine ⟨fun _ => ?_, fun c2 => absurd c c2⟩
      rcases h with ⟨c, h⟩ | ⟨c, h⟩
      · refine ⟨fun _ => ?_, fun c2 => absurd c c2⟩
        obtain ⟨g9, h⟩ := h
        refine ⟨g9, ?_⟩
        rcases h with ⟨c, h⟩ | ⟨c, h⟩
        · refine ⟨fun _ => ?_, fun c2 => absurd c c2⟩
          exact vw_span_J152 h
        · refine ⟨fun c2 => absurd c2 c, fun _ => ?_⟩
          exact ⟨h.1.symm, h.2.symm⟩
      · refine ⟨fun c2 => absurd c2 c, fun _ => ?_⟩
        exact vw_span_J152 h
    · refine ⟨fun c2 => absurd c2 c, fun _ => ?_⟩
      exact ⟨h.1.symm, h.2.symm⟩
set_option maxRecDepth 100000 in
theorem vz_span_J113 {ro : Int32} {uo : MS} {Q : Int32 → MS → Prop} {U113 : MS} {v113_1 : Int32} {v113_2 : Int32} {v113_3 : Int32} (h : v_span_J113 ro uo U113 v113_1 v113_2 v113_3) (w : w_span_J113 Q U113 v113_1 v113_2 v113_3) : Q ro uo := by
  unfold v_span_J113 at h
  unfold w_span_J113 at w
  rcases h with ⟨c, h⟩ | ⟨c, h⟩
  · replace w := w.1 c
    rw [h.1, h.2]
    exact w
  · replace w := w.2 c
    rcases h with ⟨c, h⟩ | ⟨c, h⟩
    · replace w := w.1 c
      rcases h with ⟨c, h⟩ | ⟨c, h⟩
      · replace w := w.1 c
        replace h := h.2
        replace w := w.2
        rcases h with ⟨c, h⟩ | ⟨c, h⟩
        · replace w := w.1 c
          exact vz_span_J152 h w
        · replace w := w.2 c
          rw [h.1, h.2]
          exact w
      · replace w := w.2 c
        exact vz_span_J152 h w
    · replace w := w.2 c
      rw [h.1, h.2]
      exact w
set_option maxRecDepth 100000 in
theorem vw_span_J101 {ro : Int32} {uo : MS} {U101 : MS} {v101_1 : Int32} {v101_2 : Int32} {v101_3 : Int32} (h : v_span_J101 ro uo U101 v101_1 v101_2 v101_3) : w_span_J101 (fun r u => r = ro ∧ u = uo) U101 v101_1 v101_2 v101_3 := by
  unfold v_span_J101 at h
  unfold w_span_J101
  rcases h with ⟨c, h⟩ | ⟨c, h⟩
  · refine ⟨fun _ => ?_, fun c2 => absurd c c2⟩
    obtain ⟨p9, q9, z9, h⟩ := h
    refine ⟨_, vw_switchSpan z9, ?_⟩
    rintro p8 q8 ⟨d8, d9⟩
    subst d8
    subst d9
    exact vw_span_J113 h
  · refine ⟨fun c2 => absurd c2 c, fun _ => ?_⟩
    exact vw_span_J113 h
set_option maxRecDepth 100000 in
theorem vz_span_J101 {ro : Int32} {uo : MS} {Q : Int32 → MS → Prop} {U101 : MS} {v101_1 : Int32} {v101_2 : Int32} {v101_3 : Int32} (h : v_span_J101 ro uo U101 v101_1 v101_2 v101_3) (w : w_span_J101 Q U101 v101_1 v101_2 v101_3) : Q ro uo := by
  unfold v_span_J101 at h
  unfold w_span_J101 at w
  rcases h with ⟨c, h⟩ | ⟨c, h⟩
  · replace w := w.1 c
    obtain ⟨p9, q9, z9, h⟩ := h
    obtain ⟨Q9, w0, w⟩ := w
    replace w := w p9 q9 (vz_switchSpan z9 w0)
    exact vz_span_J113 h w
  · replace w := w.2 c
    exact vz_span_J113 h w
set_option maxRecDepth 100000 in
theorem vw_span_J100 {ro : Int32} {uo : MS} {U100 : MS} {t100_0 : Int32} {v100_1 : Int32} {v100_2 : Int32} (h : v_span_J100 ro uo U100 t100_0 v100_1 v100_2) : w_span_J100 (fun r u => r = ro ∧ u = uo) U100 t100_0 v100_1 v100_2 := by
  unfold v_span_J100 at h
  unfold w_span_J100
  exact vw_span_J101 h
set_option maxRecDepth 100000 in
theorem vz_span_J100 {ro : Int32} {uo : MS} {Q : Int32 → MS → Prop} {U100 : MS} {t100_0 : Int32} {v100_1 : Int32} {v100_2 : Int32} (h : v_span_J100 ro uo U100 t100_0 v100_1 v100_2) (w : w_span_J100 Q U100 t100_0 v100_1 v100_2) : Q ro uo := by
  unfold v_span_J100 at h
  unfold w_span_J100 at w
  exact vz_span_J101 h w
set_option maxRecDepth 100000 in
theorem vw_span_J95 {ro : Int32} {uo : MS} {U95 : MS} {v95_1 : Int32} {v95_2 : Int32} (h : v_span_J95 ro uo U95 v95_1 v95_2) : w_span_J95 (fun r u => r = ro ∧ u = uo) U95 v95_1 v95_2 := by
  unfold v_span_J95 at h
  unfold w_span_J95
  exact vw_span_J100 h
set_option maxRecDepth 100000 in
theorem vz_span_J95 {ro : Int32} {uo : MS} {Q : Int32 → MS → Prop} {U95 : MS} {v95_1 : Int32} {v95_2 : Int32} (h : v_span_J95 ro uo U95 v95_1 v95_2) (w : w_span_J95 Q U95 v95_1 v95_2) : Q ro uo := by
  unfold v_span_J95 at h
  unfold w_span_J95 at w
  exact vz_span_J100 h w
set_option maxRecDepth 100000 in
theorem vw_span_J38 {ro : Int32} {uo : MS} {U38 : MS} {t38_0 : Int32} {v38_1 : Int32} {v38_2 : Int32} (h : v_span_J38 ro uo U38 t38_0 v38_1 v38_2) : w_span_J38 (fun r u => r = ro ∧ u = uo) U38 t38_0 v38_1 v38_2 := by
  unfold v_span_J38 at h
  unfold w_span_J38
  rcases h with ⟨c, h⟩ | ⟨c, h⟩
  · refine ⟨fun _ => ?_, fun c2 => absurd c c2⟩
    exact vw_span_J100 h
  · refine ⟨fun c2 => absurd c2 c, fun _ => ?_⟩
    rcases h with ⟨c, h⟩ | ⟨c, h⟩
    · refine ⟨fun _ => ?_, fun c2 => absurd c c2⟩
      exact vw_span_J95 h
    · refine ⟨fun c2 => absurd c2 c, fun _ => ?_⟩
      rcases h with ⟨c, h⟩ | ⟨c, h⟩
      · refine ⟨fun _ => ?_, fun c2 => absurd c c2⟩
        exact vw_span_J95 h
      · refine ⟨fun c2 => absurd c2 c, fun _ => ?_⟩
        rcases h with ⟨c, h⟩ | ⟨c, h⟩
        · refine ⟨fun _ => ?_, fun c2 => absurd c c2⟩
          exact vw_span_J95 h
        · refine ⟨fun c2 => absurd c2 c, fun _ => ?_⟩
          rcases h with ⟨c, h⟩ | ⟨c, h⟩
          · refine ⟨fun _ => ?_, fun c2 => absurd c c2⟩
            exact vw_span_J95 h
          · refine ⟨fun c2 => absurd c2 c, fun _ => ?_⟩
            rcases h with ⟨c, h⟩ | ⟨c, h⟩
            · refine ⟨fun _ => ?_, fun c2 => absurd c c2⟩
              exact vw_span_J95 h
            · refine ⟨fun c2 => absurd c2 c, fun _ => ?_⟩
              rcases h with ⟨c, h⟩ | ⟨c, h⟩
              · refine ⟨fun _ => ?_, fun c2 => absurd c c2⟩
                exact vw_span_J95 h
              · refine ⟨fun c2 => absurd c2 c, fun _ => ?_⟩
                exact vw_span_J100 h
set_option maxRecDepth 100000 in
theorem vz_span_J38 {ro : Int32} {uo : MS} {Q : Int32 → MS → Prop} {U38 : MS} {t38_0 : Int32} {v38_1 : Int32} {v38_2 : Int32} (h : v_span_J38 ro uo U38 t38_0 v38_1 v38_2) (w : w_span_J38 Q U38 t38_0 v38_1 v38_2) : Q ro uo := by
  unfold v_span_J38 at h
  unfold w_span_J38 at w
  rcases h with ⟨c, h⟩ | ⟨c, h⟩
  · replace w := w.1 c
    exact vz_span_J100 h w
  · replace w := w.2 c
    rcases h with ⟨c, h⟩ | ⟨c, h⟩
    · replace w := w.1 c
      exact vz_span_J95 h w
    · replace w := w.2 c
      rcases h with ⟨c, h⟩ | ⟨c, h⟩
      · replace w := w.1 c
        exact vz_span_J95 h w
      · replace w := w.2 c
        rcases h with ⟨c, h⟩ | ⟨c, h⟩
        · replace w := w.1 c
          exact vz_span_J95 h w
        · replace w := w.2 c
          rcases h with ⟨c, h⟩ | ⟨c, h⟩
          · replace w := w.1 c
            exact vz_span_J95 h w
          · replace w := w.2 c
            rcases h with ⟨c, h⟩ | ⟨c, h⟩
            · replace w := w.1 c
              exact vz_span_J95 h w
            · replace w := w.2 c
              rcases h with ⟨c, h⟩ | ⟨c, h⟩
              · replace w := w.1 c
                exact vz_span_J95 h w
              · replace w := w.2 c
                exact vz_span_J100 h w
set_option maxRecDepth 100000 in
theorem vw_span {S : MS} {x1 : Int32} {ro : Int32} {uo : MS} (h : v_span S x1 ro uo) : w_span S x1 (fun r u => r = ro ∧ u = uo) := by
  unfold v_span at h
  unfold w_span
  obtain ⟨g9, h⟩ := h
  refine ⟨g9, ?_⟩
  obtain ⟨v9, e9, h⟩ := h
  intro x9 d9
  have c9 : v9 = x9 := e9.trans d9.symm
  subst c9
  obtain ⟨g9, h⟩ := h
  refine ⟨g9, ?_⟩
  obtain ⟨v9, e9, h⟩ := h
  intro x9 d9
  have c9 : v9 = x9 := e9.trans d9.symm
  subst c9
  rcases h with ⟨c, h⟩ | ⟨c, h⟩
  · refine ⟨fun _ => ?_, fun c2 => absurd c c2⟩
    rcases h with ⟨c, h⟩ | ⟨c, h⟩
    · refine ⟨fun _ => ?_, fun c2 => absurd c c2⟩
      exact vw_span_J38 h
    · refine ⟨fun c2 => absurd c2 c, fun _ => ?_⟩
      obtain ⟨g9, h⟩ := h
      refine ⟨g9, ?_⟩
      exact vw_span_J38 h
  · refine ⟨fun c2 => absurd c2 c, fun _ => ?_⟩
    exact vw_span_J101 h
set_option maxRecDepth 100000 in
theorem vz_span {S : MS} {x1 : Int32} {ro : Int32} {uo : MS} {Q : Int32 → MS → Prop} (h : v_span S x1 ro uo) (w : w_span S x1 Q) : Q ro uo := by
  unfold v_span at h
  unfold w_span at w
  replace h := h.2
  replace w := w.2
  obtain ⟨v9, e9, h⟩ := h
  replace w := w v9 e9
  replace h := h.2
  replace w := w.2
  obtain ⟨v9, e9, h⟩ := h
  replace w := w v9 e9
  rcases h with ⟨c, h⟩ | ⟨c, h⟩
  · replace w := w.1 c
    rcases h with ⟨c, h⟩ | ⟨c, h⟩
    · replace w := w.1 c
      exact vz_span_J38 h w
    · replace w := w.2 c
      replace h := h.2
      replace w := w.2
      exact vz_span_J38 h w
  · replace w := w.2 c
    exact vz_span_J101 h w
def v_take (S : MS) (x1 : Int32) (uo : MS) : Prop := (((0 : Int) ≤ x1.toInt ∧ x1.toInt < 24) ∧ (∃ S3 : MS, S3 = wI S 0 36 (qI S 14 x1.toInt.toNat) ∧ (((0 : Int) ≤ x1.toInt ∧ x1.toInt < 24) ∧ (∃ S6 : MS, S6 = wI S3 0 37 (qI S3 15 x1.toInt.toNat) ∧ (uo = S6)))))
set_option maxRecDepth 100000 in
theorem ru_take {S : MS} {x1 : Int32} {Q : MS → Prop} (h : w_take S x1 Q) : ∃ uo, v_take S x1 uo ∧ Q uo := by
  have i0 : Unit := ()
  have K : ∀ (i : Unit) (uo : MS), v_take S x1 uo → v_take S x1 uo := fun _ _ z => z
  unfold w_take at h
  obtain ⟨g1_, h⟩ := h
  replace K := fun i uo z => K i uo ⟨g1_, z⟩
  obtain ⟨S3, eS3⟩ : ∃ x9 : MS, x9 = wI S 0 36 (qI S 14 x1.toInt.toNat) := ⟨_, rfl⟩
  replace h := h S3 eS3
  replace K := fun i uo z => K i uo ⟨S3, eS3, z⟩
  obtain ⟨g2_, h⟩ := h
  replace K := fun i uo z => K i uo ⟨g2_, z⟩
  obtain ⟨S6, eS6⟩ : ∃ x9 : MS, x9 = wI S3 0 37 (qI S3 15 x1.toInt.toNat) := ⟨_, rfl⟩
  replace h := h S6 eS6
  replace K := fun i uo z => K i uo ⟨S6, eS6, z⟩
  exact ⟨_, K i0 _ rfl, h⟩
set_option maxRecDepth 100000 in
theorem vw_take {S : MS} {x1 : Int32} {uo : MS} (h : v_take S x1 uo) : w_take S x1 (fun u => u = uo) := by
  unfold v_take at h
  unfold w_take
  obtain ⟨g9, h⟩ := h
  refine ⟨g9, ?_⟩
  obtain ⟨v9, e9, h⟩ := h
  intro x9 d9
  have c9 : v9 = x9 := e9.trans d9.symm
  subst c9
  obtain ⟨g9, h⟩ := h
  refine ⟨g9, ?_⟩
  obtain ⟨v9, e9, h⟩ := h
  intro x9 d9
  have c9 : v9 = x9 := e9.trans d9.symm
  subst c9
  exact h.symm
set_option maxRecDepth 100000 in
theorem vz_take {S : MS} {x1 : Int32} {uo : MS} {Q : MS → Prop} (h : v_take S x1 uo) (w : w_take S x1 Q) : Q uo := by
  unfold v_take at h
  unfold w_take at w
  replace h := h.2
  replace w := w.2
  obtain ⟨v9, e9, h⟩ := h
  replace w := w v9 e9
  replace h := h.2
  replace w := w.2
  obtain ⟨v9, e9, h⟩ := h
  replace w := w v9 e9
  rw [h]
  exact w
def v_wholes_J59 (oo : MS ⊕ MS) (k35 : MS → Int32 → Prop) (U59 : MS) (t59_0 : Int32) (v59_2 : Int32) (v59_3 : Int32) : Prop := ((∃ (S15 : MS), v_must U59 t59_0 (15 : Int32) ((qI U59 0 36) + v59_2) (.inl S15) ∧ (((0 : Int) ≤ v59_2.toInt ∧ v59_2.toInt < 1201) ∧ (∃ S18 : MS, S18 = wI S15 18 v59_2.toInt.toNat (qI S15 0 39) ∧ (∃ S20 : MS, S20 = wI S18 0 39 ((qI S18 0 39) + (1 : Int32)) ∧ (∃ a22 : Int32, a22 = (v59_2 + v59_3) ∧ (k35 S20 a22)))))) ∨ (∃ u9 : MS, v_must U59 t59_0 (15 : Int32) ((qI U59 0 36) + v59_2) (.inr u9) ∧ (oo = .inr u9)))
def v_wholes_L35 (oo : MS ⊕ MS) : Nat → MS → Int32 → Prop
  | 0, _, _ => False
  | n35 + 1, U35, v35_2 => (((qI U35 0 37).toInt ≤ v35_2.toInt ∧ (((0 : Int) ≤ (qI U35 0 37).toInt ∧ (qI U35 0 37).toInt < 1201) ∧ (∃ S8 : MS, S8 = wI U35 18 (((qI U35 0 37).toInt).toNat) (qI U35 0 39) ∧ (oo = .inl S8)))) ∨ (¬ (qI U35 0 37).toInt ≤ v35_2.toInt ∧ (∃ (r10 : Int32) (S11 : MS), v_span U35 v35_2 r10 S11 ∧ ((r10.toInt ≤ 0 ∧ (v_wholes_J59 oo (v_wholes_L35 oo n35) S11 0 v35_2 r10)) ∨ (¬ r10.toInt ≤ 0 ∧ (v_wholes_J59 oo (v_wholes_L35 oo n35) S11 1 v35_2 r10))))))
def v_wholes_L7 (oo : MS ⊕ MS) : Nat → MS → Int32 → Prop
  | 0, _, _ => False
  | n7 + 1, U7, v7_2 => (((qI U7 0 37).toInt < v7_2.toInt ∧ (∃ S5 : MS, S5 = wI U7 0 39 0 ∧ (∃ n, v_wholes_L35 oo n S5 0))) ∨ (¬ (qI U7 0 37).toInt < v7_2.toInt ∧ (((0 : Int) ≤ v7_2.toInt ∧ v7_2.toInt < 1201) ∧ (∃ S25 : MS, S25 = wI U7 18 v7_2.toInt.toNat (-1 : Int32) ∧ (∃ a26 : Int32, a26 = (v7_2 + Int32.ofInt 1) ∧ ((v_wholes_L7 oo n7) S25 a26))))))
def v_wholes (S : MS) (x1 : Int32) (oo : MS ⊕ MS) : Prop := (∃ (S2 : MS), v_take S x1 S2 ∧ (∃ n, v_wholes_L7 oo n S2 0))
set_option maxRecDepth 100000 in
theorem ru_wholes_J59 {ι : Type} {P : MS ⊕ MS → Prop} {Q : MS → Prop} {E : MS → Prop} {k35 : MS → Int32 → Prop} {k35v : ι → MS ⊕ MS → MS → Int32 → Prop} {U59 : MS} {t59_0 : Int32} {v59_2 : Int32} {v59_3 : Int32} (i0 : ι) (hk35 : ∀ (u : MS) (z0 : Int32), k35 u z0 → (∀ (i : ι) (oo : MS ⊕ MS), k35v i oo u z0 → P oo) → ∃ oo, P oo ∧ oV Q E oo) (K : ∀ (i : ι) (oo : MS ⊕ MS), v_wholes_J59 oo (k35v i oo) U59 t59_0 v59_2 v59_3 → P oo) (h : w_wholes_J59 Q E k35 U59 t59_0 v59_2 v59_3) : ∃ oo, P oo ∧ oV Q E oo := by
  unfold w_wholes_J59 at h
  obtain ⟨Q9, E9, h0, h⟩ := h
  obtain ⟨o9, z9, g9⟩ := ru_must h0
  rcases o9 with S15 | u9
  · replace h := h.1 S15 g9
    replace K := fun i oo z => K i oo (Or.inl ⟨S15, z9, z⟩)
    obtain ⟨g1_, h⟩ := h
    replace K := fun i oo z => K i oo ⟨g1_, z⟩
    obtain ⟨S18, eS18⟩ : ∃ x9 : MS, x9 = wI S15 18 v59_2.toInt.toNat (qI S15 0 39) := ⟨_, rfl⟩
    replace h := h S18 eS18
    replace K := fun i oo z => K i oo ⟨S18, eS18, z⟩
    obtain ⟨S20, eS20⟩ : ∃ x9 : MS, x9 = wI S18 0 39 ((qI S18 0 39) + (1 : Int32)) := ⟨_, rfl⟩
    replace h := h S20 eS20
    replace K := fun i oo z => K i oo ⟨S20, eS20, z⟩
    obtain ⟨a22, ea22⟩ : ∃ x9 : Int32, x9 = (v59_2 + v59_3) := ⟨_, rfl⟩
    replace h := h a22 ea22
    replace K := fun i oo z => K i oo ⟨a22, ea22, z⟩
    exact hk35 _ _ h K
  · replace h := h.2 u9 g9
    replace K := fun i oo z => K i oo (Or.inr ⟨u9, z9, z⟩)
    exact ⟨.inr u9, K i0 _ rfl, h⟩
set_option maxRecDepth 100000 in
theorem ru_wholes_L35 {ι : Type} {P : MS ⊕ MS → Prop} {Q : MS → Prop} {E : MS → Prop} : ∀ (n : Nat) {U35 : MS} {v35_2 : Int32} (i0 : ι), (∀ (i : ι) (oo : MS ⊕ MS), (∃ n8, v_wholes_L35 oo n8 U35 v35_2) → P oo) → w_wholes_L35 Q E n U35 v35_2 → ∃ oo, P oo ∧ oV Q E oo := by
  intro n
  induction n with
  | zero => intro U35 v35_2 i0 K h; unfold w_wholes_L35 at h; exact h.elim
  | succ n ih =>
    intro U35 v35_2 i0 K h
    unfold w_wholes_L35 at h
    replace K := fun (i : ι × Nat) oo (z : v_wholes_L35 oo (i.2 + 1) U35 v35_2) => K i.1 oo ⟨i.2 + 1, z⟩
    have i00 := i0
    replace i0 : ι × Nat := (i0, 0)
    by_cases c : (qI U35 0 37).toInt ≤ v35_2.toInt
    · replace h := h.1 c
      replace K := fun i oo z => K i oo (Or.inl ⟨c, z⟩)
      obtain ⟨g2_, h⟩ := h
      replace K := fun i oo z => K i oo ⟨g2_, z⟩
      obtain ⟨S8, eS8⟩ : ∃ x9 : MS, x9 = wI U35 18 (((qI U35 0 37).toInt).toNat) (qI U35 0 39) := ⟨_, rfl⟩
      replace h := h S8 eS8
      replace K := fun i oo z => K i oo ⟨S8, eS8, z⟩
      exact ⟨.inl _, K i0 _ rfl, h⟩
    · replace h := h.2 c
      replace K := fun i oo z => K i oo (Or.inr ⟨c, z⟩)
      obtain ⟨Q9, h0, h⟩ := h
      obtain ⟨r10, S11, z9, g9⟩ := ru_span h0
      replace h := h r10 S11 g9
      replace K := fun i oo z => K i oo ⟨r10, S11, z9, z⟩
      by_cases c : r10.toInt ≤ 0
      · replace h := h.1 c
        replace K := fun i oo z => K i oo (Or.inl ⟨c, z⟩)
        exact ru_wholes_J59 i0 (fun _ _ h K => ih i00 (fun i oo ⟨n8, z⟩ => K (i, n8) oo z) h) K h
      · replace h := h.2 c
        replace K := fun i oo z => K i oo (Or.inr ⟨c, z⟩)
        exact ru_wholes_J59 i0 (fun _ _ h K => ih i00 (fun i oo ⟨n8, z⟩ => K (i, n8) oo z) h) K h
set_option maxRecDepth 100000 in
theorem ru_wholes_L7 {ι : Type} {P : MS ⊕ MS → Prop} {Q : MS → Prop} {E : MS → Prop} : ∀ (n : Nat) {U7 : MS} {v7_2 : Int32} (i0 : ι), (∀ (i : ι) (oo : MS ⊕ MS), (∃ n8, v_wholes_L7 oo n8 U7 v7_2) → P oo) → w_wholes_L7 Q E n U7 v7_2 → ∃ oo, P oo ∧ oV Q E oo := by
  intro n
  induction n with
  | zero => intro U7 v7_2 i0 K h; unfold w_wholes_L7 at h; exact h.elim
  | succ n ih =>
    intro U7 v7_2 i0 K h
    unfold w_wholes_L7 at h
    replace K := fun (i : ι × Nat) oo (z : v_wholes_L7 oo (i.2 + 1) U7 v7_2) => K i.1 oo ⟨i.2 + 1, z⟩
    have i00 := i0
    replace i0 : ι × Nat := (i0, 0)
    by_cases c : (qI U7 0 37).toInt < v7_2.toInt
    · replace h := h.1 c
      replace K := fun i oo z => K i oo (Or.inl ⟨c, z⟩)
      obtain ⟨S5, eS5⟩ : ∃ x9 : MS, x9 = wI U7 0 39 0 := ⟨_, rfl⟩
      replace h := h S5 eS5
      replace K := fun i oo z => K i oo ⟨S5, eS5, z⟩
      obtain ⟨n9, h⟩ := h
      exact ru_wholes_L35 n9 i0 K h
    · replace h := h.2 c
      replace K := fun i oo z => K i oo (Or.inr ⟨c, z⟩)
      obtain ⟨g3_, h⟩ := h
      replace K := fun i oo z => K i oo ⟨g3_, z⟩
      obtain ⟨S25, eS25⟩ : ∃ x9 : MS, x9 = wI U7 18 v7_2.toInt.toNat (-1 : Int32) := ⟨_, rfl⟩
      replace h := h S25 eS25
      replace K := fun i oo z => K i oo ⟨S25, eS25, z⟩
      obtain ⟨a26, ea26⟩ : ∃ x9 : Int32, x9 = (v7_2 + Int32.ofInt 1) := ⟨_, rfl⟩
      replace h := h a26 ea26
      replace K := fun i oo z => K i oo ⟨a26, ea26, z⟩
      exact ih i00 (fun i oo ⟨n8, z⟩ => K (i, n8) oo z) h
set_option maxRecDepth 100000 in
theorem ru_wholes {S : MS} {x1 : Int32} {Q : MS → Prop} {E : MS → Prop} (h : w_wholes S x1 Q E) : ∃ oo, v_wholes S x1 oo ∧ oV Q E oo := by
  have i0 : Unit := ()
  have K : ∀ (i : Unit) (oo : MS ⊕ MS), v_wholes S x1 oo → v_wholes S x1 oo := fun _ _ z => z
  unfold w_wholes at h
  obtain ⟨Q9, h0, h⟩ := h
  obtain ⟨S2, z9, g9⟩ := ru_take h0
  replace h := h S2 g9
  replace K := fun i oo z => K i oo ⟨S2, z9, z⟩
  obtain ⟨n9, h⟩ := h
  exact ru_wholes_L7 n9 i0 K h
set_option maxRecDepth 100000 in
theorem vw_wholes_J59 {oo : MS ⊕ MS} {k35 k35v : MS → Int32 → Prop} {U59 : MS} {t59_0 : Int32} {v59_2 : Int32} {v59_3 : Int32} (hk35 : ∀ (u : MS) (z0 : Int32), k35v u z0 → k35 u z0) (h : v_wholes_J59 oo k35v U59 t59_0 v59_2 v59_3) : w_wholes_J59 (fun u => oo = .inl u) (fun u => oo = .inr u) k35 U59 t59_0 v59_2 v59_3 := by
  unfold v_wholes_J59 at h
  unfold w_wholes_J59
  rcases h with ⟨q9, z9, h⟩ | ⟨q9, z9, h⟩
  · refine ⟨_, _, vw_must z9, ?_, ?_⟩
    · intro q8 d9
      injection d9 with d9
      subst d9
      obtain ⟨g9, h⟩ := h
      refine ⟨g9, ?_⟩
      obtain ⟨v9, e9, h⟩ := h
      intro x9 d9
      have c9 : v9 = x9 := e9.trans d9.symm
      subst c9
      obtain ⟨v9, e9, h⟩ := h
      intro x9 d9
      have c9 : v9 = x9 := e9.trans d9.symm
      subst c9
      obtain ⟨v9, e9, h⟩ := h
      intro x9 d9
      have c9 : v9 = x9 := e9.trans d9.symm
      subst c9
      exact hk35 _ _ h
    · intro q8 d9
      exact nomatch d9
  · refine ⟨_, _, vw_must z9, ?_, ?_⟩
    · intro q8 d9
      exact nomatch d9
    · intro q8 d9
      injection d9 with d9
      subst d9
      exact h
set_option maxRecDepth 100000 in
theorem vz_wholes_J59 {oo : MS ⊕ MS} {Q : MS → Prop} {E : MS → Prop} {k35 k35v : MS → Int32 → Prop} {U59 : MS} {t59_0 : Int32} {v59_2 : Int32} {v59_3 : Int32} (hk35 : ∀ (u : MS) (z0 : Int32), k35v u z0 → k35 u z0 → oV Q E oo) (h : v_wholes_J59 oo k35v U59 t59_0 v59_2 v59_3) (w : w_wholes_J59 Q E k35 U59 t59_0 v59_2 v59_3) : oV Q E oo := by
  unfold v_wholes_J59 at h
  unfold w_wholes_J59 at w
  obtain ⟨Q9, E9, w0, w⟩ := w
  rcases h with ⟨q9, z9, h⟩ | ⟨q9, z9, h⟩
  · replace w := w.1 q9 (vz_must z9 w0)
    replace h := h.2
    replace w := w.2
    obtain ⟨v9, e9, h⟩ := h
    replace w := w v9 e9
    obtain ⟨v9, e9, h⟩ := h
    replace w := w v9 e9
    obtain ⟨v9, e9, h⟩ := h
    replace w := w v9 e9
    exact hk35 _ _ h w
  · replace w := w.2 q9 (vz_must z9 w0)
    rw [h]
    exact w
set_option maxRecDepth 100000 in
theorem vw_wholes_L35 {oo : MS ⊕ MS} : ∀ (n : Nat) {U35 : MS} {v35_2 : Int32}, v_wholes_L35 oo n U35 v35_2 → w_wholes_L35 (fun u => oo = .inl u) (fun u => oo = .inr u) n U35 v35_2 := by
  intro n
  induction n with
  | zero => intro U35 v35_2 h; unfold v_wholes_L35 at h; exact h.elim
  | succ n ih =>
    intro U35 v35_2 h
    unfold v_wholes_L35 at h
    unfold w_wholes_L35
    rcases h with ⟨c, h⟩ | ⟨c, h⟩
    · refine ⟨fun _ => ?_, fun c2 => absurd c c2⟩
      obtain ⟨g9, h⟩ := h
      refine ⟨g9, ?_⟩
      obtain ⟨v9, e9, h⟩ := h
      intro x9 d9
      have c9 : v9 = x9 := e9.trans d9.symm
      subst c9
      exact h
    · refine ⟨fun c2 => absurd c2 c, fun _ => ?_⟩
      obtain ⟨p9, q9, z9, h⟩ := h
      refine ⟨_, vw_span z9, ?_⟩
      rintro p8 q8 ⟨d8, d9⟩
      subst d8
      subst d9
      rcases h with ⟨c, h⟩ | ⟨c, h⟩
      · refine ⟨fun _ => ?_, fun c2 => absurd c c2⟩
        exact vw_wholes_J59 (fun _ _ h => ih h) h
      · refine ⟨fun c2 => absurd c2 c, fun _ => ?_⟩
        exact vw_wholes_J59 (fun _ _ h => ih h) h
set_option maxRecDepth 100000 in
theorem vz_wholes_L35 {oo : MS ⊕ MS} {Q : MS → Prop} {E : MS → Prop} : ∀ (n m : Nat) {U35 : MS} {v35_2 : Int32}, v_wholes_L35 oo n U35 v35_2 → w_wholes_L35 Q E m U35 v35_2 → oV Q E oo := by
  intro n
  induction n with
  | zero => intro m U35 v35_2 h; unfold v_wholes_L35 at h; exact h.elim
  | succ n ih =>
    intro m U35 v35_2 h w
    cases m with
    | zero => unfold w_wholes_L35 at w; exact w.elim
    | succ m =>
      unfold v_wholes_L35 at h
      unfold w_wholes_L35 at w
      rcases h with ⟨c, h⟩ | ⟨c, h⟩
      · replace w := w.1 c
        replace h := h.2
        replace w := w.2
        obtain ⟨v9, e9, h⟩ := h
        replace w := w v9 e9
        rw [h]
        exact w
      · replace w := w.2 c
        obtain ⟨p9, q9, z9, h⟩ := h
        obtain ⟨Q9, w0, w⟩ := w
        replace w := w p9 q9 (vz_span z9 w0)
        rcases h with ⟨c, h⟩ | ⟨c, h⟩
        · replace w := w.1 c
          exact vz_wholes_J59 (fun _ _ h w => ih m h w) h w
        · replace w := w.2 c
          exact vz_wholes_J59 (fun _ _ h w => ih m h w) h w
set_option maxRecDepth 100000 in
theorem vw_wholes_L7 {oo : MS ⊕ MS} : ∀ (n : Nat) {U7 : MS} {v7_2 : Int32}, v_wholes_L7 oo n U7 v7_2 → w_wholes_L7 (fun u => oo = .inl u) (fun u => oo = .inr u) n U7 v7_2 := by
  intro n
  induction n with
  | zero => intro U7 v7_2 h; unfold v_wholes_L7 at h; exact h.elim
  | succ n ih =>
    intro U7 v7_2 h
    unfold v_wholes_L7 at h
    unfold w_wholes_L7
    rcases h with ⟨c, h⟩ | ⟨c, h⟩
    · refine ⟨fun _ => ?_, fun c2 => absurd c c2⟩
      obtain ⟨v9, e9, h⟩ := h
      intro x9 d9
      have c9 : v9 = x9 := e9.trans d9.symm
      subst c9
      obtain ⟨n9, h⟩ := h
      exact ⟨n9, vw_wholes_L35 n9 h⟩
    · refine ⟨fun c2 => absurd c2 c, fun _ => ?_⟩
      obtain ⟨g9, h⟩ := h
      refine ⟨g9, ?_⟩
      obtain ⟨v9, e9, h⟩ := h
      intro x9 d9
      have c9 : v9 = x9 := e9.trans d9.symm
      subst c9
      obtain ⟨v9, e9, h⟩ := h
      intro x9 d9
      have c9 : v9 = x9 := e9.trans d9.symm
      subst c9
      exact ih h
set_option maxRecDepth 100000 in
theorem vz_wholes_L7 {oo : MS ⊕ MS} {Q : MS → Prop} {E : MS → Prop} : ∀ (n m : Nat) {U7 : MS} {v7_2 : Int32}, v_wholes_L7 oo n U7 v7_2 → w_wholes_L7 Q E m U7 v7_2 → oV Q E oo := by
  intro n
  induction n with
  | zero => intro m U7 v7_2 h; unfold v_wholes_L7 at h; exact h.elim
  | succ n ih =>
    intro m U7 v7_2 h w
    cases m with
    | zero => unfold w_wholes_L7 at w; exact w.elim
    | succ m =>
      unfold v_wholes_L7 at h
      unfold w_wholes_L7 at w
      rcases h with ⟨c, h⟩ | ⟨c, h⟩
      · replace w := w.1 c
        obtain ⟨v9, e9, h⟩ := h
        replace w := w v9 e9
        obtain ⟨n9, h⟩ := h
        obtain ⟨n8, w⟩ := w
        exact vz_wholes_L35 n9 n8 h w
      · replace w := w.2 c
        replace h := h.2
        replace w := w.2
        obtain ⟨v9, e9, h⟩ := h
        replace w := w v9 e9
        obtain ⟨v9, e9, h⟩ := h
        replace w := w v9 e9
        exact ih m h w
set_option maxRecDepth 100000 in
theorem vw_wholes {S : MS} {x1 : Int32} {oo : MS ⊕ MS} (h : v_wholes S x1 oo) : w_wholes S x1 (fun u => oo = .inl u) (fun u => oo = .inr u) := by
  unfold v_wholes at h
  unfold w_wholes
  obtain ⟨q9, z9, h⟩ := h
  refine ⟨_, vw_take z9, ?_⟩
  intro q8 d9
  subst d9
  obtain ⟨n9, h⟩ := h
  exact ⟨n9, vw_wholes_L7 n9 h⟩
set_option maxRecDepth 100000 in
theorem vz_wholes {S : MS} {x1 : Int32} {oo : MS ⊕ MS} {Q : MS → Prop} {E : MS → Prop} (h : v_wholes S x1 oo) (w : w_wholes S x1 Q E) : oV Q E oo := by
  unfold v_wholes at h
  unfold w_wholes at w
  obtain ⟨q9, z9, h⟩ := h
  obtain ⟨Q9, w0, w⟩ := w
  replace w := w q9 (vz_take z9 w0)
  obtain ⟨n9, h⟩ := h
  obtain ⟨n8, w⟩ := w
  exact vz_wholes_L7 n9 n8 h w
def v_pointing_J81 (oo : MS ⊕ MS) (k59 : MS → Int32 → Int32 → Prop) (U81 : MS) (v81_1 : Int32) (v81_3 : Int32) : Prop := (∃ a39 : Int32, a39 = (v81_3 + Int32.ofInt 1) ∧ (k59 U81 v81_1 a39))
def v_pointing_L89 (oo : MS ⊕ MS) : Nat → MS → Int32 → Int32 → Prop
  | 0, _, _, _ => False
  | n89 + 1, U89, v89_1, v89_3 => (((0 : Int) ≤ v89_1.toInt ∧ v89_1.toInt < 24) ∧ (((qI U89 17 v89_1.toInt.toNat).toInt ≤ v89_3.toInt ∧ (oo = .inl U89)) ∨ (¬ (qI U89 17 v89_1.toInt.toNat).toInt ≤ v89_3.toInt ∧ (((0 : Int) ≤ v89_1.toInt ∧ v89_1.toInt < 24) ∧ ((∃ (S34 : MS), v_caught U89 ((qI U89 16 v89_1.toInt.toNat) + ((8 : Int32) * v89_3)) (.inl S34) ∧ (∃ a36 : Int32, a36 = (v89_3 + Int32.ofInt 1) ∧ ((v_pointing_L89 oo n89) S34 v89_1 a36))) ∨ (∃ u9 : MS, v_caught U89 ((qI U89 16 v89_1.toInt.toNat) + ((8 : Int32) * v89_3)) (.inr u9) ∧ (oo = .inr u9)))))))
def v_pointing_L59 (oo : MS ⊕ MS) : Nat → MS → Int32 → Int32 → Prop
  | 0, _, _, _ => False
  | n59 + 1, U59, v59_1, v59_3 => (((qI U59 0 37).toInt ≤ v59_3.toInt ∧ (∃ n, v_pointing_L89 oo n U59 v59_1 0)) ∨ (¬ (qI U59 0 37).toInt ≤ v59_3.toInt ∧ (((0 : Int) ≤ v59_3.toInt ∧ v59_3.toInt < 1201) ∧ (((qI U59 18 v59_3.toInt.toNat).toInt < 0 ∧ (v_pointing_J81 oo (v_pointing_L59 oo n59) U59 v59_1 v59_3)) ∨ (¬ (qI U59 18 v59_3.toInt.toNat).toInt < 0 ∧ ((∃ (S42 : MS), v_instruction U59 v59_3 (.inl S42) ∧ (v_pointing_J81 oo (v_pointing_L59 oo n59) S42 v59_1 v59_3)) ∨ (∃ u9 : MS, v_instruction U59 v59_3 (.inr u9) ∧ (oo = .inr u9))))))))
def v_pointing (S : MS) (x1 : Int32) (p2 : Nat) (oo : MS ⊕ MS) : Prop := ((∃ (S2 : MS), v_wholes S x1 (.inl S2) ∧ (((0 : Int) ≤ x1.toInt ∧ x1.toInt < 24) ∧ (∃ S6 : MS, S6 = wI S2 0 46 (qI S2 13 x1.toInt.toNat) ∧ ((qR S6 p2 14 = some (qO S6 p2 14)) ∧ (((0 : Int) ≤ x1.toInt ∧ x1.toInt < (qN S6 (qO S6 p2 14) : Int)) ∧ (∃ S10 : MS, S10 = wI S6 (qO S6 p2 14) x1.toInt.toNat (qI S6 0 41) ∧ ((qR S10 p2 15 = some (qO S10 p2 15)) ∧ (((0 : Int) ≤ x1.toInt ∧ x1.toInt < (qN S10 (qO S10 p2 15) : Int)) ∧ (∃ S14 : MS, S14 = wI S10 (qO S10 p2 15) x1.toInt.toNat (qI S10 0 39) ∧ ((qR S14 p2 16 = some (qO S14 p2 16)) ∧ (((0 : Int) ≤ x1.toInt ∧ x1.toInt < (qN S14 (qO S14 p2 16) : Int)) ∧ (∃ S18 : MS, S18 = wI S14 (qO S14 p2 16) x1.toInt.toNat (qI S14 0 45) ∧ ((qR S18 p2 17 = some (qO S18 p2 17)) ∧ (((0 : Int) ≤ x1.toInt ∧ x1.toInt < 24) ∧ (((0 : Int) ≤ x1.toInt ∧ x1.toInt < (qN S18 (qO S18 p2 17) : Int)) ∧ (∃ S24 : MS, S24 = wI S18 (qO S18 p2 17) x1.toInt.toNat (qI S18 17 x1.toInt.toNat) ∧ (∃ n, v_pointing_L59 oo n S24 x1 0))))))))))))))))) ∨ (∃ u9 : MS, v_wholes S x1 (.inr u9) ∧ (oo = .inr u9)))
set_option maxRecDepth 100000 in
theorem ru_pointing_J81 {ι : Type} {P : MS ⊕ MS → Prop} {Q : MS → Prop} {E : MS → Prop} {k59 : MS → Int32 → Int32 → Prop} {k59v : ι → MS ⊕ MS → MS → Int32 → Int32 → Prop} {U81 : MS} {v81_1 : Int32} {v81_3 : Int32} (i0 : ι) (hk59 : ∀ (u : MS) (z0 : Int32) (z1 : Int32), k59 u z0 z1 → (∀ (i : ι) (oo : MS ⊕ MS), k59v i oo u z0 z1 → P oo) → ∃ oo, P oo ∧ oV Q E oo) (K : ∀ (i : ι) (oo : MS ⊕ MS), v_pointing_J81 oo (k59v i oo) U81 v81_1 v81_3 → P oo) (h : w_pointing_J81 Q E k59 U81 v81_1 v81_3) : ∃ oo, P oo ∧ oV Q E oo := by
  unfold w_pointing_J81 at h
  obtain ⟨a39, ea39⟩ : ∃ x9 : Int32, x9 = (v81_3 + Int32.ofInt 1) := ⟨_, rfl⟩
  replace h := h a39 ea39
  replace K := fun i oo z => K i oo ⟨a39, ea39, z⟩
  exact hk59 _ _ _ h K
set_option maxRecDepth 100000 in
theorem ru_pointing_L89 {ι : Type} {P : MS ⊕ MS → Prop} {Q : MS → Prop} {E : MS → Prop} : ∀ (n : Nat) {U89 : MS} {v89_1 : Int32} {v89_3 : Int32} (i0 : ι), (∀ (i : ι) (oo : MS ⊕ MS), (∃ n8, v_pointing_L89 oo n8 U89 v89_1 v89_3) → P oo) → w_pointing_L89 Q E n U89 v89_1 v89_3 → ∃ oo, P oo ∧ oV Q E oo := by
  intro n
  induction n with
  | zero => intro U89 v89_1 v89_3 i0 K h; unfold w_pointing_L89 at h; exact h.elim
  | succ n ih =>
    intro U89 v89_1 v89_3 i0 K h
    unfold w_pointing_L89 at h
    replace K := fun (i : ι × Nat) oo (z : v_pointing_L89 oo (i.2 + 1) U89 v89_1 v89_3) => K i.1 oo ⟨i.2 + 1, z⟩
    have i00 := i0
    replace i0 : ι × Nat := (i0, 0)
    obtain ⟨g1_, h⟩ := h
    replace K := fun i oo z => K i oo ⟨g1_, z⟩
    by_cases c : (qI U89 17 v89_1.toInt.toNat).toInt ≤ v89_3.toInt
    · replace h := h.1 c
      replace K := fun i oo z => K i oo (Or.inl ⟨c, z⟩)
      exact ⟨.inl _, K i0 _ rfl, h⟩
    · replace h := h.2 c
      replace K := fun i oo z => K i oo (Or.inr ⟨c, z⟩)
      obtain ⟨g2_, h⟩ := h
      replace K := fun i oo z => K i oo ⟨g2_, z⟩
      obtain ⟨Q9, E9, h0, h⟩ := h
      obtain ⟨o9, z9, g9⟩ := ru_caught h0
      rcases o9 with S34 | u9
      · replace h := h.1 S34 g9
        replace K := fun i oo z => K i oo (Or.inl ⟨S34, z9, z⟩)
        obtain ⟨a36, ea36⟩ : ∃ x9 : Int32, x9 = (v89_3 + Int32.ofInt 1) := ⟨_, rfl⟩
        replace h := h a36 ea36
        replace K := fun i oo z => K i oo ⟨a36, ea36, z⟩
        exact ih i00 (fun i oo ⟨n8, z⟩ => K (i, n8) oo z) h
      · replace h := h.2 u9 g9
        replace K := fun i oo z => K i oo (Or.inr ⟨u9, z9, z⟩)
        exact ⟨.inr u9, K i0 _ rfl, h⟩
set_option maxRecDepth 100000 in
theorem ru_pointing_L59 {ι : Type} {P : MS ⊕ MS → Prop} {Q : MS → Prop} {E : MS → Prop} : ∀ (n : Nat) {U59 : MS} {v59_1 : Int32} {v59_3 : Int32} (i0 : ι), (∀ (i : ι) (oo : MS ⊕ MS), (∃ n8, v_pointing_L59 oo n8 U59 v59_1 v59_3) → P oo) → w_pointing_L59 Q E n U59 v59_1 v59_3 → ∃ oo, P oo ∧ oV Q E oo := by
  intro n
  induction n with
  | zero => intro U59 v59_1 v59_3 i0 K h; unfold w_pointing_L59 at h; exact h.elim
  | succ n ih =>
    intro U59 v59_1 v59_3 i0 K h
    unfold w_pointing_L59 at h
    replace K := fun (i : ι × Nat) oo (z : v_pointing_L59 oo (i.2 + 1) U59 v59_1 v59_3) => K i.1 oo ⟨i.2 + 1, z⟩
    have i00 := i0
    replace i0 : ι × Nat := (i0, 0)
    by_cases c : (qI U59 0 37).toInt ≤ v59_3.toInt
    · replace h := h.1 c
      replace K := fun i oo z => K i oo (Or.inl ⟨c, z⟩)
      obtain ⟨n9, h⟩ := h
      exact ru_pointing_L89 n9 i0 K h
    · replace h := h.2 c
      replace K := fun i oo z => K i oo (Or.inr ⟨c, z⟩)
      obtain ⟨g3_, h⟩ := h
      replace K := fun i oo z => K i oo ⟨g3_, z⟩
      by_cases c : (qI U59 18 v59_3.toInt.toNat).toInt < 0
      · replace h := h.1 c
        replace K := fun i oo z => K i oo (Or.inl ⟨c, z⟩)
        exact ru_pointing_J81 i0 (fun _ _ _ h K => ih i00 (fun i oo ⟨n8, z⟩ => K (i, n8) oo z) h) K h
      · replace h := h.2 c
        replace K := fun i oo z => K i oo (Or.inr ⟨c, z⟩)
        obtain ⟨Q9, E9, h0, h⟩ := h
        obtain ⟨o9, z9, g9⟩ := ru_instruction h0
        rcases o9 with S42 | u9
        · replace h := h.1 S42 g9
          replace K := fun i oo z => K i oo (Or.inl ⟨S42, z9, z⟩)
          exact ru_pointing_J81 i0 (fun _ _ _ h K => ih i00 (fun i oo ⟨n8, z⟩ => K (i, n8) oo z) h) K h
        · replace h := h.2 u9 g9
          replace K := fun i oo z => K i oo (Or.inr ⟨u9, z9, z⟩)
          exact ⟨.inr u9, K i0 _ rfl, h⟩
set_option maxRecDepth 100000 in
theorem ru_pointing {S : MS} {x1 : Int32} {p2 : Nat} {Q : MS → Prop} {E : MS → Prop} (h : w_pointing S x1 p2 Q E) : ∃ oo, v_pointing S x1 p2 oo ∧ oV Q E oo := by
  have i0 : Unit := ()
  have K : ∀ (i : Unit) (oo : MS ⊕ MS), v_pointing S x1 p2 oo → v_pointing S x1 p2 oo := fun _ _ z => z
  unfold w_pointing at h
  obtain ⟨Q9, E9, h0, h⟩ := h
  obtain ⟨o9, z9, g9⟩ := ru_wholes h0
  rcases o9 with S2 | u9
  · replace h := h.1 S2 g9
    replace K := fun i oo z => K i oo (Or.inl ⟨S2, z9, z⟩)
    obtain ⟨g4_, h⟩ := h
    replace K := fun i oo z => K i oo ⟨g4_, z⟩
    obtain ⟨S6, eS6⟩ : ∃ x9 : MS, x9 = wI S2 0 46 (qI S2 13 x1.toInt.toNat) := ⟨_, rfl⟩
    replace h := h S6 eS6
    replace K := fun i oo z => K i oo ⟨S6, eS6, z⟩
    obtain ⟨g5_, h⟩ := h
    replace K := fun i oo z => K i oo ⟨g5_, z⟩
    obtain ⟨g6_, h⟩ := h
    replace K := fun i oo z => K i oo ⟨g6_, z⟩
    obtain ⟨S10, eS10⟩ : ∃ x9 : MS, x9 = wI S6 (qO S6 p2 14) x1.toInt.toNat (qI S6 0 41) := ⟨_, rfl⟩
    replace h := h S10 eS10
    replace K := fun i oo z => K i oo ⟨S10, eS10, z⟩
    obtain ⟨g7_, h⟩ := h
    replace K := fun i oo z => K i oo ⟨g7_, z⟩
    obtain ⟨g8_, h⟩ := h
    replace K := fun i oo z => K i oo ⟨g8_, z⟩
    obtain ⟨S14, eS14⟩ : ∃ x9 : MS, x9 = wI S10 (qO S10 p2 15) x1.toInt.toNat (qI S10 0 39) := ⟨_, rfl⟩
    replace h := h S14 eS14
    replace K := fun i oo z => K i oo ⟨S14, eS14, z⟩
    obtain ⟨g9_, h⟩ := h
    replace K := fun i oo z => K i oo ⟨g9_, z⟩
    obtain ⟨g10_, h⟩ := h
    replace K := fun i oo z => K i oo ⟨g10_, z⟩
    obtain ⟨S18, eS18⟩ : ∃ x9 : MS, x9 = wI S14 (qO S14 p2 16) x1.toInt.toNat (qI S14 0 45) := ⟨_, rfl⟩
    replace h := h S18 eS18
    replace K := fun i oo z => K i oo ⟨S18, eS18, z⟩
    obtain ⟨g11_, h⟩ := h
    replace K := fun i oo z => K i oo ⟨g11_, z⟩
    obtain ⟨g12_, h⟩ := h
    replace K := fun i oo z => K i oo ⟨g12_, z⟩
    obtain ⟨g13_, h⟩ := h
    replace K := fun i oo z => K i oo ⟨g13_, z⟩
    obtain ⟨S24, eS24⟩ : ∃ x9 : MS, x9 = wI S18 (qO S18 p2 17) x1.toInt.toNat (qI S18 17 x1.toInt.toNat) := ⟨_, rfl⟩
    replace h := h S24 eS24
    replace K := fun i oo z => K i oo ⟨S24, eS24, z⟩
    obtain ⟨n9, h⟩ := h
    exact ru_pointing_L59 n9 i0 K h
  · replace h := h.2 u9 g9
    replace K := fun i oo z => K i oo (Or.inr ⟨u9, z9, z⟩)
    exact ⟨.inr u9, K i0 _ rfl, h⟩
set_option maxRecDepth 100000 in
theorem vw_pointing_J81 {oo : MS ⊕ MS} {k59 k59v : MS → Int32 → Int32 → Prop} {U81 : MS} {v81_1 : Int32} {v81_3 : Int32} (hk59 : ∀ (u : MS) (z0 : Int32) (z1 : Int32), k59v u z0 z1 → k59 u z0 z1) (h : v_pointing_J81 oo k59v U81 v81_1 v81_3) : w_pointing_J81 (fun u => oo = .inl u) (fun u => oo = .inr u) k59 U81 v81_1 v81_3 := by
  unfold v_pointing_J81 at h
  unfold w_pointing_J81
  obtain ⟨v9, e9, h⟩ := h
  intro x9 d9
  have c9 : v9 = x9 := e9.trans d9.symm
  subst c9
  exact hk59 _ _ _ h
set_option maxRecDepth 100000 in
theorem vz_pointing_J81 {oo : MS ⊕ MS} {Q : MS → Prop} {E : MS → Prop} {k59 k59v : MS → Int32 → Int32 → Prop} {U81 : MS} {v81_1 : Int32} {v81_3 : Int32} (hk59 : ∀ (u : MS) (z0 : Int32) (z1 : Int32), k59v u z0 z1 → k59 u z0 z1 → oV Q E oo) (h : v_pointing_J81 oo k59v U81 v81_1 v81_3) (w : w_pointing_J81 Q E k59 U81 v81_1 v81_3) : oV Q E oo := by
  unfold v_pointing_J81 at h
  unfold w_pointing_J81 at w
  obtain ⟨v9, e9, h⟩ := h
  replace w := w v9 e9
  exact hk59 _ _ _ h w
set_option maxRecDepth 100000 in
theorem vw_pointing_L89 {oo : MS ⊕ MS} : ∀ (n : Nat) {U89 : MS} {v89_1 : Int32} {v89_3 : Int32}, v_pointing_L89 oo n U89 v89_1 v89_3 → w_pointing_L89 (fun u => oo = .inl u) (fun u => oo = .inr u) n U89 v89_1 v89_3 := by
  intro n
  induction n with
  | zero => intro U89 v89_1 v89_3 h; unfold v_pointing_L89 at h; exact h.elim
  | succ n ih =>
    intro U89 v89_1 v89_3 h
    unfold v_pointing_L89 at h
    unfold w_pointing_L89
    obtain ⟨g9, h⟩ := h
    refine ⟨g9, ?_⟩
    rcases h with ⟨c, h⟩ | ⟨c, h⟩
    · refine ⟨fun _ => ?_, fun c2 => absurd c c2⟩
      exact h
    · refine ⟨fun c2 => absurd c2 c, fun _ => ?_⟩
      obtain ⟨g9, h⟩ := h
      refine ⟨g9, ?_⟩
      rcases h with ⟨q9, z9, h⟩ | ⟨q9, z9, h⟩
      · refine ⟨_, _, vw_caught z9, ?_, ?_⟩
        · intro q8 d9
          injection d9 with d9
          subst d9
          obtain ⟨v9, e9, h⟩ := h
          intro x9 d9
          have c9 : v9 = x9 := e9.trans d9.symm
          subst c9
          exact ih h
        · intro q8 d9
          exact nomatch d9
      · refine ⟨_, _, vw_caught z9, ?_, ?_⟩
        · intro q8 d9
          exact nomatch d9
        · intro q8 d9
          injection d9 with d9
          subst d9
          exact h
set_option maxRecDepth 100000 in
theorem vz_pointing_L89 {oo : MS ⊕ MS} {Q : MS → Prop} {E : MS → Prop} : ∀ (n m : Nat) {U89 : MS} {v89_1 : Int32} {v89_3 : Int32}, v_pointing_L89 oo n U89 v89_1 v89_3 → w_pointing_L89 Q E m U89 v89_1 v89_3 → oV Q E oo := by
  intro n
  induction n with
  | zero => intro m U89 v89_1 v89_3 h; unfold v_pointing_L89 at h; exact h.elim
  | succ n ih =>
    intro m U89 v89_1 v89_3 h w
    cases m with
    | zero => unfold w_pointing_L89 at w; exact w.elim
    | succ m =>
      unfold v_pointing_L89 at h
      unfold w_pointing_L89 at w
      replace h := h.2
      replace w := w.2
      rcases h with ⟨c, h⟩ | ⟨c, h⟩
      · replace w := w.1 c
        rw [h]
        exact w
      · replace w := w.2 c
        replace h := h.2
        replace w := w.2
        obtain ⟨Q9, E9, w0, w⟩ := w
        rcases h with ⟨q9, z9, h⟩ | ⟨q9, z9, h⟩
        · replace w := w.1 q9 (vz_caught z9 w0)
          obtain ⟨v9, e9, h⟩ := h
          replace w := w v9 e9
          exact ih m h w
        · replace w := w.2 q9 (vz_caught z9 w0)
          rw [h]
          exact w
set_option maxRecDepth 100000 in
theorem vw_pointing_L59 {oo : MS ⊕ MS} : ∀ (n : Nat) {U59 : MS} {v59_1 : Int32} {v59_3 : Int32}, v_pointing_L59 oo n U59 v59_1 v59_3 → w_pointing_L59 (fun u => oo = .inl u) (fun u => oo = .inr u) n U59 v59_1 v59_3 := by
  intro n
  induction n with
  | zero => intro U59 v59_1 v59_3 h; unfold v_pointing_L59 at h; exact h.elim
  | succ n ih =>
    intro U59 v59_1 v59_3 h
    unfold v_pointing_L59 at h
    unfold w_pointing_L59
    rcases h with ⟨c, h⟩ | ⟨c, h⟩
    · refine ⟨fun _ => ?_, fun c2 => absurd c c2⟩
      obtain ⟨n9, h⟩ := h
      exact ⟨n9, vw_pointing_L89 n9 h⟩
    · refine ⟨fun c2 => absurd c2 c, fun _ => ?_⟩
      obtain ⟨g9, h⟩ := h
      refine ⟨g9, ?_⟩
      rcases h with ⟨c, h⟩ | ⟨c, h⟩
      · refine ⟨fun _ => ?_, fun c2 => absurd c c2⟩
        exact vw_pointing_J81 (fun _ _ _ h => ih h) h
      · refine ⟨fun c2 => absurd c2 c, fun _ => ?_⟩
        rcases h with ⟨q9, z9, h⟩ | ⟨q9, z9, h⟩
        · refine ⟨_, _, vw_instruction z9, ?_, ?_⟩
          · intro q8 d9
            injection d9 with d9
            subst d9
            exact vw_pointing_J81 (fun _ _ _ h => ih h) h
          · intro q8 d9
            exact nomatch d9
        · refine ⟨_, _, vw_instruction z9, ?_, ?_⟩
          · intro q8 d9
            exact nomatch d9
          · intro q8 d9
            injection d9 with d9
            subst d9
            exact h
set_option maxRecDepth 100000 in
theorem vz_pointing_L59 {oo : MS ⊕ MS} {Q : MS → Prop} {E : MS → Prop} : ∀ (n m : Nat) {U59 : MS} {v59_1 : Int32} {v59_3 : Int32}, v_pointing_L59 oo n U59 v59_1 v59_3 → w_pointing_L59 Q E m U59 v59_1 v59_3 → oV Q E oo := by
  intro n
  induction n with
  | zero => intro m U59 v59_1 v59_3 h; unfold v_pointing_L59 at h; exact h.elim
  | succ n ih =>
    intro m U59 v59_1 v59_3 h w
    cases m with
    | zero => unfold w_pointing_L59 at w; exact w.elim
    | succ m =>
      unfold v_pointing_L59 at h
      unfold w_pointing_L59 at w
      rcases h with ⟨c, h⟩ | ⟨c, h⟩
      · replace w := w.1 c
        obtain ⟨n9, h⟩ := h
        obtain ⟨n8, w⟩ := w
        exact vz_pointing_L89 n9 n8 h w
      · replace w := w.2 c
        replace h := h.2
        replace w := w.2
        rcases h with ⟨c, h⟩ | ⟨c, h⟩
        · replace w := w.1 c
          exact vz_pointing_J81 (fun _ _ _ h w => ih m h w) h w
        · replace w := w.2 c
          obtain ⟨Q9, E9, w0, w⟩ := w
          rcases h with ⟨q9, z9, h⟩ | ⟨q9, z9, h⟩
          · replace w := w.1 q9 (vz_instruction z9 w0)
            exact vz_pointing_J81 (fun _ _ _ h w => ih m h w) h w
          · replace w := w.2 q9 (vz_instruction z9 w0)
            rw [h]
            exact w
set_option maxRecDepth 100000 in
theorem vw_pointing {S : MS} {x1 : Int32} {p2 : Nat} {oo : MS ⊕ MS} (h : v_pointing S x1 p2 oo) : w_pointing S x1 p2 (fun u => oo = .inl u) (fun u => oo = .inr u) := by
  unfold v_pointing at h
  unfold w_pointing
  rcases h with ⟨q9, z9, h⟩ | ⟨q9, z9, h⟩
  · refine ⟨_, _, vw_wholes z9, ?_, ?_⟩
    · intro q8 d9
      injection d9 with d9
      subst d9
      obtain ⟨g9, h⟩ := h
      refine ⟨g9, ?_⟩
      obtain ⟨v9, e9, h⟩ := h
      intro x9 d9
      have c9 : v9 = x9 := e9.trans d9.symm
      subst c9
      obtain ⟨g9, h⟩ := h
      refine ⟨g9, ?_⟩
      obtain ⟨g9, h⟩ := h
      refine ⟨g9, ?_⟩
      obtain ⟨v9, e9, h⟩ := h
      intro x9 d9
      have c9 : v9 = x9 := e9.trans d9.symm
      subst c9
      obtain ⟨g9, h⟩ := h
      refine ⟨g9, ?_⟩
      obtain ⟨g9, h⟩ := h
      refine ⟨g9, ?_⟩
      obtain ⟨v9, e9, h⟩ := h
      intro x9 d9
      have c9 : v9 = x9 := e9.trans d9.symm
      subst c9
      obtain ⟨g9, h⟩ := h
      refine ⟨g9, ?_⟩
      obtain ⟨g9, h⟩ := h
      refine ⟨g9, ?_⟩
      obtain ⟨v9, e9, h⟩ := h
      intro x9 d9
      have c9 : v9 = x9 := e9.trans d9.symm
      subst c9
      obtain ⟨g9, h⟩ := h
      refine ⟨g9, ?_⟩
      obtain ⟨g9, h⟩ := h
      refine ⟨g9, ?_⟩
      obtain ⟨g9, h⟩ := h
      refine ⟨g9, ?_⟩
      obtain ⟨v9, e9, h⟩ := h
      intro x9 d9
      have c9 : v9 = x9 := e9.trans d9.symm
      subst c9
      obtain ⟨n9, h⟩ := h
      exact ⟨n9, vw_pointing_L59 n9 h⟩
    · intro q8 d9
      exact nomatch d9
  · refine ⟨_, _, vw_wholes z9, ?_, ?_⟩
    · intro q8 d9
      exact nomatch d9
    · intro q8 d9
      injection d9 with d9
      subst d9
      exact h
set_option maxRecDepth 100000 in
theorem vz_pointing {S : MS} {x1 : Int32} {p2 : Nat} {oo : MS ⊕ MS} {Q : MS → Prop} {E : MS → Prop} (h : v_pointing S x1 p2 oo) (w : w_pointing S x1 p2 Q E) : oV Q E oo := by
  unfold v_pointing at h
  unfold w_pointing at w
  obtain ⟨Q9, E9, w0, w⟩ := w
  rcases h with ⟨q9, z9, h⟩ | ⟨q9, z9, h⟩
  · replace w := w.1 q9 (vz_wholes z9 w0)
    replace h := h.2
    replace w := w.2
    obtain ⟨v9, e9, h⟩ := h
    replace w := w v9 e9
    replace h := h.2
    replace w := w.2
    replace h := h.2
    replace w := w.2
    obtain ⟨v9, e9, h⟩ := h
    replace w := w v9 e9
    replace h := h.2
    replace w := w.2
    replace h := h.2
    replace w := w.2
    obtain ⟨v9, e9, h⟩ := h
    replace w := w v9 e9
    replace h := h.2
    replace w := w.2
    replace h := h.2
    replace w := w.2
    obtain ⟨v9, e9, h⟩ := h
    replace w := w v9 e9
    replace h := h.2
    replace w := w.2
    replace h := h.2
    replace w := w.2
    replace h := h.2
    replace w := w.2
    obtain ⟨v9, e9, h⟩ := h
    replace w := w v9 e9
    obtain ⟨n9, h⟩ := h
    obtain ⟨n8, w⟩ := w
    exact vz_pointing_L59 n9 n8 h w
  · replace w := w.2 q9 (vz_wholes z9 w0)
    rw [h]
    exact w
def v_text_L16 (ro : Nat) (uo : MS) : Nat → MS → Int32 → Nat → Int32 → Prop
  | 0, _, _, _, _ => False
  | n16 + 1, U16, v16_1, v16_2, v16_3 => (((0 : Int) ≤ v16_1.toInt ∧ v16_1.toInt < 502) ∧ (((qI U16 7 v16_1.toInt.toNat).toInt ≤ v16_3.toInt ∧ (∃ (b20 : Nat) (S17 : MS), v_J4_toString_0e30d U16 v16_2 b20 S17 ∧ (ro = b20 ∧ uo = S17))) ∨ (¬ (qI U16 7 v16_1.toInt.toNat).toInt ≤ v16_3.toInt ∧ (d_letter U16 v16_1 v16_3 ∧ (∃ (b29 : Nat) (S26 : MS), v_J4_append_cf468 U16 v16_2 (((f_letter U16 v16_1 v16_3).toUInt32 % 65536).toInt32) b29 S26 ∧ (∃ a30 : Int32, a30 = (v16_3 + Int32.ofInt 1) ∧ ((v_text_L16 ro uo n16) S26 v16_1 v16_2 a30)))))))
def v_text (S : MS) (x1 : Int32) (ro : Nat) (uo : MS) : Prop := ((qn S + 1 ≤ KC ∧ qu S + 4 ≤ KS) ∧ (∃ S4 : MS, S4 = wN S 13 0 4 ∧ (((0 : Int) ≤ x1.toInt ∧ x1.toInt < 502) ∧ (∃ (S9 : MS), v_J4_init_d00df S4 (qn S) (qI S4 7 x1.toInt.toNat) S9 ∧ (∃ n, v_text_L16 ro uo n S9 x1 (qn S) 0)))))
set_option maxRecDepth 100000 in
theorem ru_text_L16 {ι : Type} {P : Nat → MS → Prop} {Q : Nat → MS → Prop} : ∀ (n : Nat) {U16 : MS} {v16_1 : Int32} {v16_2 : Nat} {v16_3 : Int32} (i0 : ι), (∀ (i : ι) (ro : Nat) (uo : MS), (∃ n8, v_text_L16 ro uo n8 U16 v16_1 v16_2 v16_3) → P ro uo) → w_text_L16 Q n U16 v16_1 v16_2 v16_3 → ∃ ro uo, P ro uo ∧ Q ro uo := by
  intro n
  induction n with
  | zero => intro U16 v16_1 v16_2 v16_3 i0 K h; unfold w_text_L16 at h; exact h.elim
  | succ n ih =>
    intro U16 v16_1 v16_2 v16_3 i0 K h
    unfold w_text_L16 at h
    replace K := fun (i : ι × Nat) ro uo (z : v_text_L16 ro uo (i.2 + 1) U16 v16_1 v16_2 v16_3) => K i.1 ro uo ⟨i.2 + 1, z⟩
    have i00 := i0
    replace i0 : ι × Nat := (i0, 0)
    obtain ⟨g1_, h⟩ := h
    replace K := fun i ro uo z => K i ro uo ⟨g1_, z⟩
    by_cases c : (qI U16 7 v16_1.toInt.toNat).toInt ≤ v16_3.toInt
    · replace h := h.1 c
      replace K := fun i ro uo z => K i ro uo (Or.inl ⟨c, z⟩)
      obtain ⟨Q9, h0, h⟩ := h
      obtain ⟨b20, S17, z9, g9⟩ := ru_J4_toString_0e30d h0
      replace h := h b20 S17 g9
      replace K := fun i ro uo z => K i ro uo ⟨b20, S17, z9, z⟩
      exact ⟨_, _, K i0 _ _ ⟨rfl, rfl⟩, h⟩
    · replace h := h.2 c
      replace K := fun i ro uo z => K i ro uo (Or.inr ⟨c, z⟩)
      obtain ⟨g2_, h⟩ := h
      replace K := fun i ro uo z => K i ro uo ⟨g2_, z⟩
      obtain ⟨Q9, h0, h⟩ := h
      obtain ⟨b29, S26, z9, g9⟩ := ru_J4_append_cf468 h0
      replace h := h b29 S26 g9
      replace K := fun i ro uo z => K i ro uo ⟨b29, S26, z9, z⟩
      obtain ⟨a30, ea30⟩ : ∃ x9 : Int32, x9 = (v16_3 + Int32.ofInt 1) := ⟨_, rfl⟩
      replace h := h a30 ea30
      replace K := fun i ro uo z => K i ro uo ⟨a30, ea30, z⟩
      exact ih i00 (fun i ro uo ⟨n8, z⟩ => K (i, n8) ro uo z) h
set_option maxRecDepth 100000 in
theorem ru_text {S : MS} {x1 : Int32} {Q : Nat → MS → Prop} (h : w_text S x1 Q) : ∃ ro uo, v_text S x1 ro uo ∧ Q ro uo := by
  have i0 : Unit := ()
  have K : ∀ (i : Unit) (ro : Nat) (uo : MS), v_text S x1 ro uo → v_text S x1 ro uo := fun _ _ _ z => z
  unfold w_text at h
  obtain ⟨g3_, h⟩ := h
  replace K := fun i ro uo z => K i ro uo ⟨g3_, z⟩
  obtain ⟨S4, eS4⟩ : ∃ x9 : MS, x9 = wN S 13 0 4 := ⟨_, rfl⟩
  replace h := h S4 eS4
  replace K := fun i ro uo z => K i ro uo ⟨S4, eS4, z⟩
  obtain ⟨g4_, h⟩ := h
  replace K := fun i ro uo z => K i ro uo ⟨g4_, z⟩
  obtain ⟨Q9, h0, h⟩ := h
  obtain ⟨S9, z9, g9⟩ := ru_J4_init_d00df h0
  replace h := h S9 g9
  replace K := fun i ro uo z => K i ro uo ⟨S9, z9, z⟩
  obtain ⟨n9, h⟩ := h
  exact ru_text_L16 n9 i0 K h
set_option maxRecDepth 100000 in
theorem vw_text_L16 {ro : Nat} {uo : MS} : ∀ (n : Nat) {U16 : MS} {v16_1 : Int32} {v16_2 : Nat} {v16_3 : Int32}, v_text_L16 ro uo n U16 v16_1 v16_2 v16_3 → w_text_L16 (fun r u => r = ro ∧ u = uo) n U16 v16_1 v16_2 v16_3 := by
  intro n
  induction n with
  | zero => intro U16 v16_1 v16_2 v16_3 h; unfold v_text_L16 at h; exact h.elim
  | succ n ih =>
    intro U16 v16_1 v16_2 v16_3 h
    unfold v_text_L16 at h
    unfold w_text_L16
    obtain ⟨g9, h⟩ := h
    refine ⟨g9, ?_⟩
    rcases h with ⟨c, h⟩ | ⟨c, h⟩
    · refine ⟨fun _ => ?_, fun c2 => absurd c c2⟩
      obtain ⟨p9, q9, z9, h⟩ := h
      refine ⟨_, vw_J4_toString_0e30d z9, ?_⟩
      rintro p8 q8 ⟨d8, d9⟩
      subst d8
      subst d9
      exact ⟨h.1.symm, h.2.symm⟩
    · refine ⟨fun c2 => absurd c2 c, fun _ => ?_⟩
      obtain ⟨g9, h⟩ := h
      refine ⟨g9, ?_⟩
      obtain ⟨p9, q9, z9, h⟩ := h
      refine ⟨_, vw_J4_append_cf468 z9, ?_⟩
      rintro p8 q8 ⟨d8, d9⟩
      subst d8
      subst d9
      obtain ⟨v9, e9, h⟩ := h
      intro x9 d9
      have c9 : v9 = x9 := e9.trans d9.symm
      subst c9
      exact ih h
set_option maxRecDepth 100000 in
theorem vz_text_L16 {ro : Nat} {uo : MS} {Q : Nat → MS → Prop} : ∀ (n m : Nat) {U16 : MS} {v16_1 : Int32} {v16_2 : Nat} {v16_3 : Int32}, v_text_L16 ro uo n U16 v16_1 v16_2 v16_3 → w_text_L16 Q m U16 v16_1 v16_2 v16_3 → Q ro uo := by
  intro n
  induction n with
  | zero => intro m U16 v16_1 v16_2 v16_3 h; unfold v_text_L16 at h; exact h.elim
  | succ n ih =>
    intro m U16 v16_1 v16_2 v16_3 h w
    cases m with
    | zero => unfold w_text_L16 at w; exact w.elim
    | succ m =>
      unfold v_text_L16 at h
      unfold w_text_L16 at w
      replace h := h.2
      replace w := w.2
      rcases h with ⟨c, h⟩ | ⟨c, h⟩
      · replace w := w.1 c
        obtain ⟨p9, q9, z9, h⟩ := h
        obtain ⟨Q9, w0, w⟩ := w
        replace w := w p9 q9 (vz_J4_toString_0e30d z9 w0)
        rw [h.1, h.2]
        exact w
      · replace w := w.2 c
        replace h := h.2
        replace w := w.2
        obtain ⟨p9, q9, z9, h⟩ := h
        obtain ⟨Q9, w0, w⟩ := w
        replace w := w p9 q9 (vz_J4_append_cf468 z9 w0)
        obtain ⟨v9, e9, h⟩ := h
        replace w := w v9 e9
        exact ih m h w
set_option maxRecDepth 100000 in
theorem vw_text {S : MS} {x1 : Int32} {ro : Nat} {uo : MS} (h : v_text S x1 ro uo) : w_text S x1 (fun r u => r = ro ∧ u = uo) := by
  unfold v_text at h
  unfold w_text
  obtain ⟨g9, h⟩ := h
  refine ⟨g9, ?_⟩
  obtain ⟨v9, e9, h⟩ := h
  intro x9 d9
  have c9 : v9 = x9 := e9.trans d9.symm
  subst c9
  obtain ⟨g9, h⟩ := h
  refine ⟨g9, ?_⟩
  obtain ⟨q9, z9, h⟩ := h
  refine ⟨_, vw_J4_init_d00df z9, ?_⟩
  intro q8 d9
  subst d9
  obtain ⟨n9, h⟩ := h
  exact ⟨n9, vw_text_L16 n9 h⟩
set_option maxRecDepth 100000 in
theorem vz_text {S : MS} {x1 : Int32} {ro : Nat} {uo : MS} {Q : Nat → MS → Prop} (h : v_text S x1 ro uo) (w : w_text S x1 Q) : Q ro uo := by
  unfold v_text at h
  unfold w_text at w
  replace h := h.2
  replace w := w.2
  obtain ⟨v9, e9, h⟩ := h
  replace w := w v9 e9
  replace h := h.2
  replace w := w.2
  obtain ⟨q9, z9, h⟩ := h
  obtain ⟨Q9, w0, w⟩ := w
  replace w := w q9 (vz_J4_init_d00df z9 w0)
  obtain ⟨n9, h⟩ := h
  obtain ⟨n8, w⟩ := w
  exact vz_text_L16 n9 n8 h w
def v_twice_J71 (oo : MS ⊕ MS) (k29 : MS → Int32 → Int32 → Prop) (U71 : MS) (t71_0 : Int32) (v71_1 : Int32) (v71_3 : Int32) : Prop := (((0 : Int) ≤ v71_1.toInt ∧ v71_1.toInt < 48) ∧ ((∃ (S24 : MS), v_must U71 t71_0 (11 : Int32) ((qI U71 9 v71_1.toInt.toNat) + (2 : Int32)) (.inl S24) ∧ (∃ a26 : Int32, a26 = (v71_3 + Int32.ofInt 1) ∧ (k29 S24 v71_1 a26))) ∨ (∃ u9 : MS, v_must U71 t71_0 (11 : Int32) ((qI U71 9 v71_1.toInt.toNat) + (2 : Int32)) (.inr u9) ∧ (oo = .inr u9))))
def v_twice_L29 (oo : MS ⊕ MS) (k2 : MS → Int32 → Prop) : Nat → MS → Int32 → Int32 → Prop
  | 0, _, _, _ => False
  | n29 + 1, U29, v29_1, v29_3 => ((v29_1.toInt ≤ v29_3.toInt ∧ (∃ a3 : Int32, a3 = (v29_1 + Int32.ofInt 1) ∧ (k2 U29 a3))) ∨ (¬ v29_1.toInt ≤ v29_3.toInt ∧ (((0 : Int) ≤ v29_3.toInt ∧ v29_3.toInt < 48) ∧ (d_two U29 ((qI U29 9 v29_3.toInt.toNat) + (2 : Int32)) ∧ (((0 : Int) ≤ v29_1.toInt ∧ v29_1.toInt < 48) ∧ (d_two U29 ((qI U29 9 v29_1.toInt.toNat) + (2 : Int32)) ∧ (∃ (r17 : Int32) (S18 : MS), v_isSame U29 (f_two U29 ((qI U29 9 v29_3.toInt.toNat) + (2 : Int32))) (f_two U29 ((qI U29 9 v29_1.toInt.toNat) + (2 : Int32))) r17 S18 ∧ ((r17.toInt = 0 ∧ (v_twice_J71 oo (v_twice_L29 oo k2 n29) S18 1 v29_1 v29_3)) ∨ (¬ r17.toInt = 0 ∧ (v_twice_J71 oo (v_twice_L29 oo k2 n29) S18 0 v29_1 v29_3))))))))))
def v_twice_J26 (oo : MS ⊕ MS) (k2 : MS → Int32 → Prop) (U26 : MS) (t26_0 : Int32) (v26_1 : Int32) : Prop := (∃ n, v_twice_L29 oo k2 n U26 v26_1 t26_0)
def v_twice_L2 (oo : MS ⊕ MS) : Nat → MS → Int32 → Prop
  | 0, _, _ => False
  | n2 + 1, U2, v2_1 => (((qI U2 0 21).toInt ≤ v2_1.toInt ∧ (oo = .inl U2)) ∨ (¬ (qI U2 0 21).toInt ≤ v2_1.toInt ∧ (((qI U2 0 22).toInt ≤ v2_1.toInt ∧ (v_twice_J26 oo (v_twice_L2 oo n2) U2 (qI U2 0 22) v2_1)) ∨ (¬ (qI U2 0 22).toInt ≤ v2_1.toInt ∧ (v_twice_J26 oo (v_twice_L2 oo n2) U2 0 v2_1)))))
def v_twice (S : MS) (oo : MS ⊕ MS) : Prop := (∃ n, v_twice_L2 oo n S 0)
set_option maxRecDepth 100000 in
theorem ru_twice_J71 {ι : Type} {P : MS ⊕ MS → Prop} {Q : MS → Prop} {E : MS → Prop} {k29 : MS → Int32 → Int32 → Prop} {k29v : ι → MS ⊕ MS → MS → Int32 → Int32 → Prop} {U71 : MS} {t71_0 : Int32} {v71_1 : Int32} {v71_3 : Int32} (i0 : ι) (hk29 : ∀ (u : MS) (z0 : Int32) (z1 : Int32), k29 u z0 z1 → (∀ (i : ι) (oo : MS ⊕ MS), k29v i oo u z0 z1 → P oo) → ∃ oo, P oo ∧ oV Q E oo) (K : ∀ (i : ι) (oo : MS ⊕ MS), v_twice_J71 oo (k29v i oo) U71 t71_0 v71_1 v71_3 → P oo) (h : w_twice_J71 Q E k29 U71 t71_0 v71_1 v71_3) : ∃ oo, P oo ∧ oV Q E oo := by
  unfold w_twice_J71 at h
  obtain ⟨g1_, h⟩ := h
  replace K := fun i oo z => K i oo ⟨g1_, z⟩
  obtain ⟨Q9, E9, h0, h⟩ := h
  obtain ⟨o9, z9, g9⟩ := ru_must h0
  rcases o9 with S24 | u9
  · replace h := h.1 S24 g9
    replace K := fun i oo z => K i oo (Or.inl ⟨S24, z9, z⟩)
    obtain ⟨a26, ea26⟩ : ∃ x9 : Int32, x9 = (v71_3 + Int32.ofInt 1) := ⟨_, rfl⟩
    replace h := h a26 ea26
    replace K := fun i oo z => K i oo ⟨a26, ea26, z⟩
    exact hk29 _ _ _ h K
  · replace h := h.2 u9 g9
    replace K := fun i oo z => K i oo (Or.inr ⟨u9, z9, z⟩)
    exact ⟨.inr u9, K i0 _ rfl, h⟩
set_option maxRecDepth 100000 in
theorem ru_twice_L29 {ι : Type} {P : MS ⊕ MS → Prop} {Q : MS → Prop} {E : MS → Prop} {k2 : MS → Int32 → Prop} {k2v : ι → MS ⊕ MS → MS → Int32 → Prop} : ∀ (n : Nat) {U29 : MS} {v29_1 : Int32} {v29_3 : Int32} (i0 : ι) (hk2 : ∀ (u : MS) (z0 : Int32), k2 u z0 → (∀ (i : ι) (oo : MS ⊕ MS), k2v i oo u z0 → P oo) → ∃ oo, P oo ∧ oV Q E oo), (∀ (i : ι) (oo : MS ⊕ MS), (∃ n8, v_twice_L29 oo (k2v i oo) n8 U29 v29_1 v29_3) → P oo) → w_twice_L29 Q E k2 n U29 v29_1 v29_3 → ∃ oo, P oo ∧ oV Q E oo := by
  intro n
  induction n with
  | zero => intro U29 v29_1 v29_3 i0 hk2 K h; unfold w_twice_L29 at h; exact h.elim
  | succ n ih =>
    intro U29 v29_1 v29_3 i0 hk2 K h
    unfold w_twice_L29 at h
    replace K := fun (i : ι × Nat) oo (z : v_twice_L29 oo (k2v i.1 oo) (i.2 + 1) U29 v29_1 v29_3) => K i.1 oo ⟨i.2 + 1, z⟩
    have i00 := i0
    replace i0 : ι × Nat := (i0, 0)
    by_cases c : v29_1.toInt ≤ v29_3.toInt
    · replace h := h.1 c
      replace K := fun i oo z => K i oo (Or.inl ⟨c, z⟩)
      obtain ⟨a3, ea3⟩ : ∃ x9 : Int32, x9 = (v29_1 + Int32.ofInt 1) := ⟨_, rfl⟩
      replace h := h a3 ea3
      replace K := fun i oo z => K i oo ⟨a3, ea3, z⟩
      exact hk2 _ _ h (fun i oo z => K (i, 0) oo z)
    · replace h := h.2 c
      replace K := fun i oo z => K i oo (Or.inr ⟨c, z⟩)
      obtain ⟨g2_, h⟩ := h
      replace K := fun i oo z => K i oo ⟨g2_, z⟩
      obtain ⟨g3_, h⟩ := h
      replace K := fun i oo z => K i oo ⟨g3_, z⟩
      obtain ⟨g4_, h⟩ := h
      replace K := fun i oo z => K i oo ⟨g4_, z⟩
      obtain ⟨g5_, h⟩ := h
      replace K := fun i oo z => K i oo ⟨g5_, z⟩
      obtain ⟨Q9, h0, h⟩ := h
      obtain ⟨r17, S18, z9, g9⟩ := ru_isSame h0
      replace h := h r17 S18 g9
      replace K := fun i oo z => K i oo ⟨r17, S18, z9, z⟩
      by_cases c : r17.toInt = 0
      · replace h := h.1 c
        replace K := fun i oo z => K i oo (Or.inl ⟨c, z⟩)
        exact ru_twice_J71 i0 (fun _ _ _ h K => ih i00 hk2 (fun i oo ⟨n8, z⟩ => K (i, n8) oo z) h) K h
      · replace h := h.2 c
        replace K := fun i oo z => K i oo (Or.inr ⟨c, z⟩)
        exact ru_twice_J71 i0 (fun _ _ _ h K => ih i00 hk2 (fun i oo ⟨n8, z⟩ => K (i, n8) oo z) h) K h
set_option maxRecDepth 100000 in
theorem ru_twice_J26 {ι : Type} {P : MS ⊕ MS → Prop} {Q : MS → Prop} {E : MS → Prop} {k2 : MS → Int32 → Prop} {k2v : ι → MS ⊕ MS → MS → Int32 → Prop} {U26 : MS} {t26_0 : Int32} {v26_1 : Int32} (i0 : ι) (hk2 : ∀ (u : MS) (z0 : Int32), k2 u z0 → (∀ (i : ι) (oo : MS ⊕ MS), k2v i oo u z0 → P oo) → ∃ oo, P oo ∧ oV Q E oo) (K : ∀ (i : ι) (oo : MS ⊕ MS), v_twice_J26 oo (k2v i oo) U26 t26_0 v26_1 → P oo) (h : w_twice_J26 Q E k2 U26 t26_0 v26_1) : ∃ oo, P oo ∧ oV Q E oo := by
  unfold w_twice_J26 at h
  obtain ⟨n9, h⟩ := h
  exact ru_twice_L29 n9 i0 hk2 K h
set_option maxRecDepth 100000 in
theorem ru_twice_L2 {ι : Type} {P : MS ⊕ MS → Prop} {Q : MS → Prop} {E : MS → Prop} : ∀ (n : Nat) {U2 : MS} {v2_1 : Int32} (i0 : ι), (∀ (i : ι) (oo : MS ⊕ MS), (∃ n8, v_twice_L2 oo n8 U2 v2_1) → P oo) → w_twice_L2 Q E n U2 v2_1 → ∃ oo, P oo ∧ oV Q E oo := by
  intro n
  induction n with
  | zero => intro U2 v2_1 i0 K h; unfold w_twice_L2 at h; exact h.elim
  | succ n ih =>
    intro U2 v2_1 i0 K h
    unfold w_twice_L2 at h
    replace K := fun (i : ι × Nat) oo (z : v_twice_L2 oo (i.2 + 1) U2 v2_1) => K i.1 oo ⟨i.2 + 1, z⟩
    have i00 := i0
    replace i0 : ι × Nat := (i0, 0)
    by_cases c : (qI U2 0 21).toInt ≤ v2_1.toInt
    · replace h := h.1 c
      replace K := fun i oo z => K i oo (Or.inl ⟨c, z⟩)
      exact ⟨.inl _, K i0 _ rfl, h⟩
    · replace h := h.2 c
      replace K := fun i oo z => K i oo (Or.inr ⟨c, z⟩)
      by_cases c : (qI U2 0 22).toInt ≤ v2_1.toInt
      · replace h := h.1 c
        replace K := fun i oo z => K i oo (Or.inl ⟨c, z⟩)
        exact ru_twice_J26 i0 (fun _ _ h K => ih i00 (fun i oo ⟨n8, z⟩ => K (i, n8) oo z) h) K h
      · replace h := h.2 c
        replace K := fun i oo z => K i oo (Or.inr ⟨c, z⟩)
        exact ru_twice_J26 i0 (fun _ _ h K => ih i00 (fun i oo ⟨n8, z⟩ => K (i, n8) oo z) h) K h
set_option maxRecDepth 100000 in
theorem ru_twice {S : MS} {Q : MS → Prop} {E : MS → Prop} (h : w_twice S Q E) : ∃ oo, v_twice S oo ∧ oV Q E oo := by
  have i0 : Unit := ()
  have K : ∀ (i : Unit) (oo : MS ⊕ MS), v_twice S oo → v_twice S oo := fun _ _ z => z
  unfold w_twice at h
  obtain ⟨n9, h⟩ := h
  exact ru_twice_L2 n9 i0 K h
set_option maxRecDepth 100000 in
theorem vw_twice_J71 {oo : MS ⊕ MS} {k29 k29v : MS → Int32 → Int32 → Prop} {U71 : MS} {t71_0 : Int32} {v71_1 : Int32} {v71_3 : Int32} (hk29 : ∀ (u : MS) (z0 : Int32) (z1 : Int32), k29v u z0 z1 → k29 u z0 z1) (h : v_twice_J71 oo k29v U71 t71_0 v71_1 v71_3) : w_twice_J71 (fun u => oo = .inl u) (fun u => oo = .inr u) k29 U71 t71_0 v71_1 v71_3 := by
  unfold v_twice_J71 at h
  unfold w_twice_J71
  obtain ⟨g9, h⟩ := h
  refine ⟨g9, ?_⟩
  rcases h with ⟨q9, z9, h⟩ | ⟨q9, z9, h⟩
  · refine ⟨_, _, vw_must z9, ?_, ?_⟩
    · intro q8 d9
      injection d9 with d9
      subst d9
      obtain ⟨v9, e9, h⟩ := h
      intro x9 d9
      have c9 : v9 = x9 := e9.trans d9.symm
      subst c9
      exact hk29 _ _ _ h
    · intro q8 d9
      exact nomatch d9
  · refine ⟨_, _, vw_must z9, ?_, ?_⟩
    · intro q8 d9
      exact nomatch d9
    · intro q8 d9
      injection d9 with d9
      subst d9
      exact h
set_option maxRecDepth 100000 in
theorem vz_twice_J71 {oo : MS ⊕ MS} {Q : MS → Prop} {E : MS → Prop} {k29 k29v : MS → Int32 → Int32 → Prop} {U71 : MS} {t71_0 : Int32} {v71_1 : Int32} {v71_3 : Int32} (hk29 : ∀ (u : MS) (z0 : Int32) (z1 : Int32), k29v u z0 z1 → k29 u z0 z1 → oV Q E oo) (h : v_twice_J71 oo k29v U71 t71_0 v71_1 v71_3) (w : w_twice_J71 Q E k29 U71 t71_0 v71_1 v71_3) : oV Q E oo := by
  unfold v_twice_J71 at h
  unfold w_twice_J71 at w
  replace h := h.2
  replace w := w.2
  obtain ⟨Q9, E9, w0, w⟩ := w
  rcases h with ⟨q9, z9, h⟩ | ⟨q9, z9, h⟩
  · replace w := w.1 q9 (vz_must z9 w0)
    obtain ⟨v9, e9, h⟩ := h
    replace w := w v9 e9
    exact hk29 _ _ _ h w
  · replace w := w.2 q9 (vz_must z9 w0)
    rw [h]
    exact w
set_option maxRecDepth 100000 in
theorem vw_twice_L29 {oo : MS ⊕ MS} {k2 k2v : MS → Int32 → Prop} : ∀ (n : Nat) {U29 : MS} {v29_1 : Int32} {v29_3 : Int32} (hk2 : ∀ (u : MS) (z0 : Int32), k2v u z0 → k2 u z0), v_twice_L29 oo k2v n U29 v29_1 v29_3 → w_twice_L29 (fun u => oo = .inl u) (fun u => oo = .inr u) k2 n U29 v29_1 v29_3 := by
  intro n
  induction n with
  | zero => intro U29 v29_1 v29_3 hk2 h; unfold v_twice_L29 at h; exact h.elim
  | succ n ih =>
    intro U29 v29_1 v29_3 hk2 h
    unfold v_twice_L29 at h
    unfold w_twice_L29
    rcases h with ⟨c, h⟩ | ⟨c, h⟩
    · refine ⟨fun _ => ?_, fun c2 => absurd c c2⟩
      obtain ⟨v9, e9, h⟩ := h
      intro x9 d9
      have c9 : v9 = x9 := e9.trans d9.symm
      subst c9
      exact hk2 _ _ h
    · refine ⟨fun c2 => absurd c2 c, fun _ => ?_⟩
      obtain ⟨g9, h⟩ := h
      refine ⟨g9, ?_⟩
      obtain ⟨g9, h⟩ := h
      refine ⟨g9, ?_⟩
      obtain ⟨g9, h⟩ := h
      refine ⟨g9, ?_⟩
      obtain ⟨g9, h⟩ := h
      refine ⟨g9, ?_⟩
      obtain ⟨p9, q9, z9, h⟩ := h
      refine ⟨_, vw_isSame z9, ?_⟩
      rintro p8 q8 ⟨d8, d9⟩
      subst d8
      subst d9
      rcases h with ⟨c, h⟩ | ⟨c, h⟩
      · refine ⟨fun _ => ?_, fun c2 => absurd c c2⟩
        exact vw_twice_J71 (fun _ _ _ h => ih hk2 h) h
      · refine ⟨fun c2 => absurd c2 c, fun _ => ?_⟩
        exact vw_twice_J71 (fun _ _ _ h => ih hk2 h) h
set_option maxRecDepth 100000 in
theorem vz_twice_L29 {oo : MS ⊕ MS} {Q : MS → Prop} {E : MS → Prop} {k2 k2v : MS → Int32 → Prop} : ∀ (n m : Nat) {U29 : MS} {v29_1 : Int32} {v29_3 : Int32} (hk2 : ∀ (u : MS) (z0 : Int32), k2v u z0 → k2 u z0 → oV Q E oo), v_twice_L29 oo k2v n U29 v29_1 v29_3 → w_twice_L29 Q E k2 m U29 v29_1 v29_3 → oV Q E oo := by
  intro n
  induction n with
  | zero => intro m U29 v29_1 v29_3 hk2 h; unfold v_twice_L29 at h; exact h.elim
  | succ n ih =>
    intro m U29 v29_1 v29_3 hk2 h w
    cases m with
    | zero => unfold w_twice_L29 at w; exact w.elim
    | succ m =>
      unfold v_twice_L29 at h
      unfold w_twice_L29 at w
      rcases h with ⟨c, h⟩ | ⟨c, h⟩
      · replace w := w.1 c
        obtain ⟨v9, e9, h⟩ := h
        replace w := w v9 e9
        exact hk2 _ _ h w
      · replace w := w.2 c
        replace h := h.2
        replace w := w.2
        replace h := h.2
        replace w := w.2
        replace h := h.2
        replace w := w.2
        replace h := h.2
        replace w := w.2
        obtain ⟨p9, q9, z9, h⟩ := h
        obtain ⟨Q9, w0, w⟩ := w
        replace w := w p9 q9 (vz_isSame z9 w0)
        rcases h with ⟨c, h⟩ | ⟨c, h⟩
        · replace w := w.1 c
          exact vz_twice_J71 (fun _ _ _ h w => ih m hk2 h w) h w
        · replace w := w.2 c
          exact vz_twice_J71 (fun _ _ _ h w => ih m hk2 h w) h w
set_option maxRecDepth 100000 in
theorem vw_twice_J26 {oo : MS ⊕ MS} {k2 k2v : MS → Int32 → Prop} {U26 : MS} {t26_0 : Int32} {v26_1 : Int32} (hk2 : ∀ (u : MS) (z0 : Int32), k2v u z0 → k2 u z0) (h : v_twice_J26 oo k2v U26 t26_0 v26_1) : w_twice_J26 (fun u => oo = .inl u) (fun u => oo = .inr u) k2 U26 t26_0 v26_1 := by
  unfold v_twice_J26 at h
  unfold w_twice_J26
  obtain ⟨n9, h⟩ := h
  exact ⟨n9, vw_twice_L29 n9 hk2 h⟩
set_option maxRecDepth 100000 in
theorem vz_twice_J26 {oo : MS ⊕ MS} {Q : MS → Prop} {E : MS → Prop} {k2 k2v : MS → Int32 → Prop} {U26 : MS} {t26_0 : Int32} {v26_1 : Int32} (hk2 : ∀ (u : MS) (z0 : Int32), k2v u z0 → k2 u z0 → oV Q E oo) (h : v_twice_J26 oo k2v U26 t26_0 v26_1) (w : w_twice_J26 Q E k2 U26 t26_0 v26_1) : oV Q E oo := by
  unfold v_twice_J26 at h
  unfold w_twice_J26 at w
  obtain ⟨n9, h⟩ := h
  obtain ⟨n8, w⟩ := w
  exact vz_twice_L29 n9 n8 hk2 h w
set_option maxRecDepth 100000 in
theorem vw_twice_L2 {oo : MS ⊕ MS} : ∀ (n : Nat) {U2 : MS} {v2_1 : Int32}, v_twice_L2 oo n U2 v2_1 → w_twice_L2 (fun u => oo = .inl u) (fun u => oo = .inr u) n U2 v2_1 := by
  intro n
  induction n with
  | zero => intro U2 v2_1 h; unfold v_twice_L2 at h; exact h.elim
  | succ n ih =>
    intro U2 v2_1 h
    unfold v_twice_L2 at h
    unfold w_twice_L2
    rcases h with ⟨c, h⟩ | ⟨c, h⟩
    · refine ⟨fun _ => ?_, fun c2 => absurd c c2⟩
      exact h
    · refine ⟨fun c2 => absurd c2 c, fun _ => ?_⟩
      rcases h with ⟨c, h⟩ | ⟨c, h⟩
      · refine ⟨fun _ => ?_, fun c2 => absurd c c2⟩
        exact vw_twice_J26 (fun _ _ h => ih h) h
      · refine ⟨fun c2 => absurd c2 c, fun _ => ?_⟩
        exact vw_twice_J26 (fun _ _ h => ih h) h
set_option maxRecDepth 100000 in
theorem vz_twice_L2 {oo : MS ⊕ MS} {Q : MS → Prop} {E : MS → Prop} : ∀ (n m : Nat) {U2 : MS} {v2_1 : Int32}, v_twice_L2 oo n U2 v2_1 → w_twice_L2 Q E m U2 v2_1 → oV Q E oo := by
  intro n
  induction n with
  | zero => intro m U2 v2_1 h; unfold v_twice_L2 at h; exact h.elim
  | succ n ih =>
    intro m U2 v2_1 h w
    cases m with
    | zero => unfold w_twice_L2 at w; exact w.elim
    | succ m =>
      unfold v_twice_L2 at h
      unfold w_twice_L2 at w
      rcases h with ⟨c, h⟩ | ⟨c, h⟩
      · replace w := w.1 c
        rw [h]
        exact w
      · replace w := w.2 c
        rcases h with ⟨c, h⟩ | ⟨c, h⟩
        · replace w := w.1 c
          exact vz_twice_J26 (fun _ _ h w => ih m h w) h w
        · replace w := w.2 c
          exact vz_twice_J26 (fun _ _ h w => ih m h w) h w
set_option maxRecDepth 100000 in
theorem vw_twice {S : MS} {oo : MS ⊕ MS} (h : v_twice S oo) : w_twice S (fun u => oo = .inl u) (fun u => oo = .inr u) := by
  unfold v_twice at h
  unfold w_twice
  obtain ⟨n9, h⟩ := h
  exact ⟨n9, vw_twice_L2 n9 h⟩
set_option maxRecDepth 100000 in
theorem vz_twice {S : MS} {oo : MS ⊕ MS} {Q : MS → Prop} {E : MS → Prop} (h : v_twice S oo) (w : w_twice S Q E) : oV Q E oo := by
  unfold v_twice at h
  unfold w_twice at w
  obtain ⟨n9, h⟩ := h
  obtain ⟨n8, w⟩ := w
  exact vz_twice_L2 n9 n8 h w
def v_types_J165 (oo : MS ⊕ MS) (k102 : MS → Int32 → Prop) (U165 : MS) (t165_0 : Int32) (v165_1 : Int32) (v165_2 : Int32) : Prop := ((∃ (S15 : MS), v_must U165 t165_0 (10 : Int32) v165_2 (.inl S15) ∧ (∃ a17 : Int32, a17 = (v165_1 + Int32.ofInt 1) ∧ (k102 S15 a17))) ∨ (∃ u9 : MS, v_must U165 t165_0 (10 : Int32) v165_2 (.inr u9) ∧ (oo = .inr u9)))
def v_types_J164 (oo : MS ⊕ MS) (k102 : MS → Int32 → Prop) (U164 : MS) (v164_1 : Int32) (v164_2 : Int32) : Prop := (v_types_J165 oo k102 U164 0 v164_1 v164_2)
def v_types_J94 (oo : MS ⊕ MS) (k2 : MS → Int32 → Prop) (U94 : MS) (v94_1 : Int32) : Prop := (∃ a31 : Int32, a31 = (v94_1 + Int32.ofInt 1) ∧ (k2 U94 a31))
def v_types_J83 (oo : MS ⊕ MS) (k2 : MS → Int32 → Prop) (U83 : MS) (t83_0 : Int32) (v83_1 : Int32) : Prop := (((0 : Int) ≤ v83_1.toInt ∧ v83_1.toInt < 502) ∧ ((∃ (S44 : MS), v_must U83 t83_0 (10 : Int32) (qI U83 5 v83_1.toInt.toNat) (.inl S44) ∧ (v_types_J94 oo k2 S44 v83_1)) ∨ (∃ u9 : MS, v_must U83 t83_0 (10 : Int32) (qI U83 5 v83_1.toInt.toNat) (.inr u9) ∧ (oo = .inr u9))))
def v_types_J48 (oo : MS ⊕ MS) (k2 : MS → Int32 → Prop) (U48 : MS) (v48_1 : Int32) : Prop := (((0 : Int) ≤ v48_1.toInt ∧ v48_1.toInt < 502) ∧ (((qI U48 4 v48_1.toInt.toNat).toInt = 10 ∧ (((0 : Int) ≤ v48_1.toInt ∧ v48_1.toInt < 502) ∧ (((0 : Int) ≤ (qI U48 7 v48_1.toInt.toNat).toInt ∧ (qI U48 7 v48_1.toInt.toNat).toInt < 502) ∧ (∃ (r38 : Int32) (S39 : MS), v_parameterPlaces U48 (qI U48 7 (((qI U48 7 v48_1.toInt.toNat).toInt).toNat)) r38 S39 ∧ ((r38.toInt < 0 ∧ (v_types_J83 oo k2 S39 0 v48_1)) ∨ (¬ r38.toInt < 0 ∧ (v_types_J83 oo k2 S39 1 v48_1))))))) ∨ (¬ (qI U48 4 v48_1.toInt.toNat).toInt = 10 ∧ (v_types_J94 oo k2 U48 v48_1))))
def v_types_L102 (oo : MS ⊕ MS) : Nat → MS → Int32 → Prop
  | 0, _, _ => False
  | n102 + 1, U102, v102_1 => (((qI U102 0 21).toInt ≤ v102_1.toInt ∧ (oo = .inl U102)) ∨ (¬ (qI U102 0 21).toInt ≤ v102_1.toInt ∧ (((0 : Int) ≤ v102_1.toInt ∧ v102_1.toInt < 48) ∧ (∃ a6 : Int32, a6 = ((qI U102 9 v102_1.toInt.toNat) + (4 : Int32)) ∧ (d_two U102 a6 ∧ (∃ (r11 : Int32) (S12 : MS), v_parameterPlaces U102 (f_two U102 a6) r11 S12 ∧ (((qI S12 0 22).toInt ≤ v102_1.toInt ∧ ((r11.toInt < 0 ∧ (v_types_J164 oo (v_types_L102 oo n102) S12 v102_1 a6)) ∨ (¬ r11.toInt < 0 ∧ ((8 < r11.toInt ∧ (v_types_J164 oo (v_types_L102 oo n102) S12 v102_1 a6)) ∨ (¬ 8 < r11.toInt ∧ (v_types_J165 oo (v_types_L102 oo n102) S12 1 v102_1 a6)))))) ∨ (¬ (qI S12 0 22).toInt ≤ v102_1.toInt ∧ (d_two S12 a6 ∧ (d_isType S12 (f_two S12 a6) ∧ (v_types_J165 oo (v_types_L102 oo n102) S12 (f_isType S12 (f_two S12 a6)) v102_1 a6)))))))))))
def v_types_L2 (oo : MS ⊕ MS) : Nat → MS → Int32 → Prop
  | 0, _, _ => False
  | n2 + 1, U2, v2_1 => (((qI U2 0 14).toInt ≤ v2_1.toInt ∧ (∃ n, v_types_L102 oo n U2 0)) ∨ (¬ (qI U2 0 14).toInt ≤ v2_1.toInt ∧ (((0 : Int) ≤ v2_1.toInt ∧ v2_1.toInt < 502) ∧ (((qI U2 4 v2_1.toInt.toNat).toInt = 9 ∧ (((0 : Int) ≤ v2_1.toInt ∧ v2_1.toInt < 502) ∧ (((0 : Int) ≤ (qI U2 7 v2_1.toInt.toNat).toInt ∧ (qI U2 7 v2_1.toInt.toNat).toInt < 502) ∧ (d_isType U2 (qI U2 7 (((qI U2 7 v2_1.toInt.toNat).toInt).toNat)) ∧ (((0 : Int) ≤ v2_1.toInt ∧ v2_1.toInt < 502) ∧ ((∃ (S58 : MS), v_must U2 (f_isType U2 (qI U2 7 (((qI U2 7 v2_1.toInt.toNat).toInt).toNat))) (10 : Int32) (qI U2 5 v2_1.toInt.toNat) (.inl S58) ∧ (v_types_J48 oo (v_types_L2 oo n2) S58 v2_1)) ∨ (∃ u9 : MS, v_must U2 (f_isType U2 (qI U2 7 (((qI U2 7 v2_1.toInt.toNat).toInt).toNat))) (10 : Int32) (qI U2 5 v2_1.toInt.toNat) (.inr u9) ∧ (oo = .inr u9)))))))) ∨ (¬ (qI U2 4 v2_1.toInt.toNat).toInt = 9 ∧ (v_types_J48 oo (v_types_L2 oo n2) U2 v2_1))))))
def v_types (S : MS) (oo : MS ⊕ MS) : Prop := (∃ n, v_types_L2 oo n S 1)
set_option maxRecDepth 100000 in
theorem ru_types_J165 {ι : Type} {P : MS ⊕ MS → Prop} {Q : MS → Prop} {E : MS → Prop} {k102 : MS → Int32 → Prop} {k102v : ι → MS ⊕ MS → MS → Int32 → Prop} {U165 : MS} {t165_0 : Int32} {v165_1 : Int32} {v165_2 : Int32} (i0 : ι) (hk102 : ∀ (u : MS) (z0 : Int32), k102 u z0 → (∀ (i : ι) (oo : MS ⊕ MS), k102v i oo u z0 → P oo) → ∃ oo, P oo ∧ oV Q E oo) (K : ∀ (i : ι) (oo : MS ⊕ MS), v_types_J165 oo (k102v i oo) U165 t165_0 v165_1 v165_2 → P oo) (h : w_types_J165 Q E k102 U165 t165_0 v165_1 v165_2) : ∃ oo, P oo ∧ oV Q E oo := by
  unfold w_types_J165 at h
  obtain ⟨Q9, E9, h0, h⟩ := h
  obtain ⟨o9, z9, g9⟩ := ru_must h0
  rcases o9 with S15 | u9
  · replace h := h.1 S15 g9
    replace K := fun i oo z => K i oo (Or.inl ⟨S15, z9, z⟩)
    obtain ⟨a17, ea17⟩ : ∃ x9 : Int32, x9 = (v165_1 + Int32.ofInt 1) := ⟨_, rfl⟩
    replace h := h a17 ea17
    replace K := fun i oo z => K i oo ⟨a17, ea17, z⟩
    exact hk102 _ _ h K
  · replace h := h.2 u9 g9
    replace K := fun i oo z => K i oo (Or.inr ⟨u9, z9, z⟩)
    exact ⟨.inr u9, K i0 _ rfl, h⟩
set_option maxRecDepth 100000 in
theorem ru_types_J164 {ι : Type} {P : MS ⊕ MS → Prop} {Q : MS → Prop} {E : MS → Prop} {k102 : MS → Int32 → Prop} {k102v : ι → MS ⊕ MS → MS → Int32 → Prop} {U164 : MS} {v164_1 : Int32} {v164_2 : Int32} (i0 : ι) (hk102 : ∀ (u : MS) (z0 : Int32), k102 u z0 → (∀ (i : ι) (oo : MS ⊕ MS), k102v i oo u z0 → P oo) → ∃ oo, P oo ∧ oV Q E oo) (K : ∀ (i : ι) (oo : MS ⊕ MS), v_types_J164 oo (k102v i oo) U164 v164_1 v164_2 → P oo) (h : w_types_J164 Q E k102 U164 v164_1 v164_2) : ∃ oo, P oo ∧ oV Q E oo := by
  unfold w_types_J164 at h
  exact ru_types_J165 i0 hk102 K h
set_option maxRecDepth 100000 in
theorem ru_types_J94 {ι : Type} {P : MS ⊕ MS → Prop} {Q : MS → Prop} {E : MS → Prop} {k2 : MS → Int32 → Prop} {k2v : ι → MS ⊕ MS → MS → Int32 → Prop} {U94 : MS} {v94_1 : Int32} (i0 : ι) (hk2 : ∀ (u : MS) (z0 : Int32), k2 u z0 → (∀ (i : ι) (oo : MS ⊕ MS), k2v i oo u z0 → P oo) → ∃ oo, P oo ∧ oV Q E oo) (K : ∀ (i : ι) (oo : MS ⊕ MS), v_types_J94 oo (k2v i oo) U94 v94_1 → P oo) (h : w_types_J94 Q E k2 U94 v94_1) : ∃ oo, P oo ∧ oV Q E oo := by
  unfold w_types_J94 at h
  obtain ⟨a31, ea31⟩ : ∃ x9 : Int32, x9 = (v94_1 + Int32.ofInt 1) := ⟨_, rfl⟩
  replace h := h a31 ea31
  replace K := fun i oo z => K i oo ⟨a31, ea31, z⟩
  exact hk2 _ _ h K
set_option maxRecDepth 100000 in
theorem ru_types_J83 {ι : Type} {P : MS ⊕ MS → Prop} {Q : MS → Prop} {E : MS → Prop} {k2 : MS → Int32 → Prop} {k2v : ι → MS ⊕ MS → MS → Int32 → Prop} {U83 : MS} {t83_0 : Int32} {v83_1 : Int32} (i0 : ι) (hk2 : ∀ (u : MS) (z0 : Int32), k2 u z0 → (∀ (i : ι) (oo : MS ⊕ MS), k2v i oo u z0 → P oo) → ∃ oo, P oo ∧ oV Q E oo) (K : ∀ (i : ι) (oo : MS ⊕ MS), v_types_J83 oo (k2v i oo) U83 t83_0 v83_1 → P oo) (h : w_types_J83 Q E k2 U83 t83_0 v83_1) : ∃ oo, P oo ∧ oV Q E oo := by
  unfold w_types_J83 at h
  obtain ⟨g1_, h⟩ := h
  replace K := fun i oo z => K i oo ⟨g1_, z⟩
  obtain ⟨Q9, E9, h0, h⟩ := h
  obtain ⟨o9, z9, g9⟩ := ru_must h0
  rcases o9 with S44 | u9
  · replace h := h.1 S44 g9
    replace K := fun i oo z => K i oo (Or.inl ⟨S44, z9, z⟩)
    exact ru_types_J94 i0 hk2 K h
  · replace h := h.2 u9 g9
    replace K := fun i oo z => K i oo (Or.inr ⟨u9, z9, z⟩)
    exact ⟨.inr u9, K i0 _ rfl, h⟩
set_option maxRecDepth 100000 in
theorem ru_types_J48 {ι : Type} {P : MS ⊕ MS → Prop} {Q : MS → Prop} {E : MS → Prop} {k2 : MS → Int32 → Prop} {k2v : ι → MS ⊕ MS → MS → Int32 → Prop} {U48 : MS} {v48_1 : Int32} (i0 : ι) (hk2 : ∀ (u : MS) (z0 : Int32), k2 u z0 → (∀ (i : ι) (oo : MS ⊕ MS), k2v i oo u z0 → P oo) → ∃ oo, P oo ∧ oV Q E oo) (K : ∀ (i : ι) (oo : MS ⊕ MS), v_types_J48 oo (k2v i oo) U48 v48_1 → P oo) (h : w_types_J48 Q E k2 U48 v48_1) : ∃ oo, P oo ∧ oV Q E oo := by
  unfold w_types_J48 at h
  obtain ⟨g2_, h⟩ := h
  replace K := fun i oo z => K i oo ⟨g2_, z⟩
  by_cases c : (qI U48 4 v48_1.toInt.toNat).toInt = 10
  · replace h := h.1 c
    replace K := fun i oo z => K i oo (Or.inl ⟨c, z⟩)
    obtain ⟨g3_, h⟩ := h
    replace K := fun i oo z => K i oo ⟨g3_, z⟩
    obtain ⟨g4_, h⟩ := h
    replace K := fun i oo z => K i oo ⟨g4_, z⟩
    obtain ⟨Q9, h0, h⟩ := h
    obtain ⟨r38, S39, z9, g9⟩ := ru_parameterPlaces h0
    replace h := h r38 S39 g9
    replace K := fun i oo z => K i oo ⟨r38, S39, z9, z⟩
    by_cases c : r38.toInt < 0
    · replace h := h.1 c
      replace K := fun i oo z => K i oo (Or.inl ⟨c, z⟩)
      exact ru_types_J83 i0 hk2 K h
    · replace h := h.2 c
      replace K := fun i oo z => K i oo (Or.inr ⟨c, z⟩)
      exact ru_types_J83 i0 hk2 K h
  · replace h := h.2 c
    replace K := fun i oo z => K i oo (Or.inr ⟨c, z⟩)
    exact ru_types_J94 i0 hk2 K h
set_option maxRecDepth 100000 in
theorem ru_types_L102 {ι : Type} {P : MS ⊕ MS → Prop} {Q : MS → Prop} {E : MS → Prop} : ∀ (n : Nat) {U102 : MS} {v102_1 : Int32} (i0 : ι), (∀ (i : ι) (oo : MS ⊕ MS), (∃ n8, v_types_L102 oo n8 U102 v102_1) → P oo) → w_types_L102 Q E n U102 v102_1 → ∃ oo, P oo ∧ oV Q E oo := by
  intro n
  induction n with
  | zero => intro U102 v102_1 i0 K h; unfold w_types_L102 at h; exact h.elim
  | succ n ih =>
    intro U102 v102_1 i0 K h
    unfold w_types_L102 at h
    replace K := fun (i : ι × Nat) oo (z : v_types_L102 oo (i.2 + 1) U102 v102_1) => K i.1 oo ⟨i.2 + 1, z⟩
    have i00 := i0
    replace i0 : ι × Nat := (i0, 0)
    by_cases c : (qI U102 0 21).toInt ≤ v102_1.toInt
    · replace h := h.1 c
      replace K := fun i oo z => K i oo (Or.inl ⟨c, z⟩)
      exact ⟨.inl _, K i0 _ rfl, h⟩
    · replace h := h.2 c
      replace K := fun i oo z => K i oo (Or.inr ⟨c, z⟩)
      obtain ⟨g5_, h⟩ := h
      replace K := fun i oo z => K i oo ⟨g5_, z⟩
      obtain ⟨a6, ea6⟩ : ∃ x9 : Int32, x9 = ((qI U102 9 v102_1.toInt.toNat) + (4 : Int32)) := ⟨_, rfl⟩
      replace h := h a6 ea6
      replace K := fun i oo z => K i oo ⟨a6, ea6, z⟩
      obtain ⟨g6_, h⟩ := h
      replace K := fun i oo z => K i oo ⟨g6_, z⟩
      obtain ⟨Q9, h0, h⟩ := h
      obtain ⟨r11, S12, z9, g9⟩ := ru_parameterPlaces h0
      replace h := h r11 S12 g9
      replace K := fun i oo z => K i oo ⟨r11, S12, z9, z⟩
      by_cases c : (qI S12 0 22).toInt ≤ v102_1.toInt
      · replace h := h.1 c
        replace K := fun i oo z => K i oo (Or.inl ⟨c, z⟩)
        by_cases c : r11.toInt < 0
        · replace h := h.1 c
          replace K := fun i oo z => K i oo (Or.inl ⟨c, z⟩)
          exact ru_types_J164 i0 (fun _ _ h K => ih i00 (fun i oo ⟨n8, z⟩ => K (i, n8) oo z) h) K h
        · replace h := h.2 c
          replace K := fun i oo z => K i oo (Or.inr ⟨c, z⟩)
          by_cases c : 8 < r11.toInt
          · replace h := h.1 c
            replace K := fun i oo z => K i oo (Or.inl ⟨c, z⟩)
            exact ru_types_J164 i0 (fun _ _ h K => ih i00 (fun i oo ⟨n8, z⟩ => K (i, n8) oo z) h) K h
          · replace h := h.2 c
            replace K := fun i oo z => K i oo (Or.inr ⟨c, z⟩)
            exact ru_types_J165 i0 (fun _ _ h K => ih i00 (fun i oo ⟨n8, z⟩ => K (i, n8) oo z) h) K h
      · replace h := h.2 c
        replace K := fun i oo z => K i oo (Or.inr ⟨c, z⟩)
        obtain ⟨g7_, h⟩ := h
        replace K := fun i oo z => K i oo ⟨g7_, z⟩
        obtain ⟨g8_, h⟩ := h
        replace K := fun i oo z => K i oo ⟨g8_, z⟩
        exact ru_types_J165 i0 (fun _ _ h K => ih i00 (fun i oo ⟨n8, z⟩ => K (i, n8) oo z) h) K h
set_option maxRecDepth 100000 in
theorem ru_types_L2 {ι : Type} {P : MS ⊕ MS → Prop} {Q : MS → Prop} {E : MS → Prop} : ∀ (n : Nat) {U2 : MS} {v2_1 : Int32} (i0 : ι), (∀ (i : ι) (oo : MS ⊕ MS), (∃ n8, v_types_L2 oo n8 U2 v2_1) → P oo) → w_types_L2 Q E n U2 v2_1 → ∃ oo, P oo ∧ oV Q E oo := by
  intro n
  induction n with
  | zero => intro U2 v2_1 i0 K h; unfold w_types_L2 at h; exact h.elim
  | succ n ih =>
    intro U2 v2_1 i0 K h
    unfold w_types_L2 at h
    replace K := fun (i : ι × Nat) oo (z : v_types_L2 oo (i.2 + 1) U2 v2_1) => K i.1 oo ⟨i.2 + 1, z⟩
    have i00 := i0
    replace i0 : ι × Nat := (i0, 0)
    by_cases c : (qI U2 0 14).toInt ≤ v2_1.toInt
    · replace h := h.1 c
      replace K := fun i oo z => K i oo (Or.inl ⟨c, z⟩)
      obtain ⟨n9, h⟩ := h
      exact ru_types_L102 n9 i0 K h
    · replace h := h.2 c
      replace K := fun i oo z => K i oo (Or.inr ⟨c, z⟩)
      obtain ⟨g9_, h⟩ := h
      replace K := fun i oo z => K i oo ⟨g9_, z⟩
      by_cases c : (qI U2 4 v2_1.toInt.toNat).toInt = 9
      · replace h := h.1 c
        replace K := fun i oo z => K i oo (Or.inl ⟨c, z⟩)
        obtain ⟨g10_, h⟩ := h
        replace K := fun i oo z => K i oo ⟨g10_, z⟩
        obtain ⟨g11_, h⟩ := h
        replace K := fun i oo z => K i oo ⟨g11_, z⟩
        obtain ⟨g12_, h⟩ := h
        replace K := fun i oo z => K i oo ⟨g12_, z⟩
        obtain ⟨g13_, h⟩ := h
        replace K := fun i oo z => K i oo ⟨g13_, z⟩
        obtain ⟨Q9, E9, h0, h⟩ := h
        obtain ⟨o9, z9, g9⟩ := ru_must h0
        rcases o9 with S58 | u9
        · replace h := h.1 S58 g9
          replace K := fun i oo z => K i oo (Or.inl ⟨S58, z9, z⟩)
          exact ru_types_J48 i0 (fun _ _ h K => ih i00 (fun i oo ⟨n8, z⟩ => K (i, n8) oo z) h) K h
        · replace h := h.2 u9 g9
          replace K := fun i oo z => K i oo (Or.inr ⟨u9, z9, z⟩)
          exact ⟨.inr u9, K i0 _ rfl, h⟩
      · replace h := h.2 c
        replace K := fun i oo z => K i oo (Or.inr ⟨c, z⟩)
        exact ru_types_J48 i0 (fun _ _ h K => ih i00 (fun i oo ⟨n8, z⟩ => K (i, n8) oo z) h) K h
set_option maxRecDepth 100000 in
theorem ru_types {S : MS} {Q : MS → Prop} {E : MS → Prop} (h : w_types S Q E) : ∃ oo, v_types S oo ∧ oV Q E oo := by
  have i0 : Unit := ()
  have K : ∀ (i : Unit) (oo : MS ⊕ MS), v_types S oo → v_types S oo := fun _ _ z => z
  unfold w_types at h
  obtain ⟨n9, h⟩ := h
  exact ru_types_L2 n9 i0 K h
set_option maxRecDepth 100000 in
theorem vw_types_J165 {oo : MS ⊕ MS} {k102 k102v : MS → Int32 → Prop} {U165 : MS} {t165_0 : Int32} {v165_1 : Int32} {v165_2 : Int32} (hk102 : ∀ (u : MS) (z0 : Int32), k102v u z0 → k102 u z0) (h : v_types_J165 oo k102v U165 t165_0 v165_1 v165_2) : w_types_J165 (fun u => oo = .inl u) (fun u => oo = .inr u) k102 U165 t165_0 v165_1 v165_2 := by
  unfold v_types_J165 at h
  unfold w_types_J165
  rcases h with ⟨q9, z9, h⟩ | ⟨q9, z9, h⟩
  · refine ⟨_, _, vw_must z9, ?_, ?_⟩
    · intro q8 d9
      injection d9 with d9
      subst d9
      obtain ⟨v9, e9, h⟩ := h
      intro x9 d9
      have c9 : v9 = x9 := e9.trans d9.symm
      subst c9
      exact hk102 _ _ h
    · intro q8 d9
      exact nomatch d9
  · refine ⟨_, _, vw_must z9, ?_, ?_⟩
    · intro q8 d9
      exact nomatch d9
    · intro q8 d9
      injection d9 with d9
      subst d9
      exact h
set_option maxRecDepth 100000 in
theorem vz_types_J165 {oo : MS ⊕ MS} {Q : MS → Prop} {E : MS → Prop} {k102 k102v : MS → Int32 → Prop} {U165 : MS} {t165_0 : Int32} {v165_1 : Int32} {v165_2 : Int32} (hk102 : ∀ (u : MS) (z0 : Int32), k102v u z0 → k102 u z0 → oV Q E oo) (h : v_types_J165 oo k102v U165 t165_0 v165_1 v165_2) (w : w_types_J165 Q E k102 U165 t165_0 v165_1 v165_2) : oV Q E oo := by
  unfold v_types_J165 at h
  unfold w_types_J165 at w
  obtain ⟨Q9, E9, w0, w⟩ := w
  rcases h with ⟨q9, z9, h⟩ | ⟨q9, z9, h⟩
  · replace w := w.1 q9 (vz_must z9 w0)
    obtain ⟨v9, e9, h⟩ := h
    replace w := w v9 e9
    exact hk102 _ _ h w
  · replace w := w.2 q9 (vz_must z9 w0)
    rw [h]
    exact w
set_option maxRecDepth 100000 in
theorem vw_types_J164 {oo : MS ⊕ MS} {k102 k102v : MS → Int32 → Prop} {U164 : MS} {v164_1 : Int32} {v164_2 : Int32} (hk102 : ∀ (u : MS) (z0 : Int32), k102v u z0 → k102 u z0) (h : v_types_J164 oo k102v U164 v164_1 v164_2) : w_types_J164 (fun u => oo = .inl u) (fun u => oo = .inr u) k102 U164 v164_1 v164_2 := by
  unfold v_types_J164 at h
  unfold w_types_J164
  exact vw_types_J165 hk102 h
set_option maxRecDepth 100000 in
theorem vz_types_J164 {oo : MS ⊕ MS} {Q : MS → Prop} {E : MS → Prop} {k102 k102v : MS → Int32 → Prop} {U164 : MS} {v164_1 : Int32} {v164_2 : Int32} (hk102 : ∀ (u : MS) (z0 : Int32), k102v u z0 → k102 u z0 → oV Q E oo) (h : v_types_J164 oo k102v U164 v164_1 v164_2) (w : w_types_J164 Q E k102 U164 v164_1 v164_2) : oV Q E oo := by
  unfold v_types_J164 at h
  unfold w_types_J164 at w
  exact vz_types_J165 hk102 h w
set_option maxRecDepth 100000 in
theorem vw_types_J94 {oo : MS ⊕ MS} {k2 k2v : MS → Int32 → Prop} {U94 : MS} {v94_1 : Int32} (hk2 : ∀ (u : MS) (z0 : Int32), k2v u z0 → k2 u z0) (h : v_types_J94 oo k2v U94 v94_1) : w_types_J94 (fun u => oo = .inl u) (fun u => oo = .inr u) k2 U94 v94_1 := by
  unfold v_types_J94 at h
  unfold w_types_J94
  obtain ⟨v9, e9, h⟩ := h
  intro x9 d9
  have c9 : v9 = x9 := e9.trans d9.symm
  subst c9
  exact hk2 _ _ h
set_option maxRecDepth 100000 in
theorem vz_types_J94 {oo : MS ⊕ MS} {Q : MS → Prop} {E : MS → Prop} {k2 k2v : MS → Int32 → Prop} {U94 : MS} {v94_1 : Int32} (hk2 : ∀ (u : MS) (z0 : Int32), k2v u z0 → k2 u z0 → oV Q E oo) (h : v_types_J94 oo k2v U94 v94_1) (w : w_types_J94 Q E k2 U94 v94_1) : oV Q E oo := by
  unfold v_types_J94 at h
  unfold w_types_J94 at w
  obtain ⟨v9, e9, h⟩ := h
  replace w := w v9 e9
  exact hk2 _ _ h w
set_option maxRecDepth 100000 in
theorem vw_types_J83 {oo : MS ⊕ MS} {k2 k2v : MS → Int32 → Prop} {U83 : MS} {t83_0 : Int32} {v83_1 : Int32} (hk2 : ∀ (u : MS) (z0 : Int32), k2v u z0 → k2 u z0) (h : v_types_J83 oo k2v U83 t83_0 v83_1) : w_types_J83 (fun u => oo = .inl u) (fun u => oo = .inr u) k2 U83 t83_0 v83_1 := by
  unfold v_types_J83 at h
  unfold w_types_J83
  obtain ⟨g9, h⟩ := h
  refine ⟨g9, ?_⟩
  rcases h with ⟨q9, z9, h⟩ | ⟨q9, z9, h⟩
  · refine ⟨_, _, vw_must z9, ?_, ?_⟩
    · intro q8 d9
      injection d9 with d9
      subst d9
      exact vw_types_J94 hk2 h
    · intro q8 d9
      exact nomatch d9
  · refine ⟨_, _, vw_must z9, ?_, ?_⟩
    · intro q8 d9
      exact nomatch d9
    · intro q8 d9
      injection d9 with d9
      subst d9
      exact h
set_option maxRecDepth 100000 in
theorem vz_types_J83 {oo : MS ⊕ MS} {Q : MS → Prop} {E : MS → Prop} {k2 k2v : MS → Int32 → Prop} {U83 : MS} {t83_0 : Int32} {v83_1 : Int32} (hk2 : ∀ (u : MS) (z0 : Int32), k2v u z0 → k2 u z0 → oV Q E oo) (h : v_types_J83 oo k2v U83 t83_0 v83_1) (w : w_types_J83 Q E k2 U83 t83_0 v83_1) : oV Q E oo := by
  unfold v_types_J83 at h
  unfold w_types_J83 at w
  replace h := h.2
  replace w := w.2
  obtain ⟨Q9, E9, w0, w⟩ := w
  rcases h with ⟨q9, z9, h⟩ | ⟨q9, z9, h⟩
  · replace w := w.1 q9 (vz_must z9 w0)
    exact vz_types_J94 hk2 h w
  · replace w := w.2 q9 (vz_must z9 w0)
    rw [h]
    exact w
set_option maxRecDepth 100000 in
theorem vw_types_J48 {oo : MS ⊕ MS} {k2 k2v : MS → Int32 → Prop} {U48 : MS} {v48_1 : Int32} (hk2 : ∀ (u : MS) (z0 : Int32), k2v u z0 → k2 u z0) (h : v_types_J48 oo k2v U48 v48_1) : w_types_J48 (fun u => oo = .inl u) (fun u => oo = .inr u) k2 U48 v48_1 := by
  unfold v_types_J48 at h
  unfold w_types_J48
  obtain ⟨g9, h⟩ := h
  refine ⟨g9, ?_⟩
  rcases h with ⟨c, h⟩ | ⟨c, h⟩
  · refine ⟨fun _ => ?_, fun c2 => absurd c c2⟩
    obtain ⟨g9, h⟩ := h
    refine ⟨g9, ?_⟩
    obtain ⟨g9, h⟩ := h
    refine ⟨g9, ?_⟩
    obtain ⟨p9, q9, z9, h⟩ := h
    refine ⟨_, vw_parameterPlaces z9, ?_⟩
    rintro p8 q8 ⟨d8, d9⟩
    subst d8
    subst d9
    rcases h with ⟨c, h⟩ | ⟨c, h⟩
    · refine ⟨fun _ => ?_, fun c2 => absurd c c2⟩
      exact vw_types_J83 hk2 h
    · refine ⟨fun c2 => absurd c2 c, fun _ => ?_⟩
      exact vw_types_J83 hk2 h
  · refine ⟨fun c2 => absurd c2 c, fun _ => ?_⟩
    exact vw_types_J94 hk2 h
set_option maxRecDepth 100000 in
theorem vz_types_J48 {oo : MS ⊕ MS} {Q : MS → Prop} {E : MS → Prop} {k2 k2v : MS → Int32 → Prop} {U48 : MS} {v48_1 : Int32} (hk2 : ∀ (u : MS) (z0 : Int32), k2v u z0 → k2 u z0 → oV Q E oo) (h : v_types_J48 oo k2v U48 v48_1) (w : w_types_J48 Q E k2 U48 v48_1) : oV Q E oo := by
  unfold v_types_J48 at h
  unfold w_types_J48 at w
  replace h := h.2
  replace w := w.2
  rcases h with ⟨c, h⟩ | ⟨c, h⟩
  · replace w := w.1 c
    replace h := h.2
    replace w := w.2
    replace h := h.2
    replace w := w.2
    obtain ⟨p9, q9, z9, h⟩ := h
    obtain ⟨Q9, w0, w⟩ := w
    replace w := w p9 q9 (vz_parameterPlaces z9 w0)
    rcases h with ⟨c, h⟩ | ⟨c, h⟩
    · replace w := w.1 c
      exact vz_types_J83 hk2 h w
    · replace w := w.2 c
      exact vz_types_J83 hk2 h w
  · replace w := w.2 c
    exact vz_types_J94 hk2 h w
set_option maxRecDepth 100000 in
theorem vw_types_L102 {oo : MS ⊕ MS} : ∀ (n : Nat) {U102 : MS} {v102_1 : Int32}, v_types_L102 oo n U102 v102_1 → w_types_L102 (fun u => oo = .inl u) (fun u => oo = .inr u) n U102 v102_1 := by
  intro n
  induction n with
  | zero => intro U102 v102_1 h; unfold v_types_L102 at h; exact h.elim
  | succ n ih =>
    intro U102 v102_1 h
    unfold v_types_L102 at h
    unfold w_types_L102
    rcases h with ⟨c, h⟩ | ⟨c, h⟩
    · refine ⟨fun _ => ?_, fun c2 => absurd c c2⟩
      exact h
    · refine ⟨fun c2 => absurd c2 c, fun _ => ?_⟩
      obtain ⟨g9, h⟩ := h
      refine ⟨g9, ?_⟩
      obtain ⟨v9, e9, h⟩ := h
      intro x9 d9
      have c9 : v9 = x9 := e9.trans d9.symm
      subst c9
      obtain ⟨g9, h⟩ := h
      refine ⟨g9, ?_⟩
      obtain ⟨p9, q9, z9, h⟩ := h
      refine ⟨_, vw_parameterPlaces z9, ?_⟩
      rintro p8 q8 ⟨d8, d9⟩
      subst d8
      subst d9
      rcases h with ⟨c, h⟩ | ⟨c, h⟩
      · refine ⟨fun _ => ?_, fun c2 => absurd c c2⟩
        rcases h with ⟨c, h⟩ | ⟨c, h⟩
        · refine ⟨fun _ => ?_, fun c2 => absurd c c2⟩
          exact vw_types_J164 (fun _ _ h => ih h) h
        · refine ⟨fun c2 => absurd c2 c, fun _ => ?_⟩
          rcases h with ⟨c, h⟩ | ⟨c, h⟩
          · refine ⟨fun _ => ?_, fun c2 => absurd c c2⟩
            exact vw_types_J164 (fun _ _ h => ih h) h
          · refine ⟨fun c2 => absurd c2 c, fun _ => ?_⟩
            exact vw_types_J165 (fun _ _ h => ih h) h
      · refine ⟨fun c2 => absurd c2 c, fun _ => ?_⟩
        obtain ⟨g9, h⟩ := h
        refine ⟨g9, ?_⟩
        obtain ⟨g9, h⟩ := h
        refine ⟨g9, ?_⟩
        exact vw_types_J165 (fun _ _ h => ih h) h
set_option maxRecDepth 100000 in
theorem vz_types_L102 {oo : MS ⊕ MS} {Q : MS → Prop} {E : MS → Prop} : ∀ (n m : Nat) {U102 : MS} {v102_1 : Int32}, v_types_L102 oo n U102 v102_1 → w_types_L102 Q E m U102 v102_1 → oV Q E oo := by
  intro n
  induction n with
  | zero => intro m U102 v102_1 h; unfold v_types_L102 at h; exact h.elim
  | succ n ih =>
    intro m U102 v102_1 h w
    cases m with
    | zero => unfold w_types_L102 at w; exact w.elim
    | succ m =>
      unfold v_types_L102 at h
      unfold w_types_L102 at w
      rcases h with ⟨c, h⟩ | ⟨c, h⟩
      · replace w := w.1 c
        rw [h]
        exact w
      · replace w := w.2 c
        replace h := h.2
        replace w := w.2
        obtain ⟨v9, e9, h⟩ := h
        replace w := w v9 e9
        replace h := h.2
        replace w := w.2
        obtain ⟨p9, q9, z9, h⟩ := h
        obtain ⟨Q9, w0, w⟩ := w
        replace w := w p9 q9 (vz_parameterPlaces z9 w0)
        rcases h with ⟨c, h⟩ | ⟨c, h⟩
        · replace w := w.1 c
          rcases h with ⟨c, h⟩ | ⟨c, h⟩
          · replace w := w.1 c
            exact vz_types_J164 (fun _ _ h w => ih m h w) h w
          · replace w := w.2 c
            rcases h with ⟨c, h⟩ | ⟨c, h⟩
            · replace w := w.1 c
              exact vz_types_J164 (fun _ _ h w => ih m h w) h w
            · replace w := w.2 c
              exact vz_types_J165 (fun _ _ h w => ih m h w) h w
        · replace w := w.2 c
          replace h := h.2
          replace w := w.2
          replace h := h.2
          replace w := w.2
          exact vz_types_J165 (fun _ _ h w => ih m h w) h w
set_option maxRecDepth 100000 in
theorem vw_types_L2 {oo : MS ⊕ MS} : ∀ (n : Nat) {U2 : MS} {v2_1 : Int32}, v_types_L2 oo n U2 v2_1 → w_types_L2 (fun u => oo = .inl u) (fun u => oo = .inr u) n U2 v2_1 := by
  intro n
  induction n with
  | zero => intro U2 v2_1 h; unfold v_types_L2 at h; exact h.elim
  | succ n ih =>
    intro U2 v2_1 h
    unfold v_types_L2 at h
    unfold w_types_L2
    rcases h with ⟨c, h⟩ | ⟨c, h⟩
    · refine ⟨fun _ => ?_, fun c2 => absurd c c2⟩
      obtain ⟨n9, h⟩ := h
      exact ⟨n9, vw_types_L102 n9 h⟩
    · refine ⟨fun c2 => absurd c2 c, fun _ => ?_⟩
      obtain ⟨g9, h⟩ := h
      refine ⟨g9, ?_⟩
      rcases h with ⟨c, h⟩ | ⟨c, h⟩
      · refine ⟨fun _ => ?_, fun c2 => absurd c c2⟩
        obtain ⟨g9, h⟩ := h
        refine ⟨g9, ?_⟩
        obtain ⟨g9, h⟩ := h
        refine ⟨g9, ?_⟩
        obtain ⟨g9, h⟩ := h
        refine ⟨g9, ?_⟩
        obtain ⟨g9, h⟩ := h
        refine ⟨g9, ?_⟩
        rcases h with ⟨q9, z9, h⟩ | ⟨q9, z9, h⟩
        · refine ⟨_, _, vw_must z9, ?_, ?_⟩
          · intro q8 d9
            injection d9 with d9
            subst d9
            exact vw_types_J48 (fun _ _ h => ih h) h
          · intro q8 d9
            exact nomatch d9
        · refine ⟨_, _, vw_must z9, ?_, ?_⟩
          · intro q8 d9
            exact nomatch d9
          · intro q8 d9
            injection d9 with d9
            subst d9
            exact h
      · refine ⟨fun c2 => absurd c2 c, fun _ => ?_⟩
        exact vw_types_J48 (fun _ _ h => ih h) h
set_option maxRecDepth 100000 in
theorem vz_types_L2 {oo : MS ⊕ MS} {Q : MS → Prop} {E : MS → Prop} : ∀ (n m : Nat) {U2 : MS} {v2_1 : Int32}, v_types_L2 oo n U2 v2_1 → w_types_L2 Q E m U2 v2_1 → oV Q E oo := by
  intro n
  induction n with
  | zero => intro m U2 v2_1 h; unfold v_types_L2 at h; exact h.elim
  | succ n ih =>
    intro m U2 v2_1 h w
    cases m with
    | zero => unfold w_types_L2 at w; exact w.elim
    | succ m =>
      unfold v_types_L2 at h
      unfold w_types_L2 at w
      rcases h with ⟨c, h⟩ | ⟨c, h⟩
      · replace w := w.1 c
        obtain ⟨n9, h⟩ := h
        obtain ⟨n8, w⟩ := w
        exact vz_types_L102 n9 n8 h w
      · replace w := w.2 c
        replace h := h.2
        replace w := w.2
        rcases h with ⟨c, h⟩ | ⟨c, h⟩
        · replace w := w.1 c
          replace h := h.2
          replace w := w.2
          replace h := h.2
          replace w := w.2
          replace h := h.2
          replace w := w.2
          replace h := h.2
          replace w := w.2
          obtain ⟨Q9, E9, w0, w⟩ := w
          rcases h with ⟨q9, z9, h⟩ | ⟨q9, z9, h⟩
          · replace w := w.1 q9 (vz_must z9 w0)
            exact vz_types_J48 (fun _ _ h w => ih m h w) h w
          · replace w := w.2 q9 (vz_must z9 w0)
            rw [h]
            exact w
        · replace w := w.2 c
          exact vz_types_J48 (fun _ _ h w => ih m h w) h w
set_option maxRecDepth 100000 in
theorem vw_types {S : MS} {oo : MS ⊕ MS} (h : v_types S oo) : w_types S (fun u => oo = .inl u) (fun u => oo = .inr u) := by
  unfold v_types at h
  unfold w_types
  obtain ⟨n9, h⟩ := h
  exact ⟨n9, vw_types_L2 n9 h⟩
set_option maxRecDepth 100000 in
theorem vz_types {S : MS} {oo : MS ⊕ MS} {Q : MS → Prop} {E : MS → Prop} (h : v_types S oo) (w : w_types S Q E) : oV Q E oo := by
  unfold v_types at h
  unfold w_types at w
  obtain ⟨n9, h⟩ := h
  obtain ⟨n8, w⟩ := w
  exact vz_types_L2 n9 n8 h w
def v_readFile_L330 (oo : (Nat × MS) ⊕ MS) : Nat → MS → Int32 → Nat → Int32 → Prop
  | 0, _, _, _, _ => False
  | n330 + 1, U330, v330_3, v330_4, v330_5 => ((v330_3.toInt ≤ v330_5.toInt ∧ (∃ (b84 : Nat) (S81 : MS), v_firstInts U330 19 ((3 : Int32) * (qI U330 0 41)) b84 S81 ∧ (∃ S85 : MS, S85 = wR S81 v330_4 18 (some b84) ∧ (∃ (b91 : Nat) (S88 : MS), v_firstInts S85 20 (qI S85 0 43) b91 S88 ∧ (∃ S92 : MS, S92 = wR S88 v330_4 19 (some b91) ∧ (∃ (b99 : Nat) (S96 : MS), v_firstInts S92 21 ((4 : Int32) * (qI S92 0 45)) b99 S96 ∧ (∃ S100 : MS, S100 = wR S96 v330_4 20 (some b99) ∧ (oo = .inl (v330_4, S100))))))))) ∨ (¬ v330_3.toInt ≤ v330_5.toInt ∧ ((qR U330 v330_4 8 = some (qO U330 v330_4 8)) ∧ (((0 : Int) ≤ ((qI U330 0 22) + v330_5).toInt ∧ ((qI U330 0 22) + v330_5).toInt < 48) ∧ (d_two U330 ((qI U330 9 ((((qI U330 0 22) + v330_5).toInt).toNat)) + (2 : Int32)) ∧ (∃ (b115 : Nat) (S112 : MS), v_text U330 (f_two U330 ((qI U330 9 ((((qI U330 0 22) + v330_5).toInt).toNat)) + (2 : Int32))) b115 S112 ∧ (((0 : Int) ≤ v330_5.toInt ∧ v330_5.toInt < (qN S112 (qO U330 v330_4 8) : Int)) ∧ (∃ S117 : MS, S117 = wR S112 (qO U330 v330_4 8) v330_5.toInt.toNat (some b115) ∧ (((0 : Int) ≤ ((qI S117 0 22) + v330_5).toInt ∧ ((qI S117 0 22) + v330_5).toInt < 48) ∧ (d_two S117 ((qI S117 9 ((((qI S117 0 22) + v330_5).toInt).toNat)) + (4 : Int32)) ∧ (∃ (b130 : Nat) (S127 : MS), v_text S117 (f_two S117 ((qI S117 9 ((((qI S117 0 22) + v330_5).toInt).toNat)) + (4 : Int32))) b130 S127 ∧ ((qR S127 v330_4 9 = some (qO S127 v330_4 9)) ∧ (((0 : Int) ≤ v330_5.toInt ∧ v330_5.toInt < (qN S127 (qO S127 v330_4 9) : Int)) ∧ (∃ S134 : MS, S134 = wR S127 (qO S127 v330_4 9) v330_5.toInt.toNat (some b130) ∧ ((qR S134 v330_4 10 = some (qO S134 v330_4 10)) ∧ (∃ (b142 : Nat) (S139 : MS), v_letters S134 b130 (1 : Int32) b142 S139 ∧ (((0 : Int) ≤ v330_5.toInt ∧ v330_5.toInt < (qN S139 (qO S134 v330_4 10) : Int)) ∧ (∃ S144 : MS, S144 = wR S139 (qO S134 v330_4 10) v330_5.toInt.toNat (some b142) ∧ ((qR S144 v330_4 11 = some (qO S144 v330_4 11)) ∧ (∃ (r148 : Int32) (S149 : MS), v_closing S144 b130 r148 S149 ∧ (∃ (b157 : Nat) (S154 : MS), v_letters S149 b130 (r148 + (1 : Int32)) b157 S154 ∧ (((0 : Int) ≤ v330_5.toInt ∧ v330_5.toInt < (qN S154 (qO S144 v330_4 11) : Int)) ∧ (∃ S159 : MS, S159 = wR S154 (qO S144 v330_4 11) v330_5.toInt.toNat (some b157) ∧ ((qR S159 v330_4 12 = some (qO S159 v330_4 12)) ∧ (((0 : Int) ≤ v330_5.toInt ∧ v330_5.toInt < 24) ∧ (((0 : Int) ≤ v330_5.toInt ∧ v330_5.toInt < (qN S159 (qO S159 v330_4 12) : Int)) ∧ (∃ S165 : MS, S165 = wI S159 (qO S159 v330_4 12) v330_5.toInt.toNat (qI S159 12 v330_5.toInt.toNat) ∧ ((qR S165 v330_4 13 = some (qO S165 v330_4 13)) ∧ (((0 : Int) ≤ v330_5.toInt ∧ v330_5.toInt < 24) ∧ (((0 : Int) ≤ v330_5.toInt ∧ v330_5.toInt < (qN S165 (qO S165 v330_4 13) : Int)) ∧ (∃ S171 : MS, S171 = wI S165 (qO S165 v330_4 13) v330_5.toInt.toNat (qI S165 13 v330_5.toInt.toNat) ∧ (∃ a172 : Int32, a172 = (v330_5 + Int32.ofInt 1) ∧ ((v_readFile_L330 oo n330) S171 v330_3 v330_4 a172)))))))))))))))))))))))))))))))))
def v_readFile_L242 (oo : (Nat × MS) ⊕ MS) : Nat → MS → Int32 → Nat → Int32 → Prop
  | 0, _, _, _, _ => False
  | n242 + 1, U242, v242_3, v242_4, v242_5 => (((qI U242 0 22).toInt ≤ v242_5.toInt ∧ (∃ n, v_readFile_L330 oo n U242 v242_3 v242_4 0)) ∨ (¬ (qI U242 0 22).toInt ≤ v242_5.toInt ∧ ((qR U242 v242_4 5 = some (qO U242 v242_4 5)) ∧ (((0 : Int) ≤ v242_5.toInt ∧ v242_5.toInt < 48) ∧ (d_two U242 ((qI U242 9 v242_5.toInt.toNat) + (2 : Int32)) ∧ (∃ (b186 : Nat) (S183 : MS), v_text U242 (f_two U242 ((qI U242 9 v242_5.toInt.toNat) + (2 : Int32))) b186 S183 ∧ (((0 : Int) ≤ v242_5.toInt ∧ v242_5.toInt < (qN S183 (qO U242 v242_4 5) : Int)) ∧ (∃ S188 : MS, S188 = wR S183 (qO U242 v242_4 5) v242_5.toInt.toNat (some b186) ∧ ((qR S188 v242_4 6 = some (qO S188 v242_4 6)) ∧ (((0 : Int) ≤ v242_5.toInt ∧ v242_5.toInt < 48) ∧ (d_two S188 ((qI S188 9 v242_5.toInt.toNat) + (4 : Int32)) ∧ (∃ (b202 : Nat) (S199 : MS), v_text S188 (f_two S188 ((qI S188 9 v242_5.toInt.toNat) + (4 : Int32))) b202 S199 ∧ (((0 : Int) ≤ v242_5.toInt ∧ v242_5.toInt < (qN S199 (qO S188 v242_4 6) : Int)) ∧ (∃ S204 : MS, S204 = wR S199 (qO S188 v242_4 6) v242_5.toInt.toNat (some b202) ∧ ((qR S204 v242_4 7 = some (qO S204 v242_4 7)) ∧ ((qR S204 v242_4 6 = some (qO S204 v242_4 6)) ∧ (((0 : Int) ≤ v242_5.toInt ∧ v242_5.toInt < (qN S204 (qO S204 v242_4 6) : Int)) ∧ ((qR S204 (qO S204 v242_4 6) v242_5.toInt.toNat = some (qO S204 (qO S204 v242_4 6) v242_5.toInt.toNat)) ∧ (∃ (b217 : Nat) (S214 : MS), v_letters S204 (qO S204 (qO S204 v242_4 6) v242_5.toInt.toNat) (0 : Int32) b217 S214 ∧ (((0 : Int) ≤ v242_5.toInt ∧ v242_5.toInt < (qN S214 (qO S204 v242_4 7) : Int)) ∧ (∃ S219 : MS, S219 = wR S214 (qO S204 v242_4 7) v242_5.toInt.toNat (some b217) ∧ (∃ a220 : Int32, a220 = (v242_5 + Int32.ofInt 1) ∧ ((v_readFile_L242 oo n242) S219 v242_3 v242_4 a220)))))))))))))))))))))))
def v_readFile_L147 (oo : (Nat × MS) ⊕ MS) : Nat → MS → Int32 → Nat → Int32 → Prop
  | 0, _, _, _, _ => False
  | n147 + 1, U147, v147_3, v147_4, v147_5 => ((v147_3.toInt ≤ v147_5.toInt ∧ (d_two U147 ((qI U147 0 20) + (2 : Int32)) ∧ (((0 : Int) ≤ (f_two U147 ((qI U147 0 20) + (2 : Int32))).toInt ∧ (f_two U147 ((qI U147 0 20) + (2 : Int32))).toInt < 502) ∧ (∃ (b58 : Nat) (S55 : MS), v_text U147 (qI U147 6 (((f_two U147 ((qI U147 0 20) + (2 : Int32))).toInt).toNat)) b58 S55 ∧ (∃ S59 : MS, S59 = wR S55 v147_4 0 (some b58) ∧ (d_two S59 ((qI S59 0 20) + (4 : Int32)) ∧ (((0 : Int) ≤ (f_two S59 ((qI S59 0 20) + (4 : Int32))).toInt ∧ (f_two S59 ((qI S59 0 20) + (4 : Int32))).toInt < 502) ∧ (∃ (b71 : Nat) (S68 : MS), v_text S59 (qI S59 6 (((f_two S59 ((qI S59 0 20) + (4 : Int32))).toInt).toNat)) b71 S68 ∧ (∃ S72 : MS, S72 = wR S68 v147_4 1 (some b71) ∧ (∃ S73 : MS, S73 = wI S72 v147_4 2 (qI S72 0 14) ∧ (∃ S74 : MS, S74 = wI S73 v147_4 3 (qI S73 0 22) ∧ (∃ S75 : MS, S75 = wI S74 v147_4 4 v147_3 ∧ (∃ n, v_readFile_L242 oo n S75 v147_3 v147_4 0))))))))))))) ∨ (¬ v147_3.toInt ≤ v147_5.toInt ∧ ((∃ (S222 : MS), v_pointing U147 v147_5 v147_4 (.inl S222) ∧ (∃ a224 : Int32, a224 = (v147_5 + Int32.ofInt 1) ∧ ((v_readFile_L147 oo n147) S222 v147_3 v147_4 a224))) ∨ (∃ u9 : MS, v_pointing U147 v147_5 v147_4 (.inr u9) ∧ (oo = .inr u9)))))
def v_readFile_L102 (oo : (Nat × MS) ⊕ MS) : Nat → MS → Int32 → Int32 → Prop
  | 0, _, _, _ => False
  | n102 + 1, U102, v102_3, v102_4 => ((v102_3.toInt ≤ v102_4.toInt ∧ (∃ S34 : MS, S34 = wI U102 0 41 0 ∧ (∃ S35 : MS, S35 = wI S34 0 43 0 ∧ (∃ S36 : MS, S36 = wI S35 0 45 0 ∧ ((qn S36 + 1 ≤ KC ∧ qu S36 + 23 ≤ KS) ∧ (∃ S40 : MS, S40 = wN S36 11 0 23 ∧ (∃ (S43 : MS), v_init S40 (qn S36) S43 ∧ (∃ n, v_readFile_L147 oo n S43 v102_3 (qn S36) 0)))))))) ∨ (¬ v102_3.toInt ≤ v102_4.toInt ∧ ((∃ (S226 : MS), v_wholes U102 v102_4 (.inl S226) ∧ (∃ a228 : Int32, a228 = (v102_4 + Int32.ofInt 1) ∧ ((v_readFile_L102 oo n102) S226 v102_3 a228))) ∨ (∃ u9 : MS, v_wholes U102 v102_4 (.inr u9) ∧ (oo = .inr u9)))))
def v_readFile_L81 (oo : (Nat × MS) ⊕ MS) : Nat → MS → Int32 → Int32 → Prop
  | 0, _, _, _ => False
  | n81 + 1, U81, v81_3, v81_4 => ((v81_3.toInt ≤ v81_4.toInt ∧ (∃ n, v_readFile_L102 oo n U81 v81_3 0)) ∨ (¬ v81_3.toInt ≤ v81_4.toInt ∧ ((∃ (S230 : MS), v_codeItems U81 v81_4 (.inl S230) ∧ (∃ a232 : Int32, a232 = (v81_4 + Int32.ofInt 1) ∧ ((v_readFile_L81 oo n81) S230 v81_3 a232))) ∨ (∃ u9 : MS, v_codeItems U81 v81_4 (.inr u9) ∧ (oo = .inr u9)))))
def v_readFile_J59 (oo : (Nat × MS) ⊕ MS) (U59 : MS) (t59_0 : Int32) : Prop := ((∃ (S28 : MS), v_must U59 t59_0 (17 : Int32) (qI U59 0 28) (.inl S28) ∧ (∃ a31 : Int32, a31 = ((qI S28 0 21) - (qI S28 0 22)) ∧ (∃ n, v_readFile_L81 oo n S28 a31 0))) ∨ (∃ u9 : MS, v_must U59 t59_0 (17 : Int32) (qI U59 0 28) (.inr u9) ∧ (oo = .inr u9)))
def v_readFile (S : MS) (p1 : Nat) (x2 : Int32) (oo : (Nat × MS) ⊕ MS) : Prop := (∃ S1 : MS, S1 = wR S 0 11 (some p1) ∧ (∃ S2 : MS, S2 = wI S1 0 12 x2 ∧ ((∃ (S4 : MS), v_layout S2 (.inl S4) ∧ ((∃ (S7 : MS), v_entries S4 (.inl S7) ∧ ((∃ (S10 : MS), v_flags S7 (.inl S10) ∧ ((∃ (S13 : MS), v_classes S10 (.inl S13) ∧ ((∃ (S16 : MS), v_names S13 (.inl S16) ∧ ((∃ (S19 : MS), v_types S16 (.inl S19) ∧ ((∃ (S22 : MS), v_twice S19 (.inl S22) ∧ ((∃ (S25 : MS), v_codes S22 (.inl S25) ∧ (((qI S25 0 28).toInt = (qI S25 0 12).toInt ∧ (v_readFile_J59 oo S25 1)) ∨ (¬ (qI S25 0 28).toInt = (qI S25 0 12).toInt ∧ (v_readFile_J59 oo S25 0)))) ∨ (∃ u9 : MS, v_codes S22 (.inr u9) ∧ (oo = .inr u9)))) ∨ (∃ u9 : MS, v_twice S19 (.inr u9) ∧ (oo = .inr u9)))) ∨ (∃ u9 : MS, v_types S16 (.inr u9) ∧ (oo = .inr u9)))) ∨ (∃ u9 : MS, v_names S13 (.inr u9) ∧ (oo = .inr u9)))) ∨ (∃ u9 : MS, v_classes S10 (.inr u9) ∧ (oo = .inr u9)))) ∨ (∃ u9 : MS, v_flags S7 (.inr u9) ∧ (oo = .inr u9)))) ∨ (∃ u9 : MS, v_entries S4 (.inr u9) ∧ (oo = .inr u9)))) ∨ (∃ u9 : MS, v_layout S2 (.inr u9) ∧ (oo = .inr u9)))))
set_option maxRecDepth 100000 in
theorem ru_readFile_L330 {ι : Type} {P : (Nat × MS) ⊕ MS → Prop} {Q : Nat → MS → Prop} {E : MS → Prop} : ∀ (n : Nat) {U330 : MS} {v330_3 : Int32} {v330_4 : Nat} {v330_5 : Int32} (i0 : ι), (∀ (i : ι) (oo : (Nat × MS) ⊕ MS), (∃ n8, v_readFile_L330 oo n8 U330 v330_3 v330_4 v330_5) → P oo) → w_readFile_L330 Q E n U330 v330_3 v330_4 v330_5 → ∃ oo, P oo ∧ oQ Q E oo := by
  intro n
  induction n with
  | zero => intro U330 v330_3 v330_4 v330_5 i0 K h; unfold w_readFile_L330 at h; exact h.elim
  | succ n ih =>
    intro U330 v330_3 v330_4 v330_5 i0 K h
    unfold w_readFile_L330 at h
    replace K := fun (i : ι × Nat) oo (z : v_readFile_L330 oo (i.2 + 1) U330 v330_3 v330_4 v330_5) => K i.1 oo ⟨i.2 + 1, z⟩
    have i00 := i0
    replace i0 : ι × Nat := (i0, 0)
    by_cases c : v330_3.toInt ≤ v330_5.toInt
    · replace h := h.1 c
      replace K := fun i oo z => K i oo (Or.inl ⟨c, z⟩)
      obtain ⟨Q9, h0, h⟩ := h
      obtain ⟨b84, S81, z9, g9⟩ := ru_firstInts h0
      replace h := h b84 S81 g9
      replace K := fun i oo z => K i oo ⟨b84, S81, z9, z⟩
      obtain ⟨S85, eS85⟩ : ∃ x9 : MS, x9 = wR S81 v330_4 18 (some b84) := ⟨_, rfl⟩
      replace h := h S85 eS85
      replace K := fun i oo z => K i oo ⟨S85, eS85, z⟩
      obtain ⟨Q9, h0, h⟩ := h
      obtain ⟨b91, S88, z9, g9⟩ := ru_firstInts h0
      replace h := h b91 S88 g9
      replace K := fun i oo z => K i oo ⟨b91, S88, z9, z⟩
      obtain ⟨S92, eS92⟩ : ∃ x9 : MS, x9 = wR S88 v330_4 19 (some b91) := ⟨_, rfl⟩
      replace h := h S92 eS92
      replace K := fun i oo z => K i oo ⟨S92, eS92, z⟩
      obtain ⟨Q9, h0, h⟩ := h
      obtain ⟨b99, S96, z9, g9⟩ := ru_firstInts h0
      replace h := h b99 S96 g9
      replace K := fun i oo z => K i oo ⟨b99, S96, z9, z⟩
      obtain ⟨S100, eS100⟩ : ∃ x9 : MS, x9 = wR S96 v330_4 20 (some b99) := ⟨_, rfl⟩
      replace h := h S100 eS100
      replace K := fun i oo z => K i oo ⟨S100, eS100, z⟩
      exact ⟨.inl (_, _), K i0 _ rfl, h⟩
    · replace h := h.2 c
      replace K := fun i oo z => K i oo (Or.inr ⟨c, z⟩)
      obtain ⟨g1_, h⟩ := h
      replace K := fun i oo z => K i oo ⟨g1_, z⟩
      obtain ⟨g2_, h⟩ := h
      replace K := fun i oo z => K i oo ⟨g2_, z⟩
      obtain ⟨g3_, h⟩ := h
      replace K := fun i oo z => K i oo ⟨g3_, z⟩
      obtain ⟨Q9, h0, h⟩ := h
      obtain ⟨b115, S112, z9, g9⟩ := ru_text h0
      replace h := h b115 S112 g9
      replace K := fun i oo z => K i oo ⟨b115, S112, z9, z⟩
      obtain ⟨g4_, h⟩ := h
      replace K := fun i oo z => K i oo ⟨g4_, z⟩
      obtain ⟨S117, eS117⟩ : ∃ x9 : MS, x9 = wR S112 (qO U330 v330_4 8) v330_5.toInt.toNat (some b115) := ⟨_, rfl⟩
      replace h := h S117 eS117
      replace K := fun i oo z => K i oo ⟨S117, eS117, z⟩
      obtain ⟨g5_, h⟩ := h
      replace K := fun i oo z => K i oo ⟨g5_, z⟩
      obtain ⟨g6_, h⟩ := h
      replace K := fun i oo z => K i oo ⟨g6_, z⟩
      obtain ⟨Q9, h0, h⟩ := h
      obtain ⟨b130, S127, z9, g9⟩ := ru_text h0
      replace h := h b130 S127 g9
      replace K := fun i oo z => K i oo ⟨b130, S127, z9, z⟩
      obtain ⟨g7_, h⟩ := h
      replace K := fun i oo z => K i oo ⟨g7_, z⟩
      obtain ⟨g8_, h⟩ := h
      replace K := fun i oo z => K i oo ⟨g8_, z⟩
      obtain ⟨S134, eS134⟩ : ∃ x9 : MS, x9 = wR S127 (qO S127 v330_4 9) v330_5.toInt.toNat (some b130) := ⟨_, rfl⟩
      replace h := h S134 eS134
      replace K := fun i oo z => K i oo ⟨S134, eS134, z⟩
      obtain ⟨g9_, h⟩ := h
      replace K := fun i oo z => K i oo ⟨g9_, z⟩
      obtain ⟨Q9, h0, h⟩ := h
      obtain ⟨b142, S139, z9, g9⟩ := ru_letters h0
      replace h := h b142 S139 g9
      replace K := fun i oo z => K i oo ⟨b142, S139, z9, z⟩
      obtain ⟨g10_, h⟩ := h
      replace K := fun i oo z => K i oo ⟨g10_, z⟩
      obtain ⟨S144, eS144⟩ : ∃ x9 : MS, x9 = wR S139 (qO S134 v330_4 10) v330_5.toInt.toNat (some b142) := ⟨_, rfl⟩
      replace h := h S144 eS144
      replace K := fun i oo z => K i oo ⟨S144, eS144, z⟩
      obtain ⟨g11_, h⟩ := h
      replace K := fun i oo z => K i oo ⟨g11_, z⟩
      obtain ⟨Q9, h0, h⟩ := h
      obtain ⟨r148, S149, z9, g9⟩ := ru_closing h0
      replace h := h r148 S149 g9
      replace K := fun i oo z => K i oo ⟨r148, S149, z9, z⟩
      obtain ⟨Q9, h0, h⟩ := h
      obtain ⟨b157, S154, z9, g9⟩ := ru_letters h0
      replace h := h b157 S154 g9
      replace K := fun i oo z => K i oo ⟨b157, S154, z9, z⟩
      obtain ⟨g12_, h⟩ := h
      replace K := fun i oo z => K i oo ⟨g12_, z⟩
      obtain ⟨S159, eS159⟩ : ∃ x9 : MS, x9 = wR S154 (qO S144 v330_4 11) v330_5.toInt.toNat (some b157) := ⟨_, rfl⟩
      replace h := h S159 eS159
      replace K := fun i oo z => K i oo ⟨S159, eS159, z⟩
      obtain ⟨g13_, h⟩ := h
      replace K := fun i oo z => K i oo ⟨g13_, z⟩
      obtain ⟨g14_, h⟩ := h
      replace K := fun i oo z => K i oo ⟨g14_, z⟩
      obtain ⟨g15_, h⟩ := h
      replace K := fun i oo z => K i oo ⟨g15_, z⟩
      obtain ⟨S165, eS165⟩ : ∃ x9 : MS, x9 = wI S159 (qO S159 v330_4 12) v330_5.toInt.toNat (qI S159 12 v330_5.toInt.toNat) := ⟨_, rfl⟩
      replace h := h S165 eS165
      replace K := fun i oo z => K i oo ⟨S165, eS165, z⟩
      obtain ⟨g16_, h⟩ := h
      replace K := fun i oo z => K i oo ⟨g16_, z⟩
      obtain ⟨g17_, h⟩ := h
      replace K := fun i oo z => K i oo ⟨g17_, z⟩
      obtain ⟨g18_, h⟩ := h
      replace K := fun i oo z => K i oo ⟨g18_, z⟩
      obtain ⟨S171, eS171⟩ : ∃ x9 : MS, x9 = wI S165 (qO S165 v330_4 13) v330_5.toInt.toNat (qI S165 13 v330_5.toInt.toNat) := ⟨_, rfl⟩
      replace h := h S171 eS171
      replace K := fun i oo z => K i oo ⟨S171, eS171, z⟩
      obtain ⟨a172, ea172⟩ : ∃ x9 : Int32, x9 = (v330_5 + Int32.ofInt 1) := ⟨_, rfl⟩
      replace h := h a172 ea172
      replace K := fun i oo z => K i oo ⟨a172, ea172, z⟩
      exact ih i00 (fun i oo ⟨n8, z⟩ => K (i, n8) oo z) h
set_option maxRecDepth 100000 in
theorem ru_readFile_L242 {ι : Type} {P : (Nat × MS) ⊕ MS → Prop} {Q : Nat → MS → Prop} {E : MS → Prop} : ∀ (n : Nat) {U242 : MS} {v242_3 : Int32} {v242_4 : Nat} {v242_5 : Int32} (i0 : ι), (∀ (i : ι) (oo : (Nat × MS) ⊕ MS), (∃ n8, v_readFile_L242 oo n8 U242 v242_3 v242_4 v242_5) → P oo) → w_readFile_L242 Q E n U242 v242_3 v242_4 v242_5 → ∃ oo, P oo ∧ oQ Q E oo := by
  intro n
  induction n with
  | zero => intro U242 v242_3 v242_4 v242_5 i0 K h; unfold w_readFile_L242 at h; exact h.elim
  | succ n ih =>
    intro U242 v242_3 v242_4 v242_5 i0 K h
    unfold w_readFile_L242 at h
    replace K := fun (i : ι × Nat) oo (z : v_readFile_L242 oo (i.2 + 1) U242 v242_3 v242_4 v242_5) => K i.1 oo ⟨i.2 + 1, z⟩
    have i00 := i0
    replace i0 : ι × Nat := (i0, 0)
    by_cases c : (qI U242 0 22).toInt ≤ v242_5.toInt
    · replace h := h.1 c
      replace K := fun i oo z => K i oo (Or.inl ⟨c, z⟩)
      obtain ⟨n9, h⟩ := h
      exact ru_readFile_L330 n9 i0 K h
    · replace h := h.2 c
      replace K := fun i oo z => K i oo (Or.inr ⟨c, z⟩)
      obtain ⟨g19_, h⟩ := h
      replace K := fun i oo z => K i oo ⟨g19_, z⟩
      obtain ⟨g20_, h⟩ := h
      replace K := fun i oo z => K i oo ⟨g20_, z⟩
      obtain ⟨g21_, h⟩ := h
      replace K := fun i oo z => K i oo ⟨g21_, z⟩
      obtain ⟨Q9, h0, h⟩ := h
      obtain ⟨b186, S183, z9, g9⟩ := ru_text h0
      replace h := h b186 S183 g9
      replace K := fun i oo z => K i oo ⟨b186, S183, z9, z⟩
      obtain ⟨g22_, h⟩ := h
      replace K := fun i oo z => K i oo ⟨g22_, z⟩
      obtain ⟨S188, eS188⟩ : ∃ x9 : MS, x9 = wR S183 (qO U242 v242_4 5) v242_5.toInt.toNat (some b186) := ⟨_, rfl⟩
      replace h := h S188 eS188
      replace K := fun i oo z => K i oo ⟨S188, eS188, z⟩
      obtain ⟨g23_, h⟩ := h
      replace K := fun i oo z => K i oo ⟨g23_, z⟩
      obtain ⟨g24_, h⟩ := h
      replace K := fun i oo z => K i oo ⟨g24_, z⟩
      obtain ⟨g25_, h⟩ := h
      replace K := fun i oo z => K i oo ⟨g25_, z⟩
      obtain ⟨Q9, h0, h⟩ := h
      obtain ⟨b202, S199, z9, g9⟩ := ru_text h0
      replace h := h b202 S199 g9
      replace K := fun i oo z => K i oo ⟨b202, S199, z9, z⟩
      obtain ⟨g26_, h⟩ := h
      replace K := fun i oo z => K i oo ⟨g26_, z⟩
      obtain ⟨S204, eS204⟩ : ∃ x9 : MS, x9 = wR S199 (qO S188 v242_4 6) v242_5.toInt.toNat (some b202) := ⟨_, rfl⟩
      replace h := h S204 eS204
      replace K := fun i oo z => K i oo ⟨S204, eS204, z⟩
      obtain ⟨g27_, h⟩ := h
      replace K := fun i oo z => K i oo ⟨g27_, z⟩
      obtain ⟨g28_, h⟩ := h
      replace K := fun i oo z => K i oo ⟨g28_, z⟩
      obtain ⟨g29_, h⟩ := h
      replace K := fun i oo z => K i oo ⟨g29_, z⟩
      obtain ⟨g30_, h⟩ := h
      replace K := fun i oo z => K i oo ⟨g30_, z⟩
      obtain ⟨Q9, h0, h⟩ := h
      obtain ⟨b217, S214, z9, g9⟩ := ru_letters h0
      replace h := h b217 S214 g9
      replace K := fun i oo z => K i oo ⟨b217, S214, z9, z⟩
      obtain ⟨g31_, h⟩ := h
      replace K := fun i oo z => K i oo ⟨g31_, z⟩
      obtain ⟨S219, eS219⟩ : ∃ x9 : MS, x9 = wR S214 (qO S204 v242_4 7) v242_5.toInt.toNat (some b217) := ⟨_, rfl⟩
      replace h := h S219 eS219
      replace K := fun i oo z => K i oo ⟨S219, eS219, z⟩
      obtain ⟨a220, ea220⟩ : ∃ x9 : Int32, x9 = (v242_5 + Int32.ofInt 1) := ⟨_, rfl⟩
      replace h := h a220 ea220
      replace K := fun i oo z => K i oo ⟨a220, ea220, z⟩
      exact ih i00 (fun i oo ⟨n8, z⟩ => K (i, n8) oo z) h
set_option maxRecDepth 100000 in
theorem ru_readFile_L147 {ι : Type} {P : (Nat × MS) ⊕ MS → Prop} {Q : Nat → MS → Prop} {E : MS → Prop} : ∀ (n : Nat) {U147 : MS} {v147_3 : Int32} {v147_4 : Nat} {v147_5 : Int32} (i0 : ι), (∀ (i : ι) (oo : (Nat × MS) ⊕ MS), (∃ n8, v_readFile_L147 oo n8 U147 v147_3 v147_4 v147_5) → P oo) → w_readFile_L147 Q E n U147 v147_3 v147_4 v147_5 → ∃ oo, P oo ∧ oQ Q E oo := by
  intro n
  induction n with
  | zero => intro U147 v147_3 v147_4 v147_5 i0 K h; unfold w_readFile_L147 at h; exact h.elim
  | succ n ih =>
    intro U147 v147_3 v147_4 v147_5 i0 K h
    unfold w_readFile_L147 at h
    replace K := fun (i : ι × Nat) oo (z : v_readFile_L147 oo (i.2 + 1) U147 v147_3 v147_4 v147_5) => K i.1 oo ⟨i.2 + 1, z⟩
    have i00 := i0
    replace i0 : ι × Nat := (i0, 0)
    by_cases c : v147_3.toInt ≤ v147_5.toInt
    · replace h := h.1 c
      replace K := fun i oo z => K i oo (Or.inl ⟨c, z⟩)
      obtain ⟨g32_, h⟩ := h
      replace K := fun i oo z => K i oo ⟨g32_, z⟩
      obtain ⟨g33_, h⟩ := h
      replace K := fun i oo z => K i oo ⟨g33_, z⟩
      obtain ⟨Q9, h0, h⟩ := h
      obtain ⟨b58, S55, z9, g9⟩ := ru_text h0
      replace h := h b58 S55 g9
      replace K := fun i oo z => K i oo ⟨b58, S55, z9, z⟩
      obtain ⟨S59, eS59⟩ : ∃ x9 : MS, x9 = wR S55 v147_4 0 (some b58) := ⟨_, rfl⟩
      replace h := h S59 eS59
      replace K := fun i oo z => K i oo ⟨S59, eS59, z⟩
      obtain ⟨g34_, h⟩ := h
      replace K := fun i oo z => K i oo ⟨g34_, z⟩
      obtain ⟨g35_, h⟩ := h
      replace K := fun i oo z => K i oo ⟨g35_, z⟩
      obtain ⟨Q9, h0, h⟩ := h
      obtain ⟨b71, S68, z9, g9⟩ := ru_text h0
      replace h := h b71 S68 g9
      replace K := fun i oo z => K i oo ⟨b71, S68, z9, z⟩
      obtain ⟨S72, eS72⟩ : ∃ x9 : MS, x9 = wR S68 v147_4 1 (some b71) := ⟨_, rfl⟩
      replace h := h S72 eS72
      replace K := fun i oo z => K i oo ⟨S72, eS72, z⟩
      obtain ⟨S73, eS73⟩ : ∃ x9 : MS, x9 = wI S72 v147_4 2 (qI S72 0 14) := ⟨_, rfl⟩
      replace h := h S73 eS73
      replace K := fun i oo z => K i oo ⟨S73, eS73, z⟩
      obtain ⟨S74, eS74⟩ : ∃ x9 : MS, x9 = wI S73 v147_4 3 (qI S73 0 22) := ⟨_, rfl⟩
      replace h := h S74 eS74
      replace K := fun i oo z => K i oo ⟨S74, eS74, z⟩
      obtain ⟨S75, eS75⟩ : ∃ x9 : MS, x9 = wI S74 v147_4 4 v147_3 := ⟨_, rfl⟩
      replace h := h S75 eS75
      replace K := fun i oo z => K i oo ⟨S75, eS75, z⟩
      obtain ⟨n9, h⟩ := h
      exact ru_readFile_L242 n9 i0 K h
    · replace h := h.2 c
      replace K := fun i oo z => K i oo (Or.inr ⟨c, z⟩)
      obtain ⟨Q9, E9, h0, h⟩ := h
      obtain ⟨o9, z9, g9⟩ := ru_pointing h0
      rcases o9 with S222 | u9
      · replace h := h.1 S222 g9
        replace K := fun i oo z => K i oo (Or.inl ⟨S222, z9, z⟩)
        obtain ⟨a224, ea224⟩ : ∃ x9 : Int32, x9 = (v147_5 + Int32.ofInt 1) := ⟨_, rfl⟩
        replace h := h a224 ea224
        replace K := fun i oo z => K i oo ⟨a224, ea224, z⟩
        exact ih i00 (fun i oo ⟨n8, z⟩ => K (i, n8) oo z) h
      · replace h := h.2 u9 g9
        replace K := fun i oo z => K i oo (Or.inr ⟨u9, z9, z⟩)
        exact ⟨.inr u9, K i0 _ rfl, h⟩
set_option maxRecDepth 100000 in
theorem ru_readFile_L102 {ι : Type} {P : (Nat × MS) ⊕ MS → Prop} {Q : Nat → MS → Prop} {E : MS → Prop} : ∀ (n : Nat) {U102 : MS} {v102_3 : Int32} {v102_4 : Int32} (i0 : ι), (∀ (i : ι) (oo : (Nat × MS) ⊕ MS), (∃ n8, v_readFile_L102 oo n8 U102 v102_3 v102_4) → P oo) → w_readFile_L102 Q E n U102 v102_3 v102_4 → ∃ oo, P oo ∧ oQ Q E oo := by
  intro n
  induction n with
  | zero => intro U102 v102_3 v102_4 i0 K h; unfold w_readFile_L102 at h; exact h.elim
  | succ n ih =>
    intro U102 v102_3 v102_4 i0 K h
    unfold w_readFile_L102 at h
    replace K := fun (i : ι × Nat) oo (z : v_readFile_L102 oo (i.2 + 1) U102 v102_3 v102_4) => K i.1 oo ⟨i.2 + 1, z⟩
    have i00 := i0
    replace i0 : ι × Nat := (i0, 0)
    by_cases c : v102_3.toInt ≤ v102_4.toInt
    · replace h := h.1 c
      replace K := fun i oo z => K i oo (Or.inl ⟨c, z⟩)
      obtain ⟨S34, eS34⟩ : ∃ x9 : MS, x9 = wI U102 0 41 0 := ⟨_, rfl⟩
      replace h := h S34 eS34
      replace K := fun i oo z => K i oo ⟨S34, eS34, z⟩
      obtain ⟨S35, eS35⟩ : ∃ x9 : MS, x9 = wI S34 0 43 0 := ⟨_, rfl⟩
      replace h := h S35 eS35
      replace K := fun i oo z => K i oo ⟨S35, eS35, z⟩
      obtain ⟨S36, eS36⟩ : ∃ x9 : MS, x9 = wI S35 0 45 0 := ⟨_, rfl⟩
      replace h := h S36 eS36
      replace K := fun i oo z => K i oo ⟨S36, eS36, z⟩
      obtain ⟨g36_, h⟩ := h
      replace K := fun i oo z => K i oo ⟨g36_, z⟩
      obtain ⟨S40, eS40⟩ : ∃ x9 : MS, x9 = wN S36 11 0 23 := ⟨_, rfl⟩
      replace h := h S40 eS40
      replace K := fun i oo z => K i oo ⟨S40, eS40, z⟩
      obtain ⟨Q9, h0, h⟩ := h
      obtain ⟨S43, z9, g9⟩ := ru_init h0
      replace h := h S43 g9
      replace K := fun i oo z => K i oo ⟨S43, z9, z⟩
      obtain ⟨n9, h⟩ := h
      exact ru_readFile_L147 n9 i0 K h
    · replace h := h.2 c
      replace K := fun i oo z => K i oo (Or.inr ⟨c, z⟩)
      obtain ⟨Q9, E9, h0, h⟩ := h
      obtain ⟨o9, z9, g9⟩ := ru_wholes h0
      rcases o9 with S226 | u9
      · replace h := h.1 S226 g9
        replace K := fun i oo z => K i oo (Or.inl ⟨S226, z9, z⟩)
        obtain ⟨a228, ea228⟩ : ∃ x9 : Int32, x9 = (v102_4 + Int32.ofInt 1) := ⟨_, rfl⟩
        replace h := h a228 ea228
        replace K := fun i oo z => K i oo ⟨a228, ea228, z⟩
        exact ih i00 (fun i oo ⟨n8, z⟩ => K (i, n8) oo z) h
      · replace h := h.2 u9 g9
        replace K := fun i oo z => K i oo (Or.inr ⟨u9, z9, z⟩)
        exact ⟨.inr u9, K i0 _ rfl, h⟩
set_option maxRecDepth 100000 in
theorem ru_readFile_L81 {ι : Type} {P : (Nat × MS) ⊕ MS → Prop} {Q : Nat → MS → Prop} {E : MS → Prop} : ∀ (n : Nat) {U81 : MS} {v81_3 : Int32} {v81_4 : Int32} (i0 : ι), (∀ (i : ι) (oo : (Nat × MS) ⊕ MS), (∃ n8, v_readFile_L81 oo n8 U81 v81_3 v81_4) → P oo) → w_readFile_L81 Q E n U81 v81_3 v81_4 → ∃ oo, P oo ∧ oQ Q E oo := by
  intro n
  induction n with
  | zero => intro U81 v81_3 v81_4 i0 K h; unfold w_readFile_L81 at h; exact h.elim
  | succ n ih =>
    intro U81 v81_3 v81_4 i0 K h
    unfold w_readFile_L81 at h
    replace K := fun (i : ι × Nat) oo (z : v_readFile_L81 oo (i.2 + 1) U81 v81_3 v81_4) => K i.1 oo ⟨i.2 + 1, z⟩
    have i00 := i0
    replace i0 : ι × Nat := (i0, 0)
    by_cases c : v81_3.toInt ≤ v81_4.toInt
    · replace h := h.1 c
      replace K := fun i oo z => K i oo (Or.inl ⟨c, z⟩)
      obtain ⟨n9, h⟩ := h
      exact ru_readFile_L102 n9 i0 K h
    · replace h := h.2 c
      replace K := fun i oo z => K i oo (Or.inr ⟨c, z⟩)
      obtain ⟨Q9, E9, h0, h⟩ := h
      obtain ⟨o9, z9, g9⟩ := ru_codeItems h0
      rcases o9 with S230 | u9
      · replace h := h.1 S230 g9
        replace K := fun i oo z => K i oo (Or.inl ⟨S230, z9, z⟩)
        obtain ⟨a232, ea232⟩ : ∃ x9 : Int32, x9 = (v81_4 + Int32.ofInt 1) := ⟨_, rfl⟩
        replace h := h a232 ea232
        replace K := fun i oo z => K i oo ⟨a232, ea232, z⟩
        exact ih i00 (fun i oo ⟨n8, z⟩ => K (i, n8) oo z) h
      · replace h := h.2 u9 g9
        replace K := fun i oo z => K i oo (Or.inr ⟨u9, z9, z⟩)
        exact ⟨.inr u9, K i0 _ rfl, h⟩
set_option maxRecDepth 100000 in
theorem ru_readFile_J59 {ι : Type} {P : (Nat × MS) ⊕ MS → Prop} {Q : Nat → MS → Prop} {E : MS → Prop} {U59 : MS} {t59_0 : Int32} (i0 : ι) (K : ∀ (i : ι) (oo : (Nat × MS) ⊕ MS), v_readFile_J59 oo U59 t59_0 → P oo) (h : w_readFile_J59 Q E U59 t59_0) : ∃ oo, P oo ∧ oQ Q E oo := by
  unfold w_readFile_J59 at h
  obtain ⟨Q9, E9, h0, h⟩ := h
  obtain ⟨o9, z9, g9⟩ := ru_must h0
  rcases o9 with S28 | u9
  · replace h := h.1 S28 g9
    replace K := fun i oo z => K i oo (Or.inl ⟨S28, z9, z⟩)
    obtain ⟨a31, ea31⟩ : ∃ x9 : Int32, x9 = ((qI S28 0 21) - (qI S28 0 22)) := ⟨_, rfl⟩
    replace h := h a31 ea31
    replace K := fun i oo z => K i oo ⟨a31, ea31, z⟩
    obtain ⟨n9, h⟩ := h
    exact ru_readFile_L81 n9 i0 K h
  · replace h := h.2 u9 g9
    replace K := fun i oo z => K i oo (Or.inr ⟨u9, z9, z⟩)
    exact ⟨.inr u9, K i0 _ rfl, h⟩
set_option maxRecDepth 100000 in
theorem ru_readFile {S : MS} {p1 : Nat} {x2 : Int32} {Q : Nat → MS → Prop} {E : MS → Prop} (h : w_readFile S p1 x2 Q E) : ∃ oo, v_readFile S p1 x2 oo ∧ oQ Q E oo := by
  have i0 : Unit := ()
  have K : ∀ (i : Unit) (oo : (Nat × MS) ⊕ MS), v_readFile S p1 x2 oo → v_readFile S p1 x2 oo := fun _ _ z => z
  unfold w_readFile at h
  obtain ⟨S1, eS1⟩ : ∃ x9 : MS, x9 = wR S 0 11 (some p1) := ⟨_, rfl⟩
  replace h := h S1 eS1
  replace K := fun i oo z => K i oo ⟨S1, eS1, z⟩
  obtain ⟨S2, eS2⟩ : ∃ x9 : MS, x9 = wI S1 0 12 x2 := ⟨_, rfl⟩
  replace h := h S2 eS2
  replace K := fun i oo z => K i oo ⟨S2, eS2, z⟩
  obtain ⟨Q9, E9, h0, h⟩ := h
  obtain ⟨o9, z9, g9⟩ := ru_layout h0
  rcases o9 with S4 | u9
  · replace h := h.1 S4 g9
    replace K := fun i oo z => K i oo (Or.inl ⟨S4, z9, z⟩)
    obtain ⟨Q9, E9, h0, h⟩ := h
    obtain ⟨o9, z9, g9⟩ := ru_entries h0
    rcases o9 with S7 | u9
    · replace h := h.1 S7 g9
      replace K := fun i oo z => K i oo (Or.inl ⟨S7, z9, z⟩)
      obtain ⟨Q9, E9, h0, h⟩ := h
      obtain ⟨o9, z9, g9⟩ := ru_flags h0
      rcases o9 with S10 | u9
      · replace h := h.1 S10 g9
        replace K := fun i oo z => K i oo (Or.inl ⟨S10, z9, z⟩)
        obtain ⟨Q9, E9, h0, h⟩ := h
        obtain ⟨o9, z9, g9⟩ := ru_classes h0
        rcases o9 with S13 | u9
        · replace h := h.1 S13 g9
          replace K := fun i oo z => K i oo (Or.inl ⟨S13, z9, z⟩)
          obtain ⟨Q9, E9, h0, h⟩ := h
          obtain ⟨o9, z9, g9⟩ := ru_names h0
          rcases o9 with S16 | u9
          · replace h := h.1 S16 g9
            replace K := fun i oo z => K i oo (Or.inl ⟨S16, z9, z⟩)
            obtain ⟨Q9, E9, h0, h⟩ := h
            obtain ⟨o9, z9, g9⟩ := ru_types h0
            rcases o9 with S19 | u9
            · replace h := h.1 S19 g9
              replace K := fun i oo z => K i oo (Or.inl ⟨S19, z9, z⟩)
              obtain ⟨Q9, E9, h0, h⟩ := h
              obtain ⟨o9, z9, g9⟩ := ru_twice h0
              rcases o9 with S22 | u9
              · replace h := h.1 S22 g9
                replace K := fun i oo z => K i oo (Or.inl ⟨S22, z9, z⟩)
                obtain ⟨Q9, E9, h0, h⟩ := h
                obtain ⟨o9, z9, g9⟩ := ru_codes h0
                rcases o9 with S25 | u9
                · replace h := h.1 S25 g9
                  replace K := fun i oo z => K i oo (Or.inl ⟨S25, z9, z⟩)
                  by_cases c : (qI S25 0 28).toInt = (qI S25 0 12).toInt
                  · replace h := h.1 c
                    replace K := fun i oo z => K i oo (Or.inl ⟨c, z⟩)
                    exact ru_readFile_J59 i0 K h
                  · replace h := h.2 c
                    replace K := fun i oo z => K i oo (Or.inr ⟨c, z⟩)
                    exact ru_readFile_J59 i0 K h
                · replace h := h.2 u9 g9
                  replace K := fun i oo z => K i oo (Or.inr ⟨u9, z9, z⟩)
                  exact ⟨.inr u9, K i0 _ rfl, h⟩
              · replace h := h.2 u9 g9
                replace K := fun i oo z => K i oo (Or.inr ⟨u9, z9, z⟩)
                exact ⟨.inr u9, K i0 _ rfl, h⟩
            · replace h := h.2 u9 g9
              replace K := fun i oo z => K i oo (Or.inr ⟨u9, z9, z⟩)
              exact ⟨.inr u9, K i0 _ rfl, h⟩
          · replace h := h.2 u9 g9
            replace K := fun i oo z => K i oo (Or.inr ⟨u9, z9, z⟩)
            exact ⟨.inr u9, K i0 _ rfl, h⟩
        · replace h := h.2 u9 g9
          replace K := fun i oo z => K i oo (Or.inr ⟨u9, z9, z⟩)
          exact ⟨.inr u9, K i0 _ rfl, h⟩
      · replace h := h.2 u9 g9
        replace K := fun i oo z => K i oo (Or.inr ⟨u9, z9, z⟩)
        exact ⟨.inr u9, K i0 _ rfl, h⟩
    · replace h := h.2 u9 g9
      replace K := fun i oo z => K i oo (Or.inr ⟨u9, z9, z⟩)
      exact ⟨.inr u9, K i0 _ rfl, h⟩
  · replace h := h.2 u9 g9
    replace K := fun i oo z => K i oo (Or.inr ⟨u9, z9, z⟩)
    exact ⟨.inr u9, K i0 _ rfl, h⟩
set_option maxRecDepth 100000 in
theorem vw_readFile_L330 {oo : (Nat × MS) ⊕ MS} : ∀ (n : Nat) {U330 : MS} {v330_3 : Int32} {v330_4 : Nat} {v330_5 : Int32}, v_readFile_L330 oo n U330 v330_3 v330_4 v330_5 → w_readFile_L330 (fun r u => oo = .inl (r, u)) (fun u => oo = .inr u) n U330 v330_3 v330_4 v330_5 := by
  intro n
  induction n with
  | zero => intro U330 v330_3 v330_4 v330_5 h; unfold v_readFile_L330 at h; exact h.elim
  | succ n ih =>
    intro U330 v330_3 v330_4 v330_5 h
    unfold v_readFile_L330 at h
    unfold w_readFile_L330
    rcases h with ⟨c, h⟩ | ⟨c, h⟩
    · refine ⟨fun _ => ?_, fun c2 => absurd c c2⟩
      obtain ⟨p9, q9, z9, h⟩ := h
      refine ⟨_, vw_firstInts z9, ?_⟩
      rintro p8 q8 ⟨d8, d9⟩
      subst d8
      subst d9
      obtain ⟨v9, e9, h⟩ := h
      intro x9 d9
      have c9 : v9 = x9 := e9.trans d9.symm
      subst c9
      obtain ⟨p9, q9, z9, h⟩ := h
      refine ⟨_, vw_firstInts z9, ?_⟩
      rintro p8 q8 ⟨d8, d9⟩
      subst d8
      subst d9
      obtain ⟨v9, e9, h⟩ := h
      intro x9 d9
      have c9 : v9 = x9 := e9.trans d9.symm
      subst c9
      obtain ⟨p9, q9, z9, h⟩ := h
      refine ⟨_, vw_firstInts z9, ?_⟩
      rintro p8 q8 ⟨d8, d9⟩
      subst d8
      subst d9
      obtain ⟨v9, e9, h⟩ := h
      intro x9 d9
      have c9 : v9 = x9 := e9.trans d9.symm
      subst c9
      exact h
    · refine ⟨fun c2 => absurd c2 c, fun _ => ?_⟩
      obtain ⟨g9, h⟩ := h
      refine ⟨g9, ?_⟩
      obtain ⟨g9, h⟩ := h
      refine ⟨g9, ?_⟩
      obtain ⟨g9, h⟩ := h
      refine ⟨g9, ?_⟩
      obtain ⟨p9, q9, z9, h⟩ := h
      refine ⟨_, vw_text z9, ?_⟩
      rintro p8 q8 ⟨d8, d9⟩
      subst d8
      subst d9
      obtain ⟨g9, h⟩ := h
      refine ⟨g9, ?_⟩
      obtain ⟨v9, e9, h⟩ := h
      intro x9 d9
      have c9 : v9 = x9 := e9.trans d9.symm
      subst c9
      obtain ⟨g9, h⟩ := h
      refine ⟨g9, ?_⟩
      obtain ⟨g9, h⟩ := h
      refine ⟨g9, ?_⟩
      obtain ⟨p9, q9, z9, h⟩ := h
      refine ⟨_, vw_text z9, ?_⟩
      rintro p8 q8 ⟨d8, d9⟩
      subst d8
      subst d9
      obtain ⟨g9, h⟩ := h
      refine ⟨g9, ?_⟩
      obtain ⟨g9, h⟩ := h
      refine ⟨g9, ?_⟩
      obtain ⟨v9, e9, h⟩ := h
      intro x9 d9
      have c9 : v9 = x9 := e9.trans d9.symm
      subst c9
      obtain ⟨g9, h⟩ := h
      refine ⟨g9, ?_⟩
      obtain ⟨p9, q9, z9, h⟩ := h
      refine ⟨_, vw_letters z9, ?_⟩
      rintro p8 q8 ⟨d8, d9⟩
      subst d8
      subst d9
      obtain ⟨g9, h⟩ := h
      refine ⟨g9, ?_⟩
      obtain ⟨v9, e9, h⟩ := h
      intro x9 d9
      have c9 : v9 = x9 := e9.trans d9.symm
      subst c9
      obtain ⟨g9, h⟩ := h
      refine ⟨g9, ?_⟩
      obtain ⟨p9, q9, z9, h⟩ := h
      refine ⟨_, vw_closing z9, ?_⟩
      rintro p8 q8 ⟨d8, d9⟩
      subst d8
      subst d9
      obtain ⟨p9, q9, z9, h⟩ := h
      refine ⟨_, vw_letters z9, ?_⟩
      rintro p8 q8 ⟨d8, d9⟩
      subst d8
      subst d9
      obtain ⟨g9, h⟩ := h
      refine ⟨g9, ?_⟩
      obtain ⟨v9, e9, h⟩ := h
      intro x9 d9
      have c9 : v9 = x9 := e9.trans d9.symm
      subst c9
      obtain ⟨g9, h⟩ := h
      refine ⟨g9, ?_⟩
      obtain ⟨g9, h⟩ := h
      refine ⟨g9, ?_⟩
      obtain ⟨g9, h⟩ := h
      refine ⟨g9, ?_⟩
      obtain ⟨v9, e9, h⟩ := h
      intro x9 d9
      have c9 : v9 = x9 := e9.trans d9.symm
      subst c9
      obtain ⟨g9, h⟩ := h
      refine ⟨g9, ?_⟩
      obtain ⟨g9, h⟩ := h
      refine ⟨g9, ?_⟩
      obtain ⟨g9, h⟩ := h
      refine ⟨g9, ?_⟩
      obtain ⟨v9, e9, h⟩ := h
      intro x9 d9
      have c9 : v9 = x9 := e9.trans d9.symm
      subst c9
      obtain ⟨v9, e9, h⟩ := h
      intro x9 d9
      have c9 : v9 = x9 := e9.trans d9.symm
      subst c9
      exact ih h
set_option maxRecDepth 100000 in
theorem vz_readFile_L330 {oo : (Nat × MS) ⊕ MS} {Q : Nat → MS → Prop} {E : MS → Prop} : ∀ (n m : Nat) {U330 : MS} {v330_3 : Int32} {v330_4 : Nat} {v330_5 : Int32}, v_readFile_L330 oo n U330 v330_3 v330_4 v330_5 → w_readFile_L330 Q E m U330 v330_3 v330_4 v330_5 → oQ Q E oo := by
  intro n
  induction n with
  | zero => intro m U330 v330_3 v330_4 v330_5 h; unfold v_readFile_L330 at h; exact h.elim
  | succ n ih =>
    intro m U330 v330_3 v330_4 v330_5 h w
    cases m with
    | zero => unfold w_readFile_L330 at w; exact w.elim
    | succ m =>
      unfold v_readFile_L330 at h
      unfold w_readFile_L330 at w
      rcases h with ⟨c, h⟩ | ⟨c, h⟩
      · replace w := w.1 c
        obtain ⟨p9, q9, z9, h⟩ := h
        obtain ⟨Q9, w0, w⟩ := w
        replace w := w p9 q9 (vz_firstInts z9 w0)
        obtain ⟨v9, e9, h⟩ := h
        replace w := w v9 e9
        obtain ⟨p9, q9, z9, h⟩ := h
        obtain ⟨Q9, w0, w⟩ := w
        replace w := w p9 q9 (vz_firstInts z9 w0)
        obtain ⟨v9, e9, h⟩ := h
        replace w := w v9 e9
        obtain ⟨p9, q9, z9, h⟩ := h
        obtain ⟨Q9, w0, w⟩ := w
        replace w := w p9 q9 (vz_firstInts z9 w0)
        obtain ⟨v9, e9, h⟩ := h
        replace w := w v9 e9
        rw [h]
        exact w
      · replace w := w.2 c
        replace h := h.2
        replace w := w.2
        replace h := h.2
        replace w := w.2
        replace h := h.2
        replace w := w.2
        obtain ⟨p9, q9, z9, h⟩ := h
        obtain ⟨Q9, w0, w⟩ := w
        replace w := w p9 q9 (vz_text z9 w0)
        replace h := h.2
        replace w := w.2
        obtain ⟨v9, e9, h⟩ := h
        replace w := w v9 e9
        replace h := h.2
        replace w := w.2
        replace h := h.2
        replace w := w.2
        obtain ⟨p9, q9, z9, h⟩ := h
        obtain ⟨Q9, w0, w⟩ := w
        replace w := w p9 q9 (vz_text z9 w0)
        replace h := h.2
        replace w := w.2
        replace h := h.2
        replace w := w.2
        obtain ⟨v9, e9, h⟩ := h
        replace w := w v9 e9
        replace h := h.2
        replace w := w.2
        obtain ⟨p9, q9, z9, h⟩ := h
        obtain ⟨Q9, w0, w⟩ := w
        replace w := w p9 q9 (vz_letters z9 w0)
        replace h := h.2
        replace w := w.2
        obtain ⟨v9, e9, h⟩ := h
        replace w := w v9 e9
        replace h := h.2
        replace w := w.2
        obtain ⟨p9, q9, z9, h⟩ := h
        obtain ⟨Q9, w0, w⟩ := w
        replace w := w p9 q9 (vz_closing z9 w0)
        obtain ⟨p9, q9, z9, h⟩ := h
        obtain ⟨Q9, w0, w⟩ := w
        replace w := w p9 q9 (vz_letters z9 w0)
        replace h := h.2
        replace w := w.2
        obtain ⟨v9, e9, h⟩ := h
        replace w := w v9 e9
        replace h := h.2
        replace w := w.2
        replace h := h.2
        replace w := w.2
        replace h := h.2
        replace w := w.2
        obtain ⟨v9, e9, h⟩ := h
        replace w := w v9 e9
        replace h := h.2
        replace w := w.2
        replace h := h.2
        replace w := w.2
        replace h := h.2
        replace w := w.2
        obtain ⟨v9, e9, h⟩ := h
        replace w := w v9 e9
        obtain ⟨v9, e9, h⟩ := h
        replace w := w v9 e9
        exact ih m h w
set_option maxRecDepth 100000 in
theorem vw_readFile_L242 {oo : (Nat × MS) ⊕ MS} : ∀ (n : Nat) {U242 : MS} {v242_3 : Int32} {v242_4 : Nat} {v242_5 : Int32}, v_readFile_L242 oo n U242 v242_3 v242_4 v242_5 → w_readFile_L242 (fun r u => oo = .inl (r, u)) (fun u => oo = .inr u) n U242 v242_3 v242_4 v242_5 := by
  intro n
  induction n with
  | zero => intro U242 v242_3 v242_4 v242_5 h; unfold v_readFile_L242 at h; exact h.elim
  | succ n ih =>
    intro U242 v242_3 v242_4 v242_5 h
    unfold v_readFile_L242 at h
    unfold w_readFile_L242
    rcases h with ⟨c, h⟩ | ⟨c, h⟩
    · refine ⟨fun _ => ?_, fun c2 => absurd c c2⟩
      obtain ⟨n9, h⟩ := h
      exact ⟨n9, vw_readFile_L330 n9 h⟩
    · refine ⟨fun c2 => absurd c2 c, fun _ => ?_⟩
      obtain ⟨g9, h⟩ := h
      refine ⟨g9, ?_⟩
      obtain ⟨g9, h⟩ := h
      refine ⟨g9, ?_⟩
      obtain ⟨g9, h⟩ := h
      refine ⟨g9, ?_⟩
      obtain ⟨p9, q9, z9, h⟩ := h
      refine ⟨_, vw_text z9, ?_⟩
      rintro p8 q8 ⟨d8, d9⟩
      subst d8
      subst d9
      obtain ⟨g9, h⟩ := h
      refine ⟨g9, ?_⟩
      obtain ⟨v9, e9, h⟩ := h
      intro x9 d9
      have c9 : v9 = x9 := e9.trans d9.symm
      subst c9
      obtain ⟨g9, h⟩ := h
      refine ⟨g9, ?_⟩
      obtain ⟨g9, h⟩ := h
      refine ⟨g9, ?_⟩
      obtain ⟨g9, h⟩ := h
      refine ⟨g9, ?_⟩
      obtain ⟨p9, q9, z9, h⟩ := h
      refine ⟨_, vw_text z9, ?_⟩
      rintro p8 q8 ⟨d8, d9⟩
      subst d8
      subst d9
      obtain ⟨g9, h⟩ := h
      refine ⟨g9, ?_⟩
      obtain ⟨v9, e9, h⟩ := h
      intro x9 d9
      have c9 : v9 = x9 := e9.trans d9.symm
      subst c9
      obtain ⟨g9, h⟩ := h
      refine ⟨g9, ?_⟩
      obtain ⟨g9, h⟩ := h
      refine ⟨g9, ?_⟩
      obtain ⟨g9, h⟩ := h
      refine ⟨g9, ?_⟩
      obtain ⟨g9, h⟩ := h
      refine ⟨g9, ?_⟩
      obtain ⟨p9, q9, z9, h⟩ := h
      refine ⟨_, vw_letters z9, ?_⟩
      rintro p8 q8 ⟨d8, d9⟩
      subst d8
      subst d9
      obtain ⟨g9, h⟩ := h
      refine ⟨g9, ?_⟩
      obtain ⟨v9, e9, h⟩ := h
      intro x9 d9
      have c9 : v9 = x9 := e9.trans d9.symm
      subst c9
      obtain ⟨v9, e9, h⟩ := h
      intro x9 d9
      have c9 : v9 = x9 := e9.trans d9.symm
      subst c9
      exact ih h
set_option maxRecDepth 100000 in
theorem vz_readFile_L242 {oo : (Nat × MS) ⊕ MS} {Q : Nat → MS → Prop} {E : MS → Prop} : ∀ (n m : Nat) {U242 : MS} {v242_3 : Int32} {v242_4 : Nat} {v242_5 : Int32}, v_readFile_L242 oo n U242 v242_3 v242_4 v242_5 → w_readFile_L242 Q E m U242 v242_3 v242_4 v242_5 → oQ Q E oo := by
  intro n
  induction n with
  | zero => intro m U242 v242_3 v242_4 v242_5 h; unfold v_readFile_L242 at h; exact h.elim
  | succ n ih =>
    intro m U242 v242_3 v242_4 v242_5 h w
    cases m with
    | zero => unfold w_readFile_L242 at w; exact w.elim
    | succ m =>
      unfold v_readFile_L242 at h
      unfold w_readFile_L242 at w
      rcases h with ⟨c, h⟩ | ⟨c, h⟩
      · replace w := w.1 c
        obtain ⟨n9, h⟩ := h
        obtain ⟨n8, w⟩ := w
        exact vz_readFile_L330 n9 n8 h w
      · replace w := w.2 c
        replace h := h.2
        replace w := w.2
        replace h := h.2
        replace w := w.2
        replace h := h.2
        replace w := w.2
        obtain ⟨p9, q9, z9, h⟩ := h
        obtain ⟨Q9, w0, w⟩ := w
        replace w := w p9 q9 (vz_text z9 w0)
        replace h := h.2
        replace w := w.2
        obtain ⟨v9, e9, h⟩ := h
        replace w := w v9 e9
        replace h := h.2
        replace w := w.2
        replace h := h.2
        replace w := w.2
        replace h := h.2
        replace w := w.2
        obtain ⟨p9, q9, z9, h⟩ := h
        obtain ⟨Q9, w0, w⟩ := w
        replace w := w p9 q9 (vz_text z9 w0)
        replace h := h.2
        replace w := w.2
        obtain ⟨v9, e9, h⟩ := h
        replace w := w v9 e9
        replace h := h.2
        replace w := w.2
        replace h := h.2
        replace w := w.2
        replace h := h.2
        replace w := w.2
        replace h := h.2
        replace w := w.2
        obtain ⟨p9, q9, z9, h⟩ := h
        obtain ⟨Q9, w0, w⟩ := w
        replace w := w p9 q9 (vz_letters z9 w0)
        replace h := h.2
        replace w := w.2
        obtain ⟨v9, e9, h⟩ := h
        replace w := w v9 e9
        obtain ⟨v9, e9, h⟩ := h
        replace w := w v9 e9
        exact ih m h w
set_option maxRecDepth 100000 in
theorem vw_readFile_L147 {oo : (Nat × MS) ⊕ MS} : ∀ (n : Nat) {U147 : MS} {v147_3 : Int32} {v147_4 : Nat} {v147_5 : Int32}, v_readFile_L147 oo n U147 v147_3 v147_4 v147_5 → w_readFile_L147 (fun r u => oo = .inl (r, u)) (fun u => oo = .inr u) n U147 v147_3 v147_4 v147_5 := by
  intro n
  induction n with
  | zero => intro U147 v147_3 v147_4 v147_5 h; unfold v_readFile_L147 at h; exact h.elim
  | succ n ih =>
    intro U147 v147_3 v147_4 v147_5 h
    unfold v_readFile_L147 at h
    unfold w_readFile_L147
    rcases h with ⟨c, h⟩ | ⟨c, h⟩
    · refine ⟨fun _ => ?_, fun c2 => absurd c c2⟩
      obtain ⟨g9, h⟩ := h
      refine ⟨g9, ?_⟩
      obtain ⟨g9, h⟩ := h
      refine ⟨g9, ?_⟩
      obtain ⟨p9, q9, z9, h⟩ := h
      refine ⟨_, vw_text z9, ?_⟩
      rintro p8 q8 ⟨d8, d9⟩
      subst d8
      subst d9
      obtain ⟨v9, e9, h⟩ := h
      intro x9 d9
      have c9 : v9 = x9 := e9.trans d9.symm
      subst c9
      obtain ⟨g9, h⟩ := h
      refine ⟨g9, ?_⟩
      obtain ⟨g9, h⟩ := h
      refine ⟨g9, ?_⟩
      obtain ⟨p9, q9, z9, h⟩ := h
      refine ⟨_, vw_text z9, ?_⟩
      rintro p8 q8 ⟨d8, d9⟩
      subst d8
      subst d9
      obtain ⟨v9, e9, h⟩ := h
      intro x9 d9
      have c9 : v9 = x9 := e9.trans d9.symm
      subst c9
      obtain ⟨v9, e9, h⟩ := h
      intro x9 d9
      have c9 : v9 = x9 := e9.trans d9.symm
      subst c9
      obtain ⟨v9, e9, h⟩ := h
      intro x9 d9
      have c9 : v9 = x9 := e9.trans d9.symm
      subst c9
      obtain ⟨v9, e9, h⟩ := h
      intro x9 d9
      have c9 : v9 = x9 := e9.trans d9.symm
      subst c9
      obtain ⟨n9, h⟩ := h
      exact ⟨n9, vw_readFile_L242 n9 h⟩
    · refine ⟨fun c2 => absurd c2 c, fun _ => ?_⟩
      rcases h with ⟨q9, z9, h⟩ | ⟨q9, z9, h⟩
      · refine ⟨_, _, vw_pointing z9, ?_, ?_⟩
        · intro q8 d9
          injection d9 with d9
          subst d9
          obtain ⟨v9, e9, h⟩ := h
          intro x9 d9
          have c9 : v9 = x9 := e9.trans d9.symm
          subst c9
          exact ih h
        · intro q8 d9
          exact nomatch d9
      · refine ⟨_, _, vw_pointing z9, ?_, ?_⟩
        · intro q8 d9
          exact nomatch d9
        · intro q8 d9
          injection d9 with d9
          subst d9
          exact h
set_option maxRecDepth 100000 in
theorem vz_readFile_L147 {oo : (Nat × MS) ⊕ MS} {Q : Nat → MS → Prop} {E : MS → Prop} : ∀ (n m : Nat) {U147 : MS} {v147_3 : Int32} {v147_4 : Nat} {v147_5 : Int32}, v_readFile_L147 oo n U147 v147_3 v147_4 v147_5 → w_readFile_L147 Q E m U147 v147_3 v147_4 v147_5 → oQ Q E oo := by
  intro n
  induction n with
  | zero => intro m U147 v147_3 v147_4 v147_5 h; unfold v_readFile_L147 at h; exact h.elim
  | succ n ih =>
    intro m U147 v147_3 v147_4 v147_5 h w
    cases m with
    | zero => unfold w_readFile_L147 at w; exact w.elim
    | succ m =>
      unfold v_readFile_L147 at h
      unfold w_readFile_L147 at w
      rcases h with ⟨c, h⟩ | ⟨c, h⟩
      · replace w := w.1 c
        replace h := h.2
        replace w := w.2
        replace h := h.2
        replace w := w.2
        obtain ⟨p9, q9, z9, h⟩ := h
        obtain ⟨Q9, w0, w⟩ := w
        replace w := w p9 q9 (vz_text z9 w0)
        obtain ⟨v9, e9, h⟩ := h
        replace w := w v9 e9
        replace h := h.2
        replace w := w.2
        replace h := h.2
        replace w := w.2
        obtain ⟨p9, q9, z9, h⟩ := h
        obtain ⟨Q9, w0, w⟩ := w
        replace w := w p9 q9 (vz_text z9 w0)
        obtain ⟨v9, e9, h⟩ := h
        replace w := w v9 e9
        obtain ⟨v9, e9, h⟩ := h
        replace w := w v9 e9
        obtain ⟨v9, e9, h⟩ := h
        replace w := w v9 e9
        obtain ⟨v9, e9, h⟩ := h
        replace w := w v9 e9
        obtain ⟨n9, h⟩ := h
        obtain ⟨n8, w⟩ := w
        exact vz_readFile_L242 n9 n8 h w
      · replace w := w.2 c
        obtain ⟨Q9, E9, w0, w⟩ := w
        rcases h with ⟨q9, z9, h⟩ | ⟨q9, z9, h⟩
        · replace w := w.1 q9 (vz_pointing z9 w0)
          obtain ⟨v9, e9, h⟩ := h
          replace w := w v9 e9
          exact ih m h w
        · replace w := w.2 q9 (vz_pointing z9 w0)
          rw [h]
          exact w
set_option maxRecDepth 100000 in
theorem vw_readFile_L102 {oo : (Nat × MS) ⊕ MS} : ∀ (n : Nat) {U102 : MS} {v102_3 : Int32} {v102_4 : Int32}, v_readFile_L102 oo n U102 v102_3 v102_4 → w_readFile_L102 (fun r u => oo = .inl (r, u)) (fun u => oo = .inr u) n U102 v102_3 v102_4 := by
  intro n
  induction n with
  | zero => intro U102 v102_3 v102_4 h; unfold v_readFile_L102 at h; exact h.elim
  | succ n ih =>
    intro U102 v102_3 v102_4 h
    unfold v_readFile_L102 at h
    unfold w_readFile_L102
    rcases h with ⟨c, h⟩ | ⟨c, h⟩
    · refine ⟨fun _ => ?_, fun c2 => absurd c c2⟩
      obtain ⟨v9, e9, h⟩ := h
      intro x9 d9
      have c9 : v9 = x9 := e9.trans d9.symm
      subst c9
      obtain ⟨v9, e9, h⟩ := h
      intro x9 d9
      have c9 : v9 = x9 := e9.trans d9.symm
      subst c9
      obtain ⟨v9, e9, h⟩ := h
      intro x9 d9
      have c9 : v9 = x9 := e9.trans d9.symm
      subst c9
      obtain ⟨g9, h⟩ := h
      refine ⟨g9, ?_⟩
      obtain ⟨v9, e9, h⟩ := h
      intro x9 d9
      have c9 : v9 = x9 := e9.trans d9.symm
      subst c9
      obtain ⟨q9, z9, h⟩ := h
      refine ⟨_, vw_init z9, ?_⟩
      intro q8 d9
      subst d9
      obtain ⟨n9, h⟩ := h
      exact ⟨n9, vw_readFile_L147 n9 h⟩
    · refine ⟨fun c2 => absurd c2 c, fun _ => ?_⟩
      rcases h with ⟨q9, z9, h⟩ | ⟨q9, z9, h⟩
      · refine ⟨_, _, vw_wholes z9, ?_, ?_⟩
        · intro q8 d9
          injection d9 with d9
          subst d9
          obtain ⟨v9, e9, h⟩ := h
          intro x9 d9
          have c9 : v9 = x9 := e9.trans d9.symm
          subst c9
          exact ih h
        · intro q8 d9
          exact nomatch d9
      · refine ⟨_, _, vw_wholes z9, ?_, ?_⟩
        · intro q8 d9
          exact nomatch d9
        · intro q8 d9
          injection d9 with d9
          subst d9
          exact h
set_option maxRecDepth 100000 in
theorem vz_readFile_L102 {oo : (Nat × MS) ⊕ MS} {Q : Nat → MS → Prop} {E : MS → Prop} : ∀ (n m : Nat) {U102 : MS} {v102_3 : Int32} {v102_4 : Int32}, v_readFile_L102 oo n U102 v102_3 v102_4 → w_readFile_L102 Q E m U102 v102_3 v102_4 → oQ Q E oo := by
  intro n
  induction n with
  | zero => intro m U102 v102_3 v102_4 h; unfold v_readFile_L102 at h; exact h.elim
  | succ n ih =>
    intro m U102 v102_3 v102_4 h w
    cases m with
    | zero => unfold w_readFile_L102 at w; exact w.elim
    | succ m =>
      unfold v_readFile_L102 at h
      unfold w_readFile_L102 at w
      rcases h with ⟨c, h⟩ | ⟨c, h⟩
      · replace w := w.1 c
        obtain ⟨v9, e9, h⟩ := h
        replace w := w v9 e9
        obtain ⟨v9, e9, h⟩ := h
        replace w := w v9 e9
        obtain ⟨v9, e9, h⟩ := h
        replace w := w v9 e9
        replace h := h.2
        replace w := w.2
        obtain ⟨v9, e9, h⟩ := h
        replace w := w v9 e9
        obtain ⟨q9, z9, h⟩ := h
        obtain ⟨Q9, w0, w⟩ := w
        replace w := w q9 (vz_init z9 w0)
        obtain ⟨n9, h⟩ := h
        obtain ⟨n8, w⟩ := w
        exact vz_readFile_L147 n9 n8 h w
      · replace w := w.2 c
        obtain ⟨Q9, E9, w0, w⟩ := w
        rcases h with ⟨q9, z9, h⟩ | ⟨q9, z9, h⟩
        · replace w := w.1 q9 (vz_wholes z9 w0)
          obtain ⟨v9, e9, h⟩ := h
          replace w := w v9 e9
          exact ih m h w
        · replace w := w.2 q9 (vz_wholes z9 w0)
          rw [h]
          exact w
set_option maxRecDepth 100000 in
theorem vw_readFile_L81 {oo : (Nat × MS) ⊕ MS} : ∀ (n : Nat) {U81 : MS} {v81_3 : Int32} {v81_4 : Int32}, v_readFile_L81 oo n U81 v81_3 v81_4 → w_readFile_L81 (fun r u => oo = .inl (r, u)) (fun u => oo = .inr u) n U81 v81_3 v81_4 := by
  intro n
  induction n with
  | zero => intro U81 v81_3 v81_4 h; unfold v_readFile_L81 at h; exact h.elim
  | succ n ih =>
    intro U81 v81_3 v81_4 h
    unfold v_readFile_L81 at h
    unfold w_readFile_L81
    rcases h with ⟨c, h⟩ | ⟨c, h⟩
    · refine ⟨fun _ => ?_, fun c2 => absurd c c2⟩
      obtain ⟨n9, h⟩ := h
      exact ⟨n9, vw_readFile_L102 n9 h⟩
    · refine ⟨fun c2 => absurd c2 c, fun _ => ?_⟩
      rcases h with ⟨q9, z9, h⟩ | ⟨q9, z9, h⟩
      · refine ⟨_, _, vw_codeItems z9, ?_, ?_⟩
        · intro q8 d9
          injection d9 with d9
          subst d9
          obtain ⟨v9, e9, h⟩ := h
          intro x9 d9
          have c9 : v9 = x9 := e9.trans d9.symm
          subst c9
          exact ih h
        · intro q8 d9
          exact nomatch d9
      · refine ⟨_, _, vw_codeItems z9, ?_, ?_⟩
        · intro q8 d9
          exact nomatch d9
        · intro q8 d9
          injection d9 with d9
          subst d9
          exact h
set_option maxRecDepth 100000 in
theorem vz_readFile_L81 {oo : (Nat × MS) ⊕ MS} {Q : Nat → MS → Prop} {E : MS → Prop} : ∀ (n m : Nat) {U81 : MS} {v81_3 : Int32} {v81_4 : Int32}, v_readFile_L81 oo n U81 v81_3 v81_4 → w_readFile_L81 Q E m U81 v81_3 v81_4 → oQ Q E oo := by
  intro n
  induction n with
  | zero => intro m U81 v81_3 v81_4 h; unfold v_readFile_L81 at h; exact h.elim
  | succ n ih =>
    intro m U81 v81_3 v81_4 h w
    cases m with
    | zero => unfold w_readFile_L81 at w; exact w.elim
    | succ m =>
      unfold v_readFile_L81 at h
      unfold w_readFile_L81 at w
      rcases h with ⟨c, h⟩ | ⟨c, h⟩
      · replace w := w.1 c
        obtain ⟨n9, h⟩ := h
        obtain ⟨n8, w⟩ := w
        exact vz_readFile_L102 n9 n8 h w
      · replace w := w.2 c
        obtain ⟨Q9, E9, w0, w⟩ := w
        rcases h with ⟨q9, z9, h⟩ | ⟨q9, z9, h⟩
        · replace w := w.1 q9 (vz_codeItems z9 w0)
          obtain ⟨v9, e9, h⟩ := h
          replace w := w v9 e9
          exact ih m h w
        · replace w := w.2 q9 (vz_codeItems z9 w0)
          rw [h]
          exact w
set_option maxRecDepth 100000 in
theorem vw_readFile_J59 {oo : (Nat × MS) ⊕ MS} {U59 : MS} {t59_0 : Int32} (h : v_readFile_J59 oo U59 t59_0) : w_readFile_J59 (fun r u => oo = .inl (r, u)) (fun u => oo = .inr u) U59 t59_0 := by
  unfold v_readFile_J59 at h
  unfold w_readFile_J59
  rcases h with ⟨q9, z9, h⟩ | ⟨q9, z9, h⟩
  · refine ⟨_, _, vw_must z9, ?_, ?_⟩
    · intro q8 d9
      injection d9 with d9
      subst d9
      obtain ⟨v9, e9, h⟩ := h
      intro x9 d9
      have c9 : v9 = x9 := e9.trans d9.symm
      subst c9
      obtain ⟨n9, h⟩ := h
      exact ⟨n9, vw_readFile_L81 n9 h⟩
    · intro q8 d9
      exact nomatch d9
  · refine ⟨_, _, vw_must z9, ?_, ?_⟩
    · intro q8 d9
      exact nomatch d9
    · intro q8 d9
      injection d9 with d9
      subst d9
      exact h
set_option maxRecDepth 100000 in
theorem vz_readFile_J59 {oo : (Nat × MS) ⊕ MS} {Q : Nat → MS → Prop} {E : MS → Prop} {U59 : MS} {t59_0 : Int32} (h : v_readFile_J59 oo U59 t59_0) (w : w_readFile_J59 Q E U59 t59_0) : oQ Q E oo := by
  unfold v_readFile_J59 at h
  unfold w_readFile_J59 at w
  obtain ⟨Q9, E9, w0, w⟩ := w
  rcases h with ⟨q9, z9, h⟩ | ⟨q9, z9, h⟩
  · replace w := w.1 q9 (vz_must z9 w0)
    obtain ⟨v9, e9, h⟩ := h
    replace w := w v9 e9
    obtain ⟨n9, h⟩ := h
    obtain ⟨n8, w⟩ := w
    exact vz_readFile_L81 n9 n8 h w
  · replace w := w.2 q9 (vz_must z9 w0)
    rw [h]
    exact w
set_option maxRecDepth 100000 in
theorem vw_readFile {S : MS} {p1 : Nat} {x2 : Int32} {oo : (Nat × MS) ⊕ MS} (h : v_readFile S p1 x2 oo) : w_readFile S p1 x2 (fun r u => oo = .inl (r, u)) (fun u => oo = .inr u) := by
  unfold v_readFile at h
  unfold w_readFile
  obtain ⟨v9, e9, h⟩ := h
  intro x9 d9
  have c9 : v9 = x9 := e9.trans d9.symm
  subst c9
  obtain ⟨v9, e9, h⟩ := h
  intro x9 d9
  have c9 : v9 = x9 := e9.trans d9.symm
  subst c9
  rcases h with ⟨q9, z9, h⟩ | ⟨q9, z9, h⟩
  · refine ⟨_, _, vw_layout z9, ?_, ?_⟩
    · intro q8 d9
      injection d9 with d9
      subst d9
      rcases h with ⟨q9, z9, h⟩ | ⟨q9, z9, h⟩
      · refine ⟨_, _, vw_entries z9, ?_, ?_⟩
        · intro q8 d9
          injection d9 with d9
          subst d9
          rcases h with ⟨q9, z9, h⟩ | ⟨q9, z9, h⟩
          · refine ⟨_, _, vw_flags z9, ?_, ?_⟩
            · intro q8 d9
              injection d9 with d9
              subst d9
              rcases h with ⟨q9, z9, h⟩ | ⟨q9, z9, h⟩
              · refine ⟨_, _, vw_classes z9, ?_, ?_⟩
                · intro q8 d9
                  injection d9 with d9
                  subst d9
                  rcases h with ⟨q9, z9, h⟩ | ⟨q9, z9, h⟩
                  · refine ⟨_, _, vw_names z9, ?_, ?_⟩
                    · intro q8 d9
                      injection d9 with d9
                      subst d9
                      rcases h with ⟨q9, z9, h⟩ | ⟨q9, z9, h⟩
                      · refine ⟨_, _, vw_types z9, ?_, ?_⟩
                        · intro q8 d9
                          injection d9 with d9
                          subst d9
                          rcases h with ⟨q9, z9, h⟩ | ⟨q9, z9, h⟩
                          · refine ⟨_, _, vw_twice z9, ?_, ?_⟩
                            · intro q8 d9
                              injection d9 with d9
                              subst d9
                              rcases h with ⟨q9, z9, h⟩ | ⟨q9, z9, h⟩
                              · refine ⟨_, _, vw_codes z9, ?_, ?_⟩
                                · intro q8 d9
                                  injection d9 with d9
                                  subst d9
                                  rcases h with ⟨c, h⟩ | ⟨c, h⟩
                                  · refine ⟨fun _ => ?_, fun c2 => absurd c c2⟩
                                    exact vw_readFile_J59 h
                                  · refine ⟨fun c2 => absurd c2 c, fun _ => ?_⟩
                                    exact vw_readFile_J59 h
                                · intro q8 d9
                                  exact nomatch d9
                              · refine ⟨_, _, vw_codes z9, ?_, ?_⟩
                                · intro q8 d9
                                  exact nomatch d9
                                · intro q8 d9
                                  injection d9 with d9
                                  subst d9
                                  exact h
                            · intro q8 d9
                              exact nomatch d9
                          · refine ⟨_, _, vw_twice z9, ?_, ?_⟩
                            · intro q8 d9
                              exact nomatch d9
                            · intro q8 d9
                              injection d9 with d9
                              subst d9
                              exact h
                        · intro q8 d9
                          exact nomatch d9
                      · refine ⟨_, _, vw_types z9, ?_, ?_⟩
                        · intro q8 d9
                          exact nomatch d9
                        · intro q8 d9
                          injection d9 with d9
                          subst d9
                          exact h
                    · intro q8 d9
                      exact nomatch d9
                  · refine ⟨_, _, vw_names z9, ?_, ?_⟩
                    · intro q8 d9
                      exact nomatch d9
                    · intro q8 d9
                      injection d9 with d9
                      subst d9
                      exact h
                · intro q8 d9
                  exact nomatch d9
              · refine ⟨_, _, vw_classes z9, ?_, ?_⟩
                · intro q8 d9
                  exact nomatch d9
                · intro q8 d9
                  injection d9 with d9
                  subst d9
                  exact h
            · intro q8 d9
              exact nomatch d9
          · refine ⟨_, _, vw_flags z9, ?_, ?_⟩
            · intro q8 d9
              exact nomatch d9
            · intro q8 d9
              injection d9 with d9
              subst d9
              exact h
        · intro q8 d9
          exact nomatch d9
      · refine ⟨_, _, vw_entries z9, ?_, ?_⟩
        · intro q8 d9
          exact nomatch d9
        · intro q8 d9
          injection d9 with d9
          subst d9
          exact h
    · intro q8 d9
      exact nomatch d9
  · refine ⟨_, _, vw_layout z9, ?_, ?_⟩
    · intro q8 d9
      exact nomatch d9
    · intro q8 d9
      injection d9 with d9
      subst d9
      exact h
set_option maxRecDepth 100000 in
theorem vz_readFile {S : MS} {p1 : Nat} {x2 : Int32} {oo : (Nat × MS) ⊕ MS} {Q : Nat → MS → Prop} {E : MS → Prop} (h : v_readFile S p1 x2 oo) (w : w_readFile S p1 x2 Q E) : oQ Q E oo := by
  unfold v_readFile at h
  unfold w_readFile at w
  obtain ⟨v9, e9, h⟩ := h
  replace w := w v9 e9
  obtain ⟨v9, e9, h⟩ := h
  replace w := w v9 e9
  obtain ⟨Q9, E9, w0, w⟩ := w
  rcases h with ⟨q9, z9, h⟩ | ⟨q9, z9, h⟩
  · replace w := w.1 q9 (vz_layout z9 w0)
    obtain ⟨Q9, E9, w0, w⟩ := w
    rcases h with ⟨q9, z9, h⟩ | ⟨q9, z9, h⟩
    · replace w := w.1 q9 (vz_entries z9 w0)
      obtain ⟨Q9, E9, w0, w⟩ := w
      rcases h with ⟨q9, z9, h⟩ | ⟨q9, z9, h⟩
      · replace w := w.1 q9 (vz_flags z9 w0)
        obtain ⟨Q9, E9, w0, w⟩ := w
        rcases h with ⟨q9, z9, h⟩ | ⟨q9, z9, h⟩
        · replace w := w.1 q9 (vz_classes z9 w0)
          obtain ⟨Q9, E9, w0, w⟩ := w
          rcases h with ⟨q9, z9, h⟩ | ⟨q9, z9, h⟩
          · replace w := w.1 q9 (vz_names z9 w0)
            obtain ⟨Q9, E9, w0, w⟩ := w
            rcases h with ⟨q9, z9, h⟩ | ⟨q9, z9, h⟩
            · replace w := w.1 q9 (vz_types z9 w0)
              obtain ⟨Q9, E9, w0, w⟩ := w
              rcases h with ⟨q9, z9, h⟩ | ⟨q9, z9, h⟩
              · replace w := w.1 q9 (vz_twice z9 w0)
                obtain ⟨Q9, E9, w0, w⟩ := w
                rcases h with ⟨q9, z9, h⟩ | ⟨q9, z9, h⟩
                · replace w := w.1 q9 (vz_codes z9 w0)
                  rcases h with ⟨c, h⟩ | ⟨c, h⟩
                  · replace w := w.1 c
                    exact vz_readFile_J59 h w
                  · replace w := w.2 c
                    exact vz_readFile_J59 h w
                · replace w := w.2 q9 (vz_codes z9 w0)
                  rw [h]
                  exact w
              · replace w := w.2 q9 (vz_twice z9 w0)
                rw [h]
                exact w
            · replace w := w.2 q9 (vz_types z9 w0)
              rw [h]
              exact w
          · replace w := w.2 q9 (vz_names z9 w0)
            rw [h]
            exact w
        · replace w := w.2 q9 (vz_classes z9 w0)
          rw [h]
          exact w
      · replace w := w.2 q9 (vz_flags z9 w0)
        rw [h]
        exact w
    · replace w := w.2 q9 (vz_entries z9 w0)
      rw [h]
      exact w
  · replace w := w.2 q9 (vz_layout z9 w0)
    rw [h]
    exact w
