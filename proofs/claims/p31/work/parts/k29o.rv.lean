def v_made_J36 (ro : Int32) (uo : MS) (U36 : MS) : Prop := (∃ S4 : MS, S4 = wI U36 0 98 4 ∧ (ro = (0 : Int32) ∧ uo = S4))
def v_made (S : MS) (x1 : Int32) (ro : Int32) (uo : MS) : Prop := ((0 ≤ x1.toInt ∧ ((0 < (lg_cmp (((qI S 0 86).toInt64) + (x1.toInt64)) (20000 : Int64)).toInt ∧ (v_made_J36 ro uo S)) ∨ (¬ 0 < (lg_cmp (((qI S 0 86).toInt64) + (x1.toInt64)) (20000 : Int64)).toInt ∧ (((qI S 0 85).toInt = 400 ∧ (v_made_J36 ro uo S)) ∨ (¬ (qI S 0 85).toInt = 400 ∧ (∃ S8 : MS, S8 = wI S 0 85 ((qI S 0 85) + (1 : Int32)) ∧ (((0 : Int) ≤ (qI S8 0 85).toInt ∧ (qI S8 0 85).toInt < 401) ∧ (∃ S10 : MS, S10 = wI S8 39 (((qI S8 0 85).toInt).toNat) (qI S8 0 86) ∧ (((0 : Int) ≤ (qI S10 0 85).toInt ∧ (qI S10 0 85).toInt < 401) ∧ (∃ S12 : MS, S12 = wI S10 40 (((qI S10 0 85).toInt).toNat) x1 ∧ (∃ S14 : MS, S14 = wI S12 0 86 ((qI S12 0 86) + x1) ∧ (∃ (S16 : MS), v_put S14 ((qI S14 0 85).toInt64) (1 : Int32) S16 ∧ (ro = (1 : Int32) ∧ uo = S16))))))))))))) ∨ (¬ 0 ≤ x1.toInt ∧ (∃ (S19 : MS), v_throwError S (3 : Int32) S19 ∧ (ro = (0 : Int32) ∧ uo = S19))))
set_option maxRecDepth 100000 in
theorem ru_made_J36 {ι : Type} {P : Int32 → MS → Prop} {Q : Int32 → MS → Prop} {U36 : MS} (i0 : ι) (K : ∀ (i : ι) (ro : Int32) (uo : MS), v_made_J36 ro uo U36 → P ro uo) (h : w_made_J36 Q U36) : ∃ ro uo, P ro uo ∧ Q ro uo := by
  unfold w_made_J36 at h
  obtain ⟨S4, eS4⟩ : ∃ x9 : MS, x9 = wI U36 0 98 4 := ⟨_, rfl⟩
  replace h := h S4 eS4
  replace K := fun i ro uo z => K i ro uo ⟨S4, eS4, z⟩
  exact ⟨_, _, K i0 _ _ ⟨rfl, rfl⟩, h⟩
set_option maxRecDepth 100000 in
theorem ru_made {S : MS} {x1 : Int32} {Q : Int32 → MS → Prop} (h : w_made S x1 Q) : ∃ ro uo, v_made S x1 ro uo ∧ Q ro uo := by
  have i0 : Unit := ()
  have K : ∀ (i : Unit) (ro : Int32) (uo : MS), v_made S x1 ro uo → v_made S x1 ro uo := fun _ _ _ z => z
  unfold w_made at h
  by_cases c : 0 ≤ x1.toInt
  · replace h := h.1 c
    replace K := fun i ro uo z => K i ro uo (Or.inl ⟨c, z⟩)
    by_cases c : 0 < (lg_cmp (((qI S 0 86).toInt64) + (x1.toInt64)) (20000 : Int64)).toInt
    · replace h := h.1 c
      replace K := fun i ro uo z => K i ro uo (Or.inl ⟨c, z⟩)
      exact ru_made_J36 i0 K h
    · replace h := h.2 c
      replace K := fun i ro uo z => K i ro uo (Or.inr ⟨c, z⟩)
      by_cases c : (qI S 0 85).toInt = 400
      · replace h := h.1 c
        replace K := fun i ro uo z => K i ro uo (Or.inl ⟨c, z⟩)
        exact ru_made_J36 i0 K h
      · replace h := h.2 c
        replace K := fun i ro uo z => K i ro uo (Or.inr ⟨c, z⟩)
        obtain ⟨S8, eS8⟩ : ∃ x9 : MS, x9 = wI S 0 85 ((qI S 0 85) + (1 : Int32)) := ⟨_, rfl⟩
        replace h := h S8 eS8
        replace K := fun i ro uo z => K i ro uo ⟨S8, eS8, z⟩
        obtain ⟨g1_, h⟩ := h
        replace K := fun i ro uo z => K i ro uo ⟨g1_, z⟩
        obtain ⟨S10, eS10⟩ : ∃ x9 : MS, x9 = wI S8 39 (((qI S8 0 85).toInt).toNat) (qI S8 0 86) := ⟨_, rfl⟩
        replace h := h S10 eS10
        replace K := fun i ro uo z => K i ro uo ⟨S10, eS10, z⟩
        obtain ⟨g2_, h⟩ := h
        replace K := fun i ro uo z => K i ro uo ⟨g2_, z⟩
        obtain ⟨S12, eS12⟩ : ∃ x9 : MS, x9 = wI S10 40 (((qI S10 0 85).toInt).toNat) x1 := ⟨_, rfl⟩
        replace h := h S12 eS12
        replace K := fun i ro uo z => K i ro uo ⟨S12, eS12, z⟩
        obtain ⟨S14, eS14⟩ : ∃ x9 : MS, x9 = wI S12 0 86 ((qI S12 0 86) + x1) := ⟨_, rfl⟩
        replace h := h S14 eS14
        replace K := fun i ro uo z => K i ro uo ⟨S14, eS14, z⟩
        obtain ⟨Q9, h0, h⟩ := h
        obtain ⟨S16, z9, g9⟩ := ru_put h0
        replace h := h S16 g9
        replace K := fun i ro uo z => K i ro uo ⟨S16, z9, z⟩
        exact ⟨_, _, K i0 _ _ ⟨rfl, rfl⟩, h⟩
  · replace h := h.2 c
    replace K := fun i ro uo z => K i ro uo (Or.inr ⟨c, z⟩)
    obtain ⟨Q9, h0, h⟩ := h
    obtain ⟨S19, z9, g9⟩ := ru_throwError h0
    replace h := h S19 g9
    replace K := fun i ro uo z => K i ro uo ⟨S19, z9, z⟩
    exact ⟨_, _, K i0 _ _ ⟨rfl, rfl⟩, h⟩
set_option maxRecDepth 100000 in
theorem vw_made_J36 {ro : Int32} {uo : MS} {U36 : MS} (h : v_made_J36 ro uo U36) : w_made_J36 (fun r u => r = ro ∧ u = uo) U36 := by
  unfold v_made_J36 at h
  unfold w_made_J36
  obtain ⟨v9, e9, h⟩ := h
  intro x9 d9
  have c9 : v9 = x9 := e9.trans d9.symm
  subst c9
  exact ⟨h.1.symm, h.2.symm⟩
set_option maxRecDepth 100000 in
theorem vz_made_J36 {ro : Int32} {uo : MS} {Q : Int32 → MS → Prop} {U36 : MS} (h : v_made_J36 ro uo U36) (w : w_made_J36 Q U36) : Q ro uo := by
  unfold v_made_J36 at h
  unfold w_made_J36 at w
  obtain ⟨v9, e9, h⟩ := h
  replace w := w v9 e9
  rw [h.1, h.2]
  exact w
set_option maxRecDepth 100000 in
theorem vw_made {S : MS} {x1 : Int32} {ro : Int32} {uo : MS} (h : v_made S x1 ro uo) : w_made S x1 (fun r u => r = ro ∧ u = uo) := by
  unfold v_made at h
  unfold w_made
  rcases h with ⟨c, h⟩ | ⟨c, h⟩
  · refine ⟨fun _ => ?_, fun c2 => absurd c c2⟩
    rcases h with ⟨c, h⟩ | ⟨c, h⟩
    · refine ⟨fun _ => ?_, fun c2 => absurd c c2⟩
      exact vw_made_J36 h
    · refine ⟨fun c2 => absurd c2 c, fun _ => ?_⟩
      rcases h with ⟨c, h⟩ | ⟨c, h⟩
      · refine ⟨fun _ => ?_, fun c2 => absurd c c2⟩
        exact vw_made_J36 h
      · refine ⟨fun c2 => absurd c2 c, fun _ => ?_⟩
        obtain ⟨v9, e9, h⟩ := h
        intro x9 d9
        have c9 : v9 = x9 := e9.trans d9.symm
        subst c9
        obtain ⟨g9, h⟩ := h
        refine ⟨g9, ?_⟩
        obtain ⟨v9, e9, h⟩ := h
        intro x9 d9
        have c9 : v9 = x9 := e9.trans d9.symm
        subst c9
        obtain ⟨g9, h⟩ := h
        refine ⟨g9, ?_⟩
        obtain ⟨v9, e9, h⟩ := h
        intro x9 d9
        have c9 : v9 = x9 := e9.trans d9.symm
        subst c9
        obtain ⟨v9, e9, h⟩ := h
        intro x9 d9
        have c9 : v9 = x9 := e9.trans d9.symm
        subst c9
        obtain ⟨q9, z9, h⟩ := h
        refine ⟨_, vw_put z9, ?_⟩
        intro q8 d9
        subst d9
        exact ⟨h.1.symm, h.2.symm⟩
  · refine ⟨fun c2 => absurd c2 c, fun _ => ?_⟩
    obtain ⟨q9, z9, h⟩ := h
    refine ⟨_, vw_throwError z9, ?_⟩
    intro q8 d9
    subst d9
    exact ⟨h.1.symm, h.2.symm⟩
set_option maxRecDepth 100000 in
theorem vz_made {S : MS} {x1 : Int32} {ro : Int32} {uo : MS} {Q : Int32 → MS → Prop} (h : v_made S x1 ro uo) (w : w_made S x1 Q) : Q ro uo := by
  unfold v_made at h
  unfold w_made at w
  rcases h with ⟨c, h⟩ | ⟨c, h⟩
  · replace w := w.1 c
    rcases h with ⟨c, h⟩ | ⟨c, h⟩
    · replace w := w.1 c
      exact vz_made_J36 h w
    · replace w := w.2 c
      rcases h with ⟨c, h⟩ | ⟨c, h⟩
      · replace w := w.1 c
        exact vz_made_J36 h w
      · replace w := w.2 c
        obtain ⟨v9, e9, h⟩ := h
        replace w := w v9 e9
        replace h := h.2
        replace w := w.2
        obtain ⟨v9, e9, h⟩ := h
        replace w := w v9 e9
        replace h := h.2
        replace w := w.2
        obtain ⟨v9, e9, h⟩ := h
        replace w := w v9 e9
        obtain ⟨v9, e9, h⟩ := h
        replace w := w v9 e9
        obtain ⟨q9, z9, h⟩ := h
        obtain ⟨Q9, w0, w⟩ := w
        replace w := w q9 (vz_put z9 w0)
        rw [h.1, h.2]
        exact w
  · replace w := w.2 c
    obtain ⟨q9, z9, h⟩ := h
    obtain ⟨Q9, w0, w⟩ := w
    replace w := w q9 (vz_throwError z9 w0)
    rw [h.1, h.2]
    exact w
def v_onArrays_J135 (ro : Int32) (uo : MS) (U135 : MS) : Prop := (∃ (S10 : MS), v_throwError U135 (2 : Int32) S10 ∧ (ro = (0 : Int32) ∧ uo = S10))
def v_onArrays_J81 (ro : Int32) (uo : MS) (U81 : MS) (t81_0 : Int32) (v81_1 : Int32) (v81_2 : Int32) : Prop := (∃ (r4 : Int32) (S5 : MS), v_gotInt U81 r4 S5 ∧ ((r4.toInt = 0 ∧ (∃ (S36 : MS), v_throwError S5 (1 : Int32) S36 ∧ (ro = (0 : Int32) ∧ uo = S36))) ∨ (¬ r4.toInt = 0 ∧ ((v81_1.toInt = 190 ∧ (((0 : Int) ≤ r4.toInt ∧ r4.toInt < 401) ∧ (∃ (S33 : MS), v_putInt S5 (qI S5 40 r4.toInt.toNat) S33 ∧ (ro = (1 : Int32) ∧ uo = S33)))) ∨ (¬ v81_1.toInt = 190 ∧ ((t81_0.toInt < 0 ∧ (v_onArrays_J135 ro uo S5)) ∨ (¬ t81_0.toInt < 0 ∧ (((0 : Int) ≤ r4.toInt ∧ r4.toInt < 401) ∧ ((t81_0.toInt < (qI S5 40 r4.toInt.toNat).toInt ∧ ((v81_1.toInt = 79 ∧ (((0 : Int) ≤ r4.toInt ∧ r4.toInt < 401) ∧ (((0 : Int) ≤ ((qI S5 39 r4.toInt.toNat) + t81_0).toInt ∧ ((qI S5 39 r4.toInt.toNat) + t81_0).toInt < 20000) ∧ (∃ S29 : MS, S29 = wI S5 38 ((((qI S5 39 r4.toInt.toNat) + t81_0).toInt).toNat) v81_2 ∧ (ro = (1 : Int32) ∧ uo = S29))))) ∨ (¬ v81_1.toInt = 79 ∧ (((0 : Int) ≤ r4.toInt ∧ r4.toInt < 401) ∧ (((0 : Int) ≤ ((qI S5 39 r4.toInt.toNat) + t81_0).toInt ∧ ((qI S5 39 r4.toInt.toNat) + t81_0).toInt < 20000) ∧ (∃ (S23 : MS), v_putInt S5 (qI S5 38 ((((qI S5 39 r4.toInt.toNat) + t81_0).toInt).toNat)) S23 ∧ (ro = (1 : Int32) ∧ uo = S23))))))) ∨ (¬ t81_0.toInt < (qI S5 40 r4.toInt.toNat).toInt ∧ (v_onArrays_J135 ro uo S5)))))))))))
def v_onArrays_J65 (ro : Int32) (uo : MS) (U65 : MS) (t65_0 : Int32) (v65_1 : Int32) : Prop := ((v65_1.toInt = 190 ∧ (v_onArrays_J81 ro uo U65 0 v65_1 t65_0)) ∨ (¬ v65_1.toInt = 190 ∧ (∃ (r40 : Int32) (S41 : MS), v_gotInt U65 r40 S41 ∧ (v_onArrays_J81 ro uo S41 r40 v65_1 t65_0))))
def v_onArrays (S : MS) (x1 : Int32) (ro : Int32) (uo : MS) : Prop := ((x1.toInt = 188 ∧ (∃ (r62 : Int32) (S63 : MS), v_gotInt S r62 S63 ∧ (∃ (r66 : Int32) (S67 : MS), v_made S63 r62 r66 S67 ∧ (ro = r66 ∧ uo = S67)))) ∨ (¬ x1.toInt = 188 ∧ ((x1.toInt = 191 ∧ (∃ (r49 : Int64) (S50 : MS), v_got S (1 : Int32) r49 S50 ∧ (((lg_cmp r49 0).toInt = 0 ∧ (∃ (S59 : MS), v_throwError S50 (1 : Int32) S59 ∧ (ro = (0 : Int32) ∧ uo = S59))) ∨ (¬ (lg_cmp r49 0).toInt = 0 ∧ (∃ (S56 : MS), v_throwError S50 (((-1 : Int64) - r49).toInt32) S56 ∧ (ro = (0 : Int32) ∧ uo = S56)))))) ∨ (¬ x1.toInt = 191 ∧ ((x1.toInt = 79 ∧ (∃ (r45 : Int32) (S46 : MS), v_gotInt S r45 S46 ∧ (v_onArrays_J65 ro uo S46 r45 x1))) ∨ (¬ x1.toInt = 79 ∧ (v_onArrays_J65 ro uo S 0 x1)))))))
set_option maxRecDepth 100000 in
theorem ru_onArrays_J135 {ι : Type} {P : Int32 → MS → Prop} {Q : Int32 → MS → Prop} {U135 : MS} (i0 : ι) (K : ∀ (i : ι) (ro : Int32) (uo : MS), v_onArrays_J135 ro uo U135 → P ro uo) (h : w_onArrays_J135 Q U135) : ∃ ro uo, P ro uo ∧ Q ro uo := by
  unfold w_onArrays_J135 at h
  obtain ⟨Q9, h0, h⟩ := h
  obtain ⟨S10, z9, g9⟩ := ru_throwError h0
  replace h := h S10 g9
  replace K := fun i ro uo z => K i ro uo ⟨S10, z9, z⟩
  exact ⟨_, _, K i0 _ _ ⟨rfl, rfl⟩, h⟩
set_option maxRecDepth 100000 in
theorem ru_onArrays_J81 {ι : Type} {P : Int32 → MS → Prop} {Q : Int32 → MS → Prop} {U81 : MS} {t81_0 : Int32} {v81_1 : Int32} {v81_2 : Int32} (i0 : ι) (K : ∀ (i : ι) (ro : Int32) (uo : MS), v_onArrays_J81 ro uo U81 t81_0 v81_1 v81_2 → P ro uo) (h : w_onArrays_J81 Q U81 t81_0 v81_1 v81_2) : ∃ ro uo, P ro uo ∧ Q ro uo := by
  unfold w_onArrays_J81 at h
  obtain ⟨Q9, h0, h⟩ := h
  obtain ⟨r4, S5, z9, g9⟩ := ru_gotInt h0
  replace h := h r4 S5 g9
  replace K := fun i ro uo z => K i ro uo ⟨r4, S5, z9, z⟩
  by_cases c : r4.toInt = 0
  · replace h := h.1 c
    replace K := fun i ro uo z => K i ro uo (Or.inl ⟨c, z⟩)
    obtain ⟨Q9, h0, h⟩ := h
    obtain ⟨S36, z9, g9⟩ := ru_throwError h0
    replace h := h S36 g9
    replace K := fun i ro uo z => K i ro uo ⟨S36, z9, z⟩
    exact ⟨_, _, K i0 _ _ ⟨rfl, rfl⟩, h⟩
  · replace h := h.2 c
    replace K := fun i ro uo z => K i ro uo (Or.inr ⟨c, z⟩)
    by_cases c : v81_1.toInt = 190
    · replace h := h.1 c
      replace K := fun i ro uo z => K i ro uo (Or.inl ⟨c, z⟩)
      obtain ⟨g1_, h⟩ := h
      replace K := fun i ro uo z => K i ro uo ⟨g1_, z⟩
      obtain ⟨Q9, h0, h⟩ := h
      obtain ⟨S33, z9, g9⟩ := ru_putInt h0
      replace h := h S33 g9
      replace K := fun i ro uo z => K i ro uo ⟨S33, z9, z⟩
      exact ⟨_, _, K i0 _ _ ⟨rfl, rfl⟩, h⟩
    · replace h := h.2 c
      replace K := fun i ro uo z => K i ro uo (Or.inr ⟨c, z⟩)
      by_cases c : t81_0.toInt < 0
      · replace h := h.1 c
        replace K := fun i ro uo z => K i ro uo (Or.inl ⟨c, z⟩)
        exact ru_onArrays_J135 i0 K h
      · replace h := h.2 c
        replace K := fun i ro uo z => K i ro uo (Or.inr ⟨c, z⟩)
        obtain ⟨g2_, h⟩ := h
        replace K := fun i ro uo z => K i ro uo ⟨g2_, z⟩
        by_cases c : t81_0.toInt < (qI S5 40 r4.toInt.toNat).toInt
        · replace h := h.1 c
          replace K := fun i ro uo z => K i ro uo (Or.inl ⟨c, z⟩)
          by_cases c : v81_1.toInt = 79
          · replace h := h.1 c
            replace K := fun i ro uo z => K i ro uo (Or.inl ⟨c, z⟩)
            obtain ⟨g3_, h⟩ := h
            replace K := fun i ro uo z => K i ro uo ⟨g3_, z⟩
            obtain ⟨g4_, h⟩ := h
            replace K := fun i ro uo z => K i ro uo ⟨g4_, z⟩
            obtain ⟨S29, eS29⟩ : ∃ x9 : MS, x9 = wI S5 38 ((((qI S5 39 r4.toInt.toNat) + t81_0).toInt).toNat) v81_2 := ⟨_, rfl⟩
            replace h := h S29 eS29
            replace K := fun i ro uo z => K i ro uo ⟨S29, eS29, z⟩
            exact ⟨_, _, K i0 _ _ ⟨rfl, rfl⟩, h⟩
          · replace h := h.2 c
            replace K := fun i ro uo z => K i ro uo (Or.inr ⟨c, z⟩)
            obtain ⟨g5_, h⟩ := h
            replace K := fun i ro uo z => K i ro uo ⟨g5_, z⟩
            obtain ⟨g6_, h⟩ := h
            replace K := fun i ro uo z => K i ro uo ⟨g6_, z⟩
            obtain ⟨Q9, h0, h⟩ := h
            obtain ⟨S23, z9, g9⟩ := ru_putInt h0
            replace h := h S23 g9
            replace K := fun i ro uo z => K i ro uo ⟨S23, z9, z⟩
            exact ⟨_, _, K i0 _ _ ⟨rfl, rfl⟩, h⟩
        · replace h := h.2 c
          replace K := fun i ro uo z => K i ro uo (Or.inr ⟨c, z⟩)
          exact ru_onArrays_J135 i0 K h
set_option maxRecDepth 100000 in
theorem ru_onArrays_J65 {ι : Type} {P : Int32 → MS → Prop} {Q : Int32 → MS → Prop} {U65 : MS} {t65_0 : Int32} {v65_1 : Int32} (i0 : ι) (K : ∀ (i : ι) (ro : Int32) (uo : MS), v_onArrays_J65 ro uo U65 t65_0 v65_1 → P ro uo) (h : w_onArrays_J65 Q U65 t65_0 v65_1) : ∃ ro uo, P ro uo ∧ Q ro uo := by
  unfold w_onArrays_J65 at h
  by_cases c : v65_1.toInt = 190
  · replace h := h.1 c
    replace K := fun i ro uo z => K i ro uo (Or.inl ⟨c, z⟩)
    exact ru_onArrays_J81 i0 K h
  · replace h := h.2 c
    replace K := fun i ro uo z => K i ro uo (Or.inr ⟨c, z⟩)
    obtain ⟨Q9, h0, h⟩ := h
    obtain ⟨r40, S41, z9, g9⟩ := ru_gotInt h0
    replace h := h r40 S41 g9
    replace K := fun i ro uo z => K i ro uo ⟨r40, S41, z9, z⟩
    exact ru_onArrays_J81 i0 K h
set_option maxRecDepth 100000 in
theorem ru_onArrays {S : MS} {x1 : Int32} {Q : Int32 → MS → Prop} (h : w_onArrays S x1 Q) : ∃ ro uo, v_onArrays S x1 ro uo ∧ Q ro uo := by
  have i0 : Unit := ()
  have K : ∀ (i : Unit) (ro : Int32) (uo : MS), v_onArrays S x1 ro uo → v_onArrays S x1 ro uo := fun _ _ _ z => z
  unfold w_onArrays at h
  by_cases c : x1.toInt = 188
  · replace h := h.1 c
    replace K := fun i ro uo z => K i ro uo (Or.inl ⟨c, z⟩)
    obtain ⟨Q9, h0, h⟩ := h
    obtain ⟨r62, S63, z9, g9⟩ := ru_gotInt h0
    replace h := h r62 S63 g9
    replace K := fun i ro uo z => K i ro uo ⟨r62, S63, z9, z⟩
    obtain ⟨Q9, h0, h⟩ := h
    obtain ⟨r66, S67, z9, g9⟩ := ru_made h0
    replace h := h r66 S67 g9
    replace K := fun i ro uo z => K i ro uo ⟨r66, S67, z9, z⟩
    exact ⟨_, _, K i0 _ _ ⟨rfl, rfl⟩, h⟩
  · replace h := h.2 c
    replace K := fun i ro uo z => K i ro uo (Or.inr ⟨c, z⟩)
    by_cases c : x1.toInt = 191
    · replace h := h.1 c
      replace K := fun i ro uo z => K i ro uo (Or.inl ⟨c, z⟩)
      obtain ⟨Q9, h0, h⟩ := h
      obtain ⟨r49, S50, z9, g9⟩ := ru_got h0
      replace h := h r49 S50 g9
      replace K := fun i ro uo z => K i ro uo ⟨r49, S50, z9, z⟩
      by_cases c : (lg_cmp r49 0).toInt = 0
      · replace h := h.1 c
        replace K := fun i ro uo z => K i ro uo (Or.inl ⟨c, z⟩)
        obtain ⟨Q9, h0, h⟩ := h
        obtain ⟨S59, z9, g9⟩ := ru_throwError h0
        replace h := h S59 g9
        replace K := fun i ro uo z => K i ro uo ⟨S59, z9, z⟩
        exact ⟨_, _, K i0 _ _ ⟨rfl, rfl⟩, h⟩
      · replace h := h.2 c
        replace K := fun i ro uo z => K i ro uo (Or.inr ⟨c, z⟩)
        obtain ⟨Q9, h0, h⟩ := h
        obtain ⟨S56, z9, g9⟩ := ru_throwError h0
        replace h := h S56 g9
        replace K := fun i ro uo z => K i ro uo ⟨S56, z9, z⟩
        exact ⟨_, _, K i0 _ _ ⟨rfl, rfl⟩, h⟩
    · replace h := h.2 c
      replace K := fun i ro uo z => K i ro uo (Or.inr ⟨c, z⟩)
      by_cases c : x1.toInt = 79
      · replace h := h.1 c
        replace K := fun i ro uo z => K i ro uo (Or.inl ⟨c, z⟩)
        obtain ⟨Q9, h0, h⟩ := h
        obtain ⟨r45, S46, z9, g9⟩ := ru_gotInt h0
        replace h := h r45 S46 g9
        replace K := fun i ro uo z => K i ro uo ⟨r45, S46, z9, z⟩
        exact ru_onArrays_J65 i0 K h
      · replace h := h.2 c
        replace K := fun i ro uo z => K i ro uo (Or.inr ⟨c, z⟩)
        exact ru_onArrays_J65 i0 K h
set_option maxRecDepth 100000 in
theorem vw_onArrays_J135 {ro : Int32} {uo : MS} {U135 : MS} (h : v_onArrays_J135 ro uo U135) : w_onArrays_J135 (fun r u => r = ro ∧ u = uo) U135 := by
  unfold v_onArrays_J135 at h
  unfold w_onArrays_J135
  obtain ⟨q9, z9, h⟩ := h
  refine ⟨_, vw_throwError z9, ?_⟩
  intro q8 d9
  subst d9
  exact ⟨h.1.symm, h.2.symm⟩
set_option maxRecDepth 100000 in
theorem vz_onArrays_J135 {ro : Int32} {uo : MS} {Q : Int32 → MS → Prop} {U135 : MS} (h : v_onArrays_J135 ro uo U135) (w : w_onArrays_J135 Q U135) : Q ro uo := by
  unfold v_onArrays_J135 at h
  unfold w_onArrays_J135 at w
  obtain ⟨q9, z9, h⟩ := h
  obtain ⟨Q9, w0, w⟩ := w
  replace w := w q9 (vz_throwError z9 w0)
  rw [h.1, h.2]
  exact w
set_option maxRecDepth 100000 in
theorem vw_onArrays_J81 {ro : Int32} {uo : MS} {U81 : MS} {t81_0 : Int32} {v81_1 : Int32} {v81_2 : Int32} (h : v_onArrays_J81 ro uo U81 t81_0 v81_1 v81_2) : w_onArrays_J81 (fun r u => r = ro ∧ u = uo) U81 t81_0 v81_1 v81_2 := by
  unfold v_onArrays_J81 at h
  unfold w_onArrays_J81
  obtain ⟨p9, q9, z9, h⟩ := h
  refine ⟨_, vw_gotInt z9, ?_⟩
  rintro p8 q8 ⟨d8, d9⟩
  subst d8
  subst d9
  rcases h with ⟨c, h⟩ | ⟨c, h⟩
  · refine ⟨fun _ => ?_, fun c2 => absurd c c2⟩
    obtain ⟨q9, z9, h⟩ := h
    refine ⟨_, vw_throwError z9, ?_⟩
    intro q8 d9
    subst d9
    exact ⟨h.1.symm, h.2.symm⟩
  · refine ⟨fun c2 => absurd c2 c, fun _ => ?_⟩
    rcases h with ⟨c, h⟩ | ⟨c, h⟩
    · refine ⟨fun _ => ?_, fun c2 => absurd c c2⟩
      obtain ⟨g9, h⟩ := h
      refine ⟨g9, ?_⟩
      obtain ⟨q9, z9, h⟩ := h
      refine ⟨_, vw_putInt z9, ?_⟩
      intro q8 d9
      subst d9
      exact ⟨h.1.symm, h.2.symm⟩
    · refine ⟨fun c2 => absurd c2 c, fun _ => ?_⟩
      rcases h with ⟨c, h⟩ | ⟨c, h⟩
      · refine ⟨fun _ => ?_, fun c2 => absurd c c2⟩
        exact vw_onArrays_J135 h
      · refine ⟨fun c2 => absurd c2 c, fun _ => ?_⟩
        obtain ⟨g9, h⟩ := h
        refine ⟨g9, ?_⟩
        rcases h with ⟨c, h⟩ | ⟨c, h⟩
        · refine ⟨fun _ => ?_, fun c2 => absurd c c2⟩
          rcases h with ⟨c, h⟩ | ⟨c, h⟩
          · refine ⟨fun _ => ?_, fun c2 => absurd c c2⟩
            obtain ⟨g9, h⟩ := h
            refine ⟨g9, ?_⟩
            obtain ⟨g9, h⟩ := h
            refine ⟨g9, ?_⟩
            obtain ⟨v9, e9, h⟩ := h
            intro x9 d9
            have c9 : v9 = x9 := e9.trans d9.symm
            subst c9
            exact ⟨h.1.symm, h.2.symm⟩
          · refine ⟨fun c2 => absurd c2 c, fun _ => ?_⟩
            obtain ⟨g9, h⟩ := h
            refine ⟨g9, ?_⟩
            obtain ⟨g9, h⟩ := h
            refine ⟨g9, ?_⟩
            obtain ⟨q9, z9, h⟩ := h
            refine ⟨_, vw_putInt z9, ?_⟩
            intro q8 d9
            subst d9
            exact ⟨h.1.symm, h.2.symm⟩
        · refine ⟨fun c2 => absurd c2 c, fun _ => ?_⟩
          exact vw_onArrays_J135 h
set_option maxRecDepth 100000 in
theorem vz_onArrays_J81 {ro : Int32} {uo : MS} {Q : Int32 → MS → Prop} {U81 : MS} {t81_0 : Int32} {v81_1 : Int32} {v81_2 : Int32} (h : v_onArrays_J81 ro uo U81 t81_0 v81_1 v81_2) (w : w_onArrays_J81 Q U81 t81_0 v81_1 v81_2) : Q ro uo := by
  unfold v_onArrays_J81 at h
  unfold w_onArrays_J81 at w
  obtain ⟨p9, q9, z9, h⟩ := h
  obtain ⟨Q9, w0, w⟩ := w
  replace w := w p9 q9 (vz_gotInt z9 w0)
  rcases h with ⟨c, h⟩ | ⟨c, h⟩
  · replace w := w.1 c
    obtain ⟨q9, z9, h⟩ := h
    obtain ⟨Q9, w0, w⟩ := w
    replace w := w q9 (vz_throwError z9 w0)
    rw [h.1, h.2]
    exact w
  · replace w := w.2 c
    rcases h with ⟨c, h⟩ | ⟨c, h⟩
    · replace w := w.1 c
      replace h := h.2
      replace w := w.2
      obtain ⟨q9, z9, h⟩ := h
      obtain ⟨Q9, w0, w⟩ := w
      replace w := w q9 (vz_putInt z9 w0)
      rw [h.1, h.2]
      exact w
    · replace w := w.2 c
      rcases h with ⟨c, h⟩ | ⟨c, h⟩
      · replace w := w.1 c
        exact vz_onArrays_J135 h w
      · replace w := w.2 c
        replace h := h.2
        replace w := w.2
        rcases h with ⟨c, h⟩ | ⟨c, h⟩
        · replace w := w.1 c
          rcases h with ⟨c, h⟩ | ⟨c, h⟩
          · replace w := w.1 c
            replace h := h.2
            replace w := w.2
            replace h := h.2
            replace w := w.2
            obtain ⟨v9, e9, h⟩ := h
            replace w := w v9 e9
            rw [h.1, h.2]
            exact w
          · replace w := w.2 c
            replace h := h.2
            replace w := w.2
            replace h := h.2
            replace w := w.2
            obtain ⟨q9, z9, h⟩ := h
            obtain ⟨Q9, w0, w⟩ := w
            replace w := w q9 (vz_putInt z9 w0)
            rw [h.1, h.2]
            exact w
        · replace w := w.2 c
          exact vz_onArrays_J135 h w
set_option maxRecDepth 100000 in
theorem vw_onArrays_J65 {ro : Int32} {uo : MS} {U65 : MS} {t65_0 : Int32} {v65_1 : Int32} (h : v_onArrays_J65 ro uo U65 t65_0 v65_1) : w_onArrays_J65 (fun r u => r = ro ∧ u = uo) U65 t65_0 v65_1 := by
  unfold v_onArrays_J65 at h
  unfold w_onArrays_J65
  rcases h with ⟨c, h⟩ | ⟨c, h⟩
  · refine ⟨fun _ => ?_, fun c2 => absurd c c2⟩
    exact vw_onArrays_J81 h
  · refine ⟨fun c2 => absurd c2 c, fun _ => ?_⟩
    obtain ⟨p9, q9, z9, h⟩ := h
    refine ⟨_, vw_gotInt z9, ?_⟩
    rintro p8 q8 ⟨d8, d9⟩
    subst d8
    subst d9
    exact vw_onArrays_J81 h
set_option maxRecDepth 100000 in
theorem vz_onArrays_J65 {ro : Int32} {uo : MS} {Q : Int32 → MS → Prop} {U65 : MS} {t65_0 : Int32} {v65_1 : Int32} (h : v_onArrays_J65 ro uo U65 t65_0 v65_1) (w : w_onArrays_J65 Q U65 t65_0 v65_1) : Q ro uo := by
  unfold v_onArrays_J65 at h
  unfold w_onArrays_J65 at w
  rcases h with ⟨c, h⟩ | ⟨c, h⟩
  · replace w := w.1 c
    exact vz_onArrays_J81 h w
  · replace w := w.2 c
    obtain ⟨p9, q9, z9, h⟩ := h
    obtain ⟨Q9, w0, w⟩ := w
    replace w := w p9 q9 (vz_gotInt z9 w0)
    exact vz_onArrays_J81 h w
set_option maxRecDepth 100000 in
theorem vw_onArrays {S : MS} {x1 : Int32} {ro : Int32} {uo : MS} (h : v_onArrays S x1 ro uo) : w_onArrays S x1 (fun r u => r = ro ∧ u = uo) := by
  unfold v_onArrays at h
  unfold w_onArrays
  rcases h with ⟨c, h⟩ | ⟨c, h⟩
  · refine ⟨fun _ => ?_, fun c2 => absurd c c2⟩
    obtain ⟨p9, q9, z9, h⟩ := h
    refine ⟨_, vw_gotInt z9, ?_⟩
    rintro p8 q8 ⟨d8, d9⟩
    subst d8
    subst d9
    obtain ⟨p9, q9, z9, h⟩ := h
    refine ⟨_, vw_made z9, ?_⟩
    rintro p8 q8 ⟨d8, d9⟩
    subst d8
    subst d9
    exact ⟨h.1.symm, h.2.symm⟩
  · refine ⟨fun c2 => absurd c2 c, fun _ => ?_⟩
    rcases h with ⟨c, h⟩ | ⟨c, h⟩
    · refine ⟨fun _ => ?_, fun c2 => absurd c c2⟩
      obtain ⟨p9, q9, z9, h⟩ := h
      refine ⟨_, vw_got z9, ?_⟩
      rintro p8 q8 ⟨d8, d9⟩
      subst d8
      subst d9
      rcases h with ⟨c, h⟩ | ⟨c, h⟩
      · refine ⟨fun _ => ?_, fun c2 => absurd c c2⟩
        obtain ⟨q9, z9, h⟩ := h
        refine ⟨_, vw_throwError z9, ?_⟩
        intro q8 d9
        subst d9
        exact ⟨h.1.symm, h.2.symm⟩
      · refine ⟨fun c2 => absurd c2 c, fun _ => ?_⟩
        obtain ⟨q9, z9, h⟩ := h
        refine ⟨_, vw_throwError z9, ?_⟩
        intro q8 d9
        subst d9
        exact ⟨h.1.symm, h.2.symm⟩
    · refine ⟨fun c2 => absurd c2 c, fun _ => ?_⟩
      rcases h with ⟨c, h⟩ | ⟨c, h⟩
      · refine ⟨fun _ => ?_, fun c2 => absurd c c2⟩
        obtain ⟨p9, q9, z9, h⟩ := h
        refine ⟨_, vw_gotInt z9, ?_⟩
        rintro p8 q8 ⟨d8, d9⟩
        subst d8
        subst d9
        exact vw_onArrays_J65 h
      · refine ⟨fun c2 => absurd c2 c, fun _ => ?_⟩
        exact vw_onArrays_J65 h
set_option maxRecDepth 100000 in
theorem vz_onArrays {S : MS} {x1 : Int32} {ro : Int32} {uo : MS} {Q : Int32 → MS → Prop} (h : v_onArrays S x1 ro uo) (w : w_onArrays S x1 Q) : Q ro uo := by
  unfold v_onArrays at h
  unfold w_onArrays at w
  rcases h with ⟨c, h⟩ | ⟨c, h⟩
  · replace w := w.1 c
    obtain ⟨p9, q9, z9, h⟩ := h
    obtain ⟨Q9, w0, w⟩ := w
    replace w := w p9 q9 (vz_gotInt z9 w0)
    obtain ⟨p9, q9, z9, h⟩ := h
    obtain ⟨Q9, w0, w⟩ := w
    replace w := w p9 q9 (vz_made z9 w0)
    rw [h.1, h.2]
    exact w
  · replace w := w.2 c
    rcases h with ⟨c, h⟩ | ⟨c, h⟩
    · replace w := w.1 c
      obtain ⟨p9, q9, z9, h⟩ := h
      obtain ⟨Q9, w0, w⟩ := w
      replace w := w p9 q9 (vz_got z9 w0)
      rcases h with ⟨c, h⟩ | ⟨c, h⟩
      · replace w := w.1 c
        obtain ⟨q9, z9, h⟩ := h
        obtain ⟨Q9, w0, w⟩ := w
        replace w := w q9 (vz_throwError z9 w0)
        rw [h.1, h.2]
        exact w
      · replace w := w.2 c
        obtain ⟨q9, z9, h⟩ := h
        obtain ⟨Q9, w0, w⟩ := w
        replace w := w q9 (vz_throwError z9 w0)
        rw [h.1, h.2]
        exact w
    · replace w := w.2 c
      rcases h with ⟨c, h⟩ | ⟨c, h⟩
      · replace w := w.1 c
        obtain ⟨p9, q9, z9, h⟩ := h
        obtain ⟨Q9, w0, w⟩ := w
        replace w := w p9 q9 (vz_gotInt z9 w0)
        exact vz_onArrays_J65 h w
      · replace w := w.2 c
        exact vz_onArrays_J65 h w
def v_shuffle (S : MS) (x1 : Int32) (uo : MS) : Prop := (∃ a2 : Int32, a2 = ((qI S 0 97) - (1 : Int32)) ∧ (((0 : Int) ≤ a2.toInt ∧ a2.toInt < 60) ∧ (∃ a7 : Int32, a7 = (((24 : Int32) * a2) + (qI S 44 a2.toInt.toNat)) ∧ (((0 : Int) ≤ (a7 - (1 : Int32)).toInt ∧ (a7 - (1 : Int32)).toInt < 1440) ∧ (∃ a11 : Int64, a11 = (qJ S 46 (((a7 - (1 : Int32)).toInt).toNat)) ∧ (((0 : Int) ≤ (a7 - (1 : Int32)).toInt ∧ (a7 - (1 : Int32)).toInt < 1440) ∧ (∃ a15 : Int32, a15 = (qI S 48 (((a7 - (1 : Int32)).toInt).toNat)) ∧ ((x1.toInt = 89 ∧ (∃ (S49 : MS), v_putTagged S a11 a15 (1 : Int32) S49 ∧ (uo = S49))) ∨ (¬ x1.toInt = 89 ∧ (((0 : Int) ≤ (a7 - (2 : Int32)).toInt ∧ (a7 - (2 : Int32)).toInt < 1440) ∧ (∃ a20 : Int64, a20 = (qJ S 46 (((a7 - (2 : Int32)).toInt).toNat)) ∧ (((0 : Int) ≤ (a7 - (2 : Int32)).toInt ∧ (a7 - (2 : Int32)).toInt < 1440) ∧ (∃ a24 : Int32, a24 = (qI S 48 (((a7 - (2 : Int32)).toInt).toNat)) ∧ ((x1.toInt = 92 ∧ (∃ (S43 : MS), v_putTagged S a20 a24 (1 : Int32) S43 ∧ (∃ (S46 : MS), v_putTagged S43 a11 a15 (1 : Int32) S46 ∧ (uo = S46)))) ∨ (¬ x1.toInt = 92 ∧ (((0 : Int) ≤ (a7 - (2 : Int32)).toInt ∧ (a7 - (2 : Int32)).toInt < 1440) ∧ (∃ S28 : MS, S28 = wJ S 46 (((a7 - (2 : Int32)).toInt).toNat) a11 ∧ (((0 : Int) ≤ (a7 - (2 : Int32)).toInt ∧ (a7 - (2 : Int32)).toInt < 1440) ∧ (∃ S31 : MS, S31 = wI S28 48 (((a7 - (2 : Int32)).toInt).toNat) (vp_nar .byte a15) ∧ (((0 : Int) ≤ (a7 - (1 : Int32)).toInt ∧ (a7 - (1 : Int32)).toInt < 1440) ∧ (∃ S34 : MS, S34 = wJ S31 46 (((a7 - (1 : Int32)).toInt).toNat) a20 ∧ (((0 : Int) ≤ (a7 - (1 : Int32)).toInt ∧ (a7 - (1 : Int32)).toInt < 1440) ∧ (∃ S37 : MS, S37 = wI S34 48 (((a7 - (1 : Int32)).toInt).toNat) (vp_nar .byte a24) ∧ ((x1.toInt = 90 ∧ (∃ (S40 : MS), v_putTagged S37 a11 a15 (1 : Int32) S40 ∧ (uo = S40))) ∨ (¬ x1.toInt = 90 ∧ (uo = S37))))))))))))))))))))))))))
set_option maxRecDepth 100000 in
theorem ru_shuffle {S : MS} {x1 : Int32} {Q : MS → Prop} (h : w_shuffle S x1 Q) : ∃ uo, v_shuffle S x1 uo ∧ Q uo := by
  have i0 : Unit := ()
  have K : ∀ (i : Unit) (uo : MS), v_shuffle S x1 uo → v_shuffle S x1 uo := fun _ _ z => z
  unfold w_shuffle at h
  obtain ⟨a2, ea2⟩ : ∃ x9 : Int32, x9 = ((qI S 0 97) - (1 : Int32)) := ⟨_, rfl⟩
  replace h := h a2 ea2
  replace K := fun i uo z => K i uo ⟨a2, ea2, z⟩
  obtain ⟨g1_, h⟩ := h
  replace K := fun i uo z => K i uo ⟨g1_, z⟩
  obtain ⟨a7, ea7⟩ : ∃ x9 : Int32, x9 = (((24 : Int32) * a2) + (qI S 44 a2.toInt.toNat)) := ⟨_, rfl⟩
  replace h := h a7 ea7
  replace K := fun i uo z => K i uo ⟨a7, ea7, z⟩
  obtain ⟨g2_, h⟩ := h
  replace K := fun i uo z => K i uo ⟨g2_, z⟩
  obtain ⟨a11, ea11⟩ : ∃ x9 : Int64, x9 = (qJ S 46 (((a7 - (1 : Int32)).toInt).toNat)) := ⟨_, rfl⟩
  replace h := h a11 ea11
  replace K := fun i uo z => K i uo ⟨a11, ea11, z⟩
  obtain ⟨g3_, h⟩ := h
  replace K := fun i uo z => K i uo ⟨g3_, z⟩
  obtain ⟨a15, ea15⟩ : ∃ x9 : Int32, x9 = (qI S 48 (((a7 - (1 : Int32)).toInt).toNat)) := ⟨_, rfl⟩
  replace h := h a15 ea15
  replace K := fun i uo z => K i uo ⟨a15, ea15, z⟩
  by_cases c : x1.toInt = 89
  · replace h := h.1 c
    replace K := fun i uo z => K i uo (Or.inl ⟨c, z⟩)
    obtain ⟨Q9, h0, h⟩ := h
    obtain ⟨S49, z9, g9⟩ := ru_putTagged h0
    replace h := h S49 g9
    replace K := fun i uo z => K i uo ⟨S49, z9, z⟩
    exact ⟨_, K i0 _ rfl, h⟩
  · replace h := h.2 c
    replace K := fun i uo z => K i uo (Or.inr ⟨c, z⟩)
    obtain ⟨g4_, h⟩ := h
    replace K := fun i uo z => K i uo ⟨g4_, z⟩
    obtain ⟨a20, ea20⟩ : ∃ x9 : Int64, x9 = (qJ S 46 (((a7 - (2 : Int32)).toInt).toNat)) := ⟨_, rfl⟩
    replace h := h a20 ea20
    replace K := fun i uo z => K i uo ⟨a20, ea20, z⟩
    obtain ⟨g5_, h⟩ := h
    replace K := fun i uo z => K i uo ⟨g5_, z⟩
    obtain ⟨a24, ea24⟩ : ∃ x9 : Int32, x9 = (qI S 48 (((a7 - (2 : Int32)).toInt).toNat)) := ⟨_, rfl⟩
    replace h := h a24 ea24
    replace K := fun i uo z => K i uo ⟨a24, ea24, z⟩
    by_cases c : x1.toInt = 92
    · replace h := h.1 c
      replace K := fun i uo z => K i uo (Or.inl ⟨c, z⟩)
      obtain ⟨Q9, h0, h⟩ := h
      obtain ⟨S43, z9, g9⟩ := ru_putTagged h0
      replace h := h S43 g9
      replace K := fun i uo z => K i uo ⟨S43, z9, z⟩
      obtain ⟨Q9, h0, h⟩ := h
      obtain ⟨S46, z9, g9⟩ := ru_putTagged h0
      replace h := h S46 g9
      replace K := fun i uo z => K i uo ⟨S46, z9, z⟩
      exact ⟨_, K i0 _ rfl, h⟩
    · replace h := h.2 c
      replace K := fun i uo z => K i uo (Or.inr ⟨c, z⟩)
      obtain ⟨g6_, h⟩ := h
      replace K := fun i uo z => K i uo ⟨g6_, z⟩
      obtain ⟨S28, eS28⟩ : ∃ x9 : MS, x9 = wJ S 46 (((a7 - (2 : Int32)).toInt).toNat) a11 := ⟨_, rfl⟩
      replace h := h S28 eS28
      replace K := fun i uo z => K i uo ⟨S28, eS28, z⟩
      obtain ⟨g7_, h⟩ := h
      replace K := fun i uo z => K i uo ⟨g7_, z⟩
      obtain ⟨S31, eS31⟩ : ∃ x9 : MS, x9 = wI S28 48 (((a7 - (2 : Int32)).toInt).toNat) (vp_nar .byte a15) := ⟨_, rfl⟩
      replace h := h S31 eS31
      replace K := fun i uo z => K i uo ⟨S31, eS31, z⟩
      obtain ⟨g8_, h⟩ := h
      replace K := fun i uo z => K i uo ⟨g8_, z⟩
      obtain ⟨S34, eS34⟩ : ∃ x9 : MS, x9 = wJ S31 46 (((a7 - (1 : Int32)).toInt).toNat) a20 := ⟨_, rfl⟩
      replace h := h S34 eS34
      replace K := fun i uo z => K i uo ⟨S34, eS34, z⟩
      obtain ⟨g9_, h⟩ := h
      replace K := fun i uo z => K i uo ⟨g9_, z⟩
      obtain ⟨S37, eS37⟩ : ∃ x9 : MS, x9 = wI S34 48 (((a7 - (1 : Int32)).toInt).toNat) (vp_nar .byte a24) := ⟨_, rfl⟩
      replace h := h S37 eS37
      replace K := fun i uo z => K i uo ⟨S37, eS37, z⟩
      by_cases c : x1.toInt = 90
      · replace h := h.1 c
        replace K := fun i uo z => K i uo (Or.inl ⟨c, z⟩)
        obtain ⟨Q9, h0, h⟩ := h
        obtain ⟨S40, z9, g9⟩ := ru_putTagged h0
        replace h := h S40 g9
        replace K := fun i uo z => K i uo ⟨S40, z9, z⟩
        exact ⟨_, K i0 _ rfl, h⟩
      · replace h := h.2 c
        replace K := fun i uo z => K i uo (Or.inr ⟨c, z⟩)
        exact ⟨_, K i0 _ rfl, h⟩
set_option maxRecDepth 100000 in
theorem vw_shuffle {S : MS} {x1 : Int32} {uo : MS} (h : v_shuffle S x1 uo) : w_shuffle S x1 (fun u => u = uo) := by
  unfold v_shuffle at h
  unfold w_shuffle
  obtain ⟨v9, e9, h⟩ := h
  intro x9 d9
  have c9 : v9 = x9 := e9.trans d9.symm
  subst c9
  obtain ⟨g9, h⟩ := h
  refine ⟨g9, ?_⟩
  obtain ⟨v9, e9, h⟩ := h
  intro x9 d9
  have c9 : v9 = x9 := e9.trans d9.symm
  subst c9
  obtain ⟨g9, h⟩ := h
  refine ⟨g9, ?_⟩
  obtain ⟨v9, e9, h⟩ := h
  intro x9 d9
  have c9 : v9 = x9 := e9.trans d9.symm
  subst c9
  obtain ⟨g9, h⟩ := h
  refine ⟨g9, ?_⟩
  obtain ⟨v9, e9, h⟩ := h
  intro x9 d9
  have c9 : v9 = x9 := e9.trans d9.symm
  subst c9
  rcases h with ⟨c, h⟩ | ⟨c, h⟩
  · refine ⟨fun _ => ?_, fun c2 => absurd c c2⟩
    obtain ⟨q9, z9, h⟩ := h
    refine ⟨_, vw_putTagged z9, ?_⟩
    intro q8 d9
    subst d9
    exact h.symm
  · refine ⟨fun c2 => absurd c2 c, fun _ => ?_⟩
    obtain ⟨g9, h⟩ := h
    refine ⟨g9, ?_⟩
    obtain ⟨v9, e9, h⟩ := h
    intro x9 d9
    have c9 : v9 = x9 := e9.trans d9.symm
    subst c9
    obtain ⟨g9, h⟩ := h
    refine ⟨g9, ?_⟩
    obtain ⟨v9, e9, h⟩ := h
    intro x9 d9
    have c9 : v9 = x9 := e9.trans d9.symm
    subst c9
    rcases h with ⟨c, h⟩ | ⟨c, h⟩
    · refine ⟨fun _ => ?_, fun c2 => absurd c c2⟩
      obtain ⟨q9, z9, h⟩ := h
      refine ⟨_, vw_putTagged z9, ?_⟩
      intro q8 d9
      subst d9
      obtain ⟨q9, z9, h⟩ := h
      refine ⟨_, vw_putTagged z9, ?_⟩
      intro q8 d9
      subst d9
      exact h.symm
    · refine ⟨fun c2 => absurd c2 c, fun _ => ?_⟩
      obtain ⟨g9, h⟩ := h
      refine ⟨g9, ?_⟩
      obtain ⟨v9, e9, h⟩ := h
      intro x9 d9
      have c9 : v9 = x9 := e9.trans d9.symm
      subst c9
      obtain ⟨g9, h⟩ := h
      refine ⟨g9, ?_⟩
      obtain ⟨v9, e9, h⟩ := h
      intro x9 d9
      have c9 : v9 = x9 := e9.trans d9.symm
      subst c9
      obtain ⟨g9, h⟩ := h
      refine ⟨g9, ?_⟩
      obtain ⟨v9, e9, h⟩ := h
      intro x9 d9
      have c9 : v9 = x9 := e9.trans d9.symm
      subst c9
      obtain ⟨g9, h⟩ := h
      refine ⟨g9, ?_⟩
      obtain ⟨v9, e9, h⟩ := h
      intro x9 d9
      have c9 : v9 = x9 := e9.trans d9.symm
      subst c9
      rcases h with ⟨c, h⟩ | ⟨c, h⟩
      · refine ⟨fun _ => ?_, fun c2 => absurd c c2⟩
        obtain ⟨q9, z9, h⟩ := h
        refine ⟨_, vw_putTagged z9, ?_⟩
        intro q8 d9
        subst d9
        exact h.symm
      · refine ⟨fun c2 => absurd c2 c, fun _ => ?_⟩
        exact h.symm
set_option maxRecDepth 100000 in
theorem vz_shuffle {S : MS} {x1 : Int32} {uo : MS} {Q : MS → Prop} (h : v_shuffle S x1 uo) (w : w_shuffle S x1 Q) : Q uo := by
  unfold v_shuffle at h
  unfold w_shuffle at w
  obtain ⟨v9, e9, h⟩ := h
  replace w := w v9 e9
  replace h := h.2
  replace w := w.2
  obtain ⟨v9, e9, h⟩ := h
  replace w := w v9 e9
  replace h := h.2
  replace w := w.2
  obtain ⟨v9, e9, h⟩ := h
  replace w := w v9 e9
  replace h := h.2
  replace w := w.2
  obtain ⟨v9, e9, h⟩ := h
  replace w := w v9 e9
  rcases h with ⟨c, h⟩ | ⟨c, h⟩
  · replace w := w.1 c
    obtain ⟨q9, z9, h⟩ := h
    obtain ⟨Q9, w0, w⟩ := w
    replace w := w q9 (vz_putTagged z9 w0)
    rw [h]
    exact w
  · replace w := w.2 c
    replace h := h.2
    replace w := w.2
    obtain ⟨v9, e9, h⟩ := h
    replace w := w v9 e9
    replace h := h.2
    replace w := w.2
    obtain ⟨v9, e9, h⟩ := h
    replace w := w v9 e9
    rcases h with ⟨c, h⟩ | ⟨c, h⟩
    · replace w := w.1 c
      obtain ⟨q9, z9, h⟩ := h
      obtain ⟨Q9, w0, w⟩ := w
      replace w := w q9 (vz_putTagged z9 w0)
      obtain ⟨q9, z9, h⟩ := h
      obtain ⟨Q9, w0, w⟩ := w
      replace w := w q9 (vz_putTagged z9 w0)
      rw [h]
      exact w
    · replace w := w.2 c
      replace h := h.2
      replace w := w.2
      obtain ⟨v9, e9, h⟩ := h
      replace w := w v9 e9
      replace h := h.2
      replace w := w.2
      obtain ⟨v9, e9, h⟩ := h
      replace w := w v9 e9
      replace h := h.2
      replace w := w.2
      obtain ⟨v9, e9, h⟩ := h
      replace w := w v9 e9
      replace h := h.2
      replace w := w.2
      obtain ⟨v9, e9, h⟩ := h
      replace w := w v9 e9
      rcases h with ⟨c, h⟩ | ⟨c, h⟩
      · replace w := w.1 c
        obtain ⟨q9, z9, h⟩ := h
        obtain ⟨Q9, w0, w⟩ := w
        replace w := w q9 (vz_putTagged z9 w0)
        rw [h]
        exact w
      · replace w := w.2 c
        rw [h]
        exact w
def v_plain_J542 (ro : Int32) (uo : MS) (U542 : MS) (t542_0 : Int32) (t542_1 : Int64) : Prop := (∃ (S217 : MS), v_put U542 t542_1 t542_0 S217 ∧ (ro = (1 : Int32) ∧ uo = S217))
def v_plain_J576 (ro : Int32) (uo : MS) (U576 : MS) (t576_0 : Int32) (t576_2 : Int32) : Prop := (∃ (r235 : Int64) (S236 : MS), v_got U576 t576_0 r235 S236 ∧ (((0 : Int) ≤ t576_2.toInt ∧ t576_2.toInt < 24) ∧ (∃ S239 : MS, S239 = wJ S236 37 t576_2.toInt.toNat r235 ∧ (ro = (1 : Int32) ∧ uo = S239))))
def v_plain (S : MS) (x1 : Int32) (x2 : Int32) (x3 : Int32) (ro : Int32) (uo : MS) : Prop := ((x2.toInt = 0 ∧ (ro = (1 : Int32) ∧ uo = S)) ∨ (¬ x2.toInt = 0 ∧ ((x2.toInt = 1 ∧ (∃ (S2 : MS), v_put S 0 (1 : Int32) S2 ∧ (ro = (1 : Int32) ∧ uo = S2))) ∨ (¬ x2.toInt = 1 ∧ ((x2.toInt = 18 ∧ (∃ (S5 : MS), v_putInt S x3 S5 ∧ (ro = (1 : Int32) ∧ uo = S5))) ∨ (¬ x2.toInt = 18 ∧ ((x2.toInt = 20 ∧ (d_longOf S x1 ∧ (∃ (S11 : MS), v_put S (f_longOf S x1) (2 : Int32) S11 ∧ (ro = (1 : Int32) ∧ uo = S11)))) ∨ (¬ x2.toInt = 20 ∧ ((x2.toInt = 21 ∧ (d_slot S x3 ∧ (((0 : Int) ≤ (f_slot S x3).toInt ∧ (f_slot S x3).toInt < 1440) ∧ (d_slot S x3 ∧ (((0 : Int) ≤ (f_slot S x3).toInt ∧ (f_slot S x3).toInt < 1440) ∧ (∃ (S24 : MS), v_putTagged S (qJ S 45 (((f_slot S x3).toInt).toNat)) (qI S 47 (((f_slot S x3).toInt).toNat)) (1 : Int32) S24 ∧ (ro = (1 : Int32) ∧ uo = S24))))))) ∨ (¬ x2.toInt = 21 ∧ ((x2.toInt = 22 ∧ (d_slot S x3 ∧ (((0 : Int) ≤ (f_slot S x3).toInt ∧ (f_slot S x3).toInt < 1440) ∧ (∃ (S32 : MS), v_put S (qJ S 45 (((f_slot S x3).toInt).toNat)) (2 : Int32) S32 ∧ (ro = (1 : Int32) ∧ uo = S32))))) ∨ (¬ x2.toInt = 22 ∧ ((x2.toInt = 25 ∧ (d_slot S x3 ∧ (((0 : Int) ≤ (f_slot S x3).toInt ∧ (f_slot S x3).toInt < 1440) ∧ (d_slot S x3 ∧ (((0 : Int) ≤ (f_slot S x3).toInt ∧ (f_slot S x3).toInt < 1440) ∧ (∃ (S45 : MS), v_putTagged S (qJ S 45 (((f_slot S x3).toInt).toNat)) (qI S 47 (((f_slot S x3).toInt).toNat)) (1 : Int32) S45 ∧ (ro = (1 : Int32) ∧ uo = S45))))))) ∨ (¬ x2.toInt = 25 ∧ ((x2.toInt = 54 ∧ (d_slot S x3 ∧ (d_tagAt S (1 : Int32) ∧ (((0 : Int) ≤ (f_slot S x3).toInt ∧ (f_slot S x3).toInt < 1440) ∧ (∃ S54 : MS, S54 = wI S 47 (((f_slot S x3).toInt).toNat) (vp_nar .byte ((f_tagAt S (1 : Int32)).toInt8.toInt32)) ∧ (d_slot S54 x3 ∧ (∃ (r59 : Int64) (S60 : MS), v_got S54 (1 : Int32) r59 S60 ∧ (((0 : Int) ≤ (f_slot S54 x3).toInt ∧ (f_slot S54 x3).toInt < 1440) ∧ (∃ S63 : MS, S63 = wJ S60 45 (((f_slot S54 x3).toInt).toNat) r59 ∧ (ro = (1 : Int32) ∧ uo = S63)))))))))) ∨ (¬ x2.toInt = 54 ∧ ((x2.toInt = 55 ∧ (d_slot S x3 ∧ (d_tagAt S (2 : Int32) ∧ (((0 : Int) ≤ (f_slot S x3).toInt ∧ (f_slot S x3).toInt < 1440) ∧ (∃ S71 : MS, S71 = wI S 47 (((f_slot S x3).toInt).toNat) (vp_nar .byte ((f_tagAt S (2 : Int32)).toInt8.toInt32)) ∧ (d_slot S71 (x3 + (1 : Int32)) ∧ (d_tagAt S71 (1 : Int32) ∧ (((0 : Int) ≤ (f_slot S71 (x3 + (1 : Int32))).toInt ∧ (f_slot S71 (x3 + (1 : Int32))).toInt < 1440) ∧ (∃ S80 : MS, S80 = wI S71 47 (((f_slot S71 (x3 + (1 : Int32))).toInt).toNat) (vp_nar .byte ((f_tagAt S71 (1 : Int32)).toInt8.toInt32)) ∧ (d_slot S80 x3 ∧ (∃ (r85 : Int64) (S86 : MS), v_got S80 (2 : Int32) r85 S86 ∧ (((0 : Int) ≤ (f_slot S80 x3).toInt ∧ (f_slot S80 x3).toInt < 1440) ∧ (∃ S89 : MS, S89 = wJ S86 45 (((f_slot S80 x3).toInt).toNat) r85 ∧ (ro = (1 : Int32) ∧ uo = S89)))))))))))))) ∨ (¬ x2.toInt = 55 ∧ ((x2.toInt = 58 ∧ (d_slot S x3 ∧ (d_tagAt S (1 : Int32) ∧ (((0 : Int) ≤ (f_slot S x3).toInt ∧ (f_slot S x3).toInt < 1440) ∧ (∃ S97 : MS, S97 = wI S 47 (((f_slot S x3).toInt).toNat) (vp_nar .byte ((f_tagAt S (1 : Int32)).toInt8.toInt32)) ∧ (d_slot S97 x3 ∧ (∃ (r102 : Int64) (S103 : MS), v_got S97 (1 : Int32) r102 S103 ∧ (((0 : Int) ≤ (f_slot S97 x3).toInt ∧ (f_slot S97 x3).toInt < 1440) ∧ (∃ S106 : MS, S106 = wJ S103 45 (((f_slot S97 x3).toInt).toNat) r102 ∧ (ro = (1 : Int32) ∧ uo = S106)))))))))) ∨ (¬ x2.toInt = 58 ∧ ((x2.toInt = 87 ∧ (((0 : Int) ≤ ((qI S 0 97) - (1 : Int32)).toInt ∧ ((qI S 0 97) - (1 : Int32)).toInt < 60) ∧ (((0 : Int) ≤ ((qI S 0 97) - (1 : Int32)).toInt ∧ ((qI S 0 97) - (1 : Int32)).toInt < 60) ∧ (∃ S112 : MS, S112 = wI S 44 ((((qI S 0 97) - (1 : Int32)).toInt).toNat) ((qI S 44 ((((qI S 0 97) - (1 : Int32)).toInt).toNat)) - (1 : Int32)) ∧ (ro = (1 : Int32) ∧ uo = S112))))) ∨ (¬ x2.toInt = 87 ∧ ((x2.toInt = 88 ∧ (((0 : Int) ≤ ((qI S 0 97) - (1 : Int32)).toInt ∧ ((qI S 0 97) - (1 : Int32)).toInt < 60) ∧ (((0 : Int) ≤ ((qI S 0 97) - (1 : Int32)).toInt ∧ ((qI S 0 97) - (1 : Int32)).toInt < 60) ∧ (∃ S118 : MS, S118 = wI S 44 ((((qI S 0 97) - (1 : Int32)).toInt).toNat) ((qI S 44 ((((qI S 0 97) - (1 : Int32)).toInt).toNat)) - (2 : Int32)) ∧ (ro = (1 : Int32) ∧ uo = S118))))) ∨ (¬ x2.toInt = 88 ∧ ((x2.toInt = 89 ∧ (∃ (S120 : MS), v_shuffle S x2 S120 ∧ (ro = (1 : Int32) ∧ uo = S120))) ∨ (¬ x2.toInt = 89 ∧ ((x2.toInt = 90 ∧ (∃ (S123 : MS), v_shuffle S x2 S123 ∧ (ro = (1 : Int32) ∧ uo = S123))) ∨ (¬ x2.toInt = 90 ∧ ((x2.toInt = 92 ∧ (∃ (S126 : MS), v_shuffle S x2 S126 ∧ (ro = (1 : Int32) ∧ uo = S126))) ∨ (¬ x2.toInt = 92 ∧ ((x2.toInt = 95 ∧ (∃ (S129 : MS), v_shuffle S x2 S129 ∧ (ro = (1 : Int32) ∧ uo = S129))) ∨ (¬ x2.toInt = 95 ∧ ((x2.toInt = 132 ∧ (d_slot S x3 ∧ (d_slot S x3 ∧ (((0 : Int) ≤ (f_slot S x3).toInt ∧ (f_slot S x3).toInt < 1440) ∧ (d_second S x1 ∧ (((0 : Int) ≤ (f_slot S x3).toInt ∧ (f_slot S x3).toInt < 1440) ∧ (∃ S144 : MS, S144 = wJ S 45 (((f_slot S x3).toInt).toNat) ((((qJ S 45 (((f_slot S x3).toInt).toNat)).toInt32) + (f_second S x1)).toInt64) ∧ (ro = (1 : Int32) ∧ uo = S144)))))))) ∨ (¬ x2.toInt = 132 ∧ ((x2.toInt = 133 ∧ (∃ (r146 : Int64) (S147 : MS), v_got S (1 : Int32) r146 S147 ∧ (d_turned S147 x2 r146 ∧ (∃ (S153 : MS), v_put S147 (f_turned S147 x2 r146) (2 : Int32) S153 ∧ (ro = (1 : Int32) ∧ uo = S153))))) ∨ (¬ x2.toInt = 133 ∧ ((x2.toInt = 136 ∧ (∃ (r156 : Int64) (S157 : MS), v_got S (2 : Int32) r156 S157 ∧ (d_turned S157 x2 r156 ∧ (∃ (S163 : MS), v_putInt S157 ((f_turned S157 x2 r156).toInt32) S163 ∧ (ro = (1 : Int32) ∧ uo = S163))))) ∨ (¬ x2.toInt = 136 ∧ ((x2.toInt = 145 ∧ (∃ (r166 : Int64) (S167 : MS), v_got S (1 : Int32) r166 S167 ∧ (d_turned S167 x2 r166 ∧ (∃ (S173 : MS), v_putInt S167 ((f_turned S167 x2 r166).toInt32) S173 ∧ (ro = (1 : Int32) ∧ uo = S173))))) ∨ (¬ x2.toInt = 145 ∧ ((x2.toInt = 146 ∧ (∃ (r176 : Int64) (S177 : MS), v_got S (1 : Int32) r176 S177 ∧ (d_turned S177 x2 r176 ∧ (∃ (S183 : MS), v_putInt S177 ((f_turned S177 x2 r176).toInt32) S183 ∧ (ro = (1 : Int32) ∧ uo = S183))))) ∨ (¬ x2.toInt = 146 ∧ ((x2.toInt = 147 ∧ (∃ (r186 : Int64) (S187 : MS), v_got S (1 : Int32) r186 S187 ∧ (d_turned S187 x2 r186 ∧ (∃ (S193 : MS), v_putInt S187 ((f_turned S187 x2 r186).toInt32) S193 ∧ (ro = (1 : Int32) ∧ uo = S193))))) ∨ (¬ x2.toInt = 147 ∧ ((x2.toInt = 178 ∧ ((qR S 0 80 = some (qO S 0 80)) ∧ ((qR S (qO S 0 80) 7 = some (qO S (qO S 0 80) 7)) ∧ (((0 : Int) ≤ x3.toInt ∧ x3.toInt < (qN S (qO S (qO S 0 80) 7) : Int)) ∧ ((qR S (qO S (qO S 0 80) 7) x3.toInt.toNat = some (qO S (qO S (qO S 0 80) 7) x3.toInt.toNat)) ∧ (((sEq S (qO S (qO S (qO S 0 80) 7) x3.toInt.toNat) 10000016).toInt = 0 ∧ (((0 : Int) ≤ x3.toInt ∧ x3.toInt < 24) ∧ ((qR S 0 80 = some (qO S 0 80)) ∧ ((qR S (qO S 0 80) 7 = some (qO S (qO S 0 80) 7)) ∧ (((0 : Int) ≤ x3.toInt ∧ x3.toInt < (qN S (qO S (qO S 0 80) 7) : Int)) ∧ ((qR S (qO S (qO S 0 80) 7) x3.toInt.toNat = some (qO S (qO S (qO S 0 80) 7) x3.toInt.toNat)) ∧ (((sEq S (qO S (qO S (qO S 0 80) 7) x3.toInt.toNat) 10000022).toInt = 0 ∧ (v_plain_J542 ro uo S 1 (qJ S 37 x3.toInt.toNat))) ∨ (¬ (sEq S (qO S (qO S (qO S 0 80) 7) x3.toInt.toNat) 10000022).toInt = 0 ∧ (v_plain_J542 ro uo S 2 (qJ S 37 x3.toInt.toNat)))))))))) ∨ (¬ (sEq S (qO S (qO S (qO S 0 80) 7) x3.toInt.toNat) 10000016).toInt = 0 ∧ (((0 : Int) ≤ x3.toInt ∧ x3.toInt < 24) ∧ (∃ (S223 : MS), v_putInt S ((qJ S 37 x3.toInt.toNat).toInt32) S223 ∧ (ro = (1 : Int32) ∧ uo = S223)))))))))) ∨ (¬ x2.toInt = 178 ∧ ((x2.toInt = 179 ∧ ((qR S 0 80 = some (qO S 0 80)) ∧ ((qR S (qO S 0 80) 7 = some (qO S (qO S 0 80) 7)) ∧ (((0 : Int) ≤ x3.toInt ∧ x3.toInt < (qN S (qO S (qO S 0 80) 7) : Int)) ∧ ((qR S (qO S (qO S 0 80) 7) x3.toInt.toNat = some (qO S (qO S (qO S 0 80) 7) x3.toInt.toNat)) ∧ (((sEq S (qO S (qO S (qO S 0 80) 7) x3.toInt.toNat) 10000022).toInt = 0 ∧ (v_plain_J576 ro uo S 1 x3)) ∨ (¬ (sEq S (qO S (qO S (qO S 0 80) 7) x3.toInt.toNat) 10000022).toInt = 0 ∧ (v_plain_J576 ro uo S 2 x3)))))))) ∨ (¬ x2.toInt = 179 ∧ (∃ (r242 : Int32) (S243 : MS), v_onArrays S x2 r242 S243 ∧ (ro = r242 ∧ uo = S243))))))))))))))))))))))))))))))))))))))))))))))))))
set_option maxRecDepth 100000 in
theorem ru_plain_J542 {ι : Type} {P : Int32 → MS → Prop} {Q : Int32 → MS → Prop} {U542 : MS} {t542_0 : Int32} {t542_1 : Int64} (i0 : ι) (K : ∀ (i : ι) (ro : Int32) (uo : MS), v_plain_J542 ro uo U542 t542_0 t542_1 → P ro uo) (h : w_plain_J542 Q U542 t542_0 t542_1) : ∃ ro uo, P ro uo ∧ Q ro uo := by
  unfold w_plain_J542 at h
  obtain ⟨Q9, h0, h⟩ := h
  obtain ⟨S217, z9, g9⟩ := ru_put h0
  replace h := h S217 g9
  replace K := fun i ro uo z => K i ro uo ⟨S217, z9, z⟩
  exact ⟨_, _, K i0 _ _ ⟨rfl, rfl⟩, h⟩
set_option maxRecDepth 100000 in
theorem ru_plain_J576 {ι : Type} {P : Int32 → MS → Prop} {Q : Int32 → MS → Prop} {U576 : MS} {t576_0 : Int32} {t576_2 : Int32} (i0 : ι) (K : ∀ (i : ι) (ro : Int32) (uo : MS), v_plain_J576 ro uo U576 t576_0 t576_2 → P ro uo) (h : w_plain_J576 Q U576 t576_0 t576_2) : ∃ ro uo, P ro uo ∧ Q ro uo := by
  unfold w_plain_J576 at h
  obtain ⟨Q9, h0, h⟩ := h
  obtain ⟨r235, S236, z9, g9⟩ := ru_got h0
  replace h := h r235 S236 g9
  replace K := fun i ro uo z => K i ro uo ⟨r235, S236, z9, z⟩
  obtain ⟨g1_, h⟩ := h
  replace K := fun i ro uo z => K i ro uo ⟨g1_, z⟩
  obtain ⟨S239, eS239⟩ : ∃ x9 : MS, x9 = wJ S236 37 t576_2.toInt.toNat r235 := ⟨_, rfl⟩
  replace h := h S239 eS239
  replace K := fun i ro uo z => K i ro uo ⟨S239, eS239, z⟩
  exact ⟨_, _, K i0 _ _ ⟨rfl, rfl⟩, h⟩
set_option maxRecDepth 100000 in
theorem ru_plain {S : MS} {x1 : Int32} {x2 : Int32} {x3 : Int32} {Q : Int32 → MS → Prop} (h : w_plain S x1 x2 x3 Q) : ∃ ro uo, v_plain S x1 x2 x3 ro uo ∧ Q ro uo := by
  have i0 : Unit := ()
  have K : ∀ (i : Unit) (ro : Int32) (uo : MS), v_plain S x1 x2 x3 ro uo → v_plain S x1 x2 x3 ro uo := fun _ _ _ z => z
  unfold w_plain at h
  by_cases c : x2.toInt = 0
  · replace h := h.1 c
    replace K := fun i ro uo z => K i ro uo (Or.inl ⟨c, z⟩)
    exact ⟨_, _, K i0 _ _ ⟨rfl, rfl⟩, h⟩
  · replace h := h.2 c
    replace K := fun i ro uo z => K i ro uo (Or.inr ⟨c, z⟩)
    by_cases c : x2.toInt = 1
    · replace h := h.1 c
      replace K := fun i ro uo z => K i ro uo (Or.inl ⟨c, z⟩)
      obtain ⟨Q9, h0, h⟩ := h
      obtain ⟨S2, z9, g9⟩ := ru_put h0
      replace h := h S2 g9
      replace K := fun i ro uo z => K i ro uo ⟨S2, z9, z⟩
      exact ⟨_, _, K i0 _ _ ⟨rfl, rfl⟩, h⟩
    · replace h := h.2 c
      replace K := fun i ro uo z => K i ro uo (Or.inr ⟨c, z⟩)
      by_cases c : x2.toInt = 18
      · replace h := h.1 c
        replace K := fun i ro uo z => K i ro uo (Or.inl ⟨c, z⟩)
        obtain ⟨Q9, h0, h⟩ := h
        obtain ⟨S5, z9, g9⟩ := ru_putInt h0
        replace h := h S5 g9
        replace K := fun i ro uo z => K i ro uo ⟨S5, z9, z⟩
        exact ⟨_, _, K i0 _ _ ⟨rfl, rfl⟩, h⟩
      · replace h := h.2 c
        replace K := fun i ro uo z => K i ro uo (Or.inr ⟨c, z⟩)
        by_cases c : x2.toInt = 20
        · replace h := h.1 c
          replace K := fun i ro uo z => K i ro uo (Or.inl ⟨c, z⟩)
          obtain ⟨g2_, h⟩ := h
          replace K := fun i ro uo z => K i ro uo ⟨g2_, z⟩
          obtain ⟨Q9, h0, h⟩ := h
          obtain ⟨S11, z9, g9⟩ := ru_put h0
          replace h := h S11 g9
          replace K := fun i ro uo z => K i ro uo ⟨S11, z9, z⟩
          exact ⟨_, _, K i0 _ _ ⟨rfl, rfl⟩, h⟩
        · replace h := h.2 c
          replace K := fun i ro uo z => K i ro uo (Or.inr ⟨c, z⟩)
          by_cases c : x2.toInt = 21
          · replace h := h.1 c
            replace K := fun i ro uo z => K i ro uo (Or.inl ⟨c, z⟩)
            obtain ⟨g3_, h⟩ := h
            replace K := fun i ro uo z => K i ro uo ⟨g3_, z⟩
            obtain ⟨g4_, h⟩ := h
            replace K := fun i ro uo z => K i ro uo ⟨g4_, z⟩
            obtain ⟨g5_, h⟩ := h
            replace K := fun i ro uo z => K i ro uo ⟨g5_, z⟩
            obtain ⟨g6_, h⟩ := h
            replace K := fun i ro uo z => K i ro uo ⟨g6_, z⟩
            obtain ⟨Q9, h0, h⟩ := h
            obtain ⟨S24, z9, g9⟩ := ru_putTagged h0
            replace h := h S24 g9
            replace K := fun i ro uo z => K i ro uo ⟨S24, z9, z⟩
            exact ⟨_, _, K i0 _ _ ⟨rfl, rfl⟩, h⟩
          · replace h := h.2 c
            replace K := fun i ro uo z => K i ro uo (Or.inr ⟨c, z⟩)
            by_cases c : x2.toInt = 22
            · replace h := h.1 c
              replace K := fun i ro uo z => K i ro uo (Or.inl ⟨c, z⟩)
              obtain ⟨g7_, h⟩ := h
              replace K := fun i ro uo z => K i ro uo ⟨g7_, z⟩
              obtain ⟨g8_, h⟩ := h
              replace K := fun i ro uo z => K i ro uo ⟨g8_, z⟩
              obtain ⟨Q9, h0, h⟩ := h
              obtain ⟨S32, z9, g9⟩ := ru_put h0
              replace h := h S32 g9
              replace K := fun i ro uo z => K i ro uo ⟨S32, z9, z⟩
              exact ⟨_, _, K i0 _ _ ⟨rfl, rfl⟩, h⟩
            · replace h := h.2 c
              replace K := fun i ro uo z => K i ro uo (Or.inr ⟨c, z⟩)
              by_cases c : x2.toInt = 25
              · replace h := h.1 c
                replace K := fun i ro uo z => K i ro uo (Or.inl ⟨c, z⟩)
                obtain ⟨g9_, h⟩ := h
                replace K := fun i ro uo z => K i ro uo ⟨g9_, z⟩
                obtain ⟨g10_, h⟩ := h
                replace K := fun i ro uo z => K i ro uo ⟨g10_, z⟩
                obtain ⟨g11_, h⟩ := h
                replace K := fun i ro uo z => K i ro uo ⟨g11_, z⟩
                obtain ⟨g12_, h⟩ := h
                replace K := fun i ro uo z => K i ro uo ⟨g12_, z⟩
                obtain ⟨Q9, h0, h⟩ := h
                obtain ⟨S45, z9, g9⟩ := ru_putTagged h0
                replace h := h S45 g9
                replace K := fun i ro uo z => K i ro uo ⟨S45, z9, z⟩
                exact ⟨_, _, K i0 _ _ ⟨rfl, rfl⟩, h⟩
              · replace h := h.2 c
                replace K := fun i ro uo z => K i ro uo (Or.inr ⟨c, z⟩)
                by_cases c : x2.toInt = 54
                · replace h := h.1 c
                  replace K := fun i ro uo z => K i ro uo (Or.inl ⟨c, z⟩)
                  obtain ⟨g13_, h⟩ := h
                  replace K := fun i ro uo z => K i ro uo ⟨g13_, z⟩
                  obtain ⟨g14_, h⟩ := h
                  replace K := fun i ro uo z => K i ro uo ⟨g14_, z⟩
                  obtain ⟨g15_, h⟩ := h
                  replace K := fun i ro uo z => K i ro uo ⟨g15_, z⟩
                  obtain ⟨S54, eS54⟩ : ∃ x9 : MS, x9 = wI S 47 (((f_slot S x3).toInt).toNat) (vp_nar .byte ((f_tagAt S (1 : Int32)).toInt8.toInt32)) := ⟨_, rfl⟩
                  replace h := h S54 eS54
                  replace K := fun i ro uo z => K i ro uo ⟨S54, eS54, z⟩
                  obtain ⟨g16_, h⟩ := h
                  replace K := fun i ro uo z => K i ro uo ⟨g16_, z⟩
                  obtain ⟨Q9, h0, h⟩ := h
                  obtain ⟨r59, S60, z9, g9⟩ := ru_got h0
                  replace h := h r59 S60 g9
                  replace K := fun i ro uo z => K i ro uo ⟨r59, S60, z9, z⟩
                  obtain ⟨g17_, h⟩ := h
                  replace K := fun i ro uo z => K i ro uo ⟨g17_, z⟩
                  obtain ⟨S63, eS63⟩ : ∃ x9 : MS, x9 = wJ S60 45 (((f_slot S54 x3).toInt).toNat) r59 := ⟨_, rfl⟩
                  replace h := h S63 eS63
                  replace K := fun i ro uo z => K i ro uo ⟨S63, eS63, z⟩
                  exact ⟨_, _, K i0 _ _ ⟨rfl, rfl⟩, h⟩
                · replace h := h.2 c
                  replace K := fun i ro uo z => K i ro uo (Or.inr ⟨c, z⟩)
                  by_cases c : x2.toInt = 55
                  · replace h := h.1 c
                    replace K := fun i ro uo z => K i ro uo (Or.inl ⟨c, z⟩)
                    obtain ⟨g18_, h⟩ := h
                    replace K := fun i ro uo z => K i ro uo ⟨g18_, z⟩
                    obtain ⟨g19_, h⟩ := h
                    replace K := fun i ro uo z => K i ro uo ⟨g19_, z⟩
                    obtain ⟨g20_, h⟩ := h
                    replace K := fun i ro uo z => K i ro uo ⟨g20_, z⟩
                    obtain ⟨S71, eS71⟩ : ∃ x9 : MS, x9 = wI S 47 (((f_slot S x3).toInt).toNat) (vp_nar .byte ((f_tagAt S (2 : Int32)).toInt8.toInt32)) := ⟨_, rfl⟩
                    replace h := h S71 eS71
                    replace K := fun i ro uo z => K i ro uo ⟨S71, eS71, z⟩
                    obtain ⟨g21_, h⟩ := h
                    replace K := fun i ro uo z => K i ro uo ⟨g21_, z⟩
                    obtain ⟨g22_, h⟩ := h
                    replace K := fun i ro uo z => K i ro uo ⟨g22_, z⟩
                    obtain ⟨g23_, h⟩ := h
                    replace K := fun i ro uo z => K i ro uo ⟨g23_, z⟩
                    obtain ⟨S80, eS80⟩ : ∃ x9 : MS, x9 = wI S71 47 (((f_slot S71 (x3 + (1 : Int32))).toInt).toNat) (vp_nar .byte ((f_tagAt S71 (1 : Int32)).toInt8.toInt32)) := ⟨_, rfl⟩
                    replace h := h S80 eS80
                    replace K := fun i ro uo z => K i ro uo ⟨S80, eS80, z⟩
                    obtain ⟨g24_, h⟩ := h
                    replace K := fun i ro uo z => K i ro uo ⟨g24_, z⟩
                    obtain ⟨Q9, h0, h⟩ := h
                    obtain ⟨r85, S86, z9, g9⟩ := ru_got h0
                    replace h := h r85 S86 g9
                    replace K := fun i ro uo z => K i ro uo ⟨r85, S86, z9, z⟩
                    obtain ⟨g25_, h⟩ := h
                    replace K := fun i ro uo z => K i ro uo ⟨g25_, z⟩
                    obtain ⟨S89, eS89⟩ : ∃ x9 : MS, x9 = wJ S86 45 (((f_slot S80 x3).toInt).toNat) r85 := ⟨_, rfl⟩
                    replace h := h S89 eS89
                    replace K := fun i ro uo z => K i ro uo ⟨S89, eS89, z⟩
                    exact ⟨_, _, K i0 _ _ ⟨rfl, rfl⟩, h⟩
                  · replace h := h.2 c
                    replace K := fun i ro uo z => K i ro uo (Or.inr ⟨c, z⟩)
                    by_cases c : x2.toInt = 58
                    · replace h := h.1 c
                      replace K := fun i ro uo z => K i ro uo (Or.inl ⟨c, z⟩)
                      obtain ⟨g26_, h⟩ := h
                      replace K := fun i ro uo z => K i ro uo ⟨g26_, z⟩
                      obtain ⟨g27_, h⟩ := h
                      replace K := fun i ro uo z => K i ro uo ⟨g27_, z⟩
                      obtain ⟨g28_, h⟩ := h
                      replace K := fun i ro uo z => K i ro uo ⟨g28_, z⟩
                      obtain ⟨S97, eS97⟩ : ∃ x9 : MS, x9 = wI S 47 (((f_slot S x3).toInt).toNat) (vp_nar .byte ((f_tagAt S (1 : Int32)).toInt8.toInt32)) := ⟨_, rfl⟩
                      replace h := h S97 eS97
                      replace K := fun i ro uo z => K i ro uo ⟨S97, eS97, z⟩
                      obtain ⟨g29_, h⟩ := h
                      replace K := fun i ro uo z => K i ro uo ⟨g29_, z⟩
                      obtain ⟨Q9, h0, h⟩ := h
                      obtain ⟨r102, S103, z9, g9⟩ := ru_got h0
                      replace h := h r102 S103 g9
                      replace K := fun i ro uo z => K i ro uo ⟨r102, S103, z9, z⟩
                      obtain ⟨g30_, h⟩ := h
                      replace K := fun i ro uo z => K i ro uo ⟨g30_, z⟩
                      obtain ⟨S106, eS106⟩ : ∃ x9 : MS, x9 = wJ S103 45 (((f_slot S97 x3).toInt).toNat) r102 := ⟨_, rfl⟩
                      replace h := h S106 eS106
                      replace K := fun i ro uo z => K i ro uo ⟨S106, eS106, z⟩
                      exact ⟨_, _, K i0 _ _ ⟨rfl, rfl⟩, h⟩
                    · replace h := h.2 c
                      replace K := fun i ro uo z => K i ro uo (Or.inr ⟨c, z⟩)
                      by_cases c : x2.toInt = 87
                      · replace h := h.1 c
                        replace K := fun i ro uo z => K i ro uo (Or.inl ⟨c, z⟩)
                        obtain ⟨g31_, h⟩ := h
                        replace K := fun i ro uo z => K i ro uo ⟨g31_, z⟩
                        obtain ⟨g32_, h⟩ := h
                        replace K := fun i ro uo z => K i ro uo ⟨g32_, z⟩
                        obtain ⟨S112, eS112⟩ : ∃ x9 : MS, x9 = wI S 44 ((((qI S 0 97) - (1 : Int32)).toInt).toNat) ((qI S 44 ((((qI S 0 97) - (1 : Int32)).toInt).toNat)) - (1 : Int32)) := ⟨_, rfl⟩
                        replace h := h S112 eS112
                        replace K := fun i ro uo z => K i ro uo ⟨S112, eS112, z⟩
                        exact ⟨_, _, K i0 _ _ ⟨rfl, rfl⟩, h⟩
                      · replace h := h.2 c
                        replace K := fun i ro uo z => K i ro uo (Or.inr ⟨c, z⟩)
                        by_cases c : x2.toInt = 88
                        · replace h := h.1 c
                          replace K := fun i ro uo z => K i ro uo (Or.inl ⟨c, z⟩)
                          obtain ⟨g33_, h⟩ := h
                          replace K := fun i ro uo z => K i ro uo ⟨g33_, z⟩
                          obtain ⟨g34_, h⟩ := h
                          replace K := fun i ro uo z => K i ro uo ⟨g34_, z⟩
                          obtain ⟨S118, eS118⟩ : ∃ x9 : MS, x9 = wI S 44 ((((qI S 0 97) - (1 : Int32)).toInt).toNat) ((qI S 44 ((((qI S 0 97) - (1 : Int32)).toInt).toNat)) - (2 : Int32)) := ⟨_, rfl⟩
                          replace h := h S118 eS118
                          replace K := fun i ro uo z => K i ro uo ⟨S118, eS118, z⟩
                          exact ⟨_, _, K i0 _ _ ⟨rfl, rfl⟩, h⟩
                        · replace h := h.2 c
                          replace K := fun i ro uo z => K i ro uo (Or.inr ⟨c, z⟩)
                          by_cases c : x2.toInt = 89
                          · replace h := h.1 c
                            replace K := fun i ro uo z => K i ro uo (Or.inl ⟨c, z⟩)
                            obtain ⟨Q9, h0, h⟩ := h
                            obtain ⟨S120, z9, g9⟩ := ru_shuffle h0
                            replace h := h S120 g9
                            replace K := fun i ro uo z => K i ro uo ⟨S120, z9, z⟩
                            exact ⟨_, _, K i0 _ _ ⟨rfl, rfl⟩, h⟩
                          · replace h := h.2 c
                            replace K := fun i ro uo z => K i ro uo (Or.inr ⟨c, z⟩)
                            by_cases c : x2.toInt = 90
                            · replace h := h.1 c
                              replace K := fun i ro uo z => K i ro uo (Or.inl ⟨c, z⟩)
                              obtain ⟨Q9, h0, h⟩ := h
                              obtain ⟨S123, z9, g9⟩ := ru_shuffle h0
                              replace h := h S123 g9
                              replace K := fun i ro uo z => K i ro uo ⟨S123, z9, z⟩
                              exact ⟨_, _, K i0 _ _ ⟨rfl, rfl⟩, h⟩
                            · replace h := h.2 c
                              replace K := fun i ro uo z => K i ro uo (Or.inr ⟨c, z⟩)
                              by_cases c : x2.toInt = 92
                              · replace h := h.1 c
                                replace K := fun i ro uo z => K i ro uo (Or.inl ⟨c, z⟩)
                                obtain ⟨Q9, h0, h⟩ := h
                                obtain ⟨S126, z9, g9⟩ := ru_shuffle h0
                                replace h := h S126 g9
                                replace K := fun i ro uo z => K i ro uo ⟨S126, z9, z⟩
                                exact ⟨_, _, K i0 _ _ ⟨rfl, rfl⟩, h⟩
                              · replace h := h.2 c
                                replace K := fun i ro uo z => K i ro uo (Or.inr ⟨c, z⟩)
                                by_cases c : x2.toInt = 95
                                · replace h := h.1 c
                                  replace K := fun i ro uo z => K i ro uo (Or.inl ⟨c, z⟩)
                                  obtain ⟨Q9, h0, h⟩ := h
                                  obtain ⟨S129, z9, g9⟩ := ru_shuffle h0
                                  replace h := h S129 g9
                                  replace K := fun i ro uo z => K i ro uo ⟨S129, z9, z⟩
                                  exact ⟨_, _, K i0 _ _ ⟨rfl, rfl⟩, h⟩
                                · replace h := h.2 c
                                  replace K := fun i ro uo z => K i ro uo (Or.inr ⟨c, z⟩)
                                  by_cases c : x2.toInt = 132
                                  · replace h := h.1 c
                                    replace K := fun i ro uo z => K i ro uo (Or.inl ⟨c, z⟩)
                                    obtain ⟨g35_, h⟩ := h
                                    replace K := fun i ro uo z => K i ro uo ⟨g35_, z⟩
                                    obtain ⟨g36_, h⟩ := h
                                    replace K := fun i ro uo z => K i ro uo ⟨g36_, z⟩
                                    obtain ⟨g37_, h⟩ := h
                                    replace K := fun i ro uo z => K i ro uo ⟨g37_, z⟩
                                    obtain ⟨g38_, h⟩ := h
                                    replace K := fun i ro uo z => K i ro uo ⟨g38_, z⟩
                                    obtain ⟨g39_, h⟩ := h
                                    replace K := fun i ro uo z => K i ro uo ⟨g39_, z⟩
                                    obtain ⟨S144, eS144⟩ : ∃ x9 : MS, x9 = wJ S 45 (((f_slot S x3).toInt).toNat) ((((qJ S 45 (((f_slot S x3).toInt).toNat)).toInt32) + (f_second S x1)).toInt64) := ⟨_, rfl⟩
                                    replace h := h S144 eS144
                                    replace K := fun i ro uo z => K i ro uo ⟨S144, eS144, z⟩
                                    exact ⟨_, _, K i0 _ _ ⟨rfl, rfl⟩, h⟩
                                  · replace h := h.2 c
                                    replace K := fun i ro uo z => K i ro uo (Or.inr ⟨c, z⟩)
                                    by_cases c : x2.toInt = 133
                                    · replace h := h.1 c
                                      replace K := fun i ro uo z => K i ro uo (Or.inl ⟨c, z⟩)
                                      obtain ⟨Q9, h0, h⟩ := h
                                      obtain ⟨r146, S147, z9, g9⟩ := ru_got h0
                                      replace h := h r146 S147 g9
                                      replace K := fun i ro uo z => K i ro uo ⟨r146, S147, z9, z⟩
                                      obtain ⟨g40_, h⟩ := h
                                      replace K := fun i ro uo z => K i ro uo ⟨g40_, z⟩
                                      obtain ⟨Q9, h0, h⟩ := h
                                      obtain ⟨S153, z9, g9⟩ := ru_put h0
                                      replace h := h S153 g9
                                      replace K := fun i ro uo z => K i ro uo ⟨S153, z9, z⟩
                                      exact ⟨_, _, K i0 _ _ ⟨rfl, rfl⟩, h⟩
                                    · replace h := h.2 c
                                      replace K := fun i ro uo z => K i ro uo (Or.inr ⟨c, z⟩)
                                      by_cases c : x2.toInt = 136
                                      · replace h := h.1 c
                                        replace K := fun i ro uo z => K i ro uo (Or.inl ⟨c, z⟩)
                                        obtain ⟨Q9, h0, h⟩ := h
                                        obtain ⟨r156, S157, z9, g9⟩ := ru_got h0
                                        replace h := h r156 S157 g9
                                        replace K := fun i ro uo z => K i ro uo ⟨r156, S157, z9, z⟩
                                        obtain ⟨g41_, h⟩ := h
                                        replace K := fun i ro uo z => K i ro uo ⟨g41_, z⟩
                                        obtain ⟨Q9, h0, h⟩ := h
                                        obtain ⟨S163, z9, g9⟩ := ru_putInt h0
                                        replace h := h S163 g9
                                        replace K := fun i ro uo z => K i ro uo ⟨S163, z9, z⟩
                                        exact ⟨_, _, K i0 _ _ ⟨rfl, rfl⟩, h⟩
                                      · replace h := h.2 c
                                        replace K := fun i ro uo z => K i ro uo (Or.inr ⟨c, z⟩)
                                        by_cases c : x2.toInt = 145
                                        · replace h := h.1 c
                                          replace K := fun i ro uo z => K i ro uo (Or.inl ⟨c, z⟩)
                                          obtain ⟨Q9, h0, h⟩ := h
                                          obtain ⟨r166, S167, z9, g9⟩ := ru_got h0
                                          replace h := h r166 S167 g9
                                          replace K := fun i ro uo z => K i ro uo ⟨r166, S167, z9, z⟩
                                          obtain ⟨g42_, h⟩ := h
                                          replace K := fun i ro uo z => K i ro uo ⟨g42_, z⟩
                                          obtain ⟨Q9, h0, h⟩ := h
                                          obtain ⟨S173, z9, g9⟩ := ru_putInt h0
                                          replace h := h S173 g9
                                          replace K := fun i ro uo z => K i ro uo ⟨S173, z9, z⟩
                                          exact ⟨_, _, K i0 _ _ ⟨rfl, rfl⟩, h⟩
                                        · replace h := h.2 c
                                          replace K := fun i ro uo z => K i ro uo (Or.inr ⟨c, z⟩)
                                          by_cases c : x2.toInt = 146
                                          · replace h := h.1 c
                                            replace K := fun i ro uo z => K i ro uo (Or.inl ⟨c, z⟩)
                                            obtain ⟨Q9, h0, h⟩ := h
                                            obtain ⟨r176, S177, z9, g9⟩ := ru_got h0
                                            replace h := h r176 S177 g9
                                            replace K := fun i ro uo z => K i ro uo ⟨r176, S177, z9, z⟩
                                            obtain ⟨g43_, h⟩ := h
                                            replace K := fun i ro uo z => K i ro uo ⟨g43_, z⟩
                                            obtain ⟨Q9, h0, h⟩ := h
                                            obtain ⟨S183, z9, g9⟩ := ru_putInt h0
                                            replace h := h S183 g9
                                            replace K := fun i ro uo z => K i ro uo ⟨S183, z9, z⟩
                                            exact ⟨_, _, K i0 _ _ ⟨rfl, rfl⟩, h⟩
                                          · replace h := h.2 c
                                            replace K := fun i ro uo z => K i ro uo (Or.inr ⟨c, z⟩)
                                            by_cases c : x2.toInt = 147
                                            · replace h := h.1 c
                                              replace K := fun i ro uo z => K i ro uo (Or.inl ⟨c, z⟩)
                                              obtain ⟨Q9, h0, h⟩ := h
                                              obtain ⟨r186, S187, z9, g9⟩ := ru_got h0
                                              replace h := h r186 S187 g9
                                              replace K := fun i ro uo z => K i ro uo ⟨r186, S187, z9, z⟩
                                              obtain ⟨g44_, h⟩ := h
                                              replace K := fun i ro uo z => K i ro uo ⟨g44_, z⟩
                                              obtain ⟨Q9, h0, h⟩ := h
                                              obtain ⟨S193, z9, g9⟩ := ru_putInt h0
                                              replace h := h S193 g9
                                              replace K := fun i ro uo z => K i ro uo ⟨S193, z9, z⟩
                                              exact ⟨_, _, K i0 _ _ ⟨rfl, rfl⟩, h⟩
                                            · replace h := h.2 c
                                              replace K := fun i ro uo z => K i ro uo (Or.inr ⟨c, z⟩)
                                              by_cases c : x2.toInt = 178
                                              · replace h := h.1 c
                                                replace K := fun i ro uo z => K i ro uo (Or.inl ⟨c, z⟩)
                                                obtain ⟨g45_, h⟩ := h
                                                replace K := fun i ro uo z => K i ro uo ⟨g45_, z⟩
                                                obtain ⟨g46_, h⟩ := h
                                                replace K := fun i ro uo z => K i ro uo ⟨g46_, z⟩
                                                obtain ⟨g47_, h⟩ := h
                                                replace K := fun i ro uo z => K i ro uo ⟨g47_, z⟩
                                                obtain ⟨g48_, h⟩ := h
                                                replace K := fun i ro uo z => K i ro uo ⟨g48_, z⟩
                                                by_cases c : (sEq S (qO S (qO S (qO S 0 80) 7) x3.toInt.toNat) 10000016).toInt = 0
                                                · replace h := h.1 c
                                                  replace K := fun i ro uo z => K i ro uo (Or.inl ⟨c, z⟩)
                                                  obtain ⟨g49_, h⟩ := h
                                                  replace K := fun i ro uo z => K i ro uo ⟨g49_, z⟩
                                                  obtain ⟨g50_, h⟩ := h
                                                  replace K := fun i ro uo z => K i ro uo ⟨g50_, z⟩
                                                  obtain ⟨g51_, h⟩ := h
                                                  replace K := fun i ro uo z => K i ro uo ⟨g51_, z⟩
                                                  obtain ⟨g52_, h⟩ := h
                                                  replace K := fun i ro uo z => K i ro uo ⟨g52_, z⟩
                                                  obtain ⟨g53_, h⟩ := h
                                                  replace K := fun i ro uo z => K i ro uo ⟨g53_, z⟩
                                                  by_cases c : (sEq S (qO S (qO S (qO S 0 80) 7) x3.toInt.toNat) 10000022).toInt = 0
                                                  · replace h := h.1 c
                                                    replace K := fun i ro uo z => K i ro uo (Or.inl ⟨c, z⟩)
                                                    exact ru_plain_J542 i0 K h
                                                  · replace h := h.2 c
                                                    replace K := fun i ro uo z => K i ro uo (Or.inr ⟨c, z⟩)
                                                    exact ru_plain_J542 i0 K h
                                                · replace h := h.2 c
                                                  replace K := fun i ro uo z => K i ro uo (Or.inr ⟨c, z⟩)
                                                  obtain ⟨g54_, h⟩ := h
                                                  replace K := fun i ro uo z => K i ro uo ⟨g54_, z⟩
                                                  obtain ⟨Q9, h0, h⟩ := h
                                                  obtain ⟨S223, z9, g9⟩ := ru_putInt h0
                                                  replace h := h S223 g9
                                                  replace K := fun i ro uo z => K i ro uo ⟨S223, z9, z⟩
                                                  exact ⟨_, _, K i0 _ _ ⟨rfl, rfl⟩, h⟩
                                              · replace h := h.2 c
                                                replace K := fun i ro uo z => K i ro uo (Or.inr ⟨c, z⟩)
                                                by_cases c : x2.toInt = 179
                                                · replace h := h.1 c
                                                  replace K := fun i ro uo z => K i ro uo (Or.inl ⟨c, z⟩)
                                                  obtain ⟨g55_, h⟩ := h
                                                  replace K := fun i ro uo z => K i ro uo ⟨g55_, z⟩
                                                  obtain ⟨g56_, h⟩ := h
                                                  replace K := fun i ro uo z => K i ro uo ⟨g56_, z⟩
                                                  obtain ⟨g57_, h⟩ := h
                                                  replace K := fun i ro uo z => K i ro uo ⟨g57_, z⟩
                                                  obtain ⟨g58_, h⟩ := h
                                                  replace K := fun i ro uo z => K i ro uo ⟨g58_, z⟩
                                                  by_cases c : (sEq S (qO S (qO S (qO S 0 80) 7) x3.toInt.toNat) 10000022).toInt = 0
                                                  · replace h := h.1 c
                                                    replace K := fun i ro uo z => K i ro uo (Or.inl ⟨c, z⟩)
                                                    exact ru_plain_J576 i0 K h
                                                  · replace h := h.2 c
                                                    replace K := fun i ro uo z => K i ro uo (Or.inr ⟨c, z⟩)
                                                    exact ru_plain_J576 i0 K h
                                                · replace h := h.2 c
                                                  replace K := fun i ro uo z => K i ro uo (Or.inr ⟨c, z⟩)
                                                  obtain ⟨Q9, h0, h⟩ := h
                                                  obtain ⟨r242, S243, z9, g9⟩ := ru_onArrays h0
                                                  replace h := h r242 S243 g9
                                                  replace K := fun i ro uo z => K i ro uo ⟨r242, S243, z9, z⟩
                                                  exact ⟨_, _, K i0 _ _ ⟨rfl, rfl⟩, h⟩
set_option maxRecDepth 100000 in
theorem vw_plain_J542 {ro : Int32} {uo : MS} {U542 : MS} {t542_0 : Int32} {t542_1 : Int64} (h : v_plain_J542 ro uo U542 t542_0 t542_1) : w_plain_J542 (fun r u => r = ro ∧ u = uo) U542 t542_0 t542_1 := by
  unfold v_plain_J542 at h
  unfold w_plain_J542
  obtain ⟨q9, z9, h⟩ := h
  refine ⟨_, vw_put z9, ?_⟩
  intro q8 d9
  subst d9
  exact ⟨h.1.symm, h.2.symm⟩
set_option maxRecDepth 100000 in
theorem vz_plain_J542 {ro : Int32} {uo : MS} {Q : Int32 → MS → Prop} {U542 : MS} {t542_0 : Int32} {t542_1 : Int64} (h : v_plain_J542 ro uo U542 t542_0 t542_1) (w : w_plain_J542 Q U542 t542_0 t542_1) : Q ro uo := by
  unfold v_plain_J542 at h
  unfold w_plain_J542 at w
  obtain ⟨q9, z9, h⟩ := h
  obtain ⟨Q9, w0, w⟩ := w
  replace w := w q9 (vz_put z9 w0)
  rw [h.1, h.2]
  exact w
set_option maxRecDepth 100000 in
theorem vw_plain_J576 {ro : Int32} {uo : MS} {U576 : MS} {t576_0 : Int32} {t576_2 : Int32} (h : v_plain_J576 ro uo U576 t576_0 t576_2) : w_plain_J576 (fun r u => r = ro ∧ u = uo) U576 t576_0 t576_2 := by
  unfold v_plain_J576 at h
  unfold w_plain_J576
  obtain ⟨p9, q9, z9, h⟩ := h
  refine ⟨_, vw_got z9, ?_⟩
  rintro p8 q8 ⟨d8, d9⟩
  subst d8
  subst d9
  obtain ⟨g9, h⟩ := h
  refine ⟨g9, ?_⟩
  obtain ⟨v9, e9, h⟩ := h
  intro x9 d9
  have c9 : v9 = x9 := e9.trans d9.symm
  subst c9
  exact ⟨h.1.symm, h.2.symm⟩
set_option maxRecDepth 100000 in
theorem vz_plain_J576 {ro : Int32} {uo : MS} {Q : Int32 → MS → Prop} {U576 : MS} {t576_0 : Int32} {t576_2 : Int32} (h : v_plain_J576 ro uo U576 t576_0 t576_2) (w : w_plain_J576 Q U576 t576_0 t576_2) : Q ro uo := by
  unfold v_plain_J576 at h
  unfold w_plain_J576 at w
  obtain ⟨p9, q9, z9, h⟩ := h
  obtain ⟨Q9, w0, w⟩ := w
  replace w := w p9 q9 (vz_got z9 w0)
  replace h := h.2
  replace w := w.2
  obtain ⟨v9, e9, h⟩ := h
  replace w := w v9 e9
  rw [h.1, h.2]
  exact w
set_option maxRecDepth 100000 in
theorem vw_plain {S : MS} {x1 : Int32} {x2 : Int32} {x3 : Int32} {ro : Int32} {uo : MS} (h : v_plain S x1 x2 x3 ro uo) : w_plain S x1 x2 x3 (fun r u => r = ro ∧ u = uo) := by
  unfold v_plain at h
  unfold w_plain
  rcases h with ⟨c, h⟩ | ⟨c, h⟩
  · refine ⟨fun _ => ?_, fun c2 => absurd c c2⟩
    exact ⟨h.1.symm, h.2.symm⟩
  · refine ⟨fun c2 => absurd c2 c, fun _ => ?_⟩
    rcases h with ⟨c, h⟩ | ⟨c, h⟩
    · refine ⟨fun _ => ?_, fun c2 => absurd c c2⟩
      obtain ⟨q9, z9, h⟩ := h
      refine ⟨_, vw_put z9, ?_⟩
      intro q8 d9
      subst d9
      exact ⟨h.1.symm, h.2.symm⟩
    · refine ⟨fun c2 => absurd c2 c, fun _ => ?_⟩
      rcases h with ⟨c, h⟩ | ⟨c, h⟩
      · refine ⟨fun _ => ?_, fun c2 => absurd c c2⟩
        obtain ⟨q9, z9, h⟩ := h
        refine ⟨_, vw_putInt z9, ?_⟩
        intro q8 d9
        subst d9
        exact ⟨h.1.symm, h.2.symm⟩
      · refine ⟨fun c2 => absurd c2 c, fun _ => ?_⟩
        rcases h with ⟨c, h⟩ | ⟨c, h⟩
        · refine ⟨fun _ => ?_, fun c2 => absurd c c2⟩
          obtain ⟨g9, h⟩ := h
          refine ⟨g9, ?_⟩
          obtain ⟨q9, z9, h⟩ := h
          refine ⟨_, vw_put z9, ?_⟩
          intro q8 d9
          subst d9
          exact ⟨h.1.symm, h.2.symm⟩
        · refine ⟨fun c2 => absurd c2 c, fun _ => ?_⟩
          rcases h with ⟨c, h⟩ | ⟨c, h⟩
          · refine ⟨fun _ => ?_, fun c2 => absurd c c2⟩
            obtain ⟨g9, h⟩ := h
            refine ⟨g9, ?_⟩
            obtain ⟨g9, h⟩ := h
            refine ⟨g9, ?_⟩
            obtain ⟨g9, h⟩ := h
            refine ⟨g9, ?_⟩
            obtain ⟨g9, h⟩ := h
            refine ⟨g9, ?_⟩
            obtain ⟨q9, z9, h⟩ := h
            refine ⟨_, vw_putTagged z9, ?_⟩
            intro q8 d9
            subst d9
            exact ⟨h.1.symm, h.2.symm⟩
          · refine ⟨fun c2 => absurd c2 c, fun _ => ?_⟩
            rcases h with ⟨c, h⟩ | ⟨c, h⟩
            · refine ⟨fun _ => ?_, fun c2 => absurd c c2⟩
              obtain ⟨g9, h⟩ := h
              refine ⟨g9, ?_⟩
              obtain ⟨g9, h⟩ := h
              refine ⟨g9, ?_⟩
              obtain ⟨q9, z9, h⟩ := h
              refine ⟨_, vw_put z9, ?_⟩
              intro q8 d9
              subst d9
              exact ⟨h.1.symm, h.2.symm⟩
            · refine ⟨fun c2 => absurd c2 c, fun _ => ?_⟩
              rcases h with ⟨c, h⟩ | ⟨c, h⟩
              · refine ⟨fun _ => ?_, fun c2 => absurd c c2⟩
                obtain ⟨g9, h⟩ := h
                refine ⟨g9, ?_⟩
                obtain ⟨g9, h⟩ := h
                refine ⟨g9, ?_⟩
                obtain ⟨g9, h⟩ := h
                refine ⟨g9, ?_⟩
                obtain ⟨g9, h⟩ := h
                refine ⟨g9, ?_⟩
                obtain ⟨q9, z9, h⟩ := h
                refine ⟨_, vw_putTagged z9, ?_⟩
                intro q8 d9
                subst d9
                exact ⟨h.1.symm, h.2.symm⟩
              · refine ⟨fun c2 => absurd c2 c, fun _ => ?_⟩
                rcases h with ⟨c, h⟩ | ⟨c, h⟩
                · refine ⟨fun _ => ?_, fun c2 => absurd c c2⟩
                  obtain ⟨g9, h⟩ := h
                  refine ⟨g9, ?_⟩
                  obtain ⟨g9, h⟩ := h
                  refine ⟨g9, ?_⟩
                  obtain ⟨g9, h⟩ := h
                  refine ⟨g9, ?_⟩
                  obtain ⟨v9, e9, h⟩ := h
                  intro x9 d9
                  have c9 : v9 = x9 := e9.trans d9.symm
                  subst c9
                  obtain ⟨g9, h⟩ := h
                  refine ⟨g9, ?_⟩
                  obtain ⟨p9, q9, z9, h⟩ := h
                  refine ⟨_, vw_got z9, ?_⟩
                  rintro p8 q8 ⟨d8, d9⟩
                  subst d8
                  subst d9
                  obtain ⟨g9, h⟩ := h
                  refine ⟨g9, ?_⟩
                  obtain ⟨v9, e9, h⟩ := h
                  intro x9 d9
                  have c9 : v9 = x9 := e9.trans d9.symm
                  subst c9
                  exact ⟨h.1.symm, h.2.symm⟩
                · refine ⟨fun c2 => absurd c2 c, fun _ => ?_⟩
                  rcases h with ⟨c, h⟩ | ⟨c, h⟩
                  · refine ⟨fun _ => ?_, fun c2 => absurd c c2⟩
                    obtain ⟨g9, h⟩ := h
                    refine ⟨g9, ?_⟩
                    obtain ⟨g9, h⟩ := h
                    refine ⟨g9, ?_⟩
                    obtain ⟨g9, h⟩ := h
                    refine ⟨g9, ?_⟩
                    obtain ⟨v9, e9, h⟩ := h
                    intro x9 d9
                    have c9 : v9 = x9 := e9.trans d9.symm
                    subst c9
                    obtain ⟨g9, h⟩ := h
                    refine ⟨g9, ?_⟩
                    obtain ⟨g9, h⟩ := h
                    refine ⟨g9, ?_⟩
                    obtain ⟨g9, h⟩ := h
                    refine ⟨g9, ?_⟩
                    obtain ⟨v9, e9, h⟩ := h
                    intro x9 d9
                    have c9 : v9 = x9 := e9.trans d9.symm
                    subst c9
                    obtain ⟨g9, h⟩ := h
                    refine ⟨g9, ?_⟩
                    obtain ⟨p9, q9, z9, h⟩ := h
                    refine ⟨_, vw_got z9, ?_⟩
                    rintro p8 q8 ⟨d8, d9⟩
                    subst d8
                    subst d9
                    obtain ⟨g9, h⟩ := h
                    refine ⟨g9, ?_⟩
                    obtain ⟨v9, e9, h⟩ := h
                    intro x9 d9
                    have c9 : v9 = x9 := e9.trans d9.symm
                    subst c9
                    exact ⟨h.1.symm, h.2.symm⟩
                  · refine ⟨fun c2 => absurd c2 c, fun _ => ?_⟩
                    rcases h with ⟨c, h⟩ | ⟨c, h⟩
                    · refine ⟨fun _ => ?_, fun c2 => absurd c c2⟩
                      obtain ⟨g9, h⟩ := h
                      refine ⟨g9, ?_⟩
                      obtain ⟨g9, h⟩ := h
                      refine ⟨g9, ?_⟩
                      obtain ⟨g9, h⟩ := h
                      refine ⟨g9, ?_⟩
                      obtain ⟨v9, e9, h⟩ := h
                      intro x9 d9
                      have c9 : v9 = x9 := e9.trans d9.symm
                      subst c9
                      obtain ⟨g9, h⟩ := h
                      refine ⟨g9, ?_⟩
                      obtain ⟨p9, q9, z9, h⟩ := h
                      refine ⟨_, vw_got z9, ?_⟩
                      rintro p8 q8 ⟨d8, d9⟩
                      subst d8
                      subst d9
                      obtain ⟨g9, h⟩ := h
                      refine ⟨g9, ?_⟩
                      obtain ⟨v9, e9, h⟩ := h
                      intro x9 d9
                      have c9 : v9 = x9 := e9.trans d9.symm
                      subst c9
                      exact ⟨h.1.symm, h.2.symm⟩
                    · refine ⟨fun c2 => absurd c2 c, fun _ => ?_⟩
                      rcases h with ⟨c, h⟩ | ⟨c, h⟩
                      · refine ⟨fun _ => ?_, fun c2 => absurd c c2⟩
                        obtain ⟨g9, h⟩ := h
                        refine ⟨g9, ?_⟩
                        obtain ⟨g9, h⟩ := h
                        refine ⟨g9, ?_⟩
                        obtain ⟨v9, e9, h⟩ := h
                        intro x9 d9
                        have c9 : v9 = x9 := e9.trans d9.symm
                        subst c9
                        exact ⟨h.1.symm, h.2.symm⟩
                      · refine ⟨fun c2 => absurd c2 c, fun _ => ?_⟩
                        rcases h with ⟨c, h⟩ | ⟨c, h⟩
                        · refine ⟨fun _ => ?_, fun c2 => absurd c c2⟩
                          obtain ⟨g9, h⟩ := h
                          refine ⟨g9, ?_⟩
                          obtain ⟨g9, h⟩ := h
                          refine ⟨g9, ?_⟩
                          obtain ⟨v9, e9, h⟩ := h
                          intro x9 d9
                          have c9 : v9 = x9 := e9.trans d9.symm
                          subst c9
                          exact ⟨h.1.symm, h.2.symm⟩
                        · refine ⟨fun c2 => absurd c2 c, fun _ => ?_⟩
                          rcases h with ⟨c, h⟩ | ⟨c, h⟩
                          · refine ⟨fun _ => ?_, fun c2 => absurd c c2⟩
                            obtain ⟨q9, z9, h⟩ := h
                            refine ⟨_, vw_shuffle z9, ?_⟩
                            intro q8 d9
                            subst d9
                            exact ⟨h.1.symm, h.2.symm⟩
                          · refine ⟨fun c2 => absurd c2 c, fun _ => ?_⟩
                            rcases h with ⟨c, h⟩ | ⟨c, h⟩
                            · refine ⟨fun _ => ?_, fun c2 => absurd c c2⟩
                              obtain ⟨q9, z9, h⟩ := h
                              refine ⟨_, vw_shuffle z9, ?_⟩
                              intro q8 d9
                              subst d9
                              exact ⟨h.1.symm, h.2.symm⟩
                            · refine ⟨fun c2 => absurd c2 c, fun _ => ?_⟩
                              rcases h with ⟨c, h⟩ | ⟨c, h⟩
                              · refine ⟨fun _ => ?_, fun c2 => absurd c c2⟩
                                obtain ⟨q9, z9, h⟩ := h
                                refine ⟨_, vw_shuffle z9, ?_⟩
                                intro q8 d9
                                subst d9
                                exact ⟨h.1.symm, h.2.symm⟩
                              · refine ⟨fun c2 => absurd c2 c, fun _ => ?_⟩
                                rcases h with ⟨c, h⟩ | ⟨c, h⟩
                                · refine ⟨fun _ => ?_, fun c2 => absurd c c2⟩
                                  obtain ⟨q9, z9, h⟩ := h
                                  refine ⟨_, vw_shuffle z9, ?_⟩
                                  intro q8 d9
                                  subst d9
                                  exact ⟨h.1.symm, h.2.symm⟩
                                · refine ⟨fun c2 => absurd c2 c, fun _ => ?_⟩
                                  rcases h with ⟨c, h⟩ | ⟨c, h⟩
                                  · refine ⟨fun _ => ?_, fun c2 => absurd c c2⟩
                                    obtain ⟨g9, h⟩ := h
                                    refine ⟨g9, ?_⟩
                                    obtain ⟨g9, h⟩ := h
                                    refine ⟨g9, ?_⟩
                                    obtain ⟨g9, h⟩ := h
                                    refine ⟨g9, ?_⟩
                                    obtain ⟨g9, h⟩ := h
                                    refine ⟨g9, ?_⟩
                                    obtain ⟨g9, h⟩ := h
                                    refine ⟨g9, ?_⟩
                                    obtain ⟨v9, e9, h⟩ := h
                                    intro x9 d9
                                    have c9 : v9 = x9 := e9.trans d9.symm
                                    subst c9
                                    exact ⟨h.1.symm, h.2.symm⟩
                                  · refine ⟨fun c2 => absurd c2 c, fun _ => ?_⟩
                                    rcases h with ⟨c, h⟩ | ⟨c, h⟩
                                    · refine ⟨fun _ => ?_, fun c2 => absurd c c2⟩
                                      obtain ⟨p9, q9, z9, h⟩ := h
                                      refine ⟨_, vw_got z9, ?_⟩
                                      rintro p8 q8 ⟨d8, d9⟩
                                      subst d8
                                      subst d9
                                      obtain ⟨g9, h⟩ := h
                                      refine ⟨g9, ?_⟩
                                      obtain ⟨q9, z9, h⟩ := h
                                      refine ⟨_, vw_put z9, ?_⟩
                                      intro q8 d9
                                      subst d9
                                      exact ⟨h.1.symm, h.2.symm⟩
                                    · refine ⟨fun c2 => absurd c2 c, fun _ => ?_⟩
                                      rcases h with ⟨c, h⟩ | ⟨c, h⟩
                                      · refine ⟨fun _ => ?_, fun c2 => absurd c c2⟩
                                        obtain ⟨p9, q9, z9, h⟩ := h
                                        refine ⟨_, vw_got z9, ?_⟩
                                        rintro p8 q8 ⟨d8, d9⟩
                                        subst d8
                                        subst d9
                                        obtain ⟨g9, h⟩ := h
                                        refine ⟨g9, ?_⟩
                                        obtain ⟨q9, z9, h⟩ := h
                                        refine ⟨_, vw_putInt z9, ?_⟩
                                        intro q8 d9
                                        subst d9
                                        exact ⟨h.1.symm, h.2.symm⟩
                                      · refine ⟨fun c2 => absurd c2 c, fun _ => ?_⟩
                                        rcases h with ⟨c, h⟩ | ⟨c, h⟩
                                        · refine ⟨fun _ => ?_, fun c2 => absurd c c2⟩
                                          obtain ⟨p9, q9, z9, h⟩ := h
                                          refine ⟨_, vw_got z9, ?_⟩
                                          rintro p8 q8 ⟨d8, d9⟩
                                          subst d8
                                          subst d9
                                          obtain ⟨g9, h⟩ := h
                                          refine ⟨g9, ?_⟩
                                          obtain ⟨q9, z9, h⟩ := h
                                          refine ⟨_, vw_putInt z9, ?_⟩
                                          intro q8 d9
                                          subst d9
                                          exact ⟨h.1.symm, h.2.symm⟩
                                        · refine ⟨fun c2 => absurd c2 c, fun _ => ?_⟩
                                          rcases h with ⟨c, h⟩ | ⟨c, h⟩
                                          · refine ⟨fun _ => ?_, fun c2 => absurd c c2⟩
                                            obtain ⟨p9, q9, z9, h⟩ := h
                                            refine ⟨_, vw_got z9, ?_⟩
                                            rintro p8 q8 ⟨d8, d9⟩
                                            subst d8
                                            subst d9
                                            obtain ⟨g9, h⟩ := h
                                            refine ⟨g9, ?_⟩
                                            obtain ⟨q9, z9, h⟩ := h
                                            refine ⟨_, vw_putInt z9, ?_⟩
                                            intro q8 d9
                                            subst d9
                                            exact ⟨h.1.symm, h.2.symm⟩
                                          · refine ⟨fun c2 => absurd c2 c, fun _ => ?_⟩
                                            rcases h with ⟨c, h⟩ | ⟨c, h⟩
                                            · refine ⟨fun _ => ?_, fun c2 => absurd c c2⟩
                                              obtain ⟨p9, q9, z9, h⟩ := h
                                              refine ⟨_, vw_got z9, ?_⟩
                                              rintro p8 q8 ⟨d8, d9⟩
                                              subst d8
                                              subst d9
                                              obtain ⟨g9, h⟩ := h
                                              refine ⟨g9, ?_⟩
                                              obtain ⟨q9, z9, h⟩ := h
                                              refine ⟨_, vw_putInt z9, ?_⟩
                                              intro q8 d9
                                              subst d9
                                              exact ⟨h.1.symm, h.2.symm⟩
                                            · refine ⟨fun c2 => absurd c2 c, fun _ => ?_⟩
                                              rcases h with ⟨c, h⟩ | ⟨c, h⟩
                                              · refine ⟨fun _ => ?_, fun c2 => absurd c c2⟩
                                                obtain ⟨g9, h⟩ := h
                                                refine ⟨g9, ?_⟩
                                                obtain ⟨g9, h⟩ := h
                                                refine ⟨g9, ?_⟩
                                                obtain ⟨g9, h⟩ := h
                                                refine ⟨g9, ?_⟩
                                                obtain ⟨g9, h⟩ := h
                                                refine ⟨g9, ?_⟩
                                                rcases h with ⟨c, h⟩ | ⟨c, h⟩
                                                · refine ⟨fun _ => ?_, fun c2 => absurd c c2⟩
                                                  obtain ⟨g9, h⟩ := h
                                                  refine ⟨g9, ?_⟩
                                                  obtain ⟨g9, h⟩ := h
                                                  refine ⟨g9, ?_⟩
                                                  obtain ⟨g9, h⟩ := h
                                                  refine ⟨g9, ?_⟩
                                                  obtain ⟨g9, h⟩ := h
                                                  refine ⟨g9, ?_⟩
                                                  obtain ⟨g9, h⟩ := h
                                                  refine ⟨g9, ?_⟩
                                                  rcases h with ⟨c, h⟩ | ⟨c, h⟩
                                                  · refine ⟨fun _ => ?_, fun c2 => absurd c c2⟩
                                                    exact vw_plain_J542 h
                                                  · refine ⟨fun c2 => absurd c2 c, fun _ => ?_⟩
                                                    exact vw_plain_J542 h
                                                · refine ⟨fun c2 => absurd c2 c, fun _ => ?_⟩
                                                  obtain ⟨g9, h⟩ := h
                                                  refine ⟨g9, ?_⟩
                                                  obtain ⟨q9, z9, h⟩ := h
                                                  refine ⟨_, vw_putInt z9, ?_⟩
                                                  intro q8 d9
                                                  subst d9
                                                  exact ⟨h.1.symm, h.2.symm⟩
                                              · refine ⟨fun c2 => absurd c2 c, fun _ => ?_⟩
                                                rcases h with ⟨c, h⟩ | ⟨c, h⟩
                                                · refine ⟨fun _ => ?_, fun c2 => absurd c c2⟩
                                                  obtain ⟨g9, h⟩ := h
                                                  refine ⟨g9, ?_⟩
                                                  obtain ⟨g9, h⟩ := h
                                                  refine ⟨g9, ?_⟩
                                                  obtain ⟨g9, h⟩ := h
                                                  refine ⟨g9, ?_⟩
                                                  obtain ⟨g9, h⟩ := h
                                                  refine ⟨g9, ?_⟩
                                                  rcases h with ⟨c, h⟩ | ⟨c, h⟩
                                                  · refine ⟨fun _ => ?_, fun c2 => absurd c c2⟩
                                                    exact vw_plain_J576 h
                                                  · refine ⟨fun c2 => absurd c2 c, fun _ => ?_⟩
                                                    exact vw_plain_J576 h
                                                · refine ⟨fun c2 => absurd c2 c, fun _ => ?_⟩
                                                  obtain ⟨p9, q9, z9, h⟩ := h
                                                  refine ⟨_, vw_onArrays z9, ?_⟩
                                                  rintro p8 q8 ⟨d8, d9⟩
                                                  subst d8
                                                  subst d9
                                                  exact ⟨h.1.symm, h.2.symm⟩
set_option maxRecDepth 100000 in
theorem vz_plain {S : MS} {x1 : Int32} {x2 : Int32} {x3 : Int32} {ro : Int32} {uo : MS} {Q : Int32 → MS → Prop} (h : v_plain S x1 x2 x3 ro uo) (w : w_plain S x1 x2 x3 Q) : Q ro uo := by
  unfold v_plain at h
  unfold w_plain at w
  rcases h with ⟨c, h⟩ | ⟨c, h⟩
  · replace w := w.1 c
    rw [h.1, h.2]
    exact w
  · replace w := w.2 c
    rcases h with ⟨c, h⟩ | ⟨c, h⟩
    · replace w := w.1 c
      obtain ⟨q9, z9, h⟩ := h
      obtain ⟨Q9, w0, w⟩ := w
      replace w := w q9 (vz_put z9 w0)
      rw [h.1, h.2]
      exact w
    · replace w := w.2 c
      rcases h with ⟨c, h⟩ | ⟨c, h⟩
      · replace w := w.1 c
        obtain ⟨q9, z9, h⟩ := h
        obtain ⟨Q9, w0, w⟩ := w
        replace w := w q9 (vz_putInt z9 w0)
        rw [h.1, h.2]
        exact w
      · replace w := w.2 c
        rcases h with ⟨c, h⟩ | ⟨c, h⟩
        · replace w := w.1 c
          replace h := h.2
          replace w := w.2
          obtain ⟨q9, z9, h⟩ := h
          obtain ⟨Q9, w0, w⟩ := w
          replace w := w q9 (vz_put z9 w0)
          rw [h.1, h.2]
          exact w
        · replace w := w.2 c
          rcases h with ⟨c, h⟩ | ⟨c, h⟩
          · replace w := w.1 c
            replace h := h.2
            replace w := w.2
            replace h := h.2
            replace w := w.2
            replace h := h.2
            replace w := w.2
            replace h := h.2
            replace w := w.2
            obtain ⟨q9, z9, h⟩ := h
            obtain ⟨Q9, w0, w⟩ := w
            replace w := w q9 (vz_putTagged z9 w0)
            rw [h.1, h.2]
            exact w
          · replace w := w.2 c
            rcases h with ⟨c, h⟩ | ⟨c, h⟩
            · replace w := w.1 c
              replace h := h.2
              replace w := w.2
              replace h := h.2
              replace w := w.2
              obtain ⟨q9, z9, h⟩ := h
              obtain ⟨Q9, w0, w⟩ := w
              replace w := w q9 (vz_put z9 w0)
              rw [h.1, h.2]
              exact w
            · replace w := w.2 c
              rcases h with ⟨c, h⟩ | ⟨c, h⟩
              · replace w := w.1 c
                replace h := h.2
                replace w := w.2
                replace h := h.2
                replace w := w.2
                replace h := h.2
                replace w := w.2
                replace h := h.2
                replace w := w.2
                obtain ⟨q9, z9, h⟩ := h
                obtain ⟨Q9, w0, w⟩ := w
                replace w := w q9 (vz_putTagged z9 w0)
                rw [h.1, h.2]
                exact w
              · replace w := w.2 c
                rcases h with ⟨c, h⟩ | ⟨c, h⟩
                · replace w := w.1 c
                  replace h := h.2
                  replace w := w.2
                  replace h := h.2
                  replace w := w.2
                  replace h := h.2
                  replace w := w.2
                  obtain ⟨v9, e9, h⟩ := h
                  replace w := w v9 e9
                  replace h := h.2
                  replace w := w.2
                  obtain ⟨p9, q9, z9, h⟩ := h
                  obtain ⟨Q9, w0, w⟩ := w
                  replace w := w p9 q9 (vz_got z9 w0)
                  replace h := h.2
                  replace w := w.2
                  obtain ⟨v9, e9, h⟩ := h
                  replace w := w v9 e9
                  rw [h.1, h.2]
                  exact w
                · replace w := w.2 c
                  rcases h with ⟨c, h⟩ | ⟨c, h⟩
                  · replace w := w.1 c
                    replace h := h.2
                    replace w := w.2
                    replace h := h.2
                    replace w := w.2
                    replace h := h.2
                    replace w := w.2
                    obtain ⟨v9, e9, h⟩ := h
                    replace w := w v9 e9
                    replace h := h.2
                    replace w := w.2
                    replace h := h.2
                    replace w := w.2
                    replace h := h.2
                    replace w := w.2
                    obtain ⟨v9, e9, h⟩ := h
                    replace w := w v9 e9
                    replace h := h.2
                    replace w := w.2
                    obtain ⟨p9, q9, z9, h⟩ := h
                    obtain ⟨Q9, w0, w⟩ := w
                    replace w := w p9 q9 (vz_got z9 w0)
                    replace h := h.2
                    replace w := w.2
                    obtain ⟨v9, e9, h⟩ := h
                    replace w := w v9 e9
                    rw [h.1, h.2]
                    exact w
                  · replace w := w.2 c
                    rcases h with ⟨c, h⟩ | ⟨c, h⟩
                    · replace w := w.1 c
                      replace h := h.2
                      replace w := w.2
                      replace h := h.2
                      replace w := w.2
                      replace h := h.2
                      replace w := w.2
                      obtain ⟨v9, e9, h⟩ := h
                      replace w := w v9 e9
                      replace h := h.2
                      replace w := w.2
                      obtain ⟨p9, q9, z9, h⟩ := h
                      obtain ⟨Q9, w0, w⟩ := w
                      replace w := w p9 q9 (vz_got z9 w0)
                      replace h := h.2
                      replace w := w.2
                      obtain ⟨v9, e9, h⟩ := h
                      replace w := w v9 e9
                      rw [h.1, h.2]
                      exact w
                    · replace w := w.2 c
                      rcases h with ⟨c, h⟩ | ⟨c, h⟩
                      · replace w := w.1 c
                        replace h := h.2
                        replace w := w.2
                        replace h := h.2
                        replace w := w.2
                        obtain ⟨v9, e9, h⟩ := h
                        replace w := w v9 e9
                        rw [h.1, h.2]
                        exact w
                      · replace w := w.2 c
                        rcases h with ⟨c, h⟩ | ⟨c, h⟩
                        · replace w := w.1 c
                          replace h := h.2
                          replace w := w.2
                          replace h := h.2
                          replace w := w.2
                          obtain ⟨v9, e9, h⟩ := h
                          replace w := w v9 e9
                          rw [h.1, h.2]
                          exact w
                        · replace w := w.2 c
                          rcases h with ⟨c, h⟩ | ⟨c, h⟩
                          · replace w := w.1 c
                            obtain ⟨q9, z9, h⟩ := h
                            obtain ⟨Q9, w0, w⟩ := w
                            replace w := w q9 (vz_shuffle z9 w0)
                            rw [h.1, h.2]
                            exact w
                          · replace w := w.2 c
                            rcases h with ⟨c, h⟩ | ⟨c, h⟩
                            · replace w := w.1 c
                              obtain ⟨q9, z9, h⟩ := h
                              obtain ⟨Q9, w0, w⟩ := w
                              replace w := w q9 (vz_shuffle z9 w0)
                              rw [h.1, h.2]
                              exact w
                            · replace w := w.2 c
                              rcases h with ⟨c, h⟩ | ⟨c, h⟩
                              · replace w := w.1 c
                                obtain ⟨q9, z9, h⟩ := h
                                obtain ⟨Q9, w0, w⟩ := w
                                replace w := w q9 (vz_shuffle z9 w0)
                                rw [h.1, h.2]
                                exact w
                              · replace w := w.2 c
                                rcases h with ⟨c, h⟩ | ⟨c, h⟩
                                · replace w := w.1 c
                                  obtain ⟨q9, z9, h⟩ := h
                                  obtain ⟨Q9, w0, w⟩ := w
                                  replace w := w q9 (vz_shuffle z9 w0)
                                  rw [h.1, h.2]
                                  exact w
                                · replace w := w.2 c
                                  rcases h with ⟨c, h⟩ | ⟨c, h⟩
                                  · replace w := w.1 c
                                    replace h := h.2
                                    replace w := w.2
                                    replace h := h.2
                                    replace w := w.2
                                    replace h := h.2
                                    replace w := w.2
                                    replace h := h.2
                                    replace w := w.2
                                    replace h := h.2
                                    replace w := w.2
                                    obtain ⟨v9, e9, h⟩ := h
                                    replace w := w v9 e9
                                    rw [h.1, h.2]
                                    exact w
                                  · replace w := w.2 c
                                    rcases h with ⟨c, h⟩ | ⟨c, h⟩
                                    · replace w := w.1 c
                                      obtain ⟨p9, q9, z9, h⟩ := h
                                      obtain ⟨Q9, w0, w⟩ := w
                                      replace w := w p9 q9 (vz_got z9 w0)
                                      replace h := h.2
                                      replace w := w.2
                                      obtain ⟨q9, z9, h⟩ := h
                                      obtain ⟨Q9, w0, w⟩ := w
                                      replace w := w q9 (vz_put z9 w0)
                                      rw [h.1, h.2]
                                      exact w
                                    · replace w := w.2 c
                                      rcases h with ⟨c, h⟩ | ⟨c, h⟩
                                      · replace w := w.1 c
                                        obtain ⟨p9, q9, z9, h⟩ := h
                                        obtain ⟨Q9, w0, w⟩ := w
                                        replace w := w p9 q9 (vz_got z9 w0)
                                        replace h := h.2
                                        replace w := w.2
                                        obtain ⟨q9, z9, h⟩ := h
                                        obtain ⟨Q9, w0, w⟩ := w
                                        replace w := w q9 (vz_putInt z9 w0)
                                        rw [h.1, h.2]
                                        exact w
                                      · replace w := w.2 c
                                        rcases h with ⟨c, h⟩ | ⟨c, h⟩
                                        · replace w := w.1 c
                                          obtain ⟨p9, q9, z9, h⟩ := h
                                          obtain ⟨Q9, w0, w⟩ := w
                                          replace w := w p9 q9 (vz_got z9 w0)
                                          replace h := h.2
                                          replace w := w.2
                                          obtain ⟨q9, z9, h⟩ := h
                                          obtain ⟨Q9, w0, w⟩ := w
                                          replace w := w q9 (vz_putInt z9 w0)
                                          rw [h.1, h.2]
                                          exact w
                                        · replace w := w.2 c
                                          rcases h with ⟨c, h⟩ | ⟨c, h⟩
                                          · replace w := w.1 c
                                            obtain ⟨p9, q9, z9, h⟩ := h
                                            obtain ⟨Q9, w0, w⟩ := w
                                            replace w := w p9 q9 (vz_got z9 w0)
                                            replace h := h.2
                                            replace w := w.2
                                            obtain ⟨q9, z9, h⟩ := h
                                            obtain ⟨Q9, w0, w⟩ := w
                                            replace w := w q9 (vz_putInt z9 w0)
                                            rw [h.1, h.2]
                                            exact w
                                          · replace w := w.2 c
                                            rcases h with ⟨c, h⟩ | ⟨c, h⟩
                                            · replace w := w.1 c
                                              obtain ⟨p9, q9, z9, h⟩ := h
                                              obtain ⟨Q9, w0, w⟩ := w
                                              replace w := w p9 q9 (vz_got z9 w0)
                                              replace h := h.2
                                              replace w := w.2
                                              obtain ⟨q9, z9, h⟩ := h
                                              obtain ⟨Q9, w0, w⟩ := w
                                              replace w := w q9 (vz_putInt z9 w0)
                                              rw [h.1, h.2]
                                              exact w
                                            · replace w := w.2 c
                                              rcases h with ⟨c, h⟩ | ⟨c, h⟩
                                              · replace w := w.1 c
                                                replace h := h.2
                                                replace w := w.2
                                                replace h := h.2
                                                replace w := w.2
                                                replace h := h.2
                                                replace w := w.2
                                                replace h := h.2
                                                replace w := w.2
                                                rcases h with ⟨c, h⟩ | ⟨c, h⟩
                                                · replace w := w.1 c
                                                  replace h := h.2
                                                  replace w := w.2
                                                  replace h := h.2
                                                  replace w := w.2
                                                  replace h := h.2
                                                  replace w := w.2
                                                  replace h := h.2
                                                  replace w := w.2
                                                  replace h := h.2
                                                  replace w := w.2
                                                  rcases h with ⟨c, h⟩ | ⟨c, h⟩
                                                  · replace w := w.1 c
                                                    exact vz_plain_J542 h w
                                                  · replace w := w.2 c
                                                    exact vz_plain_J542 h w
                                                · replace w := w.2 c
                                                  replace h := h.2
                                                  replace w := w.2
                                                  obtain ⟨q9, z9, h⟩ := h
                                                  obtain ⟨Q9, w0, w⟩ := w
                                                  replace w := w q9 (vz_putInt z9 w0)
                                                  rw [h.1, h.2]
                                                  exact w
                                              · replace w := w.2 c
                                                rcases h with ⟨c, h⟩ | ⟨c, h⟩
                                                · replace w := w.1 c
                                                  replace h := h.2
                                                  replace w := w.2
                                                  replace h := h.2
                                                  replace w := w.2
                                                  replace h := h.2
                                                  replace w := w.2
                                                  replace h := h.2
                                                  replace w := w.2
                                                  rcases h with ⟨c, h⟩ | ⟨c, h⟩
                                                  · replace w := w.1 c
                                                    exact vz_plain_J576 h w
                                                  · replace w := w.2 c
                                                    exact vz_plain_J576 h w
                                                · replace w := w.2 c
                                                  obtain ⟨p9, q9, z9, h⟩ := h
                                                  obtain ⟨Q9, w0, w⟩ := w
                                                  replace w := w p9 q9 (vz_onArrays z9 w0)
                                                  rw [h.1, h.2]
                                                  exact w
def v_watch_J244 (uo : MS) (U244 : MS) (v244_3 : Int32) : Prop := ((v244_3.toInt = 0 ∧ (∃ S15 : MS, S15 = wI U244 0 96 ((qI U244 0 96) + (1 : Int32)) ∧ (uo = S15))) ∨ (¬ v244_3.toInt = 0 ∧ (uo = U244)))
def v_watch_J235 (uo : MS) (k148 : MS → Int32 → Nat → Int32 → Int32 → Prop) (U235 : MS) (t235_0 : Int32) (t235_1 : Int32) (v235_3 : Int32) (v235_4 : Nat) (v235_6 : Int32) : Prop := (∃ a29 : Int32, a29 = (t235_1 + t235_0) ∧ (∃ a30 : Int32, a30 = (v235_6 + Int32.ofInt (-1)) ∧ (k148 U235 v235_3 v235_4 a29 a30)))
def v_watch_J215 (uo : MS) (k148 : MS → Int32 → Nat → Int32 → Int32 → Prop) (U215 : MS) (t215_0 : Int32) (v215_4 : Nat) (v215_5 : Int32) (v215_6 : Int32) : Prop := (((0 : Int) ≤ v215_6.toInt ∧ v215_6.toInt < (qN U215 (v215_4 + 1) : Int)) ∧ (((cAt U215 v215_4 v215_6).toInt = 74 ∧ (v_watch_J235 uo k148 U215 2 v215_5 t215_0 v215_4 v215_6)) ∨ (¬ (cAt U215 v215_4 v215_6).toInt = 74 ∧ (v_watch_J235 uo k148 U215 1 v215_5 t215_0 v215_4 v215_6))))
def v_watch_J195 (uo : MS) (k148 : MS → Int32 → Nat → Int32 → Int32 → Prop) (U195 : MS) (v195_4 : Nat) (v195_5 : Int32) (v195_6 : Int32) : Prop := (v_watch_J215 uo k148 U195 0 v195_4 v195_5 v195_6)
def v_watch_L148 (uo : MS) : Nat → MS → Int32 → Nat → Int32 → Int32 → Prop
  | 0, _, _, _, _, _ => False
  | n148 + 1, U148, v148_3, v148_4, v148_5, v148_6 => ((v148_6.toInt < 0 ∧ (v_watch_J244 uo U148 v148_3)) ∨ (¬ v148_6.toInt < 0 ∧ ((v148_3.toInt = 0 ∧ (v_watch_J244 uo U148 v148_3)) ∨ (¬ v148_3.toInt = 0 ∧ (((0 : Int) ≤ v148_6.toInt ∧ v148_6.toInt < (qN U148 (v148_4 + 1) : Int)) ∧ (((cAt U148 v148_4 v148_6).toInt = 74 ∧ (d_tagAt U148 v148_5 ∧ (((f_tagAt U148 v148_5).toInt = 3 ∧ (d_tagAt U148 (v148_5 + (1 : Int32)) ∧ (((f_tagAt U148 (v148_5 + (1 : Int32))).toInt = 2 ∧ (v_watch_J215 uo (v_watch_L148 uo n148) U148 1 v148_4 v148_5 v148_6)) ∨ (¬ (f_tagAt U148 (v148_5 + (1 : Int32))).toInt = 2 ∧ (v_watch_J195 uo (v_watch_L148 uo n148) U148 v148_4 v148_5 v148_6))))) ∨ (¬ (f_tagAt U148 v148_5).toInt = 3 ∧ (v_watch_J195 uo (v_watch_L148 uo n148) U148 v148_4 v148_5 v148_6))))) ∨ (¬ (cAt U148 v148_4 v148_6).toInt = 74 ∧ (((0 : Int) ≤ v148_6.toInt ∧ v148_6.toInt < (qN U148 (v148_4 + 1) : Int)) ∧ (d_tagAt U148 v148_5 ∧ (d_isTaken U148 (cAt U148 v148_4 v148_6) (f_tagAt U148 v148_5) ∧ (v_watch_J215 uo (v_watch_L148 uo n148) U148 (f_isTaken U148 (cAt U148 v148_4 v148_6) (f_tagAt U148 v148_5)) v148_4 v148_5 v148_6)))))))))))
def v_watch_J129 (uo : MS) (U129 : MS) (v129_1 : Int32) (v129_3 : Int32) : Prop := (d_takesOf U129 v129_1 ∧ (∃ a21 : Int32, a21 = ((Int32.ofNat (qN U129 ((f_takesOf U129 v129_1) + 1))) - (1 : Int32)) ∧ (∃ n, v_watch_L148 uo n U129 v129_3 (f_takesOf U129 v129_1) 1 a21)))
def v_watch_J101 (uo : MS) (U101 : MS) (v101_1 : Int32) (v101_3 : Int32) : Prop := ((v101_3.toInt = 0 ∧ (v_watch_J129 uo U101 v101_1 v101_3)) ∨ (¬ v101_3.toInt = 0 ∧ (d_op U101 v101_1 ∧ (d_moved U101 (f_op U101 v101_1) ∧ (((f_moved U101 (f_op U101 v101_1)).toInt ≤ 0 ∧ (v_watch_J129 uo U101 v101_1 v101_3)) ∨ (¬ (f_moved U101 (f_op U101 v101_1)).toInt ≤ 0 ∧ (d_op U101 v101_1 ∧ (d_isMovable U101 (f_op U101 v101_1) ∧ (∃ a64 : Int32, a64 = (f_isMovable U101 (f_op U101 v101_1)) ∧ (v_watch_J244 uo U101 a64))))))))))
def v_watch_L41 (uo : MS) : Nat → MS → Int32 → Int32 → Int32 → Int32 → Prop
  | 0, _, _, _, _, _ => False
  | n41 + 1, U41, v41_1, v41_2, v41_3, v41_4 => ((24 ≤ v41_4.toInt ∧ (v_watch_J101 uo U41 v41_1 v41_3)) ∨ (¬ 24 ≤ v41_4.toInt ∧ ((v41_3.toInt = 0 ∧ (v_watch_J101 uo U41 v41_1 v41_3)) ∨ (¬ v41_3.toInt = 0 ∧ ((qR U41 0 80 = some (qO U41 0 80)) ∧ ((qR U41 (qO U41 0 80) 22 = some (qO U41 (qO U41 0 80) 22)) ∧ (((0 : Int) ≤ ((v41_2 + (1 : Int32)) + (v41_4 / (8 : Int32))).toInt ∧ ((v41_2 + (1 : Int32)) + (v41_4 / (8 : Int32))).toInt < (qN U41 (qO U41 (qO U41 0 80) 22) : Int)) ∧ (d_slot U41 v41_4 ∧ (((0 : Int) ≤ (f_slot U41 v41_4).toInt ∧ (f_slot U41 v41_4).toInt < 1440) ∧ (d_agrees U41 (((qI U41 (qO U41 (qO U41 0 80) 22) ((((v41_2 + (1 : Int32)) + (v41_4 / (8 : Int32))).toInt).toNat)) >>> (((4 : Int32) * (v41_4 - v41_4 / (8 : Int32) * (8 : Int32))) &&& 31)) &&& (15 : Int32)) (qI U41 47 (((f_slot U41 v41_4).toInt).toNat)) ∧ (∃ a88 : Int32, a88 = (f_agrees U41 (((qI U41 (qO U41 (qO U41 0 80) 22) ((((v41_2 + (1 : Int32)) + (v41_4 / (8 : Int32))).toInt).toNat)) >>> (((4 : Int32) * (v41_4 - v41_4 / (8 : Int32) * (8 : Int32))) &&& 31)) &&& (15 : Int32)) (qI U41 47 (((f_slot U41 v41_4).toInt).toNat))) ∧ (∃ a89 : Int32, a89 = (v41_4 + Int32.ofInt 1) ∧ ((v_watch_L41 uo n41) U41 v41_1 v41_2 a88 a89)))))))))))))
def v_watch_J37 (uo : MS) (U37 : MS) (t37_0 : Int32) (v37_1 : Int32) (v37_2 : Int32) : Prop := (∃ n, v_watch_L41 uo n U37 v37_1 v37_2 t37_0 0)
def v_watch (S : MS) (x1 : Int32) (uo : MS) : Prop := (∃ a3 : Int32, a3 = ((4 : Int32) * ((qI S 0 51) + x1)) ∧ ((qR S 0 80 = some (qO S 0 80)) ∧ ((qR S (qO S 0 80) 22 = some (qO S (qO S 0 80) 22)) ∧ (((0 : Int) ≤ a3.toInt ∧ a3.toInt < (qN S (qO S (qO S 0 80) 22) : Int)) ∧ (((0 : Int) ≤ ((qI S 0 97) - (1 : Int32)).toInt ∧ ((qI S 0 97) - (1 : Int32)).toInt < 60) ∧ (((qI S (qO S (qO S 0 80) 22) a3.toInt.toNat).toInt = (qI S 44 ((((qI S 0 97) - (1 : Int32)).toInt).toNat)).toInt ∧ (v_watch_J37 uo S 1 x1 a3)) ∨ (¬ (qI S (qO S (qO S 0 80) 22) a3.toInt.toNat).toInt = (qI S 44 ((((qI S 0 97) - (1 : Int32)).toInt).toNat)).toInt ∧ (v_watch_J37 uo S 0 x1 a3))))))))
set_option maxRecDepth 100000 in
theorem ru_watch_J244 {ι : Type} {P : MS → Prop} {Q : MS → Prop} {U244 : MS} {v244_3 : Int32} (i0 : ι) (K : ∀ (i : ι) (uo : MS), v_watch_J244 uo U244 v244_3 → P uo) (h : w_watch_J244 Q U244 v244_3) : ∃ uo, P uo ∧ Q uo := by
  unfold w_watch_J244 at h
  by_cases c : v244_3.toInt = 0
  · replace h := h.1 c
    replace K := fun i uo z => K i uo (Or.inl ⟨c, z⟩)
    obtain ⟨S15, eS15⟩ : ∃ x9 : MS, x9 = wI U244 0 96 ((qI U244 0 96) + (1 : Int32)) := ⟨_, rfl⟩
    replace h := h S15 eS15
    replace K := fun i uo z => K i uo ⟨S15, eS15, z⟩
    exact ⟨_, K i0 _ rfl, h⟩
  · replace h := h.2 c
    replace K := fun i uo z => K i uo (Or.inr ⟨c, z⟩)
    exact ⟨_, K i0 _ rfl, h⟩
set_option maxRecDepth 100000 in
theorem ru_watch_J235 {ι : Type} {P : MS → Prop} {Q : MS → Prop} {k148 : MS → Int32 → Nat → Int32 → Int32 → Prop} {k148v : ι → MS → MS → Int32 → Nat → Int32 → Int32 → Prop} {U235 : MS} {t235_0 : Int32} {t235_1 : Int32} {v235_3 : Int32} {v235_4 : Nat} {v235_6 : Int32} (i0 : ι) (hk148 : ∀ (u : MS) (z0 : Int32) (z1 : Nat) (z2 : Int32) (z3 : Int32), k148 u z0 z1 z2 z3 → (∀ (i : ι) (uo : MS), k148v i uo u z0 z1 z2 z3 → P uo) → ∃ uo, P uo ∧ Q uo) (K : ∀ (i : ι) (uo : MS), v_watch_J235 uo (k148v i uo) U235 t235_0 t235_1 v235_3 v235_4 v235_6 → P uo) (h : w_watch_J235 Q k148 U235 t235_0 t235_1 v235_3 v235_4 v235_6) : ∃ uo, P uo ∧ Q uo := by
  unfold w_watch_J235 at h
  obtain ⟨a29, ea29⟩ : ∃ x9 : Int32, x9 = (t235_1 + t235_0) := ⟨_, rfl⟩
  replace h := h a29 ea29
  replace K := fun i uo z => K i uo ⟨a29, ea29, z⟩
  obtain ⟨a30, ea30⟩ : ∃ x9 : Int32, x9 = (v235_6 + Int32.ofInt (-1)) := ⟨_, rfl⟩
  replace h := h a30 ea30
  replace K := fun i uo z => K i uo ⟨a30, ea30, z⟩
  exact hk148 _ _ _ _ _ h K
set_option maxRecDepth 100000 in
theorem ru_watch_J215 {ι : Type} {P : MS → Prop} {Q : MS → Prop} {k148 : MS → Int32 → Nat → Int32 → Int32 → Prop} {k148v : ι → MS → MS → Int32 → Nat → Int32 → Int32 → Prop} {U215 : MS} {t215_0 : Int32} {v215_4 : Nat} {v215_5 : Int32} {v215_6 : Int32} (i0 : ι) (hk148 : ∀ (u : MS) (z0 : Int32) (z1 : Nat) (z2 : Int32) (z3 : Int32), k148 u z0 z1 z2 z3 → (∀ (i : ι) (uo : MS), k148v i uo u z0 z1 z2 z3 → P uo) → ∃ uo, P uo ∧ Q uo) (K : ∀ (i : ι) (uo : MS), v_watch_J215 uo (k148v i uo) U215 t215_0 v215_4 v215_5 v215_6 → P uo) (h : w_watch_J215 Q k148 U215 t215_0 v215_4 v215_5 v215_6) : ∃ uo, P uo ∧ Q uo := by
  unfold w_watch_J215 at h
  obtain ⟨g1_, h⟩ := h
  replace K := fun i uo z => K i uo ⟨g1_, z⟩
  by_cases c : (cAt U215 v215_4 v215_6).toInt = 74
  · replace h := h.1 c
    replace K := fun i uo z => K i uo (Or.inl ⟨c, z⟩)
    exact ru_watch_J235 i0 hk148 K h
  · replace h := h.2 c
    replace K := fun i uo z => K i uo (Or.inr ⟨c, z⟩)
    exact ru_watch_J235 i0 hk148 K h
set_option maxRecDepth 100000 in
theorem ru_watch_J195 {ι : Type} {P : MS → Prop} {Q : MS → Prop} {k148 : MS → Int32 → Nat → Int32 → Int32 → Prop} {k148v : ι → MS → MS → Int32 → Nat → Int32 → Int32 → Prop} {U195 : MS} {v195_4 : Nat} {v195_5 : Int32} {v195_6 : Int32} (i0 : ι) (hk148 : ∀ (u : MS) (z0 : Int32) (z1 : Nat) (z2 : Int32) (z3 : Int32), k148 u z0 z1 z2 z3 → (∀ (i : ι) (uo : MS), k148v i uo u z0 z1 z2 z3 → P uo) → ∃ uo, P uo ∧ Q uo) (K : ∀ (i : ι) (uo : MS), v_watch_J195 uo (k148v i uo) U195 v195_4 v195_5 v195_6 → P uo) (h : w_watch_J195 Q k148 U195 v195_4 v195_5 v195_6) : ∃ uo, P uo ∧ Q uo := by
  unfold w_watch_J195 at h
  exact ru_watch_J215 i0 hk148 K h
set_option maxRecDepth 100000 in
theorem ru_watch_L148 {ι : Type} {P : MS → Prop} {Q : MS → Prop} : ∀ (n : Nat) {U148 : MS} {v148_3 : Int32} {v148_4 : Nat} {v148_5 : Int32} {v148_6 : Int32} (i0 : ι), (∀ (i : ι) (uo : MS), (∃ n8, v_watch_L148 uo n8 U148 v148_3 v148_4 v148_5 v148_6) → P uo) → w_watch_L148 Q n U148 v148_3 v148_4 v148_5 v148_6 → ∃ uo, P uo ∧ Q uo := by
  intro n
  induction n with
  | zero => intro U148 v148_3 v148_4 v148_5 v148_6 i0 K h; unfold w_watch_L148 at h; exact h.elim
  | succ n ih =>
    intro U148 v148_3 v148_4 v148_5 v148_6 i0 K h
    unfold w_watch_L148 at h
    replace K := fun (i : ι × Nat) uo (z : v_watch_L148 uo (i.2 + 1) U148 v148_3 v148_4 v148_5 v148_6) => K i.1 uo ⟨i.2 + 1, z⟩
    have i00 := i0
    replace i0 : ι × Nat := (i0, 0)
    by_cases c : v148_6.toInt < 0
    · replace h := h.1 c
      replace K := fun i uo z => K i uo (Or.inl ⟨c, z⟩)
      exact ru_watch_J244 i0 K h
    · replace h := h.2 c
      replace K := fun i uo z => K i uo (Or.inr ⟨c, z⟩)
      by_cases c : v148_3.toInt = 0
      · replace h := h.1 c
        replace K := fun i uo z => K i uo (Or.inl ⟨c, z⟩)
        exact ru_watch_J244 i0 K h
      · replace h := h.2 c
        replace K := fun i uo z => K i uo (Or.inr ⟨c, z⟩)
        obtain ⟨g2_, h⟩ := h
        replace K := fun i uo z => K i uo ⟨g2_, z⟩
        by_cases c : (cAt U148 v148_4 v148_6).toInt = 74
        · replace h := h.1 c
          replace K := fun i uo z => K i uo (Or.inl ⟨c, z⟩)
          obtain ⟨g3_, h⟩ := h
          replace K := fun i uo z => K i uo ⟨g3_, z⟩
          by_cases c : (f_tagAt U148 v148_5).toInt = 3
          · replace h := h.1 c
            replace K := fun i uo z => K i uo (Or.inl ⟨c, z⟩)
            obtain ⟨g4_, h⟩ := h
            replace K := fun i uo z => K i uo ⟨g4_, z⟩
            by_cases c : (f_tagAt U148 (v148_5 + (1 : Int32))).toInt = 2
            · replace h := h.1 c
              replace K := fun i uo z => K i uo (Or.inl ⟨c, z⟩)
              exact ru_watch_J215 i0 (fun _ _ _ _ _ h K => ih i00 (fun i uo ⟨n8, z⟩ => K (i, n8) uo z) h) K h
            · replace h := h.2 c
              replace K := fun i uo z => K i uo (Or.inr ⟨c, z⟩)
              exact ru_watch_J195 i0 (fun _ _ _ _ _ h K => ih i00 (fun i uo ⟨n8, z⟩ => K (i, n8) uo z) h) K h
          · replace h := h.2 c
            replace K := fun i uo z => K i uo (Or.inr ⟨c, z⟩)
            exact ru_watch_J195 i0 (fun _ _ _ _ _ h K => ih i00 (fun i uo ⟨n8, z⟩ => K (i, n8) uo z) h) K h
        · replace h := h.2 c
          replace K := fun i uo z => K i uo (Or.inr ⟨c, z⟩)
          obtain ⟨g5_, h⟩ := h
          replace K := fun i uo z => K i uo ⟨g5_, z⟩
          obtain ⟨g6_, h⟩ := h
          replace K := fun i uo z => K i uo ⟨g6_, z⟩
          obtain ⟨g7_, h⟩ := h
          replace K := fun i uo z => K i uo ⟨g7_, z⟩
          exact ru_watch_J215 i0 (fun _ _ _ _ _ h K => ih i00 (fun i uo ⟨n8, z⟩ => K (i, n8) uo z) h) K h
set_option maxRecDepth 100000 in
theorem ru_watch_J129 {ι : Type} {P : MS → Prop} {Q : MS → Prop} {U129 : MS} {v129_1 : Int32} {v129_3 : Int32} (i0 : ι) (K : ∀ (i : ι) (uo : MS), v_watch_J129 uo U129 v129_1 v129_3 → P uo) (h : w_watch_J129 Q U129 v129_1 v129_3) : ∃ uo, P uo ∧ Q uo := by
  unfold w_watch_J129 at h
  obtain ⟨g8_, h⟩ := h
  replace K := fun i uo z => K i uo ⟨g8_, z⟩
  obtain ⟨a21, ea21⟩ : ∃ x9 : Int32, x9 = ((Int32.ofNat (qN U129 ((f_takesOf U129 v129_1) + 1))) - (1 : Int32)) := ⟨_, rfl⟩
  replace h := h a21 ea21
  replace K := fun i uo z => K i uo ⟨a21, ea21, z⟩
  obtain ⟨n9, h⟩ := h
  exact ru_watch_L148 n9 i0 K h
set_option maxRecDepth 100000 in
theorem ru_watch_J101 {ι : Type} {P : MS → Prop} {Q : MS → Prop} {U101 : MS} {v101_1 : Int32} {v101_3 : Int32} (i0 : ι) (K : ∀ (i : ι) (uo : MS), v_watch_J101 uo U101 v101_1 v101_3 → P uo) (h : w_watch_J101 Q U101 v101_1 v101_3) : ∃ uo, P uo ∧ Q uo := by
  unfold w_watch_J101 at h
  by_cases c : v101_3.toInt = 0
  · replace h := h.1 c
    replace K := fun i uo z => K i uo (Or.inl ⟨c, z⟩)
    exact ru_watch_J129 i0 K h
  · replace h := h.2 c
    replace K := fun i uo z => K i uo (Or.inr ⟨c, z⟩)
    obtain ⟨g9_, h⟩ := h
    replace K := fun i uo z => K i uo ⟨g9_, z⟩
    obtain ⟨g10_, h⟩ := h
    replace K := fun i uo z => K i uo ⟨g10_, z⟩
    by_cases c : (f_moved U101 (f_op U101 v101_1)).toInt ≤ 0
    · replace h := h.1 c
      replace K := fun i uo z => K i uo (Or.inl ⟨c, z⟩)
      exact ru_watch_J129 i0 K h
    · replace h := h.2 c
      replace K := fun i uo z => K i uo (Or.inr ⟨c, z⟩)
      obtain ⟨g11_, h⟩ := h
      replace K := fun i uo z => K i uo ⟨g11_, z⟩
      obtain ⟨g12_, h⟩ := h
      replace K := fun i uo z => K i uo ⟨g12_, z⟩
      obtain ⟨a64, ea64⟩ : ∃ x9 : Int32, x9 = (f_isMovable U101 (f_op U101 v101_1)) := ⟨_, rfl⟩
      replace h := h a64 ea64
      replace K := fun i uo z => K i uo ⟨a64, ea64, z⟩
      exact ru_watch_J244 i0 K h
set_option maxRecDepth 100000 in
theorem ru_watch_L41 {ι : Type} {P : MS → Prop} {Q : MS → Prop} : ∀ (n : Nat) {U41 : MS} {v41_1 : Int32} {v41_2 : Int32} {v41_3 : Int32} {v41_4 : Int32} (i0 : ι), (∀ (i : ι) (uo : MS), (∃ n8, v_watch_L41 uo n8 U41 v41_1 v41_2 v41_3 v41_4) → P uo) → w_watch_L41 Q n U41 v41_1 v41_2 v41_3 v41_4 → ∃ uo, P uo ∧ Q uo := by
  intro n
  induction n with
  | zero => intro U41 v41_1 v41_2 v41_3 v41_4 i0 K h; unfold w_watch_L41 at h; exact h.elim
  | succ n ih =>
    intro U41 v41_1 v41_2 v41_3 v41_4 i0 K h
    unfold w_watch_L41 at h
    replace K := fun (i : ι × Nat) uo (z : v_watch_L41 uo (i.2 + 1) U41 v41_1 v41_2 v41_3 v41_4) => K i.1 uo ⟨i.2 + 1, z⟩
    have i00 := i0
    replace i0 : ι × Nat := (i0, 0)
    by_cases c : 24 ≤ v41_4.toInt
    · replace h := h.1 c
      replace K := fun i uo z => K i uo (Or.inl ⟨c, z⟩)
      exact ru_watch_J101 i0 K h
    · replace h := h.2 c
      replace K := fun i uo z => K i uo (Or.inr ⟨c, z⟩)
      by_cases c : v41_3.toInt = 0
      · replace h := h.1 c
        replace K := fun i uo z => K i uo (Or.inl ⟨c, z⟩)
        exact ru_watch_J101 i0 K h
      · replace h := h.2 c
        replace K := fun i uo z => K i uo (Or.inr ⟨c, z⟩)
        obtain ⟨g13_, h⟩ := h
        replace K := fun i uo z => K i uo ⟨g13_, z⟩
        obtain ⟨g14_, h⟩ := h
        replace K := fun i uo z => K i uo ⟨g14_, z⟩
        obtain ⟨g15_, h⟩ := h
        replace K := fun i uo z => K i uo ⟨g15_, z⟩
        obtain ⟨g16_, h⟩ := h
        replace K := fun i uo z => K i uo ⟨g16_, z⟩
        obtain ⟨g17_, h⟩ := h
        replace K := fun i uo z => K i uo ⟨g17_, z⟩
        obtain ⟨g18_, h⟩ := h
        replace K := fun i uo z => K i uo ⟨g18_, z⟩
        obtain ⟨a88, ea88⟩ : ∃ x9 : Int32, x9 = (f_agrees U41 (((qI U41 (qO U41 (qO U41 0 80) 22) ((((v41_2 + (1 : Int32)) + (v41_4 / (8 : Int32))).toInt).toNat)) >>> (((4 : Int32) * (v41_4 - v41_4 / (8 : Int32) * (8 : Int32))) &&& 31)) &&& (15 : Int32)) (qI U41 47 (((f_slot U41 v41_4).toInt).toNat))) := ⟨_, rfl⟩
        replace h := h a88 ea88
        replace K := fun i uo z => K i uo ⟨a88, ea88, z⟩
        obtain ⟨a89, ea89⟩ : ∃ x9 : Int32, x9 = (v41_4 + Int32.ofInt 1) := ⟨_, rfl⟩
        replace h := h a89 ea89
        replace K := fun i uo z => K i uo ⟨a89, ea89, z⟩
        exact ih i00 (fun i uo ⟨n8, z⟩ => K (i, n8) uo z) h
set_option maxRecDepth 100000 in
theorem ru_watch_J37 {ι : Type} {P : MS → Prop} {Q : MS → Prop} {U37 : MS} {t37_0 : Int32} {v37_1 : Int32} {v37_2 : Int32} (i0 : ι) (K : ∀ (i : ι) (uo : MS), v_watch_J37 uo U37 t37_0 v37_1 v37_2 → P uo) (h : w_watch_J37 Q U37 t37_0 v37_1 v37_2) : ∃ uo, P uo ∧ Q uo := by
  unfold w_watch_J37 at h
  obtain ⟨n9, h⟩ := h
  exact ru_watch_L41 n9 i0 K h
set_option maxRecDepth 100000 in
theorem ru_watch {S : MS} {x1 : Int32} {Q : MS → Prop} (h : w_watch S x1 Q) : ∃ uo, v_watch S x1 uo ∧ Q uo := by
  have i0 : Unit := ()
  have K : ∀ (i : Unit) (uo : MS), v_watch S x1 uo → v_watch S x1 uo := fun _ _ z => z
  unfold w_watch at h
  obtain ⟨a3, ea3⟩ : ∃ x9 : Int32, x9 = ((4 : Int32) * ((qI S 0 51) + x1)) := ⟨_, rfl⟩
  replace h := h a3 ea3
  replace K := fun i uo z => K i uo ⟨a3, ea3, z⟩
  obtain ⟨g19_, h⟩ := h
  replace K := fun i uo z => K i uo ⟨g19_, z⟩
  obtain ⟨g20_, h⟩ := h
  replace K := fun i uo z => K i uo ⟨g20_, z⟩
  obtain ⟨g21_, h⟩ := h
  replace K := fun i uo z => K i uo ⟨g21_, z⟩
  obtain ⟨g22_, h⟩ := h
  replace K := fun i uo z => K i uo ⟨g22_, z⟩
  by_cases c : (qI S (qO S (qO S 0 80) 22) a3.toInt.toNat).toInt = (qI S 44 ((((qI S 0 97) - (1 : Int32)).toInt).toNat)).toInt
  · replace h := h.1 c
    replace K := fun i uo z => K i uo (Or.inl ⟨c, z⟩)
    exact ru_watch_J37 i0 K h
  · replace h := h.2 c
    replace K := fun i uo z => K i uo (Or.inr ⟨c, z⟩)
    exact ru_watch_J37 i0 K h
set_option maxRecDepth 100000 in
theorem vw_watch_J244 {uo : MS} {U244 : MS} {v244_3 : Int32} (h : v_watch_J244 uo U244 v244_3) : w_watch_J244 (fun u => u = uo) U244 v244_3 := by
  unfold v_watch_J244 at h
  unfold w_watch_J244
  rcases h with ⟨c, h⟩ | ⟨c, h⟩
  · refine ⟨fun _ => ?_, fun c2 => absurd c c2⟩
    obtain ⟨v9, e9, h⟩ := h
    intro x9 d9
    have c9 : v9 = x9 := e9.trans d9.symm
    subst c9
    exact h.symm
  · refine ⟨fun c2 => absurd c2 c, fun _ => ?_⟩
    exact h.symm
set_option maxRecDepth 100000 in
theorem vz_watch_J244 {uo : MS} {Q : MS → Prop} {U244 : MS} {v244_3 : Int32} (h : v_watch_J244 uo U244 v244_3) (w : w_watch_J244 Q U244 v244_3) : Q uo := by
  unfold v_watch_J244 at h
  unfold w_watch_J244 at w
  rcases h with ⟨c, h⟩ | ⟨c, h⟩
  · replace w := w.1 c
    obtain ⟨v9, e9, h⟩ := h
    replace w := w v9 e9
    rw [h]
    exact w
  · replace w := w.2 c
    rw [h]
    exact w
set_option maxRecDepth 100000 in
theorem vw_watch_J235 {uo : MS} {k148 k148v : MS → Int32 → Nat → Int32 → Int32 → Prop} {U235 : MS} {t235_0 : Int32} {t235_1 : Int32} {v235_3 : Int32} {v235_4 : Nat} {v235_6 : Int32} (hk148 : ∀ (u : MS) (z0 : Int32) (z1 : Nat) (z2 : Int32) (z3 : Int32), k148v u z0 z1 z2 z3 → k148 u z0 z1 z2 z3) (h : v_watch_J235 uo k148v U235 t235_0 t235_1 v235_3 v235_4 v235_6) : w_watch_J235 (fun u => u = uo) k148 U235 t235_0 t235_1 v235_3 v235_4 v235_6 := by
  unfold v_watch_J235 at h
  unfold w_watch_J235
  obtain ⟨v9, e9, h⟩ := h
  intro x9 d9
  have c9 : v9 = x9 := e9.trans d9.symm
  subst c9
  obtain ⟨v9, e9, h⟩ := h
  intro x9 d9
  have c9 : v9 = x9 := e9.trans d9.symm
  subst c9
  exact hk148 _ _ _ _ _ h
set_option maxRecDepth 100000 in
theorem vz_watch_J235 {uo : MS} {Q : MS → Prop} {k148 k148v : MS → Int32 → Nat → Int32 → Int32 → Prop} {U235 : MS} {t235_0 : Int32} {t235_1 : Int32} {v235_3 : Int32} {v235_4 : Nat} {v235_6 : Int32} (hk148 : ∀ (u : MS) (z0 : Int32) (z1 : Nat) (z2 : Int32) (z3 : Int32), k148v u z0 z1 z2 z3 → k148 u z0 z1 z2 z3 → Q uo) (h : v_watch_J235 uo k148v U235 t235_0 t235_1 v235_3 v235_4 v235_6) (w : w_watch_J235 Q k148 U235 t235_0 t235_1 v235_3 v235_4 v235_6) : Q uo := by
  unfold v_watch_J235 at h
  unfold w_watch_J235 at w
  obtain ⟨v9, e9, h⟩ := h
  replace w := w v9 e9
  obtain ⟨v9, e9, h⟩ := h
  replace w := w v9 e9
  exact hk148 _ _ _ _ _ h w
set_option maxRecDepth 100000 in
theorem vw_watch_J215 {uo : MS} {k148 k148v : MS → Int32 → Nat → Int32 → Int32 → Prop} {U215 : MS} {t215_0 : Int32} {v215_4 : Nat} {v215_5 : Int32} {v215_6 : Int32} (hk148 : ∀ (u : MS) (z0 : Int32) (z1 : Nat) (z2 : Int32) (z3 : Int32), k148v u z0 z1 z2 z3 → k148 u z0 z1 z2 z3) (h : v_watch_J215 uo k148v U215 t215_0 v215_4 v215_5 v215_6) : w_watch_J215 (fun u => u = uo) k148 U215 t215_0 v215_4 v215_5 v215_6 := by
  unfold v_watch_J215 at h
  unfold w_watch_J215
  obtain ⟨g9, h⟩ := h
  refine ⟨g9, ?_⟩
  rcases h with ⟨c, h⟩ | ⟨c, h⟩
  · refine ⟨fun _ => ?_, fun c2 => absurd c c2⟩
    exact vw_watch_J235 hk148 h
  · refine ⟨fun c2 => absurd c2 c, fun _ => ?_⟩
    exact vw_watch_J235 hk148 h
set_option maxRecDepth 100000 in
theorem vz_watch_J215 {uo : MS} {Q : MS → Prop} {k148 k148v : MS → Int32 → Nat → Int32 → Int32 → Prop} {U215 : MS} {t215_0 : Int32} {v215_4 : Nat} {v215_5 : Int32} {v215_6 : Int32} (hk148 : ∀ (u : MS) (z0 : Int32) (z1 : Nat) (z2 : Int32) (z3 : Int32), k148v u z0 z1 z2 z3 → k148 u z0 z1 z2 z3 → Q uo) (h : v_watch_J215 uo k148v U215 t215_0 v215_4 v215_5 v215_6) (w : w_watch_J215 Q k148 U215 t215_0 v215_4 v215_5 v215_6) : Q uo := by
  unfold v_watch_J215 at h
  unfold w_watch_J215 at w
  replace h := h.2
  replace w := w.2
  rcases h with ⟨c, h⟩ | ⟨c, h⟩
  · replace w := w.1 c
    exact vz_watch_J235 hk148 h w
  · replace w := w.2 c
    exact vz_watch_J235 hk148 h w
set_option maxRecDepth 100000 in
theorem vw_watch_J195 {uo : MS} {k148 k148v : MS → Int32 → Nat → Int32 → Int32 → Prop} {U195 : MS} {v195_4 : Nat} {v195_5 : Int32} {v195_6 : Int32} (hk148 : ∀ (u : MS) (z0 : Int32) (z1 : Nat) (z2 : Int32) (z3 : Int32), k148v u z0 z1 z2 z3 → k148 u z0 z1 z2 z3) (h : v_watch_J195 uo k148v U195 v195_4 v195_5 v195_6) : w_watch_J195 (fun u => u = uo) k148 U195 v195_4 v195_5 v195_6 := by
  unfold v_watch_J195 at h
  unfold w_watch_J195
  exact vw_watch_J215 hk148 h
set_option maxRecDepth 100000 in
theorem vz_watch_J195 {uo : MS} {Q : MS → Prop} {k148 k148v : MS → Int32 → Nat → Int32 → Int32 → Prop} {U195 : MS} {v195_4 : Nat} {v195_5 : Int32} {v195_6 : Int32} (hk148 : ∀ (u : MS) (z0 : Int32) (z1 : Nat) (z2 : Int32) (z3 : Int32), k148v u z0 z1 z2 z3 → k148 u z0 z1 z2 z3 → Q uo) (h : v_watch_J195 uo k148v U195 v195_4 v195_5 v195_6) (w : w_watch_J195 Q k148 U195 v195_4 v195_5 v195_6) : Q uo := by
  unfold v_watch_J195 at h
  unfold w_watch_J195 at w
  exact vz_watch_J215 hk148 h w
set_option maxRecDepth 100000 in
theorem vw_watch_L148 {uo : MS} : ∀ (n : Nat) {U148 : MS} {v148_3 : Int32} {v148_4 : Nat} {v148_5 : Int32} {v148_6 : Int32}, v_watch_L148 uo n U148 v148_3 v148_4 v148_5 v148_6 → w_watch_L148 (fun u => u = uo) n U148 v148_3 v148_4 v148_5 v148_6 := by
  intro n
  induction n with
  | zero => intro U148 v148_3 v148_4 v148_5 v148_6 h; unfold v_watch_L148 at h; exact h.elim
  | succ n ih =>
    intro U148 v148_3 v148_4 v148_5 v148_6 h
    unfold v_watch_L148 at h
    unfold w_watch_L148
    rcases h with ⟨c, h⟩ | ⟨c, h⟩
    · refine ⟨fun _ => ?_, fun c2 => absurd c c2⟩
      exact vw_watch_J244 h
    · refine ⟨fun c2 => absurd c2 c, fun _ => ?_⟩
      rcases h with ⟨c, h⟩ | ⟨c, h⟩
      · refine ⟨fun _ => ?_, fun c2 => absurd c c2⟩
        exact vw_watch_J244 h
      · refine ⟨fun c2 => absurd c2 c, fun _ => ?_⟩
        obtain ⟨g9, h⟩ := h
        refine ⟨g9, ?_⟩
        rcases h with ⟨c, h⟩ | ⟨c, h⟩
        · refine ⟨fun _ => ?_, fun c2 => absurd c c2⟩
          obtain ⟨g9, h⟩ := h
          refine ⟨g9, ?_⟩
          rcases h with ⟨c, h⟩ | ⟨c, h⟩
          · refine ⟨fun _ => ?_, fun c2 => absurd c c2⟩
            obtain ⟨g9, h⟩ := h
            refine ⟨g9, ?_⟩
            rcases h with ⟨c, h⟩ | ⟨c, h⟩
            · refine ⟨fun _ => ?_, fun c2 => absurd c c2⟩
              exact vw_watch_J215 (fun _ _ _ _ _ h => ih h) h
            · refine ⟨fun c2 => absurd c2 c, fun _ => ?_⟩
              exact vw_watch_J195 (fun _ _ _ _ _ h => ih h) h
          · refine ⟨fun c2 => absurd c2 c, fun _ => ?_⟩
            exact vw_watch_J195 (fun _ _ _ _ _ h => ih h) h
        · refine ⟨fun c2 => absurd c2 c, fun _ => ?_⟩
          obtain ⟨g9, h⟩ := h
          refine ⟨g9, ?_⟩
          obtain ⟨g9, h⟩ := h
          refine ⟨g9, ?_⟩
          obtain ⟨g9, h⟩ := h
          refine ⟨g9, ?_⟩
          exact vw_watch_J215 (fun _ _ _ _ _ h => ih h) h
set_option maxRecDepth 100000 in
theorem vz_watch_L148 {uo : MS} {Q : MS → Prop} : ∀ (n m : Nat) {U148 : MS} {v148_3 : Int32} {v148_4 : Nat} {v148_5 : Int32} {v148_6 : Int32}, v_watch_L148 uo n U148 v148_3 v148_4 v148_5 v148_6 → w_watch_L148 Q m U148 v148_3 v148_4 v148_5 v148_6 → Q uo := by
  intro n
  induction n with
  | zero => intro m U148 v148_3 v148_4 v148_5 v148_6 h; unfold v_watch_L148 at h; exact h.elim
  | succ n ih =>
    intro m U148 v148_3 v148_4 v148_5 v148_6 h w
    cases m with
    | zero => unfold w_watch_L148 at w; exact w.elim
    | succ m =>
      unfold v_watch_L148 at h
      unfold w_watch_L148 at w
      rcases h with ⟨c, h⟩ | ⟨c, h⟩
      · replace w := w.1 c
        exact vz_watch_J244 h w
      · replace w := w.2 c
        rcases h with ⟨c, h⟩ | ⟨c, h⟩
        · replace w := w.1 c
          exact vz_watch_J244 h w
        · replace w := w.2 c
          replace h := h.2
          replace w := w.2
          rcases h with ⟨c, h⟩ | ⟨c, h⟩
          · replace w := w.1 c
            replace h := h.2
            replace w := w.2
            rcases h with ⟨c, h⟩ | ⟨c, h⟩
            · replace w := w.1 c
              replace h := h.2
              replace w := w.2
              rcases h with ⟨c, h⟩ | ⟨c, h⟩
              · replace w := w.1 c
                exact vz_watch_J215 (fun _ _ _ _ _ h w => ih m h w) h w
              · replace w := w.2 c
                exact vz_watch_J195 (fun _ _ _ _ _ h w => ih m h w) h w
            · replace w := w.2 c
              exact vz_watch_J195 (fun _ _ _ _ _ h w => ih m h w) h w
          · replace w := w.2 c
            replace h := h.2
            replace w := w.2
            replace h := h.2
            replace w := w.2
            replace h := h.2
            replace w := w.2
            exact vz_watch_J215 (fun _ _ _ _ _ h w => ih m h w) h w
set_option maxRecDepth 100000 in
theorem vw_watch_J129 {uo : MS} {U129 : MS} {v129_1 : Int32} {v129_3 : Int32} (h : v_watch_J129 uo U129 v129_1 v129_3) : w_watch_J129 (fun u => u = uo) U129 v129_1 v129_3 := by
  unfold v_watch_J129 at h
  unfold w_watch_J129
  obtain ⟨g9, h⟩ := h
  refine ⟨g9, ?_⟩
  obtain ⟨v9, e9, h⟩ := h
  intro x9 d9
  have c9 : v9 = x9 := e9.trans d9.symm
  subst c9
  obtain ⟨n9, h⟩ := h
  exact ⟨n9, vw_watch_L148 n9 h⟩
set_option maxRecDepth 100000 in
theorem vz_watch_J129 {uo : MS} {Q : MS → Prop} {U129 : MS} {v129_1 : Int32} {v129_3 : Int32} (h : v_watch_J129 uo U129 v129_1 v129_3) (w : w_watch_J129 Q U129 v129_1 v129_3) : Q uo := by
  unfold v_watch_J129 at h
  unfold w_watch_J129 at w
  replace h := h.2
  replace w := w.2
  obtain ⟨v9, e9, h⟩ := h
  replace w := w v9 e9
  obtain ⟨n9, h⟩ := h
  obtain ⟨n8, w⟩ := w
  exact vz_watch_L148 n9 n8 h w
set_option maxRecDepth 100000 in
theorem vw_watch_J101 {uo : MS} {U101 : MS} {v101_1 : Int32} {v101_3 : Int32} (h : v_watch_J101 uo U101 v101_1 v101_3) : w_watch_J101 (fun u => u = uo) U101 v101_1 v101_3 := by
  unfold v_watch_J101 at h
  unfold w_watch_J101
  rcases h with ⟨c, h⟩ | ⟨c, h⟩
  · refine ⟨fun _ => ?_, fun c2 => absurd c c2⟩
    exact vw_watch_J129 h
  · refine ⟨fun c2 => absurd c2 c, fun _ => ?_⟩
    obtain ⟨g9, h⟩ := h
    refine ⟨g9, ?_⟩
    obtain ⟨g9, h⟩ := h
    refine ⟨g9, ?_⟩
    rcases h with ⟨c, h⟩ | ⟨c, h⟩
    · refine ⟨fun _ => ?_, fun c2 => absurd c c2⟩
      exact vw_watch_J129 h
    · refine ⟨fun c2 => absurd c2 c, fun _ => ?_⟩
      obtain ⟨g9, h⟩ := h
      refine ⟨g9, ?_⟩
      obtain ⟨g9, h⟩ := h
      refine ⟨g9, ?_⟩
      obtain ⟨v9, e9, h⟩ := h
      intro x9 d9
      have c9 : v9 = x9 := e9.trans d9.symm
      subst c9
      exact vw_watch_J244 h
set_option maxRecDepth 100000 in
theorem vz_watch_J101 {uo : MS} {Q : MS → Prop} {U101 : MS} {v101_1 : Int32} {v101_3 : Int32} (h : v_watch_J101 uo U101 v101_1 v101_3) (w : w_watch_J101 Q U101 v101_1 v101_3) : Q uo := by
  unfold v_watch_J101 at h
  unfold w_watch_J101 at w
  rcases h with ⟨c, h⟩ | ⟨c, h⟩
  · replace w := w.1 c
    exact vz_watch_J129 h w
  · replace w := w.2 c
    replace h := h.2
    replace w := w.2
    replace h := h.2
    replace w := w.2
    rcases h with ⟨c, h⟩ | ⟨c, h⟩
    · replace w := w.1 c
      exact vz_watch_J129 h w
    · replace w := w.2 c
      replace h := h.2
      replace w := w.2
      replace h := h.2
      replace w := w.2
      obtain ⟨v9, e9, h⟩ := h
      replace w := w v9 e9
      exact vz_watch_J244 h w
set_option maxRecDepth 100000 in
theorem vw_watch_L41 {uo : MS} : ∀ (n : Nat) {U41 : MS} {v41_1 : Int32} {v41_2 : Int32} {v41_3 : Int32} {v41_4 : Int32}, v_watch_L41 uo n U41 v41_1 v41_2 v41_3 v41_4 → w_watch_L41 (fun u => u = uo) n U41 v41_1 v41_2 v41_3 v41_4 := by
  intro n
  induction n with
  | zero => intro U41 v41_1 v41_2 v41_3 v41_4 h; unfold v_watch_L41 at h; exact h.elim
  | succ n ih =>
    intro U41 v41_1 v41_2 v41_3 v41_4 h
    unfold v_watch_L41 at h
    unfold w_watch_L41
    rcases h with ⟨c, h⟩ | ⟨c, h⟩
    · refine ⟨fun _ => ?_, fun c2 => absurd c c2⟩
      exact vw_watch_J101 h
    · refine ⟨fun c2 => absurd c2 c, fun _ => ?_⟩
      rcases h with ⟨c, h⟩ | ⟨c, h⟩
      · refine ⟨fun _ => ?_, fun c2 => absurd c c2⟩
        exact vw_watch_J101 h
      · refine ⟨fun c2 => absurd c2 c, fun _ => ?_⟩
        obtain ⟨g9, h⟩ := h
        refine ⟨g9, ?_⟩
        obtain ⟨g9, h⟩ := h
        refine ⟨g9, ?_⟩
        obtain ⟨g9, h⟩ := h
        refine ⟨g9, ?_⟩
        obtain ⟨g9, h⟩ := h
        refine ⟨g9, ?_⟩
        obtain ⟨g9, h⟩ := h
        refine ⟨g9, ?_⟩
        obtain ⟨g9, h⟩ := h
        refine ⟨g9, ?_⟩
        obtain ⟨v9, e9, h⟩ := h
        intro x9 d9
        have c9 : v9 = x9 := e9.trans d9.symm
        subst c9
        obtain ⟨v9, e9, h⟩ := h
        intro x9 d9
        have c9 : v9 = x9 := e9.trans d9.symm
        subst c9
        exact ih h
set_option maxRecDepth 100000 in
theorem vz_watch_L41 {uo : MS} {Q : MS → Prop} : ∀ (n m : Nat) {U41 : MS} {v41_1 : Int32} {v41_2 : Int32} {v41_3 : Int32} {v41_4 : Int32}, v_watch_L41 uo n U41 v41_1 v41_2 v41_3 v41_4 → w_watch_L41 Q m U41 v41_1 v41_2 v41_3 v41_4 → Q uo := by
  intro n
  induction n with
  | zero => intro m U41 v41_1 v41_2 v41_3 v41_4 h; unfold v_watch_L41 at h; exact h.elim
  | succ n ih =>
    intro m U41 v41_1 v41_2 v41_3 v41_4 h w
    cases m with
    | zero => unfold w_watch_L41 at w; exact w.elim
    | succ m =>
      unfold v_watch_L41 at h
      unfold w_watch_L41 at w
      rcases h with ⟨c, h⟩ | ⟨c, h⟩
      · replace w := w.1 c
        exact vz_watch_J101 h w
      · replace w := w.2 c
        rcases h with ⟨c, h⟩ | ⟨c, h⟩
        · replace w := w.1 c
          exact vz_watch_J101 h w
        · replace w := w.2 c
          replace h := h.2
          replace w := w.2
          replace h := h.2
          replace w := w.2
          replace h := h.2
          replace w := w.2
          replace h := h.2
          replace w := w.2
          replace h := h.2
          replace w := w.2
          replace h := h.2
          replace w := w.2
          obtain ⟨v9, e9, h⟩ := h
          replace w := w v9 e9
          obtain ⟨v9, e9, h⟩ := h
          replace w := w v9 e9
          exact ih m h w
set_option maxRecDepth 100000 in
theorem vw_watch_J37 {uo : MS} {U37 : MS} {t37_0 : Int32} {v37_1 : Int32} {v37_2 : Int32} (h : v_watch_J37 uo U37 t37_0 v37_1 v37_2) : w_watch_J37 (fun u => u = uo) U37 t37_0 v37_1 v37_2 := by
  unfold v_watch_J37 at h
  unfold w_watch_J37
  obtain ⟨n9, h⟩ := h
  exact ⟨n9, vw_watch_L41 n9 h⟩
set_option maxRecDepth 100000 in
theorem vz_watch_J37 {uo : MS} {Q : MS → Prop} {U37 : MS} {t37_0 : Int32} {v37_1 : Int32} {v37_2 : Int32} (h : v_watch_J37 uo U37 t37_0 v37_1 v37_2) (w : w_watch_J37 Q U37 t37_0 v37_1 v37_2) : Q uo := by
  unfold v_watch_J37 at h
  unfold w_watch_J37 at w
  obtain ⟨n9, h⟩ := h
  obtain ⟨n8, w⟩ := w
  exact vz_watch_L41 n9 n8 h w
set_option maxRecDepth 100000 in
theorem vw_watch {S : MS} {x1 : Int32} {uo : MS} (h : v_watch S x1 uo) : w_watch S x1 (fun u => u = uo) := by
  unfold v_watch at h
  unfold w_watch
  obtain ⟨v9, e9, h⟩ := h
  intro x9 d9
  have c9 : v9 = x9 := e9.trans d9.symm
  subst c9
  obtain ⟨g9, h⟩ := h
  refine ⟨g9, ?_⟩
  obtain ⟨g9, h⟩ := h
  refine ⟨g9, ?_⟩
  obtain ⟨g9, h⟩ := h
  refine ⟨g9, ?_⟩
  obtain ⟨g9, h⟩ := h
  refine ⟨g9, ?_⟩
  rcases h with ⟨c, h⟩ | ⟨c, h⟩
  · refine ⟨fun _ => ?_, fun c2 => absurd c c2⟩
    exact vw_watch_J37 h
  · refine ⟨fun c2 => absurd c2 c, fun _ => ?_⟩
    exact vw_watch_J37 h
set_option maxRecDepth 100000 in
theorem vz_watch {S : MS} {x1 : Int32} {uo : MS} {Q : MS → Prop} (h : v_watch S x1 uo) (w : w_watch S x1 Q) : Q uo := by
  unfold v_watch at h
  unfold w_watch at w
  obtain ⟨v9, e9, h⟩ := h
  replace w := w v9 e9
  replace h := h.2
  replace w := w.2
  replace h := h.2
  replace w := w.2
  replace h := h.2
  replace w := w.2
  replace h := h.2
  replace w := w.2
  rcases h with ⟨c, h⟩ | ⟨c, h⟩
  · replace w := w.1 c
    exact vz_watch_J37 h w
  · replace w := w.2 c
    exact vz_watch_J37 h w
def v_workOne_J32 (ro : Int32) (uo : MS) (U32 : MS) (v32_2 : Int32) : Prop := ((v32_2.toInt = 0 ∧ (∃ (r3 : Int32) (S4 : MS), v_gotInt U32 r3 S4 ∧ (∃ (S8 : MS), v_putInt S4 (-r3) S8 ∧ (ro = (1 : Int32) ∧ uo = S8)))) ∨ (¬ v32_2.toInt = 0 ∧ (∃ (r11 : Int64) (S12 : MS), v_got U32 (2 : Int32) r11 S12 ∧ (∃ (S16 : MS), v_put S12 (-r11) (2 : Int32) S16 ∧ (ro = (1 : Int32) ∧ uo = S16)))))
def v_workOne_J171 (ro : Int32) (uo : MS) (U171 : MS) (v171_1 : Int32) (v171_2 : Int32) (v171_3 : Int64) (v171_5 : Int64) : Prop := ((v171_2.toInt = 0 ∧ (d_intWork U171 v171_1 (v171_5.toInt32) (v171_3.toInt32) ∧ (∃ (S30 : MS), v_putInt U171 (f_intWork U171 v171_1 (v171_5.toInt32) (v171_3.toInt32)) S30 ∧ (ro = (1 : Int32) ∧ uo = S30)))) ∨ (¬ v171_2.toInt = 0 ∧ (d_longWork U171 v171_1 v171_5 v171_3 ∧ (∃ (S36 : MS), v_put U171 (f_longWork U171 v171_1 v171_5 v171_3) (2 : Int32) S36 ∧ (ro = (1 : Int32) ∧ uo = S36)))))
def v_workOne_J105 (ro : Int32) (uo : MS) (U105 : MS) (t105_0 : Int32) (v105_1 : Int32) (v105_2 : Int32) (v105_3 : Int64) : Prop := (∃ (r21 : Int64) (S22 : MS), v_got U105 t105_0 r21 S22 ∧ ((v105_1.toInt = 148 ∧ ((0 ≤ (lg_cmp r21 v105_3).toInt ∧ (((lg_cmp r21 v105_3).toInt ≤ 0 ∧ (∃ (S50 : MS), v_putInt S22 (0 : Int32) S50 ∧ (ro = (1 : Int32) ∧ uo = S50))) ∨ (¬ (lg_cmp r21 v105_3).toInt ≤ 0 ∧ (∃ (S53 : MS), v_putInt S22 (1 : Int32) S53 ∧ (ro = (1 : Int32) ∧ uo = S53))))) ∨ (¬ 0 ≤ (lg_cmp r21 v105_3).toInt ∧ (∃ (S56 : MS), v_putInt S22 (-1 : Int32) S56 ∧ (ro = (1 : Int32) ∧ uo = S56))))) ∨ (¬ v105_1.toInt = 148 ∧ ((v105_1.toInt < 108 ∧ (v_workOne_J171 ro uo S22 v105_1 v105_2 v105_3 r21)) ∨ (¬ v105_1.toInt < 108 ∧ ((113 < v105_1.toInt ∧ (v_workOne_J171 ro uo S22 v105_1 v105_2 v105_3 r21)) ∨ (¬ 113 < v105_1.toInt ∧ (((lg_cmp v105_3 0).toInt = 0 ∧ (∃ (S43 : MS), v_throwError S22 (0 : Int32) S43 ∧ (ro = (0 : Int32) ∧ uo = S43))) ∨ (¬ (lg_cmp v105_3 0).toInt = 0 ∧ (v_workOne_J171 ro uo S22 v105_1 v105_2 v105_3 r21))))))))))
def v_workOne_J94 (ro : Int32) (uo : MS) (U94 : MS) (t94_0 : Int64) (v94_1 : Int32) (v94_2 : Int32) : Prop := ((v94_2.toInt = 0 ∧ (v_workOne_J105 ro uo U94 1 v94_1 v94_2 t94_0)) ∨ (¬ v94_2.toInt = 0 ∧ (v_workOne_J105 ro uo U94 2 v94_1 v94_2 t94_0)))
def v_workOne_J91 (ro : Int32) (uo : MS) (U91 : MS) (t91_0 : Int32) (v91_1 : Int32) (v91_2 : Int32) : Prop := (∃ (r60 : Int64) (S61 : MS), v_got U91 t91_0 r60 S61 ∧ (v_workOne_J94 ro uo S61 r60 v91_1 v91_2))
def v_workOne_J81 (ro : Int32) (uo : MS) (U81 : MS) (v81_1 : Int32) (v81_2 : Int32) : Prop := ((v81_2.toInt = 0 ∧ (v_workOne_J91 ro uo U81 1 v81_1 v81_2)) ∨ (¬ v81_2.toInt = 0 ∧ (v_workOne_J91 ro uo U81 2 v81_1 v81_2)))
def v_workOne_J19 (ro : Int32) (uo : MS) (U19 : MS) (t19_0 : Int32) (v19_1 : Int32) : Prop := ((v19_1.toInt = 116 ∧ (v_workOne_J32 ro uo U19 t19_0)) ∨ (¬ v19_1.toInt = 116 ∧ ((v19_1.toInt = 117 ∧ (v_workOne_J32 ro uo U19 t19_0)) ∨ (¬ v19_1.toInt = 117 ∧ ((v19_1.toInt < 120 ∧ (v_workOne_J81 ro uo U19 v19_1 t19_0)) ∨ (¬ v19_1.toInt < 120 ∧ ((125 < v19_1.toInt ∧ (v_workOne_J81 ro uo U19 v19_1 t19_0)) ∨ (¬ 125 < v19_1.toInt ∧ (∃ (r67 : Int64) (S68 : MS), v_got U19 (1 : Int32) r67 S68 ∧ (v_workOne_J94 ro uo S68 r67 v19_1 t19_0))))))))))
def v_workOne_J14 (ro : Int32) (uo : MS) (U14 : MS) (v14_1 : Int32) : Prop := (v_workOne_J19 ro uo U14 1 v14_1)
def v_workOne (S : MS) (x1 : Int32) (ro : Int32) (uo : MS) : Prop := ((x1.toInt = 148 ∧ (v_workOne_J14 ro uo S x1)) ∨ (¬ x1.toInt = 148 ∧ (((x1 - x1 / (2 : Int32) * (2 : Int32)).toInt = 1 ∧ (v_workOne_J14 ro uo S x1)) ∨ (¬ (x1 - x1 / (2 : Int32) * (2 : Int32)).toInt = 1 ∧ (v_workOne_J19 ro uo S 0 x1)))))
set_option maxRecDepth 100000 in
theorem ru_workOne_J32 {ι : Type} {P : Int32 → MS → Prop} {Q : Int32 → MS → Prop} {U32 : MS} {v32_2 : Int32} (i0 : ι) (K : ∀ (i : ι) (ro : Int32) (uo : MS), v_workOne_J32 ro uo U32 v32_2 → P ro uo) (h : w_workOne_J32 Q U32 v32_2) : ∃ ro uo, P ro uo ∧ Q ro uo := by
  unfold w_workOne_J32 at h
  by_cases c : v32_2.toInt = 0
  · replace h := h.1 c
    replace K := fun i ro uo z => K i ro uo (Or.inl ⟨c, z⟩)
    obtain ⟨Q9, h0, h⟩ := h
    obtain ⟨r3, S4, z9, g9⟩ := ru_gotInt h0
    replace h := h r3 S4 g9
    replace K := fun i ro uo z => K i ro uo ⟨r3, S4, z9, z⟩
    obtain ⟨Q9, h0, h⟩ := h
    obtain ⟨S8, z9, g9⟩ := ru_putInt h0
    replace h := h S8 g9
    replace K := fun i ro uo z => K i ro uo ⟨S8, z9, z⟩
    exact ⟨_, _, K i0 _ _ ⟨rfl, rfl⟩, h⟩
  · replace h := h.2 c
    replace K := fun i ro uo z => K i ro uo (Or.inr ⟨c, z⟩)
    obtain ⟨Q9, h0, h⟩ := h
    obtain ⟨r11, S12, z9, g9⟩ := ru_got h0
    replace h := h r11 S12 g9
    replace K := fun i ro uo z => K i ro uo ⟨r11, S12, z9, z⟩
    obtain ⟨Q9, h0, h⟩ := h
    obtain ⟨S16, z9, g9⟩ := ru_put h0
    replace h := h S16 g9
    replace K := fun i ro uo z => K i ro uo ⟨S16, z9, z⟩
    exact ⟨_, _, K i0 _ _ ⟨rfl, rfl⟩, h⟩
set_option maxRecDepth 100000 in
theorem ru_workOne_J171 {ι : Type} {P : Int32 → MS → Prop} {Q : Int32 → MS → Prop} {U171 : MS} {v171_1 : Int32} {v171_2 : Int32} {v171_3 : Int64} {v171_5 : Int64} (i0 : ι) (K : ∀ (i : ι) (ro : Int32) (uo : MS), v_workOne_J171 ro uo U171 v171_1 v171_2 v171_3 v171_5 → P ro uo) (h : w_workOne_J171 Q U171 v171_1 v171_2 v171_3 v171_5) : ∃ ro uo, P ro uo ∧ Q ro uo := by
  unfold w_workOne_J171 at h
  by_cases c : v171_2.toInt = 0
  · replace h := h.1 c
    replace K := fun i ro uo z => K i ro uo (Or.inl ⟨c, z⟩)
    obtain ⟨g1_, h⟩ := h
    replace K := fun i ro uo z => K i ro uo ⟨g1_, z⟩
    obtain ⟨Q9, h0, h⟩ := h
    obtain ⟨S30, z9, g9⟩ := ru_putInt h0
    replace h := h S30 g9
    replace K := fun i ro uo z => K i ro uo ⟨S30, z9, z⟩
    exact ⟨_, _, K i0 _ _ ⟨rfl, rfl⟩, h⟩
  · replace h := h.2 c
    replace K := fun i ro uo z => K i ro uo (Or.inr ⟨c, z⟩)
    obtain ⟨g2_, h⟩ := h
    replace K := fun i ro uo z => K i ro uo ⟨g2_, z⟩
    obtain ⟨Q9, h0, h⟩ := h
    obtain ⟨S36, z9, g9⟩ := ru_put h0
    replace h := h S36 g9
    replace K := fun i ro uo z => K i ro uo ⟨S36, z9, z⟩
    exact ⟨_, _, K i0 _ _ ⟨rfl, rfl⟩, h⟩
set_option maxRecDepth 100000 in
theorem ru_workOne_J105 {ι : Type} {P : Int32 → MS → Prop} {Q : Int32 → MS → Prop} {U105 : MS} {t105_0 : Int32} {v105_1 : Int32} {v105_2 : Int32} {v105_3 : Int64} (i0 : ι) (K : ∀ (i : ι) (ro : Int32) (uo : MS), v_workOne_J105 ro uo U105 t105_0 v105_1 v105_2 v105_3 → P ro uo) (h : w_workOne_J105 Q U105 t105_0 v105_1 v105_2 v105_3) : ∃ ro uo, P ro uo ∧ Q ro uo := by
  unfold w_workOne_J105 at h
  obtain ⟨Q9, h0, h⟩ := h
  obtain ⟨r21, S22, z9, g9⟩ := ru_got h0
  replace h := h r21 S22 g9
  replace K := fun i ro uo z => K i ro uo ⟨r21, S22, z9, z⟩
  by_cases c : v105_1.toInt = 148
  · replace h := h.1 c
    replace K := fun i ro uo z => K i ro uo (Or.inl ⟨c, z⟩)
    by_cases c : 0 ≤ (lg_cmp r21 v105_3).toInt
    · replace h := h.1 c
      replace K := fun i ro uo z => K i ro uo (Or.inl ⟨c, z⟩)
      by_cases c : (lg_cmp r21 v105_3).toInt ≤ 0
      · replace h := h.1 c
        replace K := fun i ro uo z => K i ro uo (Or.inl ⟨c, z⟩)
        obtain ⟨Q9, h0, h⟩ := h
        obtain ⟨S50, z9, g9⟩ := ru_putInt h0
        replace h := h S50 g9
        replace K := fun i ro uo z => K i ro uo ⟨S50, z9, z⟩
        exact ⟨_, _, K i0 _ _ ⟨rfl, rfl⟩, h⟩
      · replace h := h.2 c
        replace K := fun i ro uo z => K i ro uo (Or.inr ⟨c, z⟩)
        obtain ⟨Q9, h0, h⟩ := h
        obtain ⟨S53, z9, g9⟩ := ru_putInt h0
        replace h := h S53 g9
        replace K := fun i ro uo z => K i ro uo ⟨S53, z9, z⟩
        exact ⟨_, _, K i0 _ _ ⟨rfl, rfl⟩, h⟩
    · replace h := h.2 c
      replace K := fun i ro uo z => K i ro uo (Or.inr ⟨c, z⟩)
      obtain ⟨Q9, h0, h⟩ := h
      obtain ⟨S56, z9, g9⟩ := ru_putInt h0
      replace h := h S56 g9
      replace K := fun i ro uo z => K i ro uo ⟨S56, z9, z⟩
      exact ⟨_, _, K i0 _ _ ⟨rfl, rfl⟩, h⟩
  · replace h := h.2 c
    replace K := fun i ro uo z => K i ro uo (Or.inr ⟨c, z⟩)
    by_cases c : v105_1.toInt < 108
    · replace h := h.1 c
      replace K := fun i ro uo z => K i ro uo (Or.inl ⟨c, z⟩)
      exact ru_workOne_J171 i0 K h
    · replace h := h.2 c
      replace K := fun i ro uo z => K i ro uo (Or.inr ⟨c, z⟩)
      by_cases c : 113 < v105_1.toInt
      · replace h := h.1 c
        replace K := fun i ro uo z => K i ro uo (Or.inl ⟨c, z⟩)
        exact ru_workOne_J171 i0 K h
      · replace h := h.2 c
        replace K := fun i ro uo z => K i ro uo (Or.inr ⟨c, z⟩)
        by_cases c : (lg_cmp v105_3 0).toInt = 0
        · replace h := h.1 c
          replace K := fun i ro uo z => K i ro uo (Or.inl ⟨c, z⟩)
          obtain ⟨Q9, h0, h⟩ := h
          obtain ⟨S43, z9, g9⟩ := ru_throwError h0
          replace h := h S43 g9
          replace K := fun i ro uo z => K i ro uo ⟨S43, z9, z⟩
          exact ⟨_, _, K i0 _ _ ⟨rfl, rfl⟩, h⟩
        · replace h := h.2 c
          replace K := fun i ro uo z => K i ro uo (Or.inr ⟨c, z⟩)
          exact ru_workOne_J171 i0 K h
set_option maxRecDepth 100000 in
theorem ru_workOne_J94 {ι : Type} {P : Int32 → MS → Prop} {Q : Int32 → MS → Prop} {U94 : MS} {t94_0 : Int64} {v94_1 : Int32} {v94_2 : Int32} (i0 : ι) (K : ∀ (i : ι) (ro : Int32) (uo : MS), v_workOne_J94 ro uo U94 t94_0 v94_1 v94_2 → P ro uo) (h : w_workOne_J94 Q U94 t94_0 v94_1 v94_2) : ∃ ro uo, P ro uo ∧ Q ro uo := by
  unfold w_workOne_J94 at h
  by_cases c : v94_2.toInt = 0
  · replace h := h.1 c
    replace K := fun i ro uo z => K i ro uo (Or.inl ⟨c, z⟩)
    exact ru_workOne_J105 i0 K h
  · replace h := h.2 c
    replace K := fun i ro uo z => K i ro uo (Or.inr ⟨c, z⟩)
    exact ru_workOne_J105 i0 K h
set_option maxRecDepth 100000 in
theorem ru_workOne_J91 {ι : Type} {P : Int32 → MS → Prop} {Q : Int32 → MS → Prop} {U91 : MS} {t91_0 : Int32} {v91_1 : Int32} {v91_2 : Int32} (i0 : ι) (K : ∀ (i : ι) (ro : Int32) (uo : MS), v_workOne_J91 ro uo U91 t91_0 v91_1 v91_2 → P ro uo) (h : w_workOne_J91 Q U91 t91_0 v91_1 v91_2) : ∃ ro uo, P ro uo ∧ Q ro uo := by
  unfold w_workOne_J91 at h
  obtain ⟨Q9, h0, h⟩ := h
  obtain ⟨r60, S61, z9, g9⟩ := ru_got h0
  replace h := h r60 S61 g9
  replace K := fun i ro uo z => K i ro uo ⟨r60, S61, z9, z⟩
  exact ru_workOne_J94 i0 K h
set_option maxRecDepth 100000 in
theorem ru_workOne_J81 {ι : Type} {P : Int32 → MS → Prop} {Q : Int32 → MS → Prop} {U81 : MS} {v81_1 : Int32} {v81_2 : Int32} (i0 : ι) (K : ∀ (i : ι) (ro : Int32) (uo : MS), v_workOne_J81 ro uo U81 v81_1 v81_2 → P ro uo) (h : w_workOne_J81 Q U81 v81_1 v81_2) : ∃ ro uo, P ro uo ∧ Q ro uo := by
  unfold w_workOne_J81 at h
  by_cases c : v81_2.toInt = 0
  · replace h := h.1 c
    replace K := fun i ro uo z => K i ro uo (Or.inl ⟨c, z⟩)
    exact ru_workOne_J91 i0 K h
  · replace h := h.2 c
    replace K := fun i ro uo z => K i ro uo (Or.inr ⟨c, z⟩)
    exact ru_workOne_J91 i0 K h
set_option maxRecDepth 100000 in
theorem ru_workOne_J19 {ι : Type} {P : Int32 → MS → Prop} {Q : Int32 → MS → Prop} {U19 : MS} {t19_0 : Int32} {v19_1 : Int32} (i0 : ι) (K : ∀ (i : ι) (ro : Int32) (uo : MS), v_workOne_J19 ro uo U19 t19_0 v19_1 → P ro uo) (h : w_workOne_J19 Q U19 t19_0 v19_1) : ∃ ro uo, P ro uo ∧ Q ro uo := by
  unfold w_workOne_J19 at h
  by_cases c : v19_1.toInt = 116
  · replace h := h.1 c
    replace K := fun i ro uo z => K i ro uo (Or.inl ⟨c, z⟩)
    exact ru_workOne_J32 i0 K h
  · replace h := h.2 c
    replace K := fun i ro uo z => K i ro uo (Or.inr ⟨c, z⟩)
    by_cases c : v19_1.toInt = 117
    · replace h := h.1 c
      replace K := fun i ro uo z => K i ro uo (Or.inl ⟨c, z⟩)
      exact ru_workOne_J32 i0 K h
    · replace h := h.2 c
      replace K := fun i ro uo z => K i ro uo (Or.inr ⟨c, z⟩)
      by_cases c : v19_1.toInt < 120
      · replace h := h.1 c
        replace K := fun i ro uo z => K i ro uo (Or.inl ⟨c, z⟩)
        exact ru_workOne_J81 i0 K h
      · replace h := h.2 c
        replace K := fun i ro uo z => K i ro uo (Or.inr ⟨c, z⟩)
        by_cases c : 125 < v19_1.toInt
        · replace h := h.1 c
          replace K := fun i ro uo z => K i ro uo (Or.inl ⟨c, z⟩)
          exact ru_workOne_J81 i0 K h
        · replace h := h.2 c
          replace K := fun i ro uo z => K i ro uo (Or.inr ⟨c, z⟩)
          obtain ⟨Q9, h0, h⟩ := h
          obtain ⟨r67, S68, z9, g9⟩ := ru_got h0
          replace h := h r67 S68 g9
          replace K := fun i ro uo z => K i ro uo ⟨r67, S68, z9, z⟩
          exact ru_workOne_J94 i0 K h
set_option maxRecDepth 100000 in
theorem ru_workOne_J14 {ι : Type} {P : Int32 → MS → Prop} {Q : Int32 → MS → Prop} {U14 : MS} {v14_1 : Int32} (i0 : ι) (K : ∀ (i : ι) (ro : Int32) (uo : MS), v_workOne_J14 ro uo U14 v14_1 → P ro uo) (h : w_workOne_J14 Q U14 v14_1) : ∃ ro uo, P ro uo ∧ Q ro uo := by
  unfold w_workOne_J14 at h
  exact ru_workOne_J19 i0 K h
set_option maxRecDepth 100000 in
theorem ru_workOne {S : MS} {x1 : Int32} {Q : Int32 → MS → Prop} (h : w_workOne S x1 Q) : ∃ ro uo, v_workOne S x1 ro uo ∧ Q ro uo := by
  have i0 : Unit := ()
  have K : ∀ (i : Unit) (ro : Int32) (uo : MS), v_workOne S x1 ro uo → v_workOne S x1 ro uo := fun _ _ _ z => z
  unfold w_workOne at h
  by_cases c : x1.toInt = 148
  · replace h := h.1 c
    replace K := fun i ro uo z => K i ro uo (Or.inl ⟨c, z⟩)
    exact ru_workOne_J14 i0 K h
  · replace h := h.2 c
    replace K := fun i ro uo z => K i ro uo (Or.inr ⟨c, z⟩)
    by_cases c : (x1 - x1 / (2 : Int32) * (2 : Int32)).toInt = 1
    · replace h := h.1 c
      replace K := fun i ro uo z => K i ro uo (Or.inl ⟨c, z⟩)
      exact ru_workOne_J14 i0 K h
    · replace h := h.2 c
      replace K := fun i ro uo z => K i ro uo (Or.inr ⟨c, z⟩)
      exact ru_workOne_J19 i0 K h
set_option maxRecDepth 100000 in
theorem vw_workOne_J32 {ro : Int32} {uo : MS} {U32 : MS} {v32_2 : Int32} (h : v_workOne_J32 ro uo U32 v32_2) : w_workOne_J32 (fun r u => r = ro ∧ u = uo) U32 v32_2 := by
  unfold v_workOne_J32 at h
  unfold w_workOne_J32
  rcases h with ⟨c, h⟩ | ⟨c, h⟩
  · refine ⟨fun _ => ?_, fun c2 => absurd c c2⟩
    obtain ⟨p9, q9, z9, h⟩ := h
    refine ⟨_, vw_gotInt z9, ?_⟩
    rintro p8 q8 ⟨d8, d9⟩
    subst d8
    subst d9
    obtain ⟨q9, z9, h⟩ := h
    refine ⟨_, vw_putInt z9, ?_⟩
    intro q8 d9
    subst d9
    exact ⟨h.1.symm, h.2.symm⟩
  · refine ⟨fun c2 => absurd c2 c, fun _ => ?_⟩
    obtain ⟨p9, q9, z9, h⟩ := h
    refine ⟨_, vw_got z9, ?_⟩
    rintro p8 q8 ⟨d8, d9⟩
    subst d8
    subst d9
    obtain ⟨q9, z9, h⟩ := h
    refine ⟨_, vw_put z9, ?_⟩
    intro q8 d9
    subst d9
    exact ⟨h.1.symm, h.2.symm⟩
set_option maxRecDepth 100000 in
theorem vz_workOne_J32 {ro : Int32} {uo : MS} {Q : Int32 → MS → Prop} {U32 : MS} {v32_2 : Int32} (h : v_workOne_J32 ro uo U32 v32_2) (w : w_workOne_J32 Q U32 v32_2) : Q ro uo := by
  unfold v_workOne_J32 at h
  unfold w_workOne_J32 at w
  rcases h with ⟨c, h⟩ | ⟨c, h⟩
  · replace w := w.1 c
    obtain ⟨p9, q9, z9, h⟩ := h
    obtain ⟨Q9, w0, w⟩ := w
    replace w := w p9 q9 (vz_gotInt z9 w0)
    obtain ⟨q9, z9, h⟩ := h
    obtain ⟨Q9, w0, w⟩ := w
    replace w := w q9 (vz_putInt z9 w0)
    rw [h.1, h.2]
    exact w
  · replace w := w.2 c
    obtain ⟨p9, q9, z9, h⟩ := h
    obtain ⟨Q9, w0, w⟩ := w
    replace w := w p9 q9 (vz_got z9 w0)
    obtain ⟨q9, z9, h⟩ := h
    obtain ⟨Q9, w0, w⟩ := w
    replace w := w q9 (vz_put z9 w0)
    rw [h.1, h.2]
    exact w
set_option maxRecDepth 100000 in
theorem vw_workOne_J171 {ro : Int32} {uo : MS} {U171 : MS} {v171_1 : Int32} {v171_2 : Int32} {v171_3 : Int64} {v171_5 : Int64} (h : v_workOne_J171 ro uo U171 v171_1 v171_2 v171_3 v171_5) : w_workOne_J171 (fun r u => r = ro ∧ u = uo) U171 v171_1 v171_2 v171_3 v171_5 := by
  unfold v_workOne_J171 at h
  unfold w_workOne_J171
  rcases h with ⟨c, h⟩ | ⟨c, h⟩
  · refine ⟨fun _ => ?_, fun c2 => absurd c c2⟩
    obtain ⟨g9, h⟩ := h
    refine ⟨g9, ?_⟩
    obtain ⟨q9, z9, h⟩ := h
    refine ⟨_, vw_putInt z9, ?_⟩
    intro q8 d9
    subst d9
    exact ⟨h.1.symm, h.2.symm⟩
  · refine ⟨fun c2 => absurd c2 c, fun _ => ?_⟩
    obtain ⟨g9, h⟩ := h
    refine ⟨g9, ?_⟩
    obtain ⟨q9, z9, h⟩ := h
    refine ⟨_, vw_put z9, ?_⟩
    intro q8 d9
    subst d9
    exact ⟨h.1.symm, h.2.symm⟩
set_option maxRecDepth 100000 in
theorem vz_workOne_J171 {ro : Int32} {uo : MS} {Q : Int32 → MS → Prop} {U171 : MS} {v171_1 : Int32} {v171_2 : Int32} {v171_3 : Int64} {v171_5 : Int64} (h : v_workOne_J171 ro uo U171 v171_1 v171_2 v171_3 v171_5) (w : w_workOne_J171 Q U171 v171_1 v171_2 v171_3 v171_5) : Q ro uo := by
  unfold v_workOne_J171 at h
  unfold w_workOne_J171 at w
  rcases h with ⟨c, h⟩ | ⟨c, h⟩
  · replace w := w.1 c
    replace h := h.2
    replace w := w.2
    obtain ⟨q9, z9, h⟩ := h
    obtain ⟨Q9, w0, w⟩ := w
    replace w := w q9 (vz_putInt z9 w0)
    rw [h.1, h.2]
    exact w
  · replace w := w.2 c
    replace h := h.2
    replace w := w.2
    obtain ⟨q9, z9, h⟩ := h
    obtain ⟨Q9, w0, w⟩ := w
    replace w := w q9 (vz_put z9 w0)
    rw [h.1, h.2]
    exact w
set_option maxRecDepth 100000 in
theorem vw_workOne_J105 {ro : Int32} {uo : MS} {U105 : MS} {t105_0 : Int32} {v105_1 : Int32} {v105_2 : Int32} {v105_3 : Int64} (h : v_workOne_J105 ro uo U105 t105_0 v105_1 v105_2 v105_3) : w_workOne_J105 (fun r u => r = ro ∧ u = uo) U105 t105_0 v105_1 v105_2 v105_3 := by
  unfold v_workOne_J105 at h
  unfold w_workOne_J105
  obtain ⟨p9, q9, z9, h⟩ := h
  refine ⟨_, vw_got z9, ?_⟩
  rintro p8 q8 ⟨d8, d9⟩
  subst d8
  subst d9
  rcases h with ⟨c, h⟩ | ⟨c, h⟩
  · refine ⟨fun _ => ?_, fun c2 => absurd c c2⟩
    rcases h with ⟨c, h⟩ | ⟨c, h⟩
    · refine ⟨fun _ => ?_, fun c2 => absurd c c2⟩
      rcases h with ⟨c, h⟩ | ⟨c, h⟩
      · refine ⟨fun _ => ?_, fun c2 => absurd c c2⟩
        obtain ⟨q9, z9, h⟩ := h
        refine ⟨_, vw_putInt z9, ?_⟩
        intro q8 d9
        subst d9
        exact ⟨h.1.symm, h.2.symm⟩
      · refine ⟨fun c2 => absurd c2 c, fun _ => ?_⟩
        obtain ⟨q9, z9, h⟩ := h
        refine ⟨_, vw_putInt z9, ?_⟩
        intro q8 d9
        subst d9
        exact ⟨h.1.symm, h.2.symm⟩
    · refine ⟨fun c2 => absurd c2 c, fun _ => ?_⟩
      obtain ⟨q9, z9, h⟩ := h
      refine ⟨_, vw_putInt z9, ?_⟩
      intro q8 d9
      subst d9
      exact ⟨h.1.symm, h.2.symm⟩
  · refine ⟨fun c2 => absurd c2 c, fun _ => ?_⟩
    rcases h with ⟨c, h⟩ | ⟨c, h⟩
    · refine ⟨fun _ => ?_, fun c2 => absurd c c2⟩
      exact vw_workOne_J171 h
    · refine ⟨fun c2 => absurd c2 c, fun _ => ?_⟩
      rcases h with ⟨c, h⟩ | ⟨c, h⟩
      · refine ⟨fun _ => ?_, fun c2 => absurd c c2⟩
        exact vw_workOne_J171 h
      · refine ⟨fun c2 => absurd c2 c, fun _ => ?_⟩
        rcases h with ⟨c, h⟩ | ⟨c, h⟩
        · refine ⟨fun _ => ?_, fun c2 => absurd c c2⟩
          obtain ⟨q9, z9, h⟩ := h
          refine ⟨_, vw_throwError z9, ?_⟩
          intro q8 d9
          subst d9
          exact ⟨h.1.symm, h.2.symm⟩
        · refine ⟨fun c2 => absurd c2 c, fun _ => ?_⟩
          exact vw_workOne_J171 h
set_option maxRecDepth 100000 in
theorem vz_workOne_J105 {ro : Int32} {uo : MS} {Q : Int32 → MS → Prop} {U105 : MS} {t105_0 : Int32} {v105_1 : Int32} {v105_2 : Int32} {v105_3 : Int64} (h : v_workOne_J105 ro uo U105 t105_0 v105_1 v105_2 v105_3) (w : w_workOne_J105 Q U105 t105_0 v105_1 v105_2 v105_3) : Q ro uo := by
  unfold v_workOne_J105 at h
  unfold w_workOne_J105 at w
  obtain ⟨p9, q9, z9, h⟩ := h
  obtain ⟨Q9, w0, w⟩ := w
  replace w := w p9 q9 (vz_got z9 w0)
  rcases h with ⟨c, h⟩ | ⟨c, h⟩
  · replace w := w.1 c
    rcases h with ⟨c, h⟩ | ⟨c, h⟩
    · replace w := w.1 c
      rcases h with ⟨c, h⟩ | ⟨c, h⟩
      · replace w := w.1 c
        obtain ⟨q9, z9, h⟩ := h
        obtain ⟨Q9, w0, w⟩ := w
        replace w := w q9 (vz_putInt z9 w0)
        rw [h.1, h.2]
        exact w
      · replace w := w.2 c
        obtain ⟨q9, z9, h⟩ := h
        obtain ⟨Q9, w0, w⟩ := w
        replace w := w q9 (vz_putInt z9 w0)
        rw [h.1, h.2]
        exact w
    · replace w := w.2 c
      obtain ⟨q9, z9, h⟩ := h
      obtain ⟨Q9, w0, w⟩ := w
      replace w := w q9 (vz_putInt z9 w0)
      rw [h.1, h.2]
      exact w
  · replace w := w.2 c
    rcases h with ⟨c, h⟩ | ⟨c, h⟩
    · replace w := w.1 c
      exact vz_workOne_J171 h w
    · replace w := w.2 c
      rcases h with ⟨c, h⟩ | ⟨c, h⟩
      · replace w := w.1 c
        exact vz_workOne_J171 h w
      · replace w := w.2 c
        rcases h with ⟨c, h⟩ | ⟨c, h⟩
        · replace w := w.1 c
          obtain ⟨q9, z9, h⟩ := h
          obtain ⟨Q9, w0, w⟩ := w
          replace w := w q9 (vz_throwError z9 w0)
          rw [h.1, h.2]
          exact w
        · replace w := w.2 c
          exact vz_workOne_J171 h w
set_option maxRecDepth 100000 in
theorem vw_workOne_J94 {ro : Int32} {uo : MS} {U94 : MS} {t94_0 : Int64} {v94_1 : Int32} {v94_2 : Int32} (h : v_workOne_J94 ro uo U94 t94_0 v94_1 v94_2) : w_workOne_J94 (fun r u => r = ro ∧ u = uo) U94 t94_0 v94_1 v94_2 := by
  unfold v_workOne_J94 at h
  unfold w_workOne_J94
  rcases h with ⟨c, h⟩ | ⟨c, h⟩
  · refine ⟨fun _ => ?_, fun c2 => absurd c c2⟩
    exact vw_workOne_J105 h
  · refine ⟨fun c2 => absurd c2 c, fun _ => ?_⟩
    exact vw_workOne_J105 h
set_option maxRecDepth 100000 in
theorem vz_workOne_J94 {ro : Int32} {uo : MS} {Q : Int32 → MS → Prop} {U94 : MS} {t94_0 : Int64} {v94_1 : Int32} {v94_2 : Int32} (h : v_workOne_J94 ro uo U94 t94_0 v94_1 v94_2) (w : w_workOne_J94 Q U94 t94_0 v94_1 v94_2) : Q ro uo := by
  unfold v_workOne_J94 at h
  unfold w_workOne_J94 at w
  rcases h with ⟨c, h⟩ | ⟨c, h⟩
  · replace w := w.1 c
    exact vz_workOne_J105 h w
  · replace w := w.2 c
    exact vz_workOne_J105 h w
set_option maxRecDepth 100000 in
theorem vw_workOne_J91 {ro : Int32} {uo : MS} {U91 : MS} {t91_0 : Int32} {v91_1 : Int32} {v91_2 : Int32} (h : v_workOne_J91 ro uo U91 t91_0 v91_1 v91_2) : w_workOne_J91 (fun r u => r = ro ∧ u = uo) U91 t91_0 v91_1 v91_2 := by
  unfold v_workOne_J91 at h
  unfold w_workOne_J91
  obtain ⟨p9, q9, z9, h⟩ := h
  refine ⟨_, vw_got z9, ?_⟩
  rintro p8 q8 ⟨d8, d9⟩
  subst d8
  subst d9
  exact vw_workOne_J94 h
set_option maxRecDepth 100000 in
theorem vz_workOne_J91 {ro : Int32} {uo : MS} {Q : Int32 → MS → Prop} {U91 : MS} {t91_0 : Int32} {v91_1 : Int32} {v91_2 : Int32} (h : v_workOne_J91 ro uo U91 t91_0 v91_1 v91_2) (w : w_workOne_J91 Q U91 t91_0 v91_1 v91_2) : Q ro uo := by
  unfold v_workOne_J91 at h
  unfold w_workOne_J91 at w
  obtain ⟨p9, q9, z9, h⟩ := h
  obtain ⟨Q9, w0, w⟩ := w
  replace w := w p9 q9 (vz_got z9 w0)
  exact vz_workOne_J94 h w
set_option maxRecDepth 100000 in
theorem vw_workOne_J81 {ro : Int32} {uo : MS} {U81 : MS} {v81_1 : Int32} {v81_2 : Int32} (h : v_workOne_J81 ro uo U81 v81_1 v81_2) : w_workOne_J81 (fun r u => r = ro ∧ u = uo) U81 v81_1 v81_2 := by
  unfold v_workOne_J81 at h
  unfold w_workOne_J81
  rcases h with ⟨c, h⟩ | ⟨c, h⟩
  · refine ⟨fun _ => ?_, fun c2 => absurd c c2⟩
    exact vw_workOne_J91 h
  · refine ⟨fun c2 => absurd c2 c, fun _ => ?_⟩
    exact vw_workOne_J91 h
set_option maxRecDepth 100000 in
theorem vz_workOne_J81 {ro : Int32} {uo : MS} {Q : Int32 → MS → Prop} {U81 : MS} {v81_1 : Int32} {v81_2 : Int32} (h : v_workOne_J81 ro uo U81 v81_1 v81_2) (w : w_workOne_J81 Q U81 v81_1 v81_2) : Q ro uo := by
  unfold v_workOne_J81 at h
  unfold w_workOne_J81 at w
  rcases h with ⟨c, h⟩ | ⟨c, h⟩
  · replace w := w.1 c
    exact vz_workOne_J91 h w
  · replace w := w.2 c
    exact vz_workOne_J91 h w
set_option maxRecDepth 100000 in
theorem vw_workOne_J19 {ro : Int32} {uo : MS} {U19 : MS} {t19_0 : Int32} {v19_1 : Int32} (h : v_workOne_J19 ro uo U19 t19_0 v19_1) : w_workOne_J19 (fun r u => r = ro ∧ u = uo) U19 t19_0 v19_1 := by
  unfold v_workOne_J19 at h
  unfold w_workOne_J19
  rcases h with ⟨c, h⟩ | ⟨c, h⟩
  · refine ⟨fun _ => ?_, fun c2 => absurd c c2⟩
    exact vw_workOne_J32 h
  · refine ⟨fun c2 => absurd c2 c, fun _ => ?_⟩
    rcases h with ⟨c, h⟩ | ⟨c, h⟩
    · refine ⟨fun _ => ?_, fun c2 => absurd c c2⟩
      exact vw_workOne_J32 h
    · refine ⟨fun c2 => absurd c2 c, fun _ => ?_⟩
      rcases h with ⟨c, h⟩ | ⟨c, h⟩
      · refine ⟨fun _ => ?_, fun c2 => absurd c c2⟩
        exact vw_workOne_J81 h
      · refine ⟨fun c2 => absurd c2 c, fun _ => ?_⟩
        rcases h with ⟨c, h⟩ | ⟨c, h⟩
        · refine ⟨fun _ => ?_, fun c2 => absurd c c2⟩
          exact vw_workOne_J81 h
        · refine ⟨fun c2 => absurd c2 c, fun _ => ?_⟩
          obtain ⟨p9, q9, z9, h⟩ := h
          refine ⟨_, vw_got z9, ?_⟩
          rintro p8 q8 ⟨d8, d9⟩
          subst d8
          subst d9
          exact vw_workOne_J94 h
set_option maxRecDepth 100000 in
theorem vz_workOne_J19 {ro : Int32} {uo : MS} {Q : Int32 → MS → Prop} {U19 : MS} {t19_0 : Int32} {v19_1 : Int32} (h : v_workOne_J19 ro uo U19 t19_0 v19_1) (w : w_workOne_J19 Q U19 t19_0 v19_1) : Q ro uo := by
  unfold v_workOne_J19 at h
  unfold w_workOne_J19 at w
  rcases h with ⟨c, h⟩ | ⟨c, h⟩
  · replace w := w.1 c
    exact vz_workOne_J32 h w
  · replace w := w.2 c
    rcases h with ⟨c, h⟩ | ⟨c, h⟩
    · replace w := w.1 c
      exact vz_workOne_J32 h w
    · replace w := w.2 c
      rcases h with ⟨c, h⟩ | ⟨c, h⟩
      · replace w := w.1 c
        exact vz_workOne_J81 h w
      · replace w := w.2 c
        rcases h with ⟨c, h⟩ | ⟨c, h⟩
        · replace w := w.1 c
          exact vz_workOne_J81 h w
        · replace w := w.2 c
          obtain ⟨p9, q9, z9, h⟩ := h
          obtain ⟨Q9, w0, w⟩ := w
          replace w := w p9 q9 (vz_got z9 w0)
          exact vz_workOne_J94 h w
set_option maxRecDepth 100000 in
theorem vw_workOne_J14 {ro : Int32} {uo : MS} {U14 : MS} {v14_1 : Int32} (h : v_workOne_J14 ro uo U14 v14_1) : w_workOne_J14 (fun r u => r = ro ∧ u = uo) U14 v14_1 := by
  unfold v_workOne_J14 at h
  unfold w_workOne_J14
  exact vw_workOne_J19 h
set_option maxRecDepth 100000 in
theorem vz_workOne_J14 {ro : Int32} {uo : MS} {Q : Int32 → MS → Prop} {U14 : MS} {v14_1 : Int32} (h : v_workOne_J14 ro uo U14 v14_1) (w : w_workOne_J14 Q U14 v14_1) : Q ro uo := by
  unfold v_workOne_J14 at h
  unfold w_workOne_J14 at w
  exact vz_workOne_J19 h w
set_option maxRecDepth 100000 in
theorem vw_workOne {S : MS} {x1 : Int32} {ro : Int32} {uo : MS} (h : v_workOne S x1 ro uo) : w_workOne S x1 (fun r u => r = ro ∧ u = uo) := by
  unfold v_workOne at h
  unfold w_workOne
  rcases h with ⟨c, h⟩ | ⟨c, h⟩
  · refine ⟨fun _ => ?_, fun c2 => absurd c c2⟩
    exact vw_workOne_J14 h
  · refine ⟨fun c2 => absurd c2 c, fun _ => ?_⟩
    rcases h with ⟨c, h⟩ | ⟨c, h⟩
    · refine ⟨fun _ => ?_, fun c2 => absurd c c2⟩
      exact vw_workOne_J14 h
    · refine ⟨fun c2 => absurd c2 c, fun _ => ?_⟩
      exact vw_workOne_J19 h
set_option maxRecDepth 100000 in
theorem vz_workOne {S : MS} {x1 : Int32} {ro : Int32} {uo : MS} {Q : Int32 → MS → Prop} (h : v_workOne S x1 ro uo) (w : w_workOne S x1 Q) : Q ro uo := by
  unfold v_workOne at h
  unfold w_workOne at w
  rcases h with ⟨c, h⟩ | ⟨c, h⟩
  · replace w := w.1 c
    exact vz_workOne_J14 h w
  · replace w := w.2 c
    rcases h with ⟨c, h⟩ | ⟨c, h⟩
    · replace w := w.1 c
      exact vz_workOne_J14 h w
    · replace w := w.2 c
      exact vz_workOne_J19 h w
