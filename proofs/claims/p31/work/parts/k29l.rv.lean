def v_join_J200 (uo : MS) (U200 : MS) (t200_0 : Int32) (v200_1 : Int32) : Prop := (∃ S12 : MS, S12 = wI U200 0 57 t200_0 ∧ (((0 : Int) ≤ v200_1.toInt ∧ v200_1.toInt < 1200) ∧ (∃ S14 : MS, S14 = wI S12 24 v200_1.toInt.toNat (vp_nar .boolean (1 : Int32)) ∧ (uo = S14))))
def v_join_J195 (uo : MS) (U195 : MS) (v195_1 : Int32) : Prop := (v_join_J200 uo U195 1 v195_1)
def v_join_J172 (uo : MS) (k50 : MS → Int32 → Int32 → Int32 → Int32 → Prop) (U172 : MS) (v172_1 : Int32) (v172_2 : Int32) (v172_3 : Int32) (v172_4 : Int32) : Prop := (∃ a28 : Int32, a28 = (v172_4 + Int32.ofInt 1) ∧ (k50 U172 v172_1 v172_2 v172_3 a28))
def v_join_J152 (uo : MS) (k50 : MS → Int32 → Int32 → Int32 → Int32 → Prop) (U152 : MS) (v152_1 : Int32) (v152_2 : Int32) (v152_3 : Int32) (v152_4 : Int32) (v152_7 : Int32) : Prop := (((0 : Int) ≤ (((48 : Int32) * v152_1) + v152_4).toInt ∧ (((48 : Int32) * v152_1) + v152_4).toInt < 57600) ∧ (∃ S32 : MS, S32 = wI U152 23 (((((48 : Int32) * v152_1) + v152_4).toInt).toNat) (vp_nar .byte (v152_7.toInt8.toInt32)) ∧ (∃ S33 : MS, S33 = wI S32 0 57 1 ∧ (v_join_J172 uo k50 S33 v152_1 v152_2 v152_3 v152_4))))
def v_join_J131 (uo : MS) (k50 : MS → Int32 → Int32 → Int32 → Int32 → Prop) (U131 : MS) (t131_0 : Int32) (v131_1 : Int32) (v131_2 : Int32) (v131_3 : Int32) (v131_4 : Int32) (v131_6 : Int32) : Prop := (((0 : Int) ≤ v131_1.toInt ∧ v131_1.toInt < 1200) ∧ (((qI U131 24 v131_1.toInt.toNat).toInt = 0 ∧ (v_join_J152 uo k50 U131 v131_1 v131_2 v131_3 v131_4 t131_0)) ∨ (¬ (qI U131 24 v131_1.toInt.toNat).toInt = 0 ∧ ((t131_0.toInt = v131_6.toInt ∧ (v_join_J172 uo k50 U131 v131_1 v131_2 v131_3 v131_4)) ∨ (¬ t131_0.toInt = v131_6.toInt ∧ (v_join_J152 uo k50 U131 v131_1 v131_2 v131_3 v131_4 t131_0))))))
def v_join_J94 (uo : MS) (k50 : MS → Int32 → Int32 → Int32 → Int32 → Prop) (U94 : MS) (t94_0 : Int32) (v94_1 : Int32) (v94_2 : Int32) (v94_3 : Int32) (v94_4 : Int32) : Prop := (((0 : Int) ≤ (((48 : Int32) * v94_1) + v94_4).toInt ∧ (((48 : Int32) * v94_1) + v94_4).toInt < 57600) ∧ (∃ a23 : Int32, a23 = (qI U94 23 (((((48 : Int32) * v94_1) + v94_4).toInt).toNat)) ∧ (((0 : Int) ≤ v94_1.toInt ∧ v94_1.toInt < 1200) ∧ (((qI U94 24 v94_1.toInt.toNat).toInt = 0 ∧ (v_join_J131 uo k50 U94 t94_0 v94_1 v94_2 v94_3 v94_4 a23)) ∨ (¬ (qI U94 24 v94_1.toInt.toNat).toInt = 0 ∧ (d_joined U94 a23 t94_0 ∧ (v_join_J131 uo k50 U94 (f_joined U94 a23 t94_0) v94_1 v94_2 v94_3 v94_4 a23)))))))
def v_join_J30 (uo : MS) (U30 : MS) (t30_0 : Int32) (v30_1 : Int32) : Prop := (∃ S47 : MS, S47 = wI U30 0 57 t30_0 ∧ (((0 : Int) ≤ v30_1.toInt ∧ v30_1.toInt < 1200) ∧ (∃ S49 : MS, S49 = wI S47 24 v30_1.toInt.toNat (vp_nar .boolean (1 : Int32)) ∧ (uo = S49))))
def v_join_J25 (uo : MS) (U25 : MS) (v25_1 : Int32) : Prop := (v_join_J30 uo U25 1 v25_1)
def v_join_L50 (uo : MS) : Nat → MS → Int32 → Int32 → Int32 → Int32 → Prop
  | 0, _, _, _, _, _ => False
  | n50 + 1, U50, v50_1, v50_2, v50_3, v50_4 => ((((24 : Int32) + v50_3).toInt ≤ v50_4.toInt ∧ (((qI U50 0 57).toInt = 0 ∧ (((0 : Int) ≤ v50_1.toInt ∧ v50_1.toInt < 1200) ∧ (((qI U50 24 v50_1.toInt.toNat).toInt = 0 ∧ (v_join_J195 uo U50 v50_1)) ∨ (¬ (qI U50 24 v50_1.toInt.toNat).toInt = 0 ∧ (v_join_J200 uo U50 0 v50_1))))) ∨ (¬ (qI U50 0 57).toInt = 0 ∧ (v_join_J195 uo U50 v50_1)))) ∨ (¬ ((24 : Int32) + v50_3).toInt ≤ v50_4.toInt ∧ ((24 ≤ v50_4.toInt ∧ ((v50_2.toInt = 0 ∧ (((0 : Int) ≤ (v50_4 - (24 : Int32)).toInt ∧ (v50_4 - (24 : Int32)).toInt < 28) ∧ (v_join_J94 uo (v_join_L50 uo n50) U50 (qI U50 26 (((v50_4 - (24 : Int32)).toInt).toNat)) v50_1 v50_2 v50_3 v50_4))) ∨ (¬ v50_2.toInt = 0 ∧ (v_join_J94 uo (v_join_L50 uo n50) U50 5 v50_1 v50_2 v50_3 v50_4)))) ∨ (¬ 24 ≤ v50_4.toInt ∧ (((0 : Int) ≤ v50_4.toInt ∧ v50_4.toInt < 24) ∧ (v_join_J94 uo (v_join_L50 uo n50) U50 (qI U50 25 v50_4.toInt.toNat) v50_1 v50_2 v50_3 v50_4))))))
def v_join (S : MS) (x1 : Int32) (x2 : Int32) (uo : MS) : Prop := (∃ (r2 : Int32) (S3 : MS), v_heightAt S x1 r2 S3 ∧ ((0 ≤ r2.toInt ∧ (∃ (r7 : Int32) (S8 : MS), v_heightAt S3 x1 r7 S8 ∧ (∃ n, v_join_L50 uo n S8 x1 x2 r7 0))) ∨ (¬ 0 ≤ r2.toInt ∧ (((qI S3 0 57).toInt = 0 ∧ (((0 : Int) ≤ x1.toInt ∧ x1.toInt < 1200) ∧ (((qI S3 24 x1.toInt.toNat).toInt = 0 ∧ (v_join_J25 uo S3 x1)) ∨ (¬ (qI S3 24 x1.toInt.toNat).toInt = 0 ∧ (v_join_J30 uo S3 0 x1))))) ∨ (¬ (qI S3 0 57).toInt = 0 ∧ (v_join_J25 uo S3 x1))))))
set_option maxRecDepth 100000 in
theorem ru_join_J200 {ι : Type} {P : MS → Prop} {Q : MS → Prop} {U200 : MS} {t200_0 : Int32} {v200_1 : Int32} (i0 : ι) (K : ∀ (i : ι) (uo : MS), v_join_J200 uo U200 t200_0 v200_1 → P uo) (h : w_join_J200 Q U200 t200_0 v200_1) : ∃ uo, P uo ∧ Q uo := by
  unfold w_join_J200 at h
  obtain ⟨S12, eS12⟩ : ∃ x9 : MS, x9 = wI U200 0 57 t200_0 := ⟨_, rfl⟩
  replace h := h S12 eS12
  replace K := fun i uo z => K i uo ⟨S12, eS12, z⟩
  obtain ⟨g1_, h⟩ := h
  replace K := fun i uo z => K i uo ⟨g1_, z⟩
  obtain ⟨S14, eS14⟩ : ∃ x9 : MS, x9 = wI S12 24 v200_1.toInt.toNat (vp_nar .boolean (1 : Int32)) := ⟨_, rfl⟩
  replace h := h S14 eS14
  replace K := fun i uo z => K i uo ⟨S14, eS14, z⟩
  exact ⟨_, K i0 _ rfl, h⟩
set_option maxRecDepth 100000 in
theorem ru_join_J195 {ι : Type} {P : MS → Prop} {Q : MS → Prop} {U195 : MS} {v195_1 : Int32} (i0 : ι) (K : ∀ (i : ι) (uo : MS), v_join_J195 uo U195 v195_1 → P uo) (h : w_join_J195 Q U195 v195_1) : ∃ uo, P uo ∧ Q uo := by
  unfold w_join_J195 at h
  exact ru_join_J200 i0 K h
set_option maxRecDepth 100000 in
theorem ru_join_J172 {ι : Type} {P : MS → Prop} {Q : MS → Prop} {k50 : MS → Int32 → Int32 → Int32 → Int32 → Prop} {k50v : ι → MS → MS → Int32 → Int32 → Int32 → Int32 → Prop} {U172 : MS} {v172_1 : Int32} {v172_2 : Int32} {v172_3 : Int32} {v172_4 : Int32} (i0 : ι) (hk50 : ∀ (u : MS) (z0 : Int32) (z1 : Int32) (z2 : Int32) (z3 : Int32), k50 u z0 z1 z2 z3 → (∀ (i : ι) (uo : MS), k50v i uo u z0 z1 z2 z3 → P uo) → ∃ uo, P uo ∧ Q uo) (K : ∀ (i : ι) (uo : MS), v_join_J172 uo (k50v i uo) U172 v172_1 v172_2 v172_3 v172_4 → P uo) (h : w_join_J172 Q k50 U172 v172_1 v172_2 v172_3 v172_4) : ∃ uo, P uo ∧ Q uo := by
  unfold w_join_J172 at h
  obtain ⟨a28, ea28⟩ : ∃ x9 : Int32, x9 = (v172_4 + Int32.ofInt 1) := ⟨_, rfl⟩
  replace h := h a28 ea28
  replace K := fun i uo z => K i uo ⟨a28, ea28, z⟩
  exact hk50 _ _ _ _ _ h K
set_option maxRecDepth 100000 in
theorem ru_join_J152 {ι : Type} {P : MS → Prop} {Q : MS → Prop} {k50 : MS → Int32 → Int32 → Int32 → Int32 → Prop} {k50v : ι → MS → MS → Int32 → Int32 → Int32 → Int32 → Prop} {U152 : MS} {v152_1 : Int32} {v152_2 : Int32} {v152_3 : Int32} {v152_4 : Int32} {v152_7 : Int32} (i0 : ι) (hk50 : ∀ (u : MS) (z0 : Int32) (z1 : Int32) (z2 : Int32) (z3 : Int32), k50 u z0 z1 z2 z3 → (∀ (i : ι) (uo : MS), k50v i uo u z0 z1 z2 z3 → P uo) → ∃ uo, P uo ∧ Q uo) (K : ∀ (i : ι) (uo : MS), v_join_J152 uo (k50v i uo) U152 v152_1 v152_2 v152_3 v152_4 v152_7 → P uo) (h : w_join_J152 Q k50 U152 v152_1 v152_2 v152_3 v152_4 v152_7) : ∃ uo, P uo ∧ Q uo := by
  unfold w_join_J152 at h
  obtain ⟨g2_, h⟩ := h
  replace K := fun i uo z => K i uo ⟨g2_, z⟩
  obtain ⟨S32, eS32⟩ : ∃ x9 : MS, x9 = wI U152 23 (((((48 : Int32) * v152_1) + v152_4).toInt).toNat) (vp_nar .byte (v152_7.toInt8.toInt32)) := ⟨_, rfl⟩
  replace h := h S32 eS32
  replace K := fun i uo z => K i uo ⟨S32, eS32, z⟩
  obtain ⟨S33, eS33⟩ : ∃ x9 : MS, x9 = wI S32 0 57 1 := ⟨_, rfl⟩
  replace h := h S33 eS33
  replace K := fun i uo z => K i uo ⟨S33, eS33, z⟩
  exact ru_join_J172 i0 hk50 K h
set_option maxRecDepth 100000 in
theorem ru_join_J131 {ι : Type} {P : MS → Prop} {Q : MS → Prop} {k50 : MS → Int32 → Int32 → Int32 → Int32 → Prop} {k50v : ι → MS → MS → Int32 → Int32 → Int32 → Int32 → Prop} {U131 : MS} {t131_0 : Int32} {v131_1 : Int32} {v131_2 : Int32} {v131_3 : Int32} {v131_4 : Int32} {v131_6 : Int32} (i0 : ι) (hk50 : ∀ (u : MS) (z0 : Int32) (z1 : Int32) (z2 : Int32) (z3 : Int32), k50 u z0 z1 z2 z3 → (∀ (i : ι) (uo : MS), k50v i uo u z0 z1 z2 z3 → P uo) → ∃ uo, P uo ∧ Q uo) (K : ∀ (i : ι) (uo : MS), v_join_J131 uo (k50v i uo) U131 t131_0 v131_1 v131_2 v131_3 v131_4 v131_6 → P uo) (h : w_join_J131 Q k50 U131 t131_0 v131_1 v131_2 v131_3 v131_4 v131_6) : ∃ uo, P uo ∧ Q uo := by
  unfold w_join_J131 at h
  obtain ⟨g3_, h⟩ := h
  replace K := fun i uo z => K i uo ⟨g3_, z⟩
  by_cases c : (qI U131 24 v131_1.toInt.toNat).toInt = 0
  · replace h := h.1 c
    replace K := fun i uo z => K i uo (Or.inl ⟨c, z⟩)
    exact ru_join_J152 i0 hk50 K h
  · replace h := h.2 c
    replace K := fun i uo z => K i uo (Or.inr ⟨c, z⟩)
    by_cases c : t131_0.toInt = v131_6.toInt
    · replace h := h.1 c
      replace K := fun i uo z => K i uo (Or.inl ⟨c, z⟩)
      exact ru_join_J172 i0 hk50 K h
    · replace h := h.2 c
      replace K := fun i uo z => K i uo (Or.inr ⟨c, z⟩)
      exact ru_join_J152 i0 hk50 K h
set_option maxRecDepth 100000 in
theorem ru_join_J94 {ι : Type} {P : MS → Prop} {Q : MS → Prop} {k50 : MS → Int32 → Int32 → Int32 → Int32 → Prop} {k50v : ι → MS → MS → Int32 → Int32 → Int32 → Int32 → Prop} {U94 : MS} {t94_0 : Int32} {v94_1 : Int32} {v94_2 : Int32} {v94_3 : Int32} {v94_4 : Int32} (i0 : ι) (hk50 : ∀ (u : MS) (z0 : Int32) (z1 : Int32) (z2 : Int32) (z3 : Int32), k50 u z0 z1 z2 z3 → (∀ (i : ι) (uo : MS), k50v i uo u z0 z1 z2 z3 → P uo) → ∃ uo, P uo ∧ Q uo) (K : ∀ (i : ι) (uo : MS), v_join_J94 uo (k50v i uo) U94 t94_0 v94_1 v94_2 v94_3 v94_4 → P uo) (h : w_join_J94 Q k50 U94 t94_0 v94_1 v94_2 v94_3 v94_4) : ∃ uo, P uo ∧ Q uo := by
  unfold w_join_J94 at h
  obtain ⟨g4_, h⟩ := h
  replace K := fun i uo z => K i uo ⟨g4_, z⟩
  obtain ⟨a23, ea23⟩ : ∃ x9 : Int32, x9 = (qI U94 23 (((((48 : Int32) * v94_1) + v94_4).toInt).toNat)) := ⟨_, rfl⟩
  replace h := h a23 ea23
  replace K := fun i uo z => K i uo ⟨a23, ea23, z⟩
  obtain ⟨g5_, h⟩ := h
  replace K := fun i uo z => K i uo ⟨g5_, z⟩
  by_cases c : (qI U94 24 v94_1.toInt.toNat).toInt = 0
  · replace h := h.1 c
    replace K := fun i uo z => K i uo (Or.inl ⟨c, z⟩)
    exact ru_join_J131 i0 hk50 K h
  · replace h := h.2 c
    replace K := fun i uo z => K i uo (Or.inr ⟨c, z⟩)
    obtain ⟨g6_, h⟩ := h
    replace K := fun i uo z => K i uo ⟨g6_, z⟩
    exact ru_join_J131 i0 hk50 K h
set_option maxRecDepth 100000 in
theorem ru_join_J30 {ι : Type} {P : MS → Prop} {Q : MS → Prop} {U30 : MS} {t30_0 : Int32} {v30_1 : Int32} (i0 : ι) (K : ∀ (i : ι) (uo : MS), v_join_J30 uo U30 t30_0 v30_1 → P uo) (h : w_join_J30 Q U30 t30_0 v30_1) : ∃ uo, P uo ∧ Q uo := by
  unfold w_join_J30 at h
  obtain ⟨S47, eS47⟩ : ∃ x9 : MS, x9 = wI U30 0 57 t30_0 := ⟨_, rfl⟩
  replace h := h S47 eS47
  replace K := fun i uo z => K i uo ⟨S47, eS47, z⟩
  obtain ⟨g7_, h⟩ := h
  replace K := fun i uo z => K i uo ⟨g7_, z⟩
  obtain ⟨S49, eS49⟩ : ∃ x9 : MS, x9 = wI S47 24 v30_1.toInt.toNat (vp_nar .boolean (1 : Int32)) := ⟨_, rfl⟩
  replace h := h S49 eS49
  replace K := fun i uo z => K i uo ⟨S49, eS49, z⟩
  exact ⟨_, K i0 _ rfl, h⟩
set_option maxRecDepth 100000 in
theorem ru_join_J25 {ι : Type} {P : MS → Prop} {Q : MS → Prop} {U25 : MS} {v25_1 : Int32} (i0 : ι) (K : ∀ (i : ι) (uo : MS), v_join_J25 uo U25 v25_1 → P uo) (h : w_join_J25 Q U25 v25_1) : ∃ uo, P uo ∧ Q uo := by
  unfold w_join_J25 at h
  exact ru_join_J30 i0 K h
set_option maxRecDepth 100000 in
theorem ru_join_L50 {ι : Type} {P : MS → Prop} {Q : MS → Prop} : ∀ (n : Nat) {U50 : MS} {v50_1 : Int32} {v50_2 : Int32} {v50_3 : Int32} {v50_4 : Int32} (i0 : ι), (∀ (i : ι) (uo : MS), (∃ n8, v_join_L50 uo n8 U50 v50_1 v50_2 v50_3 v50_4) → P uo) → w_join_L50 Q n U50 v50_1 v50_2 v50_3 v50_4 → ∃ uo, P uo ∧ Q uo := by
  intro n
  induction n with
  | zero => intro U50 v50_1 v50_2 v50_3 v50_4 i0 K h; unfold w_join_L50 at h; exact h.elim
  | succ n ih =>
    intro U50 v50_1 v50_2 v50_3 v50_4 i0 K h
    unfold w_join_L50 at h
    replace K := fun (i : ι × Nat) uo (z : v_join_L50 uo (i.2 + 1) U50 v50_1 v50_2 v50_3 v50_4) => K i.1 uo ⟨i.2 + 1, z⟩
    have i00 := i0
    replace i0 : ι × Nat := (i0, 0)
    by_cases c : ((24 : Int32) + v50_3).toInt ≤ v50_4.toInt
    · replace h := h.1 c
      replace K := fun i uo z => K i uo (Or.inl ⟨c, z⟩)
      by_cases c : (qI U50 0 57).toInt = 0
      · replace h := h.1 c
        replace K := fun i uo z => K i uo (Or.inl ⟨c, z⟩)
        obtain ⟨g8_, h⟩ := h
        replace K := fun i uo z => K i uo ⟨g8_, z⟩
        by_cases c : (qI U50 24 v50_1.toInt.toNat).toInt = 0
        · replace h := h.1 c
          replace K := fun i uo z => K i uo (Or.inl ⟨c, z⟩)
          exact ru_join_J195 i0 K h
        · replace h := h.2 c
          replace K := fun i uo z => K i uo (Or.inr ⟨c, z⟩)
          exact ru_join_J200 i0 K h
      · replace h := h.2 c
        replace K := fun i uo z => K i uo (Or.inr ⟨c, z⟩)
        exact ru_join_J195 i0 K h
    · replace h := h.2 c
      replace K := fun i uo z => K i uo (Or.inr ⟨c, z⟩)
      by_cases c : 24 ≤ v50_4.toInt
      · replace h := h.1 c
        replace K := fun i uo z => K i uo (Or.inl ⟨c, z⟩)
        by_cases c : v50_2.toInt = 0
        · replace h := h.1 c
          replace K := fun i uo z => K i uo (Or.inl ⟨c, z⟩)
          obtain ⟨g9_, h⟩ := h
          replace K := fun i uo z => K i uo ⟨g9_, z⟩
          exact ru_join_J94 i0 (fun _ _ _ _ _ h K => ih i00 (fun i uo ⟨n8, z⟩ => K (i, n8) uo z) h) K h
        · replace h := h.2 c
          replace K := fun i uo z => K i uo (Or.inr ⟨c, z⟩)
          exact ru_join_J94 i0 (fun _ _ _ _ _ h K => ih i00 (fun i uo ⟨n8, z⟩ => K (i, n8) uo z) h) K h
      · replace h := h.2 c
        replace K := fun i uo z => K i uo (Or.inr ⟨c, z⟩)
        obtain ⟨g10_, h⟩ := h
        replace K := fun i uo z => K i uo ⟨g10_, z⟩
        exact ru_join_J94 i0 (fun _ _ _ _ _ h K => ih i00 (fun i uo ⟨n8, z⟩ => K (i, n8) uo z) h) K h
set_option maxRecDepth 100000 in
theorem ru_join {S : MS} {x1 : Int32} {x2 : Int32} {Q : MS → Prop} (h : w_join S x1 x2 Q) : ∃ uo, v_join S x1 x2 uo ∧ Q uo := by
  have i0 : Unit := ()
  have K : ∀ (i : Unit) (uo : MS), v_join S x1 x2 uo → v_join S x1 x2 uo := fun _ _ z => z
  unfold w_join at h
  obtain ⟨Q9, h0, h⟩ := h
  obtain ⟨r2, S3, z9, g9⟩ := ru_heightAt h0
  replace h := h r2 S3 g9
  replace K := fun i uo z => K i uo ⟨r2, S3, z9, z⟩
  by_cases c : 0 ≤ r2.toInt
  · replace h := h.1 c
    replace K := fun i uo z => K i uo (Or.inl ⟨c, z⟩)
    obtain ⟨Q9, h0, h⟩ := h
    obtain ⟨r7, S8, z9, g9⟩ := ru_heightAt h0
    replace h := h r7 S8 g9
    replace K := fun i uo z => K i uo ⟨r7, S8, z9, z⟩
    obtain ⟨n9, h⟩ := h
    exact ru_join_L50 n9 i0 K h
  · replace h := h.2 c
    replace K := fun i uo z => K i uo (Or.inr ⟨c, z⟩)
    by_cases c : (qI S3 0 57).toInt = 0
    · replace h := h.1 c
      replace K := fun i uo z => K i uo (Or.inl ⟨c, z⟩)
      obtain ⟨g11_, h⟩ := h
      replace K := fun i uo z => K i uo ⟨g11_, z⟩
      by_cases c : (qI S3 24 x1.toInt.toNat).toInt = 0
      · replace h := h.1 c
        replace K := fun i uo z => K i uo (Or.inl ⟨c, z⟩)
        exact ru_join_J25 i0 K h
      · replace h := h.2 c
        replace K := fun i uo z => K i uo (Or.inr ⟨c, z⟩)
        exact ru_join_J30 i0 K h
    · replace h := h.2 c
      replace K := fun i uo z => K i uo (Or.inr ⟨c, z⟩)
      exact ru_join_J25 i0 K h
set_option maxRecDepth 100000 in
theorem vw_join_J200 {uo : MS} {U200 : MS} {t200_0 : Int32} {v200_1 : Int32} (h : v_join_J200 uo U200 t200_0 v200_1) : w_join_J200 (fun u => u = uo) U200 t200_0 v200_1 := by
  unfold v_join_J200 at h
  unfold w_join_J200
  obtain ⟨v9, e9, h⟩ := h
  intro x9 d9
  have c9 : v9 = x9 := e9.trans d9.symm
  subst c9
  obtain ⟨g9, h⟩ := h
  refine ⟨g9, ?_⟩
  obtain ⟨v9, e9, h⟩ := h
  intro x9 d9
  have c9 : v9 = x9 := e9.trans d9.symm
  subst c9
  exact h.symm
set_option maxRecDepth 100000 in
theorem vz_join_J200 {uo : MS} {Q : MS → Prop} {U200 : MS} {t200_0 : Int32} {v200_1 : Int32} (h : v_join_J200 uo U200 t200_0 v200_1) (w : w_join_J200 Q U200 t200_0 v200_1) : Q uo := by
  unfold v_join_J200 at h
  unfold w_join_J200 at w
  obtain ⟨v9, e9, h⟩ := h
  replace w := w v9 e9
  replace h := h.2
  replace w := w.2
  obtain ⟨v9, e9, h⟩ := h
  replace w := w v9 e9
  rw [h]
  exact w
set_option maxRecDepth 100000 in
theorem vw_join_J195 {uo : MS} {U195 : MS} {v195_1 : Int32} (h : v_join_J195 uo U195 v195_1) : w_join_J195 (fun u => u = uo) U195 v195_1 := by
  unfold v_join_J195 at h
  unfold w_join_J195
  exact vw_join_J200 h
set_option maxRecDepth 100000 in
theorem vz_join_J195 {uo : MS} {Q : MS → Prop} {U195 : MS} {v195_1 : Int32} (h : v_join_J195 uo U195 v195_1) (w : w_join_J195 Q U195 v195_1) : Q uo := by
  unfold v_join_J195 at h
  unfold w_join_J195 at w
  exact vz_join_J200 h w
set_option maxRecDepth 100000 in
theorem vw_join_J172 {uo : MS} {k50 k50v : MS → Int32 → Int32 → Int32 → Int32 → Prop} {U172 : MS} {v172_1 : Int32} {v172_2 : Int32} {v172_3 : Int32} {v172_4 : Int32} (hk50 : ∀ (u : MS) (z0 : Int32) (z1 : Int32) (z2 : Int32) (z3 : Int32), k50v u z0 z1 z2 z3 → k50 u z0 z1 z2 z3) (h : v_join_J172 uo k50v U172 v172_1 v172_2 v172_3 v172_4) : w_join_J172 (fun u => u = uo) k50 U172 v172_1 v172_2 v172_3 v172_4 := by
  unfold v_join_J172 at h
  unfold w_join_J172
  obtain ⟨v9, e9, h⟩ := h
  intro x9 d9
  have c9 : v9 = x9 := e9.trans d9.symm
  subst c9
  exact hk50 _ _ _ _ _ h
set_option maxRecDepth 100000 in
theorem vz_join_J172 {uo : MS} {Q : MS → Prop} {k50 k50v : MS → Int32 → Int32 → Int32 → Int32 → Prop} {U172 : MS} {v172_1 : Int32} {v172_2 : Int32} {v172_3 : Int32} {v172_4 : Int32} (hk50 : ∀ (u : MS) (z0 : Int32) (z1 : Int32) (z2 : Int32) (z3 : Int32), k50v u z0 z1 z2 z3 → k50 u z0 z1 z2 z3 → Q uo) (h : v_join_J172 uo k50v U172 v172_1 v172_2 v172_3 v172_4) (w : w_join_J172 Q k50 U172 v172_1 v172_2 v172_3 v172_4) : Q uo := by
  unfold v_join_J172 at h
  unfold w_join_J172 at w
  obtain ⟨v9, e9, h⟩ := h
  replace w := w v9 e9
  exact hk50 _ _ _ _ _ h w
set_option maxRecDepth 100000 in
theorem vw_join_J152 {uo : MS} {k50 k50v : MS → Int32 → Int32 → Int32 → Int32 → Prop} {U152 : MS} {v152_1 : Int32} {v152_2 : Int32} {v152_3 : Int32} {v152_4 : Int32} {v152_7 : Int32} (hk50 : ∀ (u : MS) (z0 : Int32) (z1 : Int32) (z2 : Int32) (z3 : Int32), k50v u z0 z1 z2 z3 → k50 u z0 z1 z2 z3) (h : v_join_J152 uo k50v U152 v152_1 v152_2 v152_3 v152_4 v152_7) : w_join_J152 (fun u => u = uo) k50 U152 v152_1 v152_2 v152_3 v152_4 v152_7 := by
  unfold v_join_J152 at h
  unfold w_join_J152
  obtain ⟨g9, h⟩ := h
  refine ⟨g9, ?_⟩
  obtain ⟨v9, e9, h⟩ := h
  intro x9 d9
  have c9 : v9 = x9 := e9.trans d9.symm
  subst c9
  obtain ⟨v9, e9, h⟩ := h
  intro x9 d9
  have c9 : v9 = x9 := e9.trans d9.symm
  subst c9
  exact vw_join_J172 hk50 h
set_option maxRecDepth 100000 in
theorem vz_join_J152 {uo : MS} {Q : MS → Prop} {k50 k50v : MS → Int32 → Int32 → Int32 → Int32 → Prop} {U152 : MS} {v152_1 : Int32} {v152_2 : Int32} {v152_3 : Int32} {v152_4 : Int32} {v152_7 : Int32} (hk50 : ∀ (u : MS) (z0 : Int32) (z1 : Int32) (z2 : Int32) (z3 : Int32), k50v u z0 z1 z2 z3 → k50 u z0 z1 z2 z3 → Q uo) (h : v_join_J152 uo k50v U152 v152_1 v152_2 v152_3 v152_4 v152_7) (w : w_join_J152 Q k50 U152 v152_1 v152_2 v152_3 v152_4 v152_7) : Q uo := by
  unfold v_join_J152 at h
  unfold w_join_J152 at w
  replace h := h.2
  replace w := w.2
  obtain ⟨v9, e9, h⟩ := h
  replace w := w v9 e9
  obtain ⟨v9, e9, h⟩ := h
  replace w := w v9 e9
  exact vz_join_J172 hk50 h w
set_option maxRecDepth 100000 in
theorem vw_join_J131 {uo : MS} {k50 k50v : MS → Int32 → Int32 → Int32 → Int32 → Prop} {U131 : MS} {t131_0 : Int32} {v131_1 : Int32} {v131_2 : Int32} {v131_3 : Int32} {v131_4 : Int32} {v131_6 : Int32} (hk50 : ∀ (u : MS) (z0 : Int32) (z1 : Int32) (z2 : Int32) (z3 : Int32), k50v u z0 z1 z2 z3 → k50 u z0 z1 z2 z3) (h : v_join_J131 uo k50v U131 t131_0 v131_1 v131_2 v131_3 v131_4 v131_6) : w_join_J131 (fun u => u = uo) k50 U131 t131_0 v131_1 v131_2 v131_3 v131_4 v131_6 := by
  unfold v_join_J131 at h
  unfold w_join_J131
  obtain ⟨g9, h⟩ := h
  refine ⟨g9, ?_⟩
  rcases h with ⟨c, h⟩ | ⟨c, h⟩
  · refine ⟨fun _ => ?_, fun c2 => absurd c c2⟩
    exact vw_join_J152 hk50 h
  · refine ⟨fun c2 => absurd c2 c, fun _ => ?_⟩
    rcases h with ⟨c, h⟩ | ⟨c, h⟩
    · refine ⟨fun _ => ?_, fun c2 => absurd c c2⟩
      exact vw_join_J172 hk50 h
    · refine ⟨fun c2 => absurd c2 c, fun _ => ?_⟩
      exact vw_join_J152 hk50 h
set_option maxRecDepth 100000 in
theorem vz_join_J131 {uo : MS} {Q : MS → Prop} {k50 k50v : MS → Int32 → Int32 → Int32 → Int32 → Prop} {U131 : MS} {t131_0 : Int32} {v131_1 : Int32} {v131_2 : Int32} {v131_3 : Int32} {v131_4 : Int32} {v131_6 : Int32} (hk50 : ∀ (u : MS) (z0 : Int32) (z1 : Int32) (z2 : Int32) (z3 : Int32), k50v u z0 z1 z2 z3 → k50 u z0 z1 z2 z3 → Q uo) (h : v_join_J131 uo k50v U131 t131_0 v131_1 v131_2 v131_3 v131_4 v131_6) (w : w_join_J131 Q k50 U131 t131_0 v131_1 v131_2 v131_3 v131_4 v131_6) : Q uo := by
  unfold v_join_J131 at h
  unfold w_join_J131 at w
  replace h := h.2
  replace w := w.2
  rcases h with ⟨c, h⟩ | ⟨c, h⟩
  · replace w := w.1 c
    exact vz_join_J152 hk50 h w
  · replace w := w.2 c
    rcases h with ⟨c, h⟩ | ⟨c, h⟩
    · replace w := w.1 c
      exact vz_join_J172 hk50 h w
    · replace w := w.2 c
      exact vz_join_J152 hk50 h w
set_option maxRecDepth 100000 in
theorem vw_join_J94 {uo : MS} {k50 k50v : MS → Int32 → Int32 → Int32 → Int32 → Prop} {U94 : MS} {t94_0 : Int32} {v94_1 : Int32} {v94_2 : Int32} {v94_3 : Int32} {v94_4 : Int32} (hk50 : ∀ (u : MS) (z0 : Int32) (z1 : Int32) (z2 : Int32) (z3 : Int32), k50v u z0 z1 z2 z3 → k50 u z0 z1 z2 z3) (h : v_join_J94 uo k50v U94 t94_0 v94_1 v94_2 v94_3 v94_4) : w_join_J94 (fun u => u = uo) k50 U94 t94_0 v94_1 v94_2 v94_3 v94_4 := by
  unfold v_join_J94 at h
  unfold w_join_J94
  obtain ⟨g9, h⟩ := h
  refine ⟨g9, ?_⟩
  obtain ⟨v9, e9, h⟩ := h
  intro x9 d9
  have c9 : v9 = x9 := e9.trans d9.symm
  subst c9
  obtain ⟨g9, h⟩ := h
  refine ⟨g9, ?_⟩
  rcases h with ⟨c, h⟩ | ⟨c, h⟩
  · refine ⟨fun _ => ?_, fun c2 => absurd c c2⟩
    exact vw_join_J131 hk50 h
  · refine ⟨fun c2 => absurd c2 c, fun _ => ?_⟩
    obtain ⟨g9, h⟩ := h
    refine ⟨g9, ?_⟩
    exact vw_join_J131 hk50 h
set_option maxRecDepth 100000 in
theorem vz_join_J94 {uo : MS} {Q : MS → Prop} {k50 k50v : MS → Int32 → Int32 → Int32 → Int32 → Prop} {U94 : MS} {t94_0 : Int32} {v94_1 : Int32} {v94_2 : Int32} {v94_3 : Int32} {v94_4 : Int32} (hk50 : ∀ (u : MS) (z0 : Int32) (z1 : Int32) (z2 : Int32) (z3 : Int32), k50v u z0 z1 z2 z3 → k50 u z0 z1 z2 z3 → Q uo) (h : v_join_J94 uo k50v U94 t94_0 v94_1 v94_2 v94_3 v94_4) (w : w_join_J94 Q k50 U94 t94_0 v94_1 v94_2 v94_3 v94_4) : Q uo := by
  unfold v_join_J94 at h
  unfold w_join_J94 at w
  replace h := h.2
  replace w := w.2
  obtain ⟨v9, e9, h⟩ := h
  replace w := w v9 e9
  replace h := h.2
  replace w := w.2
  rcases h with ⟨c, h⟩ | ⟨c, h⟩
  · replace w := w.1 c
    exact vz_join_J131 hk50 h w
  · replace w := w.2 c
    replace h := h.2
    replace w := w.2
    exact vz_join_J131 hk50 h w
set_option maxRecDepth 100000 in
theorem vw_join_J30 {uo : MS} {U30 : MS} {t30_0 : Int32} {v30_1 : Int32} (h : v_join_J30 uo U30 t30_0 v30_1) : w_join_J30 (fun u => u = uo) U30 t30_0 v30_1 := by
  unfold v_join_J30 at h
  unfold w_join_J30
  obtain ⟨v9, e9, h⟩ := h
  intro x9 d9
  have c9 : v9 = x9 := e9.trans d9.symm
  subst c9
  obtain ⟨g9, h⟩ := h
  refine ⟨g9, ?_⟩
  obtain ⟨v9, e9, h⟩ := h
  intro x9 d9
  have c9 : v9 = x9 := e9.trans d9.symm
  subst c9
  exact h.symm
set_option maxRecDepth 100000 in
theorem vz_join_J30 {uo : MS} {Q : MS → Prop} {U30 : MS} {t30_0 : Int32} {v30_1 : Int32} (h : v_join_J30 uo U30 t30_0 v30_1) (w : w_join_J30 Q U30 t30_0 v30_1) : Q uo := by
  unfold v_join_J30 at h
  unfold w_join_J30 at w
  obtain ⟨v9, e9, h⟩ := h
  replace w := w v9 e9
  replace h := h.2
  replace w := w.2
  obtain ⟨v9, e9, h⟩ := h
  replace w := w v9 e9
  rw [h]
  exact w
set_option maxRecDepth 100000 in
theorem vw_join_J25 {uo : MS} {U25 : MS} {v25_1 : Int32} (h : v_join_J25 uo U25 v25_1) : w_join_J25 (fun u => u = uo) U25 v25_1 := by
  unfold v_join_J25 at h
  unfold w_join_J25
  exact vw_join_J30 h
set_option maxRecDepth 100000 in
theorem vz_join_J25 {uo : MS} {Q : MS → Prop} {U25 : MS} {v25_1 : Int32} (h : v_join_J25 uo U25 v25_1) (w : w_join_J25 Q U25 v25_1) : Q uo := by
  unfold v_join_J25 at h
  unfold w_join_J25 at w
  exact vz_join_J30 h w
set_option maxRecDepth 100000 in
theorem vw_join_L50 {uo : MS} : ∀ (n : Nat) {U50 : MS} {v50_1 : Int32} {v50_2 : Int32} {v50_3 : Int32} {v50_4 : Int32}, v_join_L50 uo n U50 v50_1 v50_2 v50_3 v50_4 → w_join_L50 (fun u => u = uo) n U50 v50_1 v50_2 v50_3 v50_4 := by
  intro n
  induction n with
  | zero => intro U50 v50_1 v50_2 v50_3 v50_4 h; unfold v_join_L50 at h; exact h.elim
  | succ n ih =>
    intro U50 v50_1 v50_2 v50_3 v50_4 h
    unfold v_join_L50 at h
    unfold w_join_L50
    rcases h with ⟨c, h⟩ | ⟨c, h⟩
    · refine ⟨fun _ => ?_, fun c2 => absurd c c2⟩
      rcases h with ⟨c, h⟩ | ⟨c, h⟩
      · refine ⟨fun _ => ?_, fun c2 => absurd c c2⟩
        obtain ⟨g9, h⟩ := h
        refine ⟨g9, ?_⟩
        rcases h with ⟨c, h⟩ | ⟨c, h⟩
        · refine ⟨fun _ => ?_, fun c2 => absurd c c2⟩
          exact vw_join_J195 h
        · refine ⟨fun c2 => absurd c2 c, fun _ => ?_⟩
          exact vw_join_J200 h
      · refine ⟨fun c2 => absurd c2 c, fun _ => ?_⟩
        exact vw_join_J195 h
    · refine ⟨fun c2 => absurd c2 c, fun _ => ?_⟩
      rcases h with ⟨c, h⟩ | ⟨c, h⟩
      · refine ⟨fun _ => ?_, fun c2 => absurd c c2⟩
        rcases h with ⟨c, h⟩ | ⟨c, h⟩
        · refine ⟨fun _ => ?_, fun c2 => absurd c c2⟩
          obtain ⟨g9, h⟩ := h
          refine ⟨g9, ?_⟩
          exact vw_join_J94 (fun _ _ _ _ _ h => ih h) h
        · refine ⟨fun c2 => absurd c2 c, fun _ => ?_⟩
          exact vw_join_J94 (fun _ _ _ _ _ h => ih h) h
      · refine ⟨fun c2 => absurd c2 c, fun _ => ?_⟩
        obtain ⟨g9, h⟩ := h
        refine ⟨g9, ?_⟩
        exact vw_join_J94 (fun _ _ _ _ _ h => ih h) h
set_option maxRecDepth 100000 in
theorem vz_join_L50 {uo : MS} {Q : MS → Prop} : ∀ (n m : Nat) {U50 : MS} {v50_1 : Int32} {v50_2 : Int32} {v50_3 : Int32} {v50_4 : Int32}, v_join_L50 uo n U50 v50_1 v50_2 v50_3 v50_4 → w_join_L50 Q m U50 v50_1 v50_2 v50_3 v50_4 → Q uo := by
  intro n
  induction n with
  | zero => intro m U50 v50_1 v50_2 v50_3 v50_4 h; unfold v_join_L50 at h; exact h.elim
  | succ n ih =>
    intro m U50 v50_1 v50_2 v50_3 v50_4 h w
    cases m with
    | zero => unfold w_join_L50 at w; exact w.elim
    | succ m =>
      unfold v_join_L50 at h
      unfold w_join_L50 at w
      rcases h with ⟨c, h⟩ | ⟨c, h⟩
      · replace w := w.1 c
        rcases h with ⟨c, h⟩ | ⟨c, h⟩
        · replace w := w.1 c
          replace h := h.2
          replace w := w.2
          rcases h with ⟨c, h⟩ | ⟨c, h⟩
          · replace w := w.1 c
            exact vz_join_J195 h w
          · replace w := w.2 c
            exact vz_join_J200 h w
        · replace w := w.2 c
          exact vz_join_J195 h w
      · replace w := w.2 c
        rcases h with ⟨c, h⟩ | ⟨c, h⟩
        · replace w := w.1 c
          rcases h with ⟨c, h⟩ | ⟨c, h⟩
          · replace w := w.1 c
            replace h := h.2
            replace w := w.2
            exact vz_join_J94 (fun _ _ _ _ _ h w => ih m h w) h w
          · replace w := w.2 c
            exact vz_join_J94 (fun _ _ _ _ _ h w => ih m h w) h w
        · replace w := w.2 c
          replace h := h.2
          replace w := w.2
          exact vz_join_J94 (fun _ _ _ _ _ h w => ih m h w) h w
set_option maxRecDepth 100000 in
theorem vw_join {S : MS} {x1 : Int32} {x2 : Int32} {uo : MS} (h : v_join S x1 x2 uo) : w_join S x1 x2 (fun u => u = uo) := by
  unfold v_join at h
  unfold w_join
  obtain ⟨p9, q9, z9, h⟩ := h
  refine ⟨_, vw_heightAt z9, ?_⟩
  rintro p8 q8 ⟨d8, d9⟩
  subst d8
  subst d9
  rcases h with ⟨c, h⟩ | ⟨c, h⟩
  · refine ⟨fun _ => ?_, fun c2 => absurd c c2⟩
    obtain ⟨p9, q9, z9, h⟩ := h
    refine ⟨_, vw_heightAt z9, ?_⟩
    rintro p8 q8 ⟨d8, d9⟩
    subst d8
    subst d9
    obtain ⟨n9, h⟩ := h
    exact ⟨n9, vw_join_L50 n9 h⟩
  · refine ⟨fun c2 => absurd c2 c, fun _ => ?_⟩
    rcases h with ⟨c, h⟩ | ⟨c, h⟩
    · refine ⟨fun _ => ?_, fun c2 => absurd c c2⟩
      obtain ⟨g9, h⟩ := h
      refine ⟨g9, ?_⟩
      rcases h with ⟨c, h⟩ | ⟨c, h⟩
      · refine ⟨fun _ => ?_, fun c2 => absurd c c2⟩
        exact vw_join_J25 h
      · refine ⟨fun c2 => absurd c2 c, fun _ => ?_⟩
        exact vw_join_J30 h
    · refine ⟨fun c2 => absurd c2 c, fun _ => ?_⟩
      exact vw_join_J25 h
set_option maxRecDepth 100000 in
theorem vz_join {S : MS} {x1 : Int32} {x2 : Int32} {uo : MS} {Q : MS → Prop} (h : v_join S x1 x2 uo) (w : w_join S x1 x2 Q) : Q uo := by
  unfold v_join at h
  unfold w_join at w
  obtain ⟨p9, q9, z9, h⟩ := h
  obtain ⟨Q9, w0, w⟩ := w
  replace w := w p9 q9 (vz_heightAt z9 w0)
  rcases h with ⟨c, h⟩ | ⟨c, h⟩
  · replace w := w.1 c
    obtain ⟨p9, q9, z9, h⟩ := h
    obtain ⟨Q9, w0, w⟩ := w
    replace w := w p9 q9 (vz_heightAt z9 w0)
    obtain ⟨n9, h⟩ := h
    obtain ⟨n8, w⟩ := w
    exact vz_join_L50 n9 n8 h w
  · replace w := w.2 c
    rcases h with ⟨c, h⟩ | ⟨c, h⟩
    · replace w := w.1 c
      replace h := h.2
      replace w := w.2
      rcases h with ⟨c, h⟩ | ⟨c, h⟩
      · replace w := w.1 c
        exact vz_join_J25 h w
      · replace w := w.2 c
        exact vz_join_J30 h w
    · replace w := w.2 c
      exact vz_join_J25 h w
def v_takeOf_L33 (uo : MS) : Nat → MS → Int32 → Int32 → Int32 → Prop
  | 0, _, _, _, _ => False
  | n33 + 1, U33, v33_1, v33_2, v33_3 => ((v33_2.toInt ≤ v33_3.toInt ∧ (∃ S3 : MS, S3 = wI U33 0 62 v33_2 ∧ (uo = S3))) ∨ (¬ v33_2.toInt ≤ v33_3.toInt ∧ (((0 : Int) ≤ ((((48 : Int32) * v33_1) + (24 : Int32)) + v33_3).toInt ∧ ((((48 : Int32) * v33_1) + (24 : Int32)) + v33_3).toInt < 57600) ∧ (((0 : Int) ≤ v33_3.toInt ∧ v33_3.toInt < 28) ∧ (∃ S10 : MS, S10 = wI U33 26 v33_3.toInt.toNat (vp_nar .byte (qI U33 23 ((((((48 : Int32) * v33_1) + (24 : Int32)) + v33_3).toInt).toNat))) ∧ (∃ a11 : Int32, a11 = (v33_3 + Int32.ofInt 1) ∧ ((v_takeOf_L33 uo n33) S10 v33_1 v33_2 a11)))))))
def v_takeOf_L2 (uo : MS) : Nat → MS → Int32 → Int32 → Int32 → Prop
  | 0, _, _, _, _ => False
  | n2 + 1, U2, v2_1, v2_2, v2_3 => ((24 ≤ v2_3.toInt ∧ (∃ n, v_takeOf_L33 uo n U2 v2_1 v2_2 0)) ∨ (¬ 24 ≤ v2_3.toInt ∧ (((0 : Int) ≤ (((48 : Int32) * v2_1) + v2_3).toInt ∧ (((48 : Int32) * v2_1) + v2_3).toInt < 57600) ∧ (((0 : Int) ≤ v2_3.toInt ∧ v2_3.toInt < 24) ∧ (∃ S17 : MS, S17 = wI U2 25 v2_3.toInt.toNat (vp_nar .byte (qI U2 23 (((((48 : Int32) * v2_1) + v2_3).toInt).toNat))) ∧ (∃ a18 : Int32, a18 = (v2_3 + Int32.ofInt 1) ∧ ((v_takeOf_L2 uo n2) S17 v2_1 v2_2 a18)))))))
def v_takeOf (S : MS) (x1 : Int32) (x2 : Int32) (uo : MS) : Prop := (∃ n, v_takeOf_L2 uo n S x1 x2 0)
set_option maxRecDepth 100000 in
theorem ru_takeOf_L33 {ι : Type} {P : MS → Prop} {Q : MS → Prop} : ∀ (n : Nat) {U33 : MS} {v33_1 : Int32} {v33_2 : Int32} {v33_3 : Int32} (i0 : ι), (∀ (i : ι) (uo : MS), (∃ n8, v_takeOf_L33 uo n8 U33 v33_1 v33_2 v33_3) → P uo) → w_takeOf_L33 Q n U33 v33_1 v33_2 v33_3 → ∃ uo, P uo ∧ Q uo := by
  intro n
  induction n with
  | zero => intro U33 v33_1 v33_2 v33_3 i0 K h; unfold w_takeOf_L33 at h; exact h.elim
  | succ n ih =>
    intro U33 v33_1 v33_2 v33_3 i0 K h
    unfold w_takeOf_L33 at h
    replace K := fun (i : ι × Nat) uo (z : v_takeOf_L33 uo (i.2 + 1) U33 v33_1 v33_2 v33_3) => K i.1 uo ⟨i.2 + 1, z⟩
    have i00 := i0
    replace i0 : ι × Nat := (i0, 0)
    by_cases c : v33_2.toInt ≤ v33_3.toInt
    · replace h := h.1 c
      replace K := fun i uo z => K i uo (Or.inl ⟨c, z⟩)
      obtain ⟨S3, eS3⟩ : ∃ x9 : MS, x9 = wI U33 0 62 v33_2 := ⟨_, rfl⟩
      replace h := h S3 eS3
      replace K := fun i uo z => K i uo ⟨S3, eS3, z⟩
      exact ⟨_, K i0 _ rfl, h⟩
    · replace h := h.2 c
      replace K := fun i uo z => K i uo (Or.inr ⟨c, z⟩)
      obtain ⟨g1_, h⟩ := h
      replace K := fun i uo z => K i uo ⟨g1_, z⟩
      obtain ⟨g2_, h⟩ := h
      replace K := fun i uo z => K i uo ⟨g2_, z⟩
      obtain ⟨S10, eS10⟩ : ∃ x9 : MS, x9 = wI U33 26 v33_3.toInt.toNat (vp_nar .byte (qI U33 23 ((((((48 : Int32) * v33_1) + (24 : Int32)) + v33_3).toInt).toNat))) := ⟨_, rfl⟩
      replace h := h S10 eS10
      replace K := fun i uo z => K i uo ⟨S10, eS10, z⟩
      obtain ⟨a11, ea11⟩ : ∃ x9 : Int32, x9 = (v33_3 + Int32.ofInt 1) := ⟨_, rfl⟩
      replace h := h a11 ea11
      replace K := fun i uo z => K i uo ⟨a11, ea11, z⟩
      exact ih i00 (fun i uo ⟨n8, z⟩ => K (i, n8) uo z) h
set_option maxRecDepth 100000 in
theorem ru_takeOf_L2 {ι : Type} {P : MS → Prop} {Q : MS → Prop} : ∀ (n : Nat) {U2 : MS} {v2_1 : Int32} {v2_2 : Int32} {v2_3 : Int32} (i0 : ι), (∀ (i : ι) (uo : MS), (∃ n8, v_takeOf_L2 uo n8 U2 v2_1 v2_2 v2_3) → P uo) → w_takeOf_L2 Q n U2 v2_1 v2_2 v2_3 → ∃ uo, P uo ∧ Q uo := by
  intro n
  induction n with
  | zero => intro U2 v2_1 v2_2 v2_3 i0 K h; unfold w_takeOf_L2 at h; exact h.elim
  | succ n ih =>
    intro U2 v2_1 v2_2 v2_3 i0 K h
    unfold w_takeOf_L2 at h
    replace K := fun (i : ι × Nat) uo (z : v_takeOf_L2 uo (i.2 + 1) U2 v2_1 v2_2 v2_3) => K i.1 uo ⟨i.2 + 1, z⟩
    have i00 := i0
    replace i0 : ι × Nat := (i0, 0)
    by_cases c : 24 ≤ v2_3.toInt
    · replace h := h.1 c
      replace K := fun i uo z => K i uo (Or.inl ⟨c, z⟩)
      obtain ⟨n9, h⟩ := h
      exact ru_takeOf_L33 n9 i0 K h
    · replace h := h.2 c
      replace K := fun i uo z => K i uo (Or.inr ⟨c, z⟩)
      obtain ⟨g3_, h⟩ := h
      replace K := fun i uo z => K i uo ⟨g3_, z⟩
      obtain ⟨g4_, h⟩ := h
      replace K := fun i uo z => K i uo ⟨g4_, z⟩
      obtain ⟨S17, eS17⟩ : ∃ x9 : MS, x9 = wI U2 25 v2_3.toInt.toNat (vp_nar .byte (qI U2 23 (((((48 : Int32) * v2_1) + v2_3).toInt).toNat))) := ⟨_, rfl⟩
      replace h := h S17 eS17
      replace K := fun i uo z => K i uo ⟨S17, eS17, z⟩
      obtain ⟨a18, ea18⟩ : ∃ x9 : Int32, x9 = (v2_3 + Int32.ofInt 1) := ⟨_, rfl⟩
      replace h := h a18 ea18
      replace K := fun i uo z => K i uo ⟨a18, ea18, z⟩
      exact ih i00 (fun i uo ⟨n8, z⟩ => K (i, n8) uo z) h
set_option maxRecDepth 100000 in
theorem ru_takeOf {S : MS} {x1 : Int32} {x2 : Int32} {Q : MS → Prop} (h : w_takeOf S x1 x2 Q) : ∃ uo, v_takeOf S x1 x2 uo ∧ Q uo := by
  have i0 : Unit := ()
  have K : ∀ (i : Unit) (uo : MS), v_takeOf S x1 x2 uo → v_takeOf S x1 x2 uo := fun _ _ z => z
  unfold w_takeOf at h
  obtain ⟨n9, h⟩ := h
  exact ru_takeOf_L2 n9 i0 K h
set_option maxRecDepth 100000 in
theorem vw_takeOf_L33 {uo : MS} : ∀ (n : Nat) {U33 : MS} {v33_1 : Int32} {v33_2 : Int32} {v33_3 : Int32}, v_takeOf_L33 uo n U33 v33_1 v33_2 v33_3 → w_takeOf_L33 (fun u => u = uo) n U33 v33_1 v33_2 v33_3 := by
  intro n
  induction n with
  | zero => intro U33 v33_1 v33_2 v33_3 h; unfold v_takeOf_L33 at h; exact h.elim
  | succ n ih =>
    intro U33 v33_1 v33_2 v33_3 h
    unfold v_takeOf_L33 at h
    unfold w_takeOf_L33
    rcases h with ⟨c, h⟩ | ⟨c, h⟩
    · refine ⟨fun _ => ?_, fun c2 => absurd c c2⟩
      obtain ⟨v9, e9, h⟩ := h
      intro x9 d9
      have c9 : v9 = x9 := e9.trans d9.symm
      subst c9
      exact h.symm
    · refine ⟨fun c2 => absurd c2 c, fun _ => ?_⟩
      obtain ⟨g9, h⟩ := h
      refine ⟨g9, ?_⟩
      obtain ⟨g9, h⟩ := h
      refine ⟨g9, ?_⟩
      obtain ⟨v9, e9, h⟩ := h
      intro x9 d9
      have c9 : v9 = x9 := e9.trans d9.symm
      subst c9
      obtain ⟨v9, e9, h⟩ := h
      intro x9 d9
      have c9 : v9 = x9 := e9.trans d9.symm
      subst c9
      exact ih h
set_option maxRecDepth 100000 in
theorem vz_takeOf_L33 {uo : MS} {Q : MS → Prop} : ∀ (n m : Nat) {U33 : MS} {v33_1 : Int32} {v33_2 : Int32} {v33_3 : Int32}, v_takeOf_L33 uo n U33 v33_1 v33_2 v33_3 → w_takeOf_L33 Q m U33 v33_1 v33_2 v33_3 → Q uo := by
  intro n
  induction n with
  | zero => intro m U33 v33_1 v33_2 v33_3 h; unfold v_takeOf_L33 at h; exact h.elim
  | succ n ih =>
    intro m U33 v33_1 v33_2 v33_3 h w
    cases m with
    | zero => unfold w_takeOf_L33 at w; exact w.elim
    | succ m =>
      unfold v_takeOf_L33 at h
      unfold w_takeOf_L33 at w
      rcases h with ⟨c, h⟩ | ⟨c, h⟩
      · replace w := w.1 c
        obtain ⟨v9, e9, h⟩ := h
        replace w := w v9 e9
        rw [h]
        exact w
      · replace w := w.2 c
        replace h := h.2
        replace w := w.2
        replace h := h.2
        replace w := w.2
        obtain ⟨v9, e9, h⟩ := h
        replace w := w v9 e9
        obtain ⟨v9, e9, h⟩ := h
        replace w := w v9 e9
        exact ih m h w
set_option maxRecDepth 100000 in
theorem vw_takeOf_L2 {uo : MS} : ∀ (n : Nat) {U2 : MS} {v2_1 : Int32} {v2_2 : Int32} {v2_3 : Int32}, v_takeOf_L2 uo n U2 v2_1 v2_2 v2_3 → w_takeOf_L2 (fun u => u = uo) n U2 v2_1 v2_2 v2_3 := by
  intro n
  induction n with
  | zero => intro U2 v2_1 v2_2 v2_3 h; unfold v_takeOf_L2 at h; exact h.elim
  | succ n ih =>
    intro U2 v2_1 v2_2 v2_3 h
    unfold v_takeOf_L2 at h
    unfold w_takeOf_L2
    rcases h with ⟨c, h⟩ | ⟨c, h⟩
    · refine ⟨fun _ => ?_, fun c2 => absurd c c2⟩
      obtain ⟨n9, h⟩ := h
      exact ⟨n9, vw_takeOf_L33 n9 h⟩
    · refine ⟨fun c2 => absurd c2 c, fun _ => ?_⟩
      obtain ⟨g9, h⟩ := h
      refine ⟨g9, ?_⟩
      obtain ⟨g9, h⟩ := h
      refine ⟨g9, ?_⟩
      obtain ⟨v9, e9, h⟩ := h
      intro x9 d9
      have c9 : v9 = x9 := e9.trans d9.symm
      subst c9
      obtain ⟨v9, e9, h⟩ := h
      intro x9 d9
      have c9 : v9 = x9 := e9.trans d9.symm
      subst c9
      exact ih h
set_option maxRecDepth 100000 in
theorem vz_takeOf_L2 {uo : MS} {Q : MS → Prop} : ∀ (n m : Nat) {U2 : MS} {v2_1 : Int32} {v2_2 : Int32} {v2_3 : Int32}, v_takeOf_L2 uo n U2 v2_1 v2_2 v2_3 → w_takeOf_L2 Q m U2 v2_1 v2_2 v2_3 → Q uo := by
  intro n
  induction n with
  | zero => intro m U2 v2_1 v2_2 v2_3 h; unfold v_takeOf_L2 at h; exact h.elim
  | succ n ih =>
    intro m U2 v2_1 v2_2 v2_3 h w
    cases m with
    | zero => unfold w_takeOf_L2 at w; exact w.elim
    | succ m =>
      unfold v_takeOf_L2 at h
      unfold w_takeOf_L2 at w
      rcases h with ⟨c, h⟩ | ⟨c, h⟩
      · replace w := w.1 c
        obtain ⟨n9, h⟩ := h
        obtain ⟨n8, w⟩ := w
        exact vz_takeOf_L33 n9 n8 h w
      · replace w := w.2 c
        replace h := h.2
        replace w := w.2
        replace h := h.2
        replace w := w.2
        obtain ⟨v9, e9, h⟩ := h
        replace w := w v9 e9
        obtain ⟨v9, e9, h⟩ := h
        replace w := w v9 e9
        exact ih m h w
set_option maxRecDepth 100000 in
theorem vw_takeOf {S : MS} {x1 : Int32} {x2 : Int32} {uo : MS} (h : v_takeOf S x1 x2 uo) : w_takeOf S x1 x2 (fun u => u = uo) := by
  unfold v_takeOf at h
  unfold w_takeOf
  obtain ⟨n9, h⟩ := h
  exact ⟨n9, vw_takeOf_L2 n9 h⟩
set_option maxRecDepth 100000 in
theorem vz_takeOf {S : MS} {x1 : Int32} {x2 : Int32} {uo : MS} {Q : MS → Prop} (h : v_takeOf S x1 x2 uo) (w : w_takeOf S x1 x2 Q) : Q uo := by
  unfold v_takeOf at h
  unfold w_takeOf at w
  obtain ⟨n9, h⟩ := h
  obtain ⟨n8, w⟩ := w
  exact vz_takeOf_L2 n9 n8 h w
def v_push (S : MS) (x1 : Int32) (uo : MS) : Prop := (((0 : Int) ≤ (qI S 0 62).toInt ∧ (qI S 0 62).toInt < 28) ∧ (∃ S2 : MS, S2 = wI S 26 (((qI S 0 62).toInt).toNat) (vp_nar .byte (x1.toInt8.toInt32)) ∧ (∃ S4 : MS, S4 = wI S2 0 62 ((qI S2 0 62) + (1 : Int32)) ∧ (uo = S4))))
set_option maxRecDepth 100000 in
theorem ru_push {S : MS} {x1 : Int32} {Q : MS → Prop} (h : w_push S x1 Q) : ∃ uo, v_push S x1 uo ∧ Q uo := by
  have i0 : Unit := ()
  have K : ∀ (i : Unit) (uo : MS), v_push S x1 uo → v_push S x1 uo := fun _ _ z => z
  unfold w_push at h
  obtain ⟨g1_, h⟩ := h
  replace K := fun i uo z => K i uo ⟨g1_, z⟩
  obtain ⟨S2, eS2⟩ : ∃ x9 : MS, x9 = wI S 26 (((qI S 0 62).toInt).toNat) (vp_nar .byte (x1.toInt8.toInt32)) := ⟨_, rfl⟩
  replace h := h S2 eS2
  replace K := fun i uo z => K i uo ⟨S2, eS2, z⟩
  obtain ⟨S4, eS4⟩ : ∃ x9 : MS, x9 = wI S2 0 62 ((qI S2 0 62) + (1 : Int32)) := ⟨_, rfl⟩
  replace h := h S4 eS4
  replace K := fun i uo z => K i uo ⟨S4, eS4, z⟩
  exact ⟨_, K i0 _ rfl, h⟩
set_option maxRecDepth 100000 in
theorem vw_push {S : MS} {x1 : Int32} {uo : MS} (h : v_push S x1 uo) : w_push S x1 (fun u => u = uo) := by
  unfold v_push at h
  unfold w_push
  obtain ⟨g9, h⟩ := h
  refine ⟨g9, ?_⟩
  obtain ⟨v9, e9, h⟩ := h
  intro x9 d9
  have c9 : v9 = x9 := e9.trans d9.symm
  subst c9
  obtain ⟨v9, e9, h⟩ := h
  intro x9 d9
  have c9 : v9 = x9 := e9.trans d9.symm
  subst c9
  exact h.symm
set_option maxRecDepth 100000 in
theorem vz_push {S : MS} {x1 : Int32} {uo : MS} {Q : MS → Prop} (h : v_push S x1 uo) (w : w_push S x1 Q) : Q uo := by
  unfold v_push at h
  unfold w_push at w
  replace h := h.2
  replace w := w.2
  obtain ⟨v9, e9, h⟩ := h
  replace w := w v9 e9
  obtain ⟨v9, e9, h⟩ := h
  replace w := w v9 e9
  rw [h]
  exact w
def v_giveLetters_J76 (uo : MS) (k2 : MS → Nat → Int32 → Int32 → Prop) (U76 : MS) (v76_1 : Nat) (v76_2 : Int32) (v76_3 : Int32) : Prop := (∃ a6 : Int32, a6 = (v76_3 + Int32.ofInt 1) ∧ (k2 U76 v76_1 v76_2 a6))
def v_giveLetters_J73 (uo : MS) (k2 : MS → Nat → Int32 → Int32 → Prop) (U73 : MS) (t73_0 : Int32) (v73_1 : Nat) (v73_2 : Int32) (v73_3 : Int32) : Prop := (∃ (S9 : MS), v_push U73 t73_0 S9 ∧ (v_giveLetters_J76 uo k2 S9 v73_1 v73_2 v73_3))
def v_giveLetters_L2 (uo : MS) : Nat → MS → Nat → Int32 → Int32 → Prop
  | 0, _, _, _, _ => False
  | n2 + 1, U2, v2_1, v2_2, v2_3 => (((Int32.ofNat (qN U2 (v2_1 + 1))).toInt ≤ v2_3.toInt ∧ (uo = U2)) ∨ (¬ (Int32.ofNat (qN U2 (v2_1 + 1))).toInt ≤ v2_3.toInt ∧ (((0 : Int) ≤ v2_3.toInt ∧ v2_3.toInt < (qN U2 (v2_1 + 1) : Int)) ∧ (∃ a5 : Int32, a5 = (cAt U2 v2_1 v2_3) ∧ ((a5.toInt = 74 ∧ (∃ (S15 : MS), v_push U2 (2 : Int32) S15 ∧ (∃ (S18 : MS), v_push S15 (3 : Int32) S18 ∧ (v_giveLetters_J76 uo (v_giveLetters_L2 uo n2) S18 v2_1 v2_2 v2_3)))) ∨ (¬ a5.toInt = 74 ∧ ((a5.toInt = 73 ∧ (v_giveLetters_J73 uo (v_giveLetters_L2 uo n2) U2 1 v2_1 v2_2 v2_3)) ∨ (¬ a5.toInt = 73 ∧ ((a5.toInt = 65 ∧ (v_giveLetters_J73 uo (v_giveLetters_L2 uo n2) U2 4 v2_1 v2_2 v2_3)) ∨ (¬ a5.toInt = 65 ∧ ((a5.toInt = 78 ∧ (v_giveLetters_J73 uo (v_giveLetters_L2 uo n2) U2 6 v2_1 v2_2 v2_3)) ∨ (¬ a5.toInt = 78 ∧ (v_giveLetters_J73 uo (v_giveLetters_L2 uo n2) U2 v2_2 v2_1 v2_2 v2_3)))))))))))))
def v_giveLetters (S : MS) (p1 : Nat) (x2 : Int32) (uo : MS) : Prop := (∃ n, v_giveLetters_L2 uo n S p1 x2 0)
set_option maxRecDepth 100000 in
theorem ru_giveLetters_J76 {ι : Type} {P : MS → Prop} {Q : MS → Prop} {k2 : MS → Nat → Int32 → Int32 → Prop} {k2v : ι → MS → MS → Nat → Int32 → Int32 → Prop} {U76 : MS} {v76_1 : Nat} {v76_2 : Int32} {v76_3 : Int32} (i0 : ι) (hk2 : ∀ (u : MS) (z0 : Nat) (z1 : Int32) (z2 : Int32), k2 u z0 z1 z2 → (∀ (i : ι) (uo : MS), k2v i uo u z0 z1 z2 → P uo) → ∃ uo, P uo ∧ Q uo) (K : ∀ (i : ι) (uo : MS), v_giveLetters_J76 uo (k2v i uo) U76 v76_1 v76_2 v76_3 → P uo) (h : w_giveLetters_J76 Q k2 U76 v76_1 v76_2 v76_3) : ∃ uo, P uo ∧ Q uo := by
  unfold w_giveLetters_J76 at h
  obtain ⟨a6, ea6⟩ : ∃ x9 : Int32, x9 = (v76_3 + Int32.ofInt 1) := ⟨_, rfl⟩
  replace h := h a6 ea6
  replace K := fun i uo z => K i uo ⟨a6, ea6, z⟩
  exact hk2 _ _ _ _ h K
set_option maxRecDepth 100000 in
theorem ru_giveLetters_J73 {ι : Type} {P : MS → Prop} {Q : MS → Prop} {k2 : MS → Nat → Int32 → Int32 → Prop} {k2v : ι → MS → MS → Nat → Int32 → Int32 → Prop} {U73 : MS} {t73_0 : Int32} {v73_1 : Nat} {v73_2 : Int32} {v73_3 : Int32} (i0 : ι) (hk2 : ∀ (u : MS) (z0 : Nat) (z1 : Int32) (z2 : Int32), k2 u z0 z1 z2 → (∀ (i : ι) (uo : MS), k2v i uo u z0 z1 z2 → P uo) → ∃ uo, P uo ∧ Q uo) (K : ∀ (i : ι) (uo : MS), v_giveLetters_J73 uo (k2v i uo) U73 t73_0 v73_1 v73_2 v73_3 → P uo) (h : w_giveLetters_J73 Q k2 U73 t73_0 v73_1 v73_2 v73_3) : ∃ uo, P uo ∧ Q uo := by
  unfold w_giveLetters_J73 at h
  obtain ⟨Q9, h0, h⟩ := h
  obtain ⟨S9, z9, g9⟩ := ru_push h0
  replace h := h S9 g9
  replace K := fun i uo z => K i uo ⟨S9, z9, z⟩
  exact ru_giveLetters_J76 i0 hk2 K h
set_option maxRecDepth 100000 in
theorem ru_giveLetters_L2 {ι : Type} {P : MS → Prop} {Q : MS → Prop} : ∀ (n : Nat) {U2 : MS} {v2_1 : Nat} {v2_2 : Int32} {v2_3 : Int32} (i0 : ι), (∀ (i : ι) (uo : MS), (∃ n8, v_giveLetters_L2 uo n8 U2 v2_1 v2_2 v2_3) → P uo) → w_giveLetters_L2 Q n U2 v2_1 v2_2 v2_3 → ∃ uo, P uo ∧ Q uo := by
  intro n
  induction n with
  | zero => intro U2 v2_1 v2_2 v2_3 i0 K h; unfold w_giveLetters_L2 at h; exact h.elim
  | succ n ih =>
    intro U2 v2_1 v2_2 v2_3 i0 K h
    unfold w_giveLetters_L2 at h
    replace K := fun (i : ι × Nat) uo (z : v_giveLetters_L2 uo (i.2 + 1) U2 v2_1 v2_2 v2_3) => K i.1 uo ⟨i.2 + 1, z⟩
    have i00 := i0
    replace i0 : ι × Nat := (i0, 0)
    by_cases c : (Int32.ofNat (qN U2 (v2_1 + 1))).toInt ≤ v2_3.toInt
    · replace h := h.1 c
      replace K := fun i uo z => K i uo (Or.inl ⟨c, z⟩)
      exact ⟨_, K i0 _ rfl, h⟩
    · replace h := h.2 c
      replace K := fun i uo z => K i uo (Or.inr ⟨c, z⟩)
      obtain ⟨g1_, h⟩ := h
      replace K := fun i uo z => K i uo ⟨g1_, z⟩
      obtain ⟨a5, ea5⟩ : ∃ x9 : Int32, x9 = (cAt U2 v2_1 v2_3) := ⟨_, rfl⟩
      replace h := h a5 ea5
      replace K := fun i uo z => K i uo ⟨a5, ea5, z⟩
      by_cases c : a5.toInt = 74
      · replace h := h.1 c
        replace K := fun i uo z => K i uo (Or.inl ⟨c, z⟩)
        obtain ⟨Q9, h0, h⟩ := h
        obtain ⟨S15, z9, g9⟩ := ru_push h0
        replace h := h S15 g9
        replace K := fun i uo z => K i uo ⟨S15, z9, z⟩
        obtain ⟨Q9, h0, h⟩ := h
        obtain ⟨S18, z9, g9⟩ := ru_push h0
        replace h := h S18 g9
        replace K := fun i uo z => K i uo ⟨S18, z9, z⟩
        exact ru_giveLetters_J76 i0 (fun _ _ _ _ h K => ih i00 (fun i uo ⟨n8, z⟩ => K (i, n8) uo z) h) K h
      · replace h := h.2 c
        replace K := fun i uo z => K i uo (Or.inr ⟨c, z⟩)
        by_cases c : a5.toInt = 73
        · replace h := h.1 c
          replace K := fun i uo z => K i uo (Or.inl ⟨c, z⟩)
          exact ru_giveLetters_J73 i0 (fun _ _ _ _ h K => ih i00 (fun i uo ⟨n8, z⟩ => K (i, n8) uo z) h) K h
        · replace h := h.2 c
          replace K := fun i uo z => K i uo (Or.inr ⟨c, z⟩)
          by_cases c : a5.toInt = 65
          · replace h := h.1 c
            replace K := fun i uo z => K i uo (Or.inl ⟨c, z⟩)
            exact ru_giveLetters_J73 i0 (fun _ _ _ _ h K => ih i00 (fun i uo ⟨n8, z⟩ => K (i, n8) uo z) h) K h
          · replace h := h.2 c
            replace K := fun i uo z => K i uo (Or.inr ⟨c, z⟩)
            by_cases c : a5.toInt = 78
            · replace h := h.1 c
              replace K := fun i uo z => K i uo (Or.inl ⟨c, z⟩)
              exact ru_giveLetters_J73 i0 (fun _ _ _ _ h K => ih i00 (fun i uo ⟨n8, z⟩ => K (i, n8) uo z) h) K h
            · replace h := h.2 c
              replace K := fun i uo z => K i uo (Or.inr ⟨c, z⟩)
              exact ru_giveLetters_J73 i0 (fun _ _ _ _ h K => ih i00 (fun i uo ⟨n8, z⟩ => K (i, n8) uo z) h) K h
set_option maxRecDepth 100000 in
theorem ru_giveLetters {S : MS} {p1 : Nat} {x2 : Int32} {Q : MS → Prop} (h : w_giveLetters S p1 x2 Q) : ∃ uo, v_giveLetters S p1 x2 uo ∧ Q uo := by
  have i0 : Unit := ()
  have K : ∀ (i : Unit) (uo : MS), v_giveLetters S p1 x2 uo → v_giveLetters S p1 x2 uo := fun _ _ z => z
  unfold w_giveLetters at h
  obtain ⟨n9, h⟩ := h
  exact ru_giveLetters_L2 n9 i0 K h
set_option maxRecDepth 100000 in
theorem vw_giveLetters_J76 {uo : MS} {k2 k2v : MS → Nat → Int32 → Int32 → Prop} {U76 : MS} {v76_1 : Nat} {v76_2 : Int32} {v76_3 : Int32} (hk2 : ∀ (u : MS) (z0 : Nat) (z1 : Int32) (z2 : Int32), k2v u z0 z1 z2 → k2 u z0 z1 z2) (h : v_giveLetters_J76 uo k2v U76 v76_1 v76_2 v76_3) : w_giveLetters_J76 (fun u => u = uo) k2 U76 v76_1 v76_2 v76_3 := by
  unfold v_giveLetters_J76 at h
  unfold w_giveLetters_J76
  obtain ⟨v9, e9, h⟩ := h
  intro x9 d9
  have c9 : v9 = x9 := e9.trans d9.symm
  subst c9
  exact hk2 _ _ _ _ h
set_option maxRecDepth 100000 in
theorem vz_giveLetters_J76 {uo : MS} {Q : MS → Prop} {k2 k2v : MS → Nat → Int32 → Int32 → Prop} {U76 : MS} {v76_1 : Nat} {v76_2 : Int32} {v76_3 : Int32} (hk2 : ∀ (u : MS) (z0 : Nat) (z1 : Int32) (z2 : Int32), k2v u z0 z1 z2 → k2 u z0 z1 z2 → Q uo) (h : v_giveLetters_J76 uo k2v U76 v76_1 v76_2 v76_3) (w : w_giveLetters_J76 Q k2 U76 v76_1 v76_2 v76_3) : Q uo := by
  unfold v_giveLetters_J76 at h
  unfold w_giveLetters_J76 at w
  obtain ⟨v9, e9, h⟩ := h
  replace w := w v9 e9
  exact hk2 _ _ _ _ h w
set_option maxRecDepth 100000 in
theorem vw_giveLetters_J73 {uo : MS} {k2 k2v : MS → Nat → Int32 → Int32 → Prop} {U73 : MS} {t73_0 : Int32} {v73_1 : Nat} {v73_2 : Int32} {v73_3 : Int32} (hk2 : ∀ (u : MS) (z0 : Nat) (z1 : Int32) (z2 : Int32), k2v u z0 z1 z2 → k2 u z0 z1 z2) (h : v_giveLetters_J73 uo k2v U73 t73_0 v73_1 v73_2 v73_3) : w_giveLetters_J73 (fun u => u = uo) k2 U73 t73_0 v73_1 v73_2 v73_3 := by
  unfold v_giveLetters_J73 at h
  unfold w_giveLetters_J73
  obtain ⟨q9, z9, h⟩ := h
  refine ⟨_, vw_push z9, ?_⟩
  intro q8 d9
  subst d9
  exact vw_giveLetters_J76 hk2 h
set_option maxRecDepth 100000 in
theorem vz_giveLetters_J73 {uo : MS} {Q : MS → Prop} {k2 k2v : MS → Nat → Int32 → Int32 → Prop} {U73 : MS} {t73_0 : Int32} {v73_1 : Nat} {v73_2 : Int32} {v73_3 : Int32} (hk2 : ∀ (u : MS) (z0 : Nat) (z1 : Int32) (z2 : Int32), k2v u z0 z1 z2 → k2 u z0 z1 z2 → Q uo) (h : v_giveLetters_J73 uo k2v U73 t73_0 v73_1 v73_2 v73_3) (w : w_giveLetters_J73 Q k2 U73 t73_0 v73_1 v73_2 v73_3) : Q uo := by
  unfold v_giveLetters_J73 at h
  unfold w_giveLetters_J73 at w
  obtain ⟨q9, z9, h⟩ := h
  obtain ⟨Q9, w0, w⟩ := w
  replace w := w q9 (vz_push z9 w0)
  exact vz_giveLetters_J76 hk2 h w
set_option maxRecDepth 100000 in
theorem vw_giveLetters_L2 {uo : MS} : ∀ (n : Nat) {U2 : MS} {v2_1 : Nat} {v2_2 : Int32} {v2_3 : Int32}, v_giveLetters_L2 uo n U2 v2_1 v2_2 v2_3 → w_giveLetters_L2 (fun u => u = uo) n U2 v2_1 v2_2 v2_3 := by
  intro n
  induction n with
  | zero => intro U2 v2_1 v2_2 v2_3 h; unfold v_giveLetters_L2 at h; exact h.elim
  | succ n ih =>
    intro U2 v2_1 v2_2 v2_3 h
    unfold v_giveLetters_L2 at h
    unfold w_giveLetters_L2
    rcases h with ⟨c, h⟩ | ⟨c, h⟩
    · refine ⟨fun _ => ?_, fun c2 => absurd c c2⟩
      exact h.symm
    · refine ⟨fun c2 => absurd c2 c, fun _ => ?_⟩
      obtain ⟨g9, h⟩ := h
      refine ⟨g9, ?_⟩
      obtain ⟨v9, e9, h⟩ := h
      intro x9 d9
      have c9 : v9 = x9 := e9.trans d9.symm
      subst c9
      rcases h with ⟨c, h⟩ | ⟨c, h⟩
      · refine ⟨fun _ => ?_, fun c2 => absurd c c2⟩
        obtain ⟨q9, z9, h⟩ := h
        refine ⟨_, vw_push z9, ?_⟩
        intro q8 d9
        subst d9
        obtain ⟨q9, z9, h⟩ := h
        refine ⟨_, vw_push z9, ?_⟩
        intro q8 d9
        subst d9
        exact vw_giveLetters_J76 (fun _ _ _ _ h => ih h) h
      · refine ⟨fun c2 => absurd c2 c, fun _ => ?_⟩
        rcases h with ⟨c, h⟩ | ⟨c, h⟩
        · refine ⟨fun _ => ?_, fun c2 => absurd c c2⟩
          exact vw_giveLetters_J73 (fun _ _ _ _ h => ih h) h
        · refine ⟨fun c2 => absurd c2 c, fun _ => ?_⟩
          rcases h with ⟨c, h⟩ | ⟨c, h⟩
          · refine ⟨fun _ => ?_, fun c2 => absurd c c2⟩
            exact vw_giveLetters_J73 (fun _ _ _ _ h => ih h) h
          · refine ⟨fun c2 => absurd c2 c, fun _ => ?_⟩
            rcases h with ⟨c, h⟩ | ⟨c, h⟩
            · refine ⟨fun _ => ?_, fun c2 => absurd c c2⟩
              exact vw_giveLetters_J73 (fun _ _ _ _ h => ih h) h
            · refine ⟨fun c2 => absurd c2 c, fun _ => ?_⟩
              exact vw_giveLetters_J73 (fun _ _ _ _ h => ih h) h
set_option maxRecDepth 100000 in
theorem vz_giveLetters_L2 {uo : MS} {Q : MS → Prop} : ∀ (n m : Nat) {U2 : MS} {v2_1 : Nat} {v2_2 : Int32} {v2_3 : Int32}, v_giveLetters_L2 uo n U2 v2_1 v2_2 v2_3 → w_giveLetters_L2 Q m U2 v2_1 v2_2 v2_3 → Q uo := by
  intro n
  induction n with
  | zero => intro m U2 v2_1 v2_2 v2_3 h; unfold v_giveLetters_L2 at h; exact h.elim
  | succ n ih =>
    intro m U2 v2_1 v2_2 v2_3 h w
    cases m with
    | zero => unfold w_giveLetters_L2 at w; exact w.elim
    | succ m =>
      unfold v_giveLetters_L2 at h
      unfold w_giveLetters_L2 at w
      rcases h with ⟨c, h⟩ | ⟨c, h⟩
      · replace w := w.1 c
        rw [h]
        exact w
      · replace w := w.2 c
        replace h := h.2
        replace w := w.2
        obtain ⟨v9, e9, h⟩ := h
        replace w := w v9 e9
        rcases h with ⟨c, h⟩ | ⟨c, h⟩
        · replace w := w.1 c
          obtain ⟨q9, z9, h⟩ := h
          obtain ⟨Q9, w0, w⟩ := w
          replace w := w q9 (vz_push z9 w0)
          obtain ⟨q9, z9, h⟩ := h
          obtain ⟨Q9, w0, w⟩ := w
          replace w := w q9 (vz_push z9 w0)
          exact vz_giveLetters_J76 (fun _ _ _ _ h w => ih m h w) h w
        · replace w := w.2 c
          rcases h with ⟨c, h⟩ | ⟨c, h⟩
          · replace w := w.1 c
            exact vz_giveLetters_J73 (fun _ _ _ _ h w => ih m h w) h w
          · replace w := w.2 c
            rcases h with ⟨c, h⟩ | ⟨c, h⟩
            · replace w := w.1 c
              exact vz_giveLetters_J73 (fun _ _ _ _ h w => ih m h w) h w
            · replace w := w.2 c
              rcases h with ⟨c, h⟩ | ⟨c, h⟩
              · replace w := w.1 c
                exact vz_giveLetters_J73 (fun _ _ _ _ h w => ih m h w) h w
              · replace w := w.2 c
                exact vz_giveLetters_J73 (fun _ _ _ _ h w => ih m h w) h w
set_option maxRecDepth 100000 in
theorem vw_giveLetters {S : MS} {p1 : Nat} {x2 : Int32} {uo : MS} (h : v_giveLetters S p1 x2 uo) : w_giveLetters S p1 x2 (fun u => u = uo) := by
  unfold v_giveLetters at h
  unfold w_giveLetters
  obtain ⟨n9, h⟩ := h
  exact ⟨n9, vw_giveLetters_L2 n9 h⟩
set_option maxRecDepth 100000 in
theorem vz_giveLetters {S : MS} {p1 : Nat} {x2 : Int32} {uo : MS} {Q : MS → Prop} (h : v_giveLetters S p1 x2 uo) (w : w_giveLetters S p1 x2 Q) : Q uo := by
  unfold v_giveLetters at h
  unfold w_giveLetters at w
  obtain ⟨n9, h⟩ := h
  obtain ⟨n8, w⟩ := w
  exact vz_giveLetters_L2 n9 n8 h w
def v_need_J16 (uo : MS) (U16 : MS) : Prop := (∃ S1 : MS, S1 = wI U16 0 63 0 ∧ (uo = S1))
def v_need (S : MS) (x1 : Int32) (uo : MS) : Prop := (((qI S 0 63).toInt = 0 ∧ (v_need_J16 uo S)) ∨ (¬ (qI S 0 63).toInt = 0 ∧ ((x1.toInt = 0 ∧ (v_need_J16 uo S)) ∨ (¬ x1.toInt = 0 ∧ (∃ S4 : MS, S4 = wI S 0 63 1 ∧ (uo = S4))))))
set_option maxRecDepth 100000 in
theorem ru_need_J16 {ι : Type} {P : MS → Prop} {Q : MS → Prop} {U16 : MS} (i0 : ι) (K : ∀ (i : ι) (uo : MS), v_need_J16 uo U16 → P uo) (h : w_need_J16 Q U16) : ∃ uo, P uo ∧ Q uo := by
  unfold w_need_J16 at h
  obtain ⟨S1, eS1⟩ : ∃ x9 : MS, x9 = wI U16 0 63 0 := ⟨_, rfl⟩
  replace h := h S1 eS1
  replace K := fun i uo z => K i uo ⟨S1, eS1, z⟩
  exact ⟨_, K i0 _ rfl, h⟩
set_option maxRecDepth 100000 in
theorem ru_need {S : MS} {x1 : Int32} {Q : MS → Prop} (h : w_need S x1 Q) : ∃ uo, v_need S x1 uo ∧ Q uo := by
  have i0 : Unit := ()
  have K : ∀ (i : Unit) (uo : MS), v_need S x1 uo → v_need S x1 uo := fun _ _ z => z
  unfold w_need at h
  by_cases c : (qI S 0 63).toInt = 0
  · replace h := h.1 c
    replace K := fun i uo z => K i uo (Or.inl ⟨c, z⟩)
    exact ru_need_J16 i0 K h
  · replace h := h.2 c
    replace K := fun i uo z => K i uo (Or.inr ⟨c, z⟩)
    by_cases c : x1.toInt = 0
    · replace h := h.1 c
      replace K := fun i uo z => K i uo (Or.inl ⟨c, z⟩)
      exact ru_need_J16 i0 K h
    · replace h := h.2 c
      replace K := fun i uo z => K i uo (Or.inr ⟨c, z⟩)
      obtain ⟨S4, eS4⟩ : ∃ x9 : MS, x9 = wI S 0 63 1 := ⟨_, rfl⟩
      replace h := h S4 eS4
      replace K := fun i uo z => K i uo ⟨S4, eS4, z⟩
      exact ⟨_, K i0 _ rfl, h⟩
set_option maxRecDepth 100000 in
theorem vw_need_J16 {uo : MS} {U16 : MS} (h : v_need_J16 uo U16) : w_need_J16 (fun u => u = uo) U16 := by
  unfold v_need_J16 at h
  unfold w_need_J16
  obtain ⟨v9, e9, h⟩ := h
  intro x9 d9
  have c9 : v9 = x9 := e9.trans d9.symm
  subst c9
  exact h.symm
set_option maxRecDepth 100000 in
theorem vz_need_J16 {uo : MS} {Q : MS → Prop} {U16 : MS} (h : v_need_J16 uo U16) (w : w_need_J16 Q U16) : Q uo := by
  unfold v_need_J16 at h
  unfold w_need_J16 at w
  obtain ⟨v9, e9, h⟩ := h
  replace w := w v9 e9
  rw [h]
  exact w
set_option maxRecDepth 100000 in
theorem vw_need {S : MS} {x1 : Int32} {uo : MS} (h : v_need S x1 uo) : w_need S x1 (fun u => u = uo) := by
  unfold v_need at h
  unfold w_need
  rcases h with ⟨c, h⟩ | ⟨c, h⟩
  · refine ⟨fun _ => ?_, fun c2 => absurd c c2⟩
    exact vw_need_J16 h
  · refine ⟨fun c2 => absurd c2 c, fun _ => ?_⟩
    rcases h with ⟨c, h⟩ | ⟨c, h⟩
    · refine ⟨fun _ => ?_, fun c2 => absurd c c2⟩
      exact vw_need_J16 h
    · refine ⟨fun c2 => absurd c2 c, fun _ => ?_⟩
      obtain ⟨v9, e9, h⟩ := h
      intro x9 d9
      have c9 : v9 = x9 := e9.trans d9.symm
      subst c9
      exact h.symm
set_option maxRecDepth 100000 in
theorem vz_need {S : MS} {x1 : Int32} {uo : MS} {Q : MS → Prop} (h : v_need S x1 uo) (w : w_need S x1 Q) : Q uo := by
  unfold v_need at h
  unfold w_need at w
  rcases h with ⟨c, h⟩ | ⟨c, h⟩
  · replace w := w.1 c
    exact vz_need_J16 h w
  · replace w := w.2 c
    rcases h with ⟨c, h⟩ | ⟨c, h⟩
    · replace w := w.1 c
      exact vz_need_J16 h w
    · replace w := w.2 c
      obtain ⟨v9, e9, h⟩ := h
      replace w := w v9 e9
      rw [h]
      exact w
def v_pull (S : MS) (ro : Int32) (uo : MS) : Prop := (∃ S2 : MS, S2 = wI S 0 62 ((qI S 0 62) - (1 : Int32)) ∧ (((0 : Int) ≤ (qI S2 0 62).toInt ∧ (qI S2 0 62).toInt < 28) ∧ (ro = (qI S2 26 (((qI S2 0 62).toInt).toNat)) ∧ uo = S2)))
set_option maxRecDepth 100000 in
theorem ru_pull {S : MS} {Q : Int32 → MS → Prop} (h : w_pull S Q) : ∃ ro uo, v_pull S ro uo ∧ Q ro uo := by
  have i0 : Unit := ()
  have K : ∀ (i : Unit) (ro : Int32) (uo : MS), v_pull S ro uo → v_pull S ro uo := fun _ _ _ z => z
  unfold w_pull at h
  obtain ⟨S2, eS2⟩ : ∃ x9 : MS, x9 = wI S 0 62 ((qI S 0 62) - (1 : Int32)) := ⟨_, rfl⟩
  replace h := h S2 eS2
  replace K := fun i ro uo z => K i ro uo ⟨S2, eS2, z⟩
  obtain ⟨g1_, h⟩ := h
  replace K := fun i ro uo z => K i ro uo ⟨g1_, z⟩
  exact ⟨_, _, K i0 _ _ ⟨rfl, rfl⟩, h⟩
set_option maxRecDepth 100000 in
theorem vw_pull {S : MS} {ro : Int32} {uo : MS} (h : v_pull S ro uo) : w_pull S (fun r u => r = ro ∧ u = uo) := by
  unfold v_pull at h
  unfold w_pull
  obtain ⟨v9, e9, h⟩ := h
  intro x9 d9
  have c9 : v9 = x9 := e9.trans d9.symm
  subst c9
  obtain ⟨g9, h⟩ := h
  refine ⟨g9, ?_⟩
  exact ⟨h.1.symm, h.2.symm⟩
set_option maxRecDepth 100000 in
theorem vz_pull {S : MS} {ro : Int32} {uo : MS} {Q : Int32 → MS → Prop} (h : v_pull S ro uo) (w : w_pull S Q) : Q ro uo := by
  unfold v_pull at h
  unfold w_pull at w
  obtain ⟨v9, e9, h⟩ := h
  replace w := w v9 e9
  replace h := h.2
  replace w := w.2
  rw [h.1, h.2]
  exact w
def v_move_J194 (uo : MS) (U194 : MS) (v194_2 : Int32) : Prop := (∃ (S14 : MS), v_push U194 v194_2 S14 ∧ (uo = S14))
def v_move_J182 (uo : MS) (U182 : MS) (v182_1 : Int32) (v182_2 : Int32) : Prop := ((v182_1.toInt = 92 ∧ (v_move_J194 uo U182 v182_2)) ∨ (¬ v182_1.toInt = 92 ∧ ((v182_1.toInt = 89 ∧ (v_move_J194 uo U182 v182_2)) ∨ (¬ v182_1.toInt = 89 ∧ (uo = U182)))))
def v_move_J171 (uo : MS) (U171 : MS) (v171_1 : Int32) (v171_2 : Int32) (v171_3 : Int32) : Prop := ((v171_1.toInt = 92 ∧ (∃ (S20 : MS), v_push U171 v171_3 S20 ∧ (v_move_J182 uo S20 v171_1 v171_2))) ∨ (¬ v171_1.toInt = 92 ∧ (v_move_J182 uo U171 v171_1 v171_2)))
def v_move_J160 (uo : MS) (U160 : MS) (v160_1 : Int32) (v160_2 : Int32) (v160_3 : Int32) : Prop := ((v160_1.toInt = 95 ∧ (v_move_J171 uo U160 v160_1 v160_2 v160_3)) ∨ (¬ v160_1.toInt = 95 ∧ (∃ (S24 : MS), v_push U160 v160_2 S24 ∧ (v_move_J171 uo S24 v160_1 v160_2 v160_3))))
def v_move_J155 (uo : MS) (U155 : MS) (v155_1 : Int32) (v155_2 : Int32) (v155_3 : Int32) : Prop := (∃ (S27 : MS), v_push U155 v155_3 S27 ∧ (v_move_J160 uo S27 v155_1 v155_2 v155_3))
def v_move_J137 (uo : MS) (U137 : MS) (v137_1 : Int32) (v137_2 : Int32) (v137_3 : Int32) : Prop := ((v137_1.toInt = 92 ∧ (v_move_J155 uo U137 v137_1 v137_2 v137_3)) ∨ (¬ v137_1.toInt = 92 ∧ ((v137_1.toInt = 90 ∧ (v_move_J155 uo U137 v137_1 v137_2 v137_3)) ∨ (¬ v137_1.toInt = 90 ∧ ((v137_1.toInt = 95 ∧ (v_move_J155 uo U137 v137_1 v137_2 v137_3)) ∨ (¬ v137_1.toInt = 95 ∧ (v_move_J160 uo U137 v137_1 v137_2 v137_3)))))))
def v_move_J132 (uo : MS) (U132 : MS) (v132_1 : Int32) (v132_2 : Int32) (v132_3 : Int32) : Prop := (∃ (S33 : MS), v_push U132 v132_2 S33 ∧ (v_move_J137 uo S33 v132_1 v132_2 v132_3))
def v_move_J107 (uo : MS) (U107 : MS) (v107_1 : Int32) (v107_2 : Int32) (v107_3 : Int32) : Prop := ((v107_1.toInt = 87 ∧ (uo = U107)) ∨ (¬ v107_1.toInt = 87 ∧ ((v107_1.toInt = 88 ∧ (uo = U107)) ∨ (¬ v107_1.toInt = 88 ∧ ((v107_1.toInt = 90 ∧ (v_move_J132 uo U107 v107_1 v107_2 v107_3)) ∨ (¬ v107_1.toInt = 90 ∧ ((v107_1.toInt = 95 ∧ (v_move_J132 uo U107 v107_1 v107_2 v107_3)) ∨ (¬ v107_1.toInt = 95 ∧ (v_move_J137 uo U107 v107_1 v107_2 v107_3)))))))))
def v_move_J93 (uo : MS) (U93 : MS) (v93_1 : Int32) (v93_2 : Int32) (v93_3 : Int32) (v93_4 : Int32) : Prop := ((v93_4.toInt = 0 ∧ (d_isOne U93 v93_2 ∧ (((f_isOne U93 v93_2).toInt = 0 ∧ (v_move_J107 uo U93 v93_1 0 v93_3)) ∨ (¬ (f_isOne U93 v93_2).toInt = 0 ∧ (v_move_J107 uo U93 v93_1 v93_2 v93_3))))) ∨ (¬ v93_4.toInt = 0 ∧ (v_move_J107 uo U93 v93_1 v93_2 v93_3)))
def v_move_J76 (uo : MS) (U76 : MS) (t76_0 : Int32) (v76_1 : Int32) (v76_2 : Int32) (v76_3 : Int32) (v76_4 : Int32) : Prop := (∃ (S9 : MS), v_need U76 t76_0 S9 ∧ ((v76_4.toInt = 0 ∧ (d_isOne S9 v76_3 ∧ (((f_isOne S9 v76_3).toInt = 0 ∧ (v_move_J93 uo S9 v76_1 v76_2 0 v76_4)) ∨ (¬ (f_isOne S9 v76_3).toInt = 0 ∧ (v_move_J93 uo S9 v76_1 v76_2 v76_3 v76_4))))) ∨ (¬ v76_4.toInt = 0 ∧ (v_move_J93 uo S9 v76_1 v76_2 v76_3 v76_4))))
def v_move_J71 (uo : MS) (U71 : MS) (v71_1 : Int32) (v71_2 : Int32) (v71_3 : Int32) (v71_4 : Int32) : Prop := (v_move_J76 uo U71 1 v71_1 v71_2 v71_3 v71_4)
def v_move_J75 (uo : MS) (U75 : MS) (v75_1 : Int32) (v75_2 : Int32) (v75_3 : Int32) (v75_4 : Int32) : Prop := (v_move_J76 uo U75 0 v75_1 v75_2 v75_3 v75_4)
def v_move_J49 (uo : MS) (U49 : MS) (t49_0 : Int32) (v49_1 : Int32) (v49_2 : Int32) (v49_3 : Int32) : Prop := ((t49_0.toInt = 0 ∧ (d_isOne U49 v49_3 ∧ (((f_isOne U49 v49_3).toInt = 0 ∧ (v_move_J75 uo U49 v49_1 v49_2 v49_3 t49_0)) ∨ (¬ (f_isOne U49 v49_3).toInt = 0 ∧ (d_isOne U49 v49_2 ∧ (((f_isOne U49 v49_2).toInt = 0 ∧ (v_move_J75 uo U49 v49_1 v49_2 v49_3 t49_0)) ∨ (¬ (f_isOne U49 v49_2).toInt = 0 ∧ (v_move_J71 uo U49 v49_1 v49_2 v49_3 t49_0)))))))) ∨ (¬ t49_0.toInt = 0 ∧ (v_move_J71 uo U49 v49_1 v49_2 v49_3 t49_0)))
def v_move_J48 (uo : MS) (U48 : MS) (v48_1 : Int32) (v48_2 : Int32) (v48_3 : Int32) : Prop := (v_move_J49 uo U48 0 v48_1 v48_2 v48_3)
def v_move_J34 (uo : MS) (U34 : MS) (v34_1 : Int32) (v34_2 : Int32) (v34_3 : Int32) : Prop := ((v34_3.toInt = 2 ∧ ((v34_2.toInt = 3 ∧ (v_move_J49 uo U34 1 v34_1 v34_2 v34_3)) ∨ (¬ v34_2.toInt = 3 ∧ (v_move_J48 uo U34 v34_1 v34_2 v34_3)))) ∨ (¬ v34_3.toInt = 2 ∧ (v_move_J48 uo U34 v34_1 v34_2 v34_3)))
def v_move_J21 (uo : MS) (U21 : MS) (t21_0 : Int32) (v21_1 : Int32) (v21_2 : Int32) : Prop := ((v21_1.toInt = 88 ∧ (v_move_J34 uo U21 v21_1 v21_2 t21_0)) ∨ (¬ v21_1.toInt = 88 ∧ ((v21_1.toInt = 92 ∧ (v_move_J34 uo U21 v21_1 v21_2 t21_0)) ∨ (¬ v21_1.toInt = 92 ∧ (v_move_J48 uo U21 v21_1 v21_2 t21_0)))))
def v_move (S : MS) (x1 : Int32) (uo : MS) : Prop := (∃ (r2 : Int32) (S3 : MS), v_pull S r2 S3 ∧ (d_moved S3 x1 ∧ (((f_moved S3 x1).toInt = 2 ∧ (∃ (r62 : Int32) (S63 : MS), v_pull S3 r62 S63 ∧ (v_move_J21 uo S63 r62 x1 r2))) ∨ (¬ (f_moved S3 x1).toInt = 2 ∧ (v_move_J21 uo S3 1 x1 r2)))))
set_option maxRecDepth 100000 in
theorem ru_move_J194 {ι : Type} {P : MS → Prop} {Q : MS → Prop} {U194 : MS} {v194_2 : Int32} (i0 : ι) (K : ∀ (i : ι) (uo : MS), v_move_J194 uo U194 v194_2 → P uo) (h : w_move_J194 Q U194 v194_2) : ∃ uo, P uo ∧ Q uo := by
  unfold w_move_J194 at h
  obtain ⟨Q9, h0, h⟩ := h
  obtain ⟨S14, z9, g9⟩ := ru_push h0
  replace h := h S14 g9
  replace K := fun i uo z => K i uo ⟨S14, z9, z⟩
  exact ⟨_, K i0 _ rfl, h⟩
set_option maxRecDepth 100000 in
theorem ru_move_J182 {ι : Type} {P : MS → Prop} {Q : MS → Prop} {U182 : MS} {v182_1 : Int32} {v182_2 : Int32} (i0 : ι) (K : ∀ (i : ι) (uo : MS), v_move_J182 uo U182 v182_1 v182_2 → P uo) (h : w_move_J182 Q U182 v182_1 v182_2) : ∃ uo, P uo ∧ Q uo := by
  unfold w_move_J182 at h
  by_cases c : v182_1.toInt = 92
  · replace h := h.1 c
    replace K := fun i uo z => K i uo (Or.inl ⟨c, z⟩)
    exact ru_move_J194 i0 K h
  · replace h := h.2 c
    replace K := fun i uo z => K i uo (Or.inr ⟨c, z⟩)
    by_cases c : v182_1.toInt = 89
    · replace h := h.1 c
      replace K := fun i uo z => K i uo (Or.inl ⟨c, z⟩)
      exact ru_move_J194 i0 K h
    · replace h := h.2 c
      replace K := fun i uo z => K i uo (Or.inr ⟨c, z⟩)
      exact ⟨_, K i0 _ rfl, h⟩
set_option maxRecDepth 100000 in
theorem ru_move_J171 {ι : Type} {P : MS → Prop} {Q : MS → Prop} {U171 : MS} {v171_1 : Int32} {v171_2 : Int32} {v171_3 : Int32} (i0 : ι) (K : ∀ (i : ι) (uo : MS), v_move_J171 uo U171 v171_1 v171_2 v171_3 → P uo) (h : w_move_J171 Q U171 v171_1 v171_2 v171_3) : ∃ uo, P uo ∧ Q uo := by
  unfold w_move_J171 at h
  by_cases c : v171_1.toInt = 92
  · replace h := h.1 c
    replace K := fun i uo z => K i uo (Or.inl ⟨c, z⟩)
    obtain ⟨Q9, h0, h⟩ := h
    obtain ⟨S20, z9, g9⟩ := ru_push h0
    replace h := h S20 g9
    replace K := fun i uo z => K i uo ⟨S20, z9, z⟩
    exact ru_move_J182 i0 K h
  · replace h := h.2 c
    replace K := fun i uo z => K i uo (Or.inr ⟨c, z⟩)
    exact ru_move_J182 i0 K h
set_option maxRecDepth 100000 in
theorem ru_move_J160 {ι : Type} {P : MS → Prop} {Q : MS → Prop} {U160 : MS} {v160_1 : Int32} {v160_2 : Int32} {v160_3 : Int32} (i0 : ι) (K : ∀ (i : ι) (uo : MS), v_move_J160 uo U160 v160_1 v160_2 v160_3 → P uo) (h : w_move_J160 Q U160 v160_1 v160_2 v160_3) : ∃ uo, P uo ∧ Q uo := by
  unfold w_move_J160 at h
  by_cases c : v160_1.toInt = 95
  · replace h := h.1 c
    replace K := fun i uo z => K i uo (Or.inl ⟨c, z⟩)
    exact ru_move_J171 i0 K h
  · replace h := h.2 c
    replace K := fun i uo z => K i uo (Or.inr ⟨c, z⟩)
    obtain ⟨Q9, h0, h⟩ := h
    obtain ⟨S24, z9, g9⟩ := ru_push h0
    replace h := h S24 g9
    replace K := fun i uo z => K i uo ⟨S24, z9, z⟩
    exact ru_move_J171 i0 K h
set_option maxRecDepth 100000 in
theorem ru_move_J155 {ι : Type} {P : MS → Prop} {Q : MS → Prop} {U155 : MS} {v155_1 : Int32} {v155_2 : Int32} {v155_3 : Int32} (i0 : ι) (K : ∀ (i : ι) (uo : MS), v_move_J155 uo U155 v155_1 v155_2 v155_3 → P uo) (h : w_move_J155 Q U155 v155_1 v155_2 v155_3) : ∃ uo, P uo ∧ Q uo := by
  unfold w_move_J155 at h
  obtain ⟨Q9, h0, h⟩ := h
  obtain ⟨S27, z9, g9⟩ := ru_push h0
  replace h := h S27 g9
  replace K := fun i uo z => K i uo ⟨S27, z9, z⟩
  exact ru_move_J160 i0 K h
set_option maxRecDepth 100000 in
theorem ru_move_J137 {ι : Type} {P : MS → Prop} {Q : MS → Prop} {U137 : MS} {v137_1 : Int32} {v137_2 : Int32} {v137_3 : Int32} (i0 : ι) (K : ∀ (i : ι) (uo : MS), v_move_J137 uo U137 v137_1 v137_2 v137_3 → P uo) (h : w_move_J137 Q U137 v137_1 v137_2 v137_3) : ∃ uo, P uo ∧ Q uo := by
  unfold w_move_J137 at h
  by_cases c : v137_1.toInt = 92
  · replace h := h.1 c
    replace K := fun i uo z => K i uo (Or.inl ⟨c, z⟩)
    exact ru_move_J155 i0 K h
  · replace h := h.2 c
    replace K := fun i uo z => K i uo (Or.inr ⟨c, z⟩)
    by_cases c : v137_1.toInt = 90
    · replace h := h.1 c
      replace K := fun i uo z => K i uo (Or.inl ⟨c, z⟩)
      exact ru_move_J155 i0 K h
    · replace h := h.2 c
      replace K := fun i uo z => K i uo (Or.inr ⟨c, z⟩)
      by_cases c : v137_1.toInt = 95
      · replace h := h.1 c
        replace K := fun i uo z => K i uo (Or.inl ⟨c, z⟩)
        exact ru_move_J155 i0 K h
      · replace h := h.2 c
        replace K := fun i uo z => K i uo (Or.inr ⟨c, z⟩)
        exact ru_move_J160 i0 K h
set_option maxRecDepth 100000 in
theorem ru_move_J132 {ι : Type} {P : MS → Prop} {Q : MS → Prop} {U132 : MS} {v132_1 : Int32} {v132_2 : Int32} {v132_3 : Int32} (i0 : ι) (K : ∀ (i : ι) (uo : MS), v_move_J132 uo U132 v132_1 v132_2 v132_3 → P uo) (h : w_move_J132 Q U132 v132_1 v132_2 v132_3) : ∃ uo, P uo ∧ Q uo := by
  unfold w_move_J132 at h
  obtain ⟨Q9, h0, h⟩ := h
  obtain ⟨S33, z9, g9⟩ := ru_push h0
  replace h := h S33 g9
  replace K := fun i uo z => K i uo ⟨S33, z9, z⟩
  exact ru_move_J137 i0 K h
set_option maxRecDepth 100000 in
theorem ru_move_J107 {ι : Type} {P : MS → Prop} {Q : MS → Prop} {U107 : MS} {v107_1 : Int32} {v107_2 : Int32} {v107_3 : Int32} (i0 : ι) (K : ∀ (i : ι) (uo : MS), v_move_J107 uo U107 v107_1 v107_2 v107_3 → P uo) (h : w_move_J107 Q U107 v107_1 v107_2 v107_3) : ∃ uo, P uo ∧ Q uo := by
  unfold w_move_J107 at h
  by_cases c : v107_1.toInt = 87
  · replace h := h.1 c
    replace K := fun i uo z => K i uo (Or.inl ⟨c, z⟩)
    exact ⟨_, K i0 _ rfl, h⟩
  · replace h := h.2 c
    replace K := fun i uo z => K i uo (Or.inr ⟨c, z⟩)
    by_cases c : v107_1.toInt = 88
    · replace h := h.1 c
      replace K := fun i uo z => K i uo (Or.inl ⟨c, z⟩)
      exact ⟨_, K i0 _ rfl, h⟩
    · replace h := h.2 c
      replace K := fun i uo z => K i uo (Or.inr ⟨c, z⟩)
      by_cases c : v107_1.toInt = 90
      · replace h := h.1 c
        replace K := fun i uo z => K i uo (Or.inl ⟨c, z⟩)
        exact ru_move_J132 i0 K h
      · replace h := h.2 c
        replace K := fun i uo z => K i uo (Or.inr ⟨c, z⟩)
        by_cases c : v107_1.toInt = 95
        · replace h := h.1 c
          replace K := fun i uo z => K i uo (Or.inl ⟨c, z⟩)
          exact ru_move_J132 i0 K h
        · replace h := h.2 c
          replace K := fun i uo z => K i uo (Or.inr ⟨c, z⟩)
          exact ru_move_J137 i0 K h
set_option maxRecDepth 100000 in
theorem ru_move_J93 {ι : Type} {P : MS → Prop} {Q : MS → Prop} {U93 : MS} {v93_1 : Int32} {v93_2 : Int32} {v93_3 : Int32} {v93_4 : Int32} (i0 : ι) (K : ∀ (i : ι) (uo : MS), v_move_J93 uo U93 v93_1 v93_2 v93_3 v93_4 → P uo) (h : w_move_J93 Q U93 v93_1 v93_2 v93_3 v93_4) : ∃ uo, P uo ∧ Q uo := by
  unfold w_move_J93 at h
  by_cases c : v93_4.toInt = 0
  · replace h := h.1 c
    replace K := fun i uo z => K i uo (Or.inl ⟨c, z⟩)
    obtain ⟨g1_, h⟩ := h
    replace K := fun i uo z => K i uo ⟨g1_, z⟩
    by_cases c : (f_isOne U93 v93_2).toInt = 0
    · replace h := h.1 c
      replace K := fun i uo z => K i uo (Or.inl ⟨c, z⟩)
      exact ru_move_J107 i0 K h
    · replace h := h.2 c
      replace K := fun i uo z => K i uo (Or.inr ⟨c, z⟩)
      exact ru_move_J107 i0 K h
  · replace h := h.2 c
    replace K := fun i uo z => K i uo (Or.inr ⟨c, z⟩)
    exact ru_move_J107 i0 K h
set_option maxRecDepth 100000 in
theorem ru_move_J76 {ι : Type} {P : MS → Prop} {Q : MS → Prop} {U76 : MS} {t76_0 : Int32} {v76_1 : Int32} {v76_2 : Int32} {v76_3 : Int32} {v76_4 : Int32} (i0 : ι) (K : ∀ (i : ι) (uo : MS), v_move_J76 uo U76 t76_0 v76_1 v76_2 v76_3 v76_4 → P uo) (h : w_move_J76 Q U76 t76_0 v76_1 v76_2 v76_3 v76_4) : ∃ uo, P uo ∧ Q uo := by
  unfold w_move_J76 at h
  obtain ⟨Q9, h0, h⟩ := h
  obtain ⟨S9, z9, g9⟩ := ru_need h0
  replace h := h S9 g9
  replace K := fun i uo z => K i uo ⟨S9, z9, z⟩
  by_cases c : v76_4.toInt = 0
  · replace h := h.1 c
    replace K := fun i uo z => K i uo (Or.inl ⟨c, z⟩)
    obtain ⟨g2_, h⟩ := h
    replace K := fun i uo z => K i uo ⟨g2_, z⟩
    by_cases c : (f_isOne S9 v76_3).toInt = 0
    · replace h := h.1 c
      replace K := fun i uo z => K i uo (Or.inl ⟨c, z⟩)
      exact ru_move_J93 i0 K h
    · replace h := h.2 c
      replace K := fun i uo z => K i uo (Or.inr ⟨c, z⟩)
      exact ru_move_J93 i0 K h
  · replace h := h.2 c
    replace K := fun i uo z => K i uo (Or.inr ⟨c, z⟩)
    exact ru_move_J93 i0 K h
set_option maxRecDepth 100000 in
theorem ru_move_J71 {ι : Type} {P : MS → Prop} {Q : MS → Prop} {U71 : MS} {v71_1 : Int32} {v71_2 : Int32} {v71_3 : Int32} {v71_4 : Int32} (i0 : ι) (K : ∀ (i : ι) (uo : MS), v_move_J71 uo U71 v71_1 v71_2 v71_3 v71_4 → P uo) (h : w_move_J71 Q U71 v71_1 v71_2 v71_3 v71_4) : ∃ uo, P uo ∧ Q uo := by
  unfold w_move_J71 at h
  exact ru_move_J76 i0 K h
set_option maxRecDepth 100000 in
theorem ru_move_J75 {ι : Type} {P : MS → Prop} {Q : MS → Prop} {U75 : MS} {v75_1 : Int32} {v75_2 : Int32} {v75_3 : Int32} {v75_4 : Int32} (i0 : ι) (K : ∀ (i : ι) (uo : MS), v_move_J75 uo U75 v75_1 v75_2 v75_3 v75_4 → P uo) (h : w_move_J75 Q U75 v75_1 v75_2 v75_3 v75_4) : ∃ uo, P uo ∧ Q uo := by
  unfold w_move_J75 at h
  exact ru_move_J76 i0 K h
set_option maxRecDepth 100000 in
theorem ru_move_J49 {ι : Type} {P : MS → Prop} {Q : MS → Prop} {U49 : MS} {t49_0 : Int32} {v49_1 : Int32} {v49_2 : Int32} {v49_3 : Int32} (i0 : ι) (K : ∀ (i : ι) (uo : MS), v_move_J49 uo U49 t49_0 v49_1 v49_2 v49_3 → P uo) (h : w_move_J49 Q U49 t49_0 v49_1 v49_2 v49_3) : ∃ uo, P uo ∧ Q uo := by
  unfold w_move_J49 at h
  by_cases c : t49_0.toInt = 0
  · replace h := h.1 c
    replace K := fun i uo z => K i uo (Or.inl ⟨c, z⟩)
    obtain ⟨g3_, h⟩ := h
    replace K := fun i uo z => K i uo ⟨g3_, z⟩
    by_cases c : (f_isOne U49 v49_3).toInt = 0
    · replace h := h.1 c
      replace K := fun i uo z => K i uo (Or.inl ⟨c, z⟩)
      exact ru_move_J75 i0 K h
    · replace h := h.2 c
      replace K := fun i uo z => K i uo (Or.inr ⟨c, z⟩)
      obtain ⟨g4_, h⟩ := h
      replace K := fun i uo z => K i uo ⟨g4_, z⟩
      by_cases c : (f_isOne U49 v49_2).toInt = 0
      · replace h := h.1 c
        replace K := fun i uo z => K i uo (Or.inl ⟨c, z⟩)
        exact ru_move_J75 i0 K h
      · replace h := h.2 c
        replace K := fun i uo z => K i uo (Or.inr ⟨c, z⟩)
        exact ru_move_J71 i0 K h
  · replace h := h.2 c
    replace K := fun i uo z => K i uo (Or.inr ⟨c, z⟩)
    exact ru_move_J71 i0 K h
set_option maxRecDepth 100000 in
theorem ru_move_J48 {ι : Type} {P : MS → Prop} {Q : MS → Prop} {U48 : MS} {v48_1 : Int32} {v48_2 : Int32} {v48_3 : Int32} (i0 : ι) (K : ∀ (i : ι) (uo : MS), v_move_J48 uo U48 v48_1 v48_2 v48_3 → P uo) (h : w_move_J48 Q U48 v48_1 v48_2 v48_3) : ∃ uo, P uo ∧ Q uo := by
  unfold w_move_J48 at h
  exact ru_move_J49 i0 K h
set_option maxRecDepth 100000 in
theorem ru_move_J34 {ι : Type} {P : MS → Prop} {Q : MS → Prop} {U34 : MS} {v34_1 : Int32} {v34_2 : Int32} {v34_3 : Int32} (i0 : ι) (K : ∀ (i : ι) (uo : MS), v_move_J34 uo U34 v34_1 v34_2 v34_3 → P uo) (h : w_move_J34 Q U34 v34_1 v34_2 v34_3) : ∃ uo, P uo ∧ Q uo := by
  unfold w_move_J34 at h
  by_cases c : v34_3.toInt = 2
  · replace h := h.1 c
    replace K := fun i uo z => K i uo (Or.inl ⟨c, z⟩)
    by_cases c : v34_2.toInt = 3
    · replace h := h.1 c
      replace K := fun i uo z => K i uo (Or.inl ⟨c, z⟩)
      exact ru_move_J49 i0 K h
    · replace h := h.2 c
      replace K := fun i uo z => K i uo (Or.inr ⟨c, z⟩)
      exact ru_move_J48 i0 K h
  · replace h := h.2 c
    replace K := fun i uo z => K i uo (Or.inr ⟨c, z⟩)
    exact ru_move_J48 i0 K h
set_option maxRecDepth 100000 in
theorem ru_move_J21 {ι : Type} {P : MS → Prop} {Q : MS → Prop} {U21 : MS} {t21_0 : Int32} {v21_1 : Int32} {v21_2 : Int32} (i0 : ι) (K : ∀ (i : ι) (uo : MS), v_move_J21 uo U21 t21_0 v21_1 v21_2 → P uo) (h : w_move_J21 Q U21 t21_0 v21_1 v21_2) : ∃ uo, P uo ∧ Q uo := by
  unfold w_move_J21 at h
  by_cases c : v21_1.toInt = 88
  · replace h := h.1 c
    replace K := fun i uo z => K i uo (Or.inl ⟨c, z⟩)
    exact ru_move_J34 i0 K h
  · replace h := h.2 c
    replace K := fun i uo z => K i uo (Or.inr ⟨c, z⟩)
    by_cases c : v21_1.toInt = 92
    · replace h := h.1 c
      replace K := fun i uo z => K i uo (Or.inl ⟨c, z⟩)
      exact ru_move_J34 i0 K h
    · replace h := h.2 c
      replace K := fun i uo z => K i uo (Or.inr ⟨c, z⟩)
      exact ru_move_J48 i0 K h
set_option maxRecDepth 100000 in
theorem ru_move {S : MS} {x1 : Int32} {Q : MS → Prop} (h : w_move S x1 Q) : ∃ uo, v_move S x1 uo ∧ Q uo := by
  have i0 : Unit := ()
  have K : ∀ (i : Unit) (uo : MS), v_move S x1 uo → v_move S x1 uo := fun _ _ z => z
  unfold w_move at h
  obtain ⟨Q9, h0, h⟩ := h
  obtain ⟨r2, S3, z9, g9⟩ := ru_pull h0
  replace h := h r2 S3 g9
  replace K := fun i uo z => K i uo ⟨r2, S3, z9, z⟩
  obtain ⟨g5_, h⟩ := h
  replace K := fun i uo z => K i uo ⟨g5_, z⟩
  by_cases c : (f_moved S3 x1).toInt = 2
  · replace h := h.1 c
    replace K := fun i uo z => K i uo (Or.inl ⟨c, z⟩)
    obtain ⟨Q9, h0, h⟩ := h
    obtain ⟨r62, S63, z9, g9⟩ := ru_pull h0
    replace h := h r62 S63 g9
    replace K := fun i uo z => K i uo ⟨r62, S63, z9, z⟩
    exact ru_move_J21 i0 K h
  · replace h := h.2 c
    replace K := fun i uo z => K i uo (Or.inr ⟨c, z⟩)
    exact ru_move_J21 i0 K h
set_option maxRecDepth 100000 in
theorem vw_move_J194 {uo : MS} {U194 : MS} {v194_2 : Int32} (h : v_move_J194 uo U194 v194_2) : w_move_J194 (fun u => u = uo) U194 v194_2 := by
  unfold v_move_J194 at h
  unfold w_move_J194
  obtain ⟨q9, z9, h⟩ := h
  refine ⟨_, vw_push z9, ?_⟩
  intro q8 d9
  subst d9
  exact h.symm
set_option maxRecDepth 100000 in
theorem vz_move_J194 {uo : MS} {Q : MS → Prop} {U194 : MS} {v194_2 : Int32} (h : v_move_J194 uo U194 v194_2) (w : w_move_J194 Q U194 v194_2) : Q uo := by
  unfold v_move_J194 at h
  unfold w_move_J194 at w
  obtain ⟨q9, z9, h⟩ := h
  obtain ⟨Q9, w0, w⟩ := w
  replace w := w q9 (vz_push z9 w0)
  rw [h]
  exact w
set_option maxRecDepth 100000 in
theorem vw_move_J182 {uo : MS} {U182 : MS} {v182_1 : Int32} {v182_2 : Int32} (h : v_move_J182 uo U182 v182_1 v182_2) : w_move_J182 (fun u => u = uo) U182 v182_1 v182_2 := by
  unfold v_move_J182 at h
  unfold w_move_J182
  rcases h with ⟨c, h⟩ | ⟨c, h⟩
  · refine ⟨fun _ => ?_, fun c2 => absurd c c2⟩
    exact vw_move_J194 h
  · refine ⟨fun c2 => absurd c2 c, fun _ => ?_⟩
    rcases h with ⟨c, h⟩ | ⟨c, h⟩
    · refine ⟨fun _ => ?_, fun c2 => absurd c c2⟩
      exact vw_move_J194 h
    · refine ⟨fun c2 => absurd c2 c, fun _ => ?_⟩
      exact h.symm
set_option maxRecDepth 100000 in
theorem vz_move_J182 {uo : MS} {Q : MS → Prop} {U182 : MS} {v182_1 : Int32} {v182_2 : Int32} (h : v_move_J182 uo U182 v182_1 v182_2) (w : w_move_J182 Q U182 v182_1 v182_2) : Q uo := by
  unfold v_move_J182 at h
  unfold w_move_J182 at w
  rcases h with ⟨c, h⟩ | ⟨c, h⟩
  · replace w := w.1 c
    exact vz_move_J194 h w
  · replace w := w.2 c
    rcases h with ⟨c, h⟩ | ⟨c, h⟩
    · replace w := w.1 c
      exact vz_move_J194 h w
    · replace w := w.2 c
      rw [h]
      exact w
set_option maxRecDepth 100000 in
theorem vw_move_J171 {uo : MS} {U171 : MS} {v171_1 : Int32} {v171_2 : Int32} {v171_3 : Int32} (h : v_move_J171 uo U171 v171_1 v171_2 v171_3) : w_move_J171 (fun u => u = uo) U171 v171_1 v171_2 v171_3 := by
  unfold v_move_J171 at h
  unfold w_move_J171
  rcases h with ⟨c, h⟩ | ⟨c, h⟩
  · refine ⟨fun _ => ?_, fun c2 => absurd c c2⟩
    obtain ⟨q9, z9, h⟩ := h
    refine ⟨_, vw_push z9, ?_⟩
    intro q8 d9
    subst d9
    exact vw_move_J182 h
  · refine ⟨fun c2 => absurd c2 c, fun _ => ?_⟩
    exact vw_move_J182 h
set_option maxRecDepth 100000 in
theorem vz_move_J171 {uo : MS} {Q : MS → Prop} {U171 : MS} {v171_1 : Int32} {v171_2 : Int32} {v171_3 : Int32} (h : v_move_J171 uo U171 v171_1 v171_2 v171_3) (w : w_move_J171 Q U171 v171_1 v171_2 v171_3) : Q uo := by
  unfold v_move_J171 at h
  unfold w_move_J171 at w
  rcases h with ⟨c, h⟩ | ⟨c, h⟩
  · replace w := w.1 c
    obtain ⟨q9, z9, h⟩ := h
    obtain ⟨Q9, w0, w⟩ := w
    replace w := w q9 (vz_push z9 w0)
    exact vz_move_J182 h w
  · replace w := w.2 c
    exact vz_move_J182 h w
set_option maxRecDepth 100000 in
theorem vw_move_J160 {uo : MS} {U160 : MS} {v160_1 : Int32} {v160_2 : Int32} {v160_3 : Int32} (h : v_move_J160 uo U160 v160_1 v160_2 v160_3) : w_move_J160 (fun u => u = uo) U160 v160_1 v160_2 v160_3 := by
  unfold v_move_J160 at h
  unfold w_move_J160
  rcases h with ⟨c, h⟩ | ⟨c, h⟩
  · refine ⟨fun _ => ?_, fun c2 => absurd c c2⟩
    exact vw_move_J171 h
  · refine ⟨fun c2 => absurd c2 c, fun _ => ?_⟩
    obtain ⟨q9, z9, h⟩ := h
    refine ⟨_, vw_push z9, ?_⟩
    intro q8 d9
    subst d9
    exact vw_move_J171 h
set_option maxRecDepth 100000 in
theorem vz_move_J160 {uo : MS} {Q : MS → Prop} {U160 : MS} {v160_1 : Int32} {v160_2 : Int32} {v160_3 : Int32} (h : v_move_J160 uo U160 v160_1 v160_2 v160_3) (w : w_move_J160 Q U160 v160_1 v160_2 v160_3) : Q uo := by
  unfold v_move_J160 at h
  unfold w_move_J160 at w
  rcases h with ⟨c, h⟩ | ⟨c, h⟩
  · replace w := w.1 c
    exact vz_move_J171 h w
  · replace w := w.2 c
    obtain ⟨q9, z9, h⟩ := h
    obtain ⟨Q9, w0, w⟩ := w
    replace w := w q9 (vz_push z9 w0)
    exact vz_move_J171 h w
set_option maxRecDepth 100000 in
theorem vw_move_J155 {uo : MS} {U155 : MS} {v155_1 : Int32} {v155_2 : Int32} {v155_3 : Int32} (h : v_move_J155 uo U155 v155_1 v155_2 v155_3) : w_move_J155 (fun u => u = uo) U155 v155_1 v155_2 v155_3 := by
  unfold v_move_J155 at h
  unfold w_move_J155
  obtain ⟨q9, z9, h⟩ := h
  refine ⟨_, vw_push z9, ?_⟩
  intro q8 d9
  subst d9
  exact vw_move_J160 h
set_option maxRecDepth 100000 in
theorem vz_move_J155 {uo : MS} {Q : MS → Prop} {U155 : MS} {v155_1 : Int32} {v155_2 : Int32} {v155_3 : Int32} (h : v_move_J155 uo U155 v155_1 v155_2 v155_3) (w : w_move_J155 Q U155 v155_1 v155_2 v155_3) : Q uo := by
  unfold v_move_J155 at h
  unfold w_move_J155 at w
  obtain ⟨q9, z9, h⟩ := h
  obtain ⟨Q9, w0, w⟩ := w
  replace w := w q9 (vz_push z9 w0)
  exact vz_move_J160 h w
set_option maxRecDepth 100000 in
theorem vw_move_J137 {uo : MS} {U137 : MS} {v137_1 : Int32} {v137_2 : Int32} {v137_3 : Int32} (h : v_move_J137 uo U137 v137_1 v137_2 v137_3) : w_move_J137 (fun u => u = uo) U137 v137_1 v137_2 v137_3 := by
  unfold v_move_J137 at h
  unfold w_move_J137
  rcases h with ⟨c, h⟩ | ⟨c, h⟩
  · refine ⟨fun _ => ?_, fun c2 => absurd c c2⟩
    exact vw_move_J155 h
  · refine ⟨fun c2 => absurd c2 c, fun _ => ?_⟩
    rcases h with ⟨c, h⟩ | ⟨c, h⟩
    · refine ⟨fun _ => ?_, fun c2 => absurd c c2⟩
      exact vw_move_J155 h
    · refine ⟨fun c2 => absurd c2 c, fun _ => ?_⟩
      rcases h with ⟨c, h⟩ | ⟨c, h⟩
      · refine ⟨fun _ => ?_, fun c2 => absurd c c2⟩
        exact vw_move_J155 h
      · refine ⟨fun c2 => absurd c2 c, fun _ => ?_⟩
        exact vw_move_J160 h
set_option maxRecDepth 100000 in
theorem vz_move_J137 {uo : MS} {Q : MS → Prop} {U137 : MS} {v137_1 : Int32} {v137_2 : Int32} {v137_3 : Int32} (h : v_move_J137 uo U137 v137_1 v137_2 v137_3) (w : w_move_J137 Q U137 v137_1 v137_2 v137_3) : Q uo := by
  unfold v_move_J137 at h
  unfold w_move_J137 at w
  rcases h with ⟨c, h⟩ | ⟨c, h⟩
  · replace w := w.1 c
    exact vz_move_J155 h w
  · replace w := w.2 c
    rcases h with ⟨c, h⟩ | ⟨c, h⟩
    · replace w := w.1 c
      exact vz_move_J155 h w
    · replace w := w.2 c
      rcases h with ⟨c, h⟩ | ⟨c, h⟩
      · replace w := w.1 c
        exact vz_move_J155 h w
      · replace w := w.2 c
        exact vz_move_J160 h w
set_option maxRecDepth 100000 in
theorem vw_move_J132 {uo : MS} {U132 : MS} {v132_1 : Int32} {v132_2 : Int32} {v132_3 : Int32} (h : v_move_J132 uo U132 v132_1 v132_2 v132_3) : w_move_J132 (fun u => u = uo) U132 v132_1 v132_2 v132_3 := by
  unfold v_move_J132 at h
  unfold w_move_J132
  obtain ⟨q9, z9, h⟩ := h
  refine ⟨_, vw_push z9, ?_⟩
  intro q8 d9
  subst d9
  exact vw_move_J137 h
set_option maxRecDepth 100000 in
theorem vz_move_J132 {uo : MS} {Q : MS → Prop} {U132 : MS} {v132_1 : Int32} {v132_2 : Int32} {v132_3 : Int32} (h : v_move_J132 uo U132 v132_1 v132_2 v132_3) (w : w_move_J132 Q U132 v132_1 v132_2 v132_3) : Q uo := by
  unfold v_move_J132 at h
  unfold w_move_J132 at w
  obtain ⟨q9, z9, h⟩ := h
  obtain ⟨Q9, w0, w⟩ := w
  replace w := w q9 (vz_push z9 w0)
  exact vz_move_J137 h w
set_option maxRecDepth 100000 in
theorem vw_move_J107 {uo : MS} {U107 : MS} {v107_1 : Int32} {v107_2 : Int32} {v107_3 : Int32} (h : v_move_J107 uo U107 v107_1 v107_2 v107_3) : w_move_J107 (fun u => u = uo) U107 v107_1 v107_2 v107_3 := by
  unfold v_move_J107 at h
  unfold w_move_J107
  rcases h with ⟨c, h⟩ | ⟨c, h⟩
  · refine ⟨fun _ => ?_, fun c2 => absurd c c2⟩
    exact h.symm
  · refine ⟨fun c2 => absurd c2 c, fun _ => ?_⟩
    rcases h with ⟨c, h⟩ | ⟨c, h⟩
    · refine ⟨fun _ => ?_, fun c2 => absurd c c2⟩
      exact h.symm
    · refine ⟨fun c2 => absurd c2 c, fun _ => ?_⟩
      rcases h with ⟨c, h⟩ | ⟨c, h⟩
      · refine ⟨fun _ => ?_, fun c2 => absurd c c2⟩
        exact vw_move_J132 h
      · refine ⟨fun c2 => absurd c2 c, fun _ => ?_⟩
        rcases h with ⟨c, h⟩ | ⟨c, h⟩
        · refine ⟨fun _ => ?_, fun c2 => absurd c c2⟩
          exact vw_move_J132 h
        · refine ⟨fun c2 => absurd c2 c, fun _ => ?_⟩
          exact vw_move_J137 h
set_option maxRecDepth 100000 in
theorem vz_move_J107 {uo : MS} {Q : MS → Prop} {U107 : MS} {v107_1 : Int32} {v107_2 : Int32} {v107_3 : Int32} (h : v_move_J107 uo U107 v107_1 v107_2 v107_3) (w : w_move_J107 Q U107 v107_1 v107_2 v107_3) : Q uo := by
  unfold v_move_J107 at h
  unfold w_move_J107 at w
  rcases h with ⟨c, h⟩ | ⟨c, h⟩
  · replace w := w.1 c
    rw [h]
    exact w
  · replace w := w.2 c
    rcases h with ⟨c, h⟩ | ⟨c, h⟩
    · replace w := w.1 c
      rw [h]
      exact w
    · replace w := w.2 c
      rcases h with ⟨c, h⟩ | ⟨c, h⟩
      · replace w := w.1 c
        exact vz_move_J132 h w
      · replace w := w.2 c
        rcases h with ⟨c, h⟩ | ⟨c, h⟩
        · replace w := w.1 c
          exact vz_move_J132 h w
        · replace w := w.2 c
          exact vz_move_J137 h w
set_option maxRecDepth 100000 in
theorem vw_move_J93 {uo : MS} {U93 : MS} {v93_1 : Int32} {v93_2 : Int32} {v93_3 : Int32} {v93_4 : Int32} (h : v_move_J93 uo U93 v93_1 v93_2 v93_3 v93_4) : w_move_J93 (fun u => u = uo) U93 v93_1 v93_2 v93_3 v93_4 := by
  unfold v_move_J93 at h
  unfold w_move_J93
  rcases h with ⟨c, h⟩ | ⟨c, h⟩
  · refine ⟨fun _ => ?_, fun c2 => absurd c c2⟩
    obtain ⟨g9, h⟩ := h
    refine ⟨g9, ?_⟩
    rcases h with ⟨c, h⟩ | ⟨c, h⟩
    · refine ⟨fun _ => ?_, fun c2 => absurd c c2⟩
      exact vw_move_J107 h
    · refine ⟨fun c2 => absurd c2 c, fun _ => ?_⟩
      exact vw_move_J107 h
  · refine ⟨fun c2 => absurd c2 c, fun _ => ?_⟩
    exact vw_move_J107 h
set_option maxRecDepth 100000 in
theorem vz_move_J93 {uo : MS} {Q : MS → Prop} {U93 : MS} {v93_1 : Int32} {v93_2 : Int32} {v93_3 : Int32} {v93_4 : Int32} (h : v_move_J93 uo U93 v93_1 v93_2 v93_3 v93_4) (w : w_move_J93 Q U93 v93_1 v93_2 v93_3 v93_4) : Q uo := by
  unfold v_move_J93 at h
  unfold w_move_J93 at w
  rcases h with ⟨c, h⟩ | ⟨c, h⟩
  · replace w := w.1 c
    replace h := h.2
    replace w := w.2
    rcases h with ⟨c, h⟩ | ⟨c, h⟩
    · replace w := w.1 c
      exact vz_move_J107 h w
    · replace w := w.2 c
      exact vz_move_J107 h w
  · replace w := w.2 c
    exact vz_move_J107 h w
set_option maxRecDepth 100000 in
theorem vw_move_J76 {uo : MS} {U76 : MS} {t76_0 : Int32} {v76_1 : Int32} {v76_2 : Int32} {v76_3 : Int32} {v76_4 : Int32} (h : v_move_J76 uo U76 t76_0 v76_1 v76_2 v76_3 v76_4) : w_move_J76 (fun u => u = uo) U76 t76_0 v76_1 v76_2 v76_3 v76_4 := by
  unfold v_move_J76 at h
  unfold w_move_J76
  obtain ⟨q9, z9, h⟩ := h
  refine ⟨_, vw_need z9, ?_⟩
  intro q8 d9
  subst d9
  rcases h with ⟨c, h⟩ | ⟨c, h⟩
  · refine ⟨fun _ => ?_, fun c2 => absurd c c2⟩
    obtain ⟨g9, h⟩ := h
    refine ⟨g9, ?_⟩
    rcases h with ⟨c, h⟩ | ⟨c, h⟩
    · refine ⟨fun _ => ?_, fun c2 => absurd c c2⟩
      exact vw_move_J93 h
    · refine ⟨fun c2 => absurd c2 c, fun _ => ?_⟩
      exact vw_move_J93 h
  · refine ⟨fun c2 => absurd c2 c, fun _ => ?_⟩
    exact vw_move_J93 h
set_option maxRecDepth 100000 in
theorem vz_move_J76 {uo : MS} {Q : MS → Prop} {U76 : MS} {t76_0 : Int32} {v76_1 : Int32} {v76_2 : Int32} {v76_3 : Int32} {v76_4 : Int32} (h : v_move_J76 uo U76 t76_0 v76_1 v76_2 v76_3 v76_4) (w : w_move_J76 Q U76 t76_0 v76_1 v76_2 v76_3 v76_4) : Q uo := by
  unfold v_move_J76 at h
  unfold w_move_J76 at w
  obtain ⟨q9, z9, h⟩ := h
  obtain ⟨Q9, w0, w⟩ := w
  replace w := w q9 (vz_need z9 w0)
  rcases h with ⟨c, h⟩ | ⟨c, h⟩
  · replace w := w.1 c
    replace h := h.2
    replace w := w.2
    rcases h with ⟨c, h⟩ | ⟨c, h⟩
    · replace w := w.1 c
      exact vz_move_J93 h w
    · replace w := w.2 c
      exact vz_move_J93 h w
  · replace w := w.2 c
    exact vz_move_J93 h w
set_option maxRecDepth 100000 in
theorem vw_move_J71 {uo : MS} {U71 : MS} {v71_1 : Int32} {v71_2 : Int32} {v71_3 : Int32} {v71_4 : Int32} (h : v_move_J71 uo U71 v71_1 v71_2 v71_3 v71_4) : w_move_J71 (fun u => u = uo) U71 v71_1 v71_2 v71_3 v71_4 := by
  unfold v_move_J71 at h
  unfold w_move_J71
  exact vw_move_J76 h
set_option maxRecDepth 100000 in
theorem vz_move_J71 {uo : MS} {Q : MS → Prop} {U71 : MS} {v71_1 : Int32} {v71_2 : Int32} {v71_3 : Int32} {v71_4 : Int32} (h : v_move_J71 uo U71 v71_1 v71_2 v71_3 v71_4) (w : w_move_J71 Q U71 v71_1 v71_2 v71_3 v71_4) : Q uo := by
  unfold v_move_J71 at h
  unfold w_move_J71 at w
  exact vz_move_J76 h w
set_option maxRecDepth 100000 in
theorem vw_move_J75 {uo : MS} {U75 : MS} {v75_1 : Int32} {v75_2 : Int32} {v75_3 : Int32} {v75_4 : Int32} (h : v_move_J75 uo U75 v75_1 v75_2 v75_3 v75_4) : w_move_J75 (fun u => u = uo) U75 v75_1 v75_2 v75_3 v75_4 := by
  unfold v_move_J75 at h
  unfold w_move_J75
  exact vw_move_J76 h
set_option maxRecDepth 100000 in
theorem vz_move_J75 {uo : MS} {Q : MS → Prop} {U75 : MS} {v75_1 : Int32} {v75_2 : Int32} {v75_3 : Int32} {v75_4 : Int32} (h : v_move_J75 uo U75 v75_1 v75_2 v75_3 v75_4) (w : w_move_J75 Q U75 v75_1 v75_2 v75_3 v75_4) : Q uo := by
  unfold v_move_J75 at h
  unfold w_move_J75 at w
  exact vz_move_J76 h w
set_option maxRecDepth 100000 in
theorem vw_move_J49 {uo : MS} {U49 : MS} {t49_0 : Int32} {v49_1 : Int32} {v49_2 : Int32} {v49_3 : Int32} (h : v_move_J49 uo U49 t49_0 v49_1 v49_2 v49_3) : w_move_J49 (fun u => u = uo) U49 t49_0 v49_1 v49_2 v49_3 := by
  unfold v_move_J49 at h
  unfold w_move_J49
  rcases h with ⟨c, h⟩ | ⟨c, h⟩
  · refine ⟨fun _ => ?_, fun c2 => absurd c c2⟩
    obtain ⟨g9, h⟩ := h
    refine ⟨g9, ?_⟩
    rcases h with ⟨c, h⟩ | ⟨c, h⟩
    · refine ⟨fun _ => ?_, fun c2 => absurd c c2⟩
      exact vw_move_J75 h
    · refine ⟨fun c2 => absurd c2 c, fun _ => ?_⟩
      obtain ⟨g9, h⟩ := h
      refine ⟨g9, ?_⟩
      rcases h with ⟨c, h⟩ | ⟨c, h⟩
      · refine ⟨fun _ => ?_, fun c2 => absurd c c2⟩
        exact vw_move_J75 h
      · refine ⟨fun c2 => absurd c2 c, fun _ => ?_⟩
        exact vw_move_J71 h
  · refine ⟨fun c2 => absurd c2 c, fun _ => ?_⟩
    exact vw_move_J71 h
set_option maxRecDepth 100000 in
theorem vz_move_J49 {uo : MS} {Q : MS → Prop} {U49 : MS} {t49_0 : Int32} {v49_1 : Int32} {v49_2 : Int32} {v49_3 : Int32} (h : v_move_J49 uo U49 t49_0 v49_1 v49_2 v49_3) (w : w_move_J49 Q U49 t49_0 v49_1 v49_2 v49_3) : Q uo := by
  unfold v_move_J49 at h
  unfold w_move_J49 at w
  rcases h with ⟨c, h⟩ | ⟨c, h⟩
  · replace w := w.1 c
    replace h := h.2
    replace w := w.2
    rcases h with ⟨c, h⟩ | ⟨c, h⟩
    · replace w := w.1 c
      exact vz_move_J75 h w
    · replace w := w.2 c
      replace h := h.2
      replace w := w.2
      rcases h with ⟨c, h⟩ | ⟨c, h⟩
      · replace w := w.1 c
        exact vz_move_J75 h w
      · replace w := w.2 c
        exact vz_move_J71 h w
  · replace w := w.2 c
    exact vz_move_J71 h w
set_option maxRecDepth 100000 in
theorem vw_move_J48 {uo : MS} {U48 : MS} {v48_1 : Int32} {v48_2 : Int32} {v48_3 : Int32} (h : v_move_J48 uo U48 v48_1 v48_2 v48_3) : w_move_J48 (fun u => u = uo) U48 v48_1 v48_2 v48_3 := by
  unfold v_move_J48 at h
  unfold w_move_J48
  exact vw_move_J49 h
set_option maxRecDepth 100000 in
theorem vz_move_J48 {uo : MS} {Q : MS → Prop} {U48 : MS} {v48_1 : Int32} {v48_2 : Int32} {v48_3 : Int32} (h : v_move_J48 uo U48 v48_1 v48_2 v48_3) (w : w_move_J48 Q U48 v48_1 v48_2 v48_3) : Q uo := by
  unfold v_move_J48 at h
  unfold w_move_J48 at w
  exact vz_move_J49 h w
set_option maxRecDepth 100000 in
theorem vw_move_J34 {uo : MS} {U34 : MS} {v34_1 : Int32} {v34_2 : Int32} {v34_3 : Int32} (h : v_move_J34 uo U34 v34_1 v34_2 v34_3) : w_move_J34 (fun u => u = uo) U34 v34_1 v34_2 v34_3 := by
  unfold v_move_J34 at h
  unfold w_move_J34
  rcases h with ⟨c, h⟩ | ⟨c, h⟩
  · refine ⟨fun _ => ?_, fun c2 => absurd c c2⟩
    rcases h with ⟨c, h⟩ | ⟨c, h⟩
    · refine ⟨fun _ => ?_, fun c2 => absurd c c2⟩
      exact vw_move_J49 h
    · refine ⟨fun c2 => absurd c2 c, fun _ => ?_⟩
      exact vw_move_J48 h
  · refine ⟨fun c2 => absurd c2 c, fun _ => ?_⟩
    exact vw_move_J48 h
set_option maxRecDepth 100000 in
theorem vz_move_J34 {uo : MS} {Q : MS → Prop} {U34 : MS} {v34_1 : Int32} {v34_2 : Int32} {v34_3 : Int32} (h : v_move_J34 uo U34 v34_1 v34_2 v34_3) (w : w_move_J34 Q U34 v34_1 v34_2 v34_3) : Q uo := by
  unfold v_move_J34 at h
  unfold w_move_J34 at w
  rcases h with ⟨c, h⟩ | ⟨c, h⟩
  · replace w := w.1 c
    rcases h with ⟨c, h⟩ | ⟨c, h⟩
    · replace w := w.1 c
      exact vz_move_J49 h w
    · replace w := w.2 c
      exact vz_move_J48 h w
  · replace w := w.2 c
    exact vz_move_J48 h w
set_option maxRecDepth 100000 in
theorem vw_move_J21 {uo : MS} {U21 : MS} {t21_0 : Int32} {v21_1 : Int32} {v21_2 : Int32} (h : v_move_J21 uo U21 t21_0 v21_1 v21_2) : w_move_J21 (fun u => u = uo) U21 t21_0 v21_1 v21_2 := by
  unfold v_move_J21 at h
  unfold w_move_J21
  rcases h with ⟨c, h⟩ | ⟨c, h⟩
  · refine ⟨fun _ => ?_, fun c2 => absurd c c2⟩
    exact vw_move_J34 h
  · refine ⟨fun c2 => absurd c2 c, fun _ => ?_⟩
    rcases h with ⟨c, h⟩ | ⟨c, h⟩
    · refine ⟨fun _ => ?_, fun c2 => absurd c c2⟩
      exact vw_move_J34 h
    · refine ⟨fun c2 => absurd c2 c, fun _ => ?_⟩
      exact vw_move_J48 h
set_option maxRecDepth 100000 in
theorem vz_move_J21 {uo : MS} {Q : MS → Prop} {U21 : MS} {t21_0 : Int32} {v21_1 : Int32} {v21_2 : Int32} (h : v_move_J21 uo U21 t21_0 v21_1 v21_2) (w : w_move_J21 Q U21 t21_0 v21_1 v21_2) : Q uo := by
  unfold v_move_J21 at h
  unfold w_move_J21 at w
  rcases h with ⟨c, h⟩ | ⟨c, h⟩
  · replace w := w.1 c
    exact vz_move_J34 h w
  · replace w := w.2 c
    rcases h with ⟨c, h⟩ | ⟨c, h⟩
    · replace w := w.1 c
      exact vz_move_J34 h w
    · replace w := w.2 c
      exact vz_move_J48 h w
set_option maxRecDepth 100000 in
theorem vw_move {S : MS} {x1 : Int32} {uo : MS} (h : v_move S x1 uo) : w_move S x1 (fun u => u = uo) := by
  unfold v_move at h
  unfold w_move
  obtain ⟨p9, q9, z9, h⟩ := h
  refine ⟨_, vw_pull z9, ?_⟩
  rintro p8 q8 ⟨d8, d9⟩
  subst d8
  subst d9
  obtain ⟨g9, h⟩ := h
  refine ⟨g9, ?_⟩
  rcases h with ⟨c, h⟩ | ⟨c, h⟩
  · refine ⟨fun _ => ?_, fun c2 => absurd c c2⟩
    obtain ⟨p9, q9, z9, h⟩ := h
    refine ⟨_, vw_pull z9, ?_⟩
    rintro p8 q8 ⟨d8, d9⟩
    subst d8
    subst d9
    exact vw_move_J21 h
  · refine ⟨fun c2 => absurd c2 c, fun _ => ?_⟩
    exact vw_move_J21 h
set_option maxRecDepth 100000 in
theorem vz_move {S : MS} {x1 : Int32} {uo : MS} {Q : MS → Prop} (h : v_move S x1 uo) (w : w_move S x1 Q) : Q uo := by
  unfold v_move at h
  unfold w_move at w
  obtain ⟨p9, q9, z9, h⟩ := h
  obtain ⟨Q9, w0, w⟩ := w
  replace w := w p9 q9 (vz_pull z9 w0)
  replace h := h.2
  replace w := w.2
  rcases h with ⟨c, h⟩ | ⟨c, h⟩
  · replace w := w.1 c
    obtain ⟨p9, q9, z9, h⟩ := h
    obtain ⟨Q9, w0, w⟩ := w
    replace w := w p9 q9 (vz_pull z9 w0)
    exact vz_move_J21 h w
  · replace w := w.2 c
    exact vz_move_J21 h w
def v_setLocal (S : MS) (x1 : Int32) (x2 : Int32) (uo : MS) : Prop := (((0 : Int) ≤ x1.toInt ∧ x1.toInt < 24) ∧ (∃ S2 : MS, S2 = wI S 25 x1.toInt.toNat (vp_nar .byte (x2.toInt8.toInt32)) ∧ (uo = S2)))
set_option maxRecDepth 100000 in
theorem ru_setLocal {S : MS} {x1 : Int32} {x2 : Int32} {Q : MS → Prop} (h : w_setLocal S x1 x2 Q) : ∃ uo, v_setLocal S x1 x2 uo ∧ Q uo := by
  have i0 : Unit := ()
  have K : ∀ (i : Unit) (uo : MS), v_setLocal S x1 x2 uo → v_setLocal S x1 x2 uo := fun _ _ z => z
  unfold w_setLocal at h
  obtain ⟨g1_, h⟩ := h
  replace K := fun i uo z => K i uo ⟨g1_, z⟩
  obtain ⟨S2, eS2⟩ : ∃ x9 : MS, x9 = wI S 25 x1.toInt.toNat (vp_nar .byte (x2.toInt8.toInt32)) := ⟨_, rfl⟩
  replace h := h S2 eS2
  replace K := fun i uo z => K i uo ⟨S2, eS2, z⟩
  exact ⟨_, K i0 _ rfl, h⟩
set_option maxRecDepth 100000 in
theorem vw_setLocal {S : MS} {x1 : Int32} {x2 : Int32} {uo : MS} (h : v_setLocal S x1 x2 uo) : w_setLocal S x1 x2 (fun u => u = uo) := by
  unfold v_setLocal at h
  unfold w_setLocal
  obtain ⟨g9, h⟩ := h
  refine ⟨g9, ?_⟩
  obtain ⟨v9, e9, h⟩ := h
  intro x9 d9
  have c9 : v9 = x9 := e9.trans d9.symm
  subst c9
  exact h.symm
set_option maxRecDepth 100000 in
theorem vz_setLocal {S : MS} {x1 : Int32} {x2 : Int32} {uo : MS} {Q : MS → Prop} (h : v_setLocal S x1 x2 uo) (w : w_setLocal S x1 x2 Q) : Q uo := by
  unfold v_setLocal at h
  unfold w_setLocal at w
  replace h := h.2
  replace w := w.2
  obtain ⟨v9, e9, h⟩ := h
  replace w := w v9 e9
  rw [h]
  exact w
def v_store_J91 (uo : MS) (U91 : MS) (t91_0 : Int32) (t91_1 : Int32) (v91_2 : Int32) (v91_4 : Int32) : Prop := (∃ (S3 : MS), v_setLocal U91 t91_1 t91_0 S3 ∧ ((v91_4.toInt = 2 ∧ (∃ (S8 : MS), v_setLocal S3 (v91_2 + (1 : Int32)) (3 : Int32) S8 ∧ (uo = S8))) ∨ (¬ v91_4.toInt = 2 ∧ (uo = S3))))
def v_store_J68 (uo : MS) (U68 : MS) (v68_1 : Int32) (v68_2 : Int32) (v68_3 : Int32) (v68_4 : Int32) : Prop := ((v68_1.toInt = 54 ∧ (v_store_J91 uo U68 1 v68_2 v68_2 v68_4)) ∨ (¬ v68_1.toInt = 54 ∧ ((v68_1.toInt = 55 ∧ (v_store_J91 uo U68 2 v68_2 v68_2 v68_4)) ∨ (¬ v68_1.toInt = 55 ∧ (v_store_J91 uo U68 v68_3 v68_2 v68_2 v68_4)))))
def v_store_J37 (uo : MS) (U37 : MS) (v37_1 : Int32) (v37_2 : Int32) (v37_3 : Int32) (v37_4 : Int32) : Prop := ((24 ≤ (v37_2 + v37_4).toInt ∧ (v_store_J68 uo U37 v37_1 v37_2 v37_3 v37_4)) ∨ (¬ 24 ≤ (v37_2 + v37_4).toInt ∧ (((0 : Int) ≤ (v37_2 + v37_4).toInt ∧ (v37_2 + v37_4).toInt < 24) ∧ (((qI U37 25 (((v37_2 + v37_4).toInt).toNat)).toInt = 3 ∧ (∃ (S19 : MS), v_setLocal U37 (v37_2 + v37_4) (0 : Int32) S19 ∧ (v_store_J68 uo S19 v37_1 v37_2 v37_3 v37_4))) ∨ (¬ (qI U37 25 (((v37_2 + v37_4).toInt).toNat)).toInt = 3 ∧ (v_store_J68 uo U37 v37_1 v37_2 v37_3 v37_4))))))
def v_store_J11 (uo : MS) (U11 : MS) (t11_0 : Int32) (v11_1 : Int32) (v11_2 : Int32) (v11_3 : Int32) : Prop := ((v11_2.toInt ≤ 0 ∧ (v_store_J37 uo U11 v11_1 v11_2 v11_3 t11_0)) ∨ (¬ v11_2.toInt ≤ 0 ∧ (((0 : Int) ≤ (v11_2 - (1 : Int32)).toInt ∧ (v11_2 - (1 : Int32)).toInt < 24) ∧ (((qI U11 25 (((v11_2 - (1 : Int32)).toInt).toNat)).toInt = 2 ∧ (∃ (S28 : MS), v_setLocal U11 (v11_2 - (1 : Int32)) (0 : Int32) S28 ∧ (v_store_J37 uo S28 v11_1 v11_2 v11_3 t11_0))) ∨ (¬ (qI U11 25 (((v11_2 - (1 : Int32)).toInt).toNat)).toInt = 2 ∧ (v_store_J37 uo U11 v11_1 v11_2 v11_3 t11_0))))))
def v_store (S : MS) (x1 : Int32) (x2 : Int32) (x3 : Int32) (uo : MS) : Prop := ((x1.toInt = 55 ∧ (v_store_J11 uo S 2 x1 x2 x3)) ∨ (¬ x1.toInt = 55 ∧ (v_store_J11 uo S 1 x1 x2 x3)))
set_option maxRecDepth 100000 in
theorem ru_store_J91 {ι : Type} {P : MS → Prop} {Q : MS → Prop} {U91 : MS} {t91_0 : Int32} {t91_1 : Int32} {v91_2 : Int32} {v91_4 : Int32} (i0 : ι) (K : ∀ (i : ι) (uo : MS), v_store_J91 uo U91 t91_0 t91_1 v91_2 v91_4 → P uo) (h : w_store_J91 Q U91 t91_0 t91_1 v91_2 v91_4) : ∃ uo, P uo ∧ Q uo := by
  unfold w_store_J91 at h
  obtain ⟨Q9, h0, h⟩ := h
  obtain ⟨S3, z9, g9⟩ := ru_setLocal h0
  replace h := h S3 g9
  replace K := fun i uo z => K i uo ⟨S3, z9, z⟩
  by_cases c : v91_4.toInt = 2
  · replace h := h.1 c
    replace K := fun i uo z => K i uo (Or.inl ⟨c, z⟩)
    obtain ⟨Q9, h0, h⟩ := h
    obtain ⟨S8, z9, g9⟩ := ru_setLocal h0
    replace h := h S8 g9
    replace K := fun i uo z => K i uo ⟨S8, z9, z⟩
    exact ⟨_, K i0 _ rfl, h⟩
  · replace h := h.2 c
    replace K := fun i uo z => K i uo (Or.inr ⟨c, z⟩)
    exact ⟨_, K i0 _ rfl, h⟩
set_option maxRecDepth 100000 in
theorem ru_store_J68 {ι : Type} {P : MS → Prop} {Q : MS → Prop} {U68 : MS} {v68_1 : Int32} {v68_2 : Int32} {v68_3 : Int32} {v68_4 : Int32} (i0 : ι) (K : ∀ (i : ι) (uo : MS), v_store_J68 uo U68 v68_1 v68_2 v68_3 v68_4 → P uo) (h : w_store_J68 Q U68 v68_1 v68_2 v68_3 v68_4) : ∃ uo, P uo ∧ Q uo := by
  unfold w_store_J68 at h
  by_cases c : v68_1.toInt = 54
  · replace h := h.1 c
    replace K := fun i uo z => K i uo (Or.inl ⟨c, z⟩)
    exact ru_store_J91 i0 K h
  · replace h := h.2 c
    replace K := fun i uo z => K i uo (Or.inr ⟨c, z⟩)
    by_cases c : v68_1.toInt = 55
    · replace h := h.1 c
      replace K := fun i uo z => K i uo (Or.inl ⟨c, z⟩)
      exact ru_store_J91 i0 K h
    · replace h := h.2 c
      replace K := fun i uo z => K i uo (Or.inr ⟨c, z⟩)
      exact ru_store_J91 i0 K h
set_option maxRecDepth 100000 in
theorem ru_store_J37 {ι : Type} {P : MS → Prop} {Q : MS → Prop} {U37 : MS} {v37_1 : Int32} {v37_2 : Int32} {v37_3 : Int32} {v37_4 : Int32} (i0 : ι) (K : ∀ (i : ι) (uo : MS), v_store_J37 uo U37 v37_1 v37_2 v37_3 v37_4 → P uo) (h : w_store_J37 Q U37 v37_1 v37_2 v37_3 v37_4) : ∃ uo, P uo ∧ Q uo := by
  unfold w_store_J37 at h
  by_cases c : 24 ≤ (v37_2 + v37_4).toInt
  · replace h := h.1 c
    replace K := fun i uo z => K i uo (Or.inl ⟨c, z⟩)
    exact ru_store_J68 i0 K h
  · replace h := h.2 c
    replace K := fun i uo z => K i uo (Or.inr ⟨c, z⟩)
    obtain ⟨g1_, h⟩ := h
    replace K := fun i uo z => K i uo ⟨g1_, z⟩
    by_cases c : (qI U37 25 (((v37_2 + v37_4).toInt).toNat)).toInt = 3
    · replace h := h.1 c
      replace K := fun i uo z => K i uo (Or.inl ⟨c, z⟩)
      obtain ⟨Q9, h0, h⟩ := h
      obtain ⟨S19, z9, g9⟩ := ru_setLocal h0
      replace h := h S19 g9
      replace K := fun i uo z => K i uo ⟨S19, z9, z⟩
      exact ru_store_J68 i0 K h
    · replace h := h.2 c
      replace K := fun i uo z => K i uo (Or.inr ⟨c, z⟩)
      exact ru_store_J68 i0 K h
set_option maxRecDepth 100000 in
theorem ru_store_J11 {ι : Type} {P : MS → Prop} {Q : MS → Prop} {U11 : MS} {t11_0 : Int32} {v11_1 : Int32} {v11_2 : Int32} {v11_3 : Int32} (i0 : ι) (K : ∀ (i : ι) (uo : MS), v_store_J11 uo U11 t11_0 v11_1 v11_2 v11_3 → P uo) (h : w_store_J11 Q U11 t11_0 v11_1 v11_2 v11_3) : ∃ uo, P uo ∧ Q uo := by
  unfold w_store_J11 at h
  by_cases c : v11_2.toInt ≤ 0
  · replace h := h.1 c
    replace K := fun i uo z => K i uo (Or.inl ⟨c, z⟩)
    exact ru_store_J37 i0 K h
  · replace h := h.2 c
    replace K := fun i uo z => K i uo (Or.inr ⟨c, z⟩)
    obtain ⟨g2_, h⟩ := h
    replace K := fun i uo z => K i uo ⟨g2_, z⟩
    by_cases c : (qI U11 25 (((v11_2 - (1 : Int32)).toInt).toNat)).toInt = 2
    · replace h := h.1 c
      replace K := fun i uo z => K i uo (Or.inl ⟨c, z⟩)
      obtain ⟨Q9, h0, h⟩ := h
      obtain ⟨S28, z9, g9⟩ := ru_setLocal h0
      replace h := h S28 g9
      replace K := fun i uo z => K i uo ⟨S28, z9, z⟩
      exact ru_store_J37 i0 K h
    · replace h := h.2 c
      replace K := fun i uo z => K i uo (Or.inr ⟨c, z⟩)
      exact ru_store_J37 i0 K h
set_option maxRecDepth 100000 in
theorem ru_store {S : MS} {x1 : Int32} {x2 : Int32} {x3 : Int32} {Q : MS → Prop} (h : w_store S x1 x2 x3 Q) : ∃ uo, v_store S x1 x2 x3 uo ∧ Q uo := by
  have i0 : Unit := ()
  have K : ∀ (i : Unit) (uo : MS), v_store S x1 x2 x3 uo → v_store S x1 x2 x3 uo := fun _ _ z => z
  unfold w_store at h
  by_cases c : x1.toInt = 55
  · replace h := h.1 c
    replace K := fun i uo z => K i uo (Or.inl ⟨c, z⟩)
    exact ru_store_J11 i0 K h
  · replace h := h.2 c
    replace K := fun i uo z => K i uo (Or.inr ⟨c, z⟩)
    exact ru_store_J11 i0 K h
set_option maxRecDepth 100000 in
theorem vw_store_J91 {uo : MS} {U91 : MS} {t91_0 : Int32} {t91_1 : Int32} {v91_2 : Int32} {v91_4 : Int32} (h : v_store_J91 uo U91 t91_0 t91_1 v91_2 v91_4) : w_store_J91 (fun u => u = uo) U91 t91_0 t91_1 v91_2 v91_4 := by
  unfold v_store_J91 at h
  unfold w_store_J91
  obtain ⟨q9, z9, h⟩ := h
  refine ⟨_, vw_setLocal z9, ?_⟩
  intro q8 d9
  subst d9
  rcases h with ⟨c, h⟩ | ⟨c, h⟩
  · refine ⟨fun _ => ?_, fun c2 => absurd c c2⟩
    obtain ⟨q9, z9, h⟩ := h
    refine ⟨_, vw_setLocal z9, ?_⟩
    intro q8 d9
    subst d9
    exact h.symm
  · refine ⟨fun c2 => absurd c2 c, fun _ => ?_⟩
    exact h.symm
set_option maxRecDepth 100000 in
theorem vz_store_J91 {uo : MS} {Q : MS → Prop} {U91 : MS} {t91_0 : Int32} {t91_1 : Int32} {v91_2 : Int32} {v91_4 : Int32} (h : v_store_J91 uo U91 t91_0 t91_1 v91_2 v91_4) (w : w_store_J91 Q U91 t91_0 t91_1 v91_2 v91_4) : Q uo := by
  unfold v_store_J91 at h
  unfold w_store_J91 at w
  obtain ⟨q9, z9, h⟩ := h
  obtain ⟨Q9, w0, w⟩ := w
  replace w := w q9 (vz_setLocal z9 w0)
  rcases h with ⟨c, h⟩ | ⟨c, h⟩
  · replace w := w.1 c
    obtain ⟨q9, z9, h⟩ := h
    obtain ⟨Q9, w0, w⟩ := w
    replace w := w q9 (vz_setLocal z9 w0)
    rw [h]
    exact w
  · replace w := w.2 c
    rw [h]
    exact w
set_option maxRecDepth 100000 in
theorem vw_store_J68 {uo : MS} {U68 : MS} {v68_1 : Int32} {v68_2 : Int32} {v68_3 : Int32} {v68_4 : Int32} (h : v_store_J68 uo U68 v68_1 v68_2 v68_3 v68_4) : w_store_J68 (fun u => u = uo) U68 v68_1 v68_2 v68_3 v68_4 := by
  unfold v_store_J68 at h
  unfold w_store_J68
  rcases h with ⟨c, h⟩ | ⟨c, h⟩
  · refine ⟨fun _ => ?_, fun c2 => absurd c c2⟩
    exact vw_store_J91 h
  · refine ⟨fun c2 => absurd c2 c, fun _ => ?_⟩
    rcases h with ⟨c, h⟩ | ⟨c, h⟩
    · refine ⟨fun _ => ?_, fun c2 => absurd c c2⟩
      exact vw_store_J91 h
    · refine ⟨fun c2 => absurd c2 c, fun _ => ?_⟩
      exact vw_store_J91 h
set_option maxRecDepth 100000 in
theorem vz_store_J68 {uo : MS} {Q : MS → Prop} {U68 : MS} {v68_1 : Int32} {v68_2 : Int32} {v68_3 : Int32} {v68_4 : Int32} (h : v_store_J68 uo U68 v68_1 v68_2 v68_3 v68_4) (w : w_store_J68 Q U68 v68_1 v68_2 v68_3 v68_4) : Q uo := by
  unfold v_store_J68 at h
  unfold w_store_J68 at w
  rcases h with ⟨c, h⟩ | ⟨c, h⟩
  · replace w := w.1 c
    exact vz_store_J91 h w
  · replace w := w.2 c
    rcases h with ⟨c, h⟩ | ⟨c, h⟩
    · replace w := w.1 c
      exact vz_store_J91 h w
    · replace w := w.2 c
      exact vz_store_J91 h w
set_option maxRecDepth 100000 in
theorem vw_store_J37 {uo : MS} {U37 : MS} {v37_1 : Int32} {v37_2 : Int32} {v37_3 : Int32} {v37_4 : Int32} (h : v_store_J37 uo U37 v37_1 v37_2 v37_3 v37_4) : w_store_J37 (fun u => u = uo) U37 v37_1 v37_2 v37_3 v37_4 := by
  unfold v_store_J37 at h
  unfold w_store_J37
  rcases h with ⟨c, h⟩ | ⟨c, h⟩
  · refine ⟨fun _ => ?_, fun c2 => absurd c c2⟩
    exact vw_store_J68 h
  · refine ⟨fun c2 => absurd c2 c, fun _ => ?_⟩
    obtain ⟨g9, h⟩ := h
    refine ⟨g9, ?_⟩
    rcases h with ⟨c, h⟩ | ⟨c, h⟩
    · refine ⟨fun _ => ?_, fun c2 => absurd c c2⟩
      obtain ⟨q9, z9, h⟩ := h
      refine ⟨_, vw_setLocal z9, ?_⟩
      intro q8 d9
      subst d9
      exact vw_store_J68 h
    · refine ⟨fun c2 => absurd c2 c, fun _ => ?_⟩
      exact vw_store_J68 h
set_option maxRecDepth 100000 in
theorem vz_store_J37 {uo : MS} {Q : MS → Prop} {U37 : MS} {v37_1 : Int32} {v37_2 : Int32} {v37_3 : Int32} {v37_4 : Int32} (h : v_store_J37 uo U37 v37_1 v37_2 v37_3 v37_4) (w : w_store_J37 Q U37 v37_1 v37_2 v37_3 v37_4) : Q uo := by
  unfold v_store_J37 at h
  unfold w_store_J37 at w
  rcases h with ⟨c, h⟩ | ⟨c, h⟩
  · replace w := w.1 c
    exact vz_store_J68 h w
  · replace w := w.2 c
    replace h := h.2
    replace w := w.2
    rcases h with ⟨c, h⟩ | ⟨c, h⟩
    · replace w := w.1 c
      obtain ⟨q9, z9, h⟩ := h
      obtain ⟨Q9, w0, w⟩ := w
      replace w := w q9 (vz_setLocal z9 w0)
      exact vz_store_J68 h w
    · replace w := w.2 c
      exact vz_store_J68 h w
set_option maxRecDepth 100000 in
theorem vw_store_J11 {uo : MS} {U11 : MS} {t11_0 : Int32} {v11_1 : Int32} {v11_2 : Int32} {v11_3 : Int32} (h : v_store_J11 uo U11 t11_0 v11_1 v11_2 v11_3) : w_store_J11 (fun u => u = uo) U11 t11_0 v11_1 v11_2 v11_3 := by
  unfold v_store_J11 at h
  unfold w_store_J11
  rcases h with ⟨c, h⟩ | ⟨c, h⟩
  · refine ⟨fun _ => ?_, fun c2 => absurd c c2⟩
    exact vw_store_J37 h
  · refine ⟨fun c2 => absurd c2 c, fun _ => ?_⟩
    obtain ⟨g9, h⟩ := h
    refine ⟨g9, ?_⟩
    rcases h with ⟨c, h⟩ | ⟨c, h⟩
    · refine ⟨fun _ => ?_, fun c2 => absurd c c2⟩
      obtain ⟨q9, z9, h⟩ := h
      refine ⟨_, vw_setLocal z9, ?_⟩
      intro q8 d9
      subst d9
      exact vw_store_J37 h
    · refine ⟨fun c2 => absurd c2 c, fun _ => ?_⟩
      exact vw_store_J37 h
set_option maxRecDepth 100000 in
theorem vz_store_J11 {uo : MS} {Q : MS → Prop} {U11 : MS} {t11_0 : Int32} {v11_1 : Int32} {v11_2 : Int32} {v11_3 : Int32} (h : v_store_J11 uo U11 t11_0 v11_1 v11_2 v11_3) (w : w_store_J11 Q U11 t11_0 v11_1 v11_2 v11_3) : Q uo := by
  unfold v_store_J11 at h
  unfold w_store_J11 at w
  rcases h with ⟨c, h⟩ | ⟨c, h⟩
  · replace w := w.1 c
    exact vz_store_J37 h w
  · replace w := w.2 c
    replace h := h.2
    replace w := w.2
    rcases h with ⟨c, h⟩ | ⟨c, h⟩
    · replace w := w.1 c
      obtain ⟨q9, z9, h⟩ := h
      obtain ⟨Q9, w0, w⟩ := w
      replace w := w q9 (vz_setLocal z9 w0)
      exact vz_store_J37 h w
    · replace w := w.2 c
      exact vz_store_J37 h w
set_option maxRecDepth 100000 in
theorem vw_store {S : MS} {x1 : Int32} {x2 : Int32} {x3 : Int32} {uo : MS} (h : v_store S x1 x2 x3 uo) : w_store S x1 x2 x3 (fun u => u = uo) := by
  unfold v_store at h
  unfold w_store
  rcases h with ⟨c, h⟩ | ⟨c, h⟩
  · refine ⟨fun _ => ?_, fun c2 => absurd c c2⟩
    exact vw_store_J11 h
  · refine ⟨fun c2 => absurd c2 c, fun _ => ?_⟩
    exact vw_store_J11 h
set_option maxRecDepth 100000 in
theorem vz_store {S : MS} {x1 : Int32} {x2 : Int32} {x3 : Int32} {uo : MS} {Q : MS → Prop} (h : v_store S x1 x2 x3 uo) (w : w_store S x1 x2 x3 Q) : Q uo := by
  unfold v_store at h
  unfold w_store at w
  rcases h with ⟨c, h⟩ | ⟨c, h⟩
  · replace w := w.1 c
    exact vz_store_J11 h w
  · replace w := w.2 c
    exact vz_store_J11 h w
def v_takeLetter_J124 (uo : MS) (U124 : MS) (t124_0 : Int32) : Prop := (∃ (S14 : MS), v_need U124 t124_0 S14 ∧ (uo = S14))
def v_takeLetter_J123 (uo : MS) (U123 : MS) : Prop := (v_takeLetter_J124 uo U123 0)
def v_takeLetter_J80 (uo : MS) (U80 : MS) (t80_0 : Int32) : Prop := (∃ (S25 : MS), v_need U80 t80_0 S25 ∧ (uo = S25))
def v_takeLetter_J75 (uo : MS) (U75 : MS) : Prop := (v_takeLetter_J80 uo U75 1)
def v_takeLetter_J51 (uo : MS) (U51 : MS) (t51_0 : Int32) : Prop := (∃ (S30 : MS), v_need U51 t51_0 S30 ∧ (uo = S30))
def v_takeLetter_J46 (uo : MS) (U46 : MS) : Prop := (v_takeLetter_J51 uo U46 1)
def v_takeLetter_J22 (uo : MS) (U22 : MS) (t22_0 : Int32) : Prop := (∃ (S35 : MS), v_need U22 t22_0 S35 ∧ (uo = S35))
def v_takeLetter (S : MS) (x1 : Int32) (uo : MS) : Prop := (∃ (r2 : Int32) (S3 : MS), v_pull S r2 S3 ∧ ((x1.toInt = 73 ∧ ((r2.toInt = 1 ∧ (v_takeLetter_J22 uo S3 1)) ∨ (¬ r2.toInt = 1 ∧ (v_takeLetter_J22 uo S3 0)))) ∨ (¬ x1.toInt = 73 ∧ ((x1.toInt = 65 ∧ ((r2.toInt = 4 ∧ (v_takeLetter_J46 uo S3)) ∨ (¬ r2.toInt = 4 ∧ ((r2.toInt = 6 ∧ (v_takeLetter_J46 uo S3)) ∨ (¬ r2.toInt = 6 ∧ (v_takeLetter_J51 uo S3 0)))))) ∨ (¬ x1.toInt = 65 ∧ ((x1.toInt = 69 ∧ ((r2.toInt = 5 ∧ (v_takeLetter_J75 uo S3)) ∨ (¬ r2.toInt = 5 ∧ ((r2.toInt = 6 ∧ (v_takeLetter_J75 uo S3)) ∨ (¬ r2.toInt = 6 ∧ (v_takeLetter_J80 uo S3 0)))))) ∨ (¬ x1.toInt = 69 ∧ ((x1.toInt = 82 ∧ (d_isThing S3 r2 ∧ (∃ (S22 : MS), v_need S3 (f_isThing S3 r2) S22 ∧ (uo = S22)))) ∨ (¬ x1.toInt = 82 ∧ (∃ (r10 : Int32) (S11 : MS), v_pull S3 r10 S11 ∧ ((r2.toInt = 3 ∧ ((r10.toInt = 2 ∧ (v_takeLetter_J124 uo S11 1)) ∨ (¬ r10.toInt = 2 ∧ (v_takeLetter_J123 uo S11)))) ∨ (¬ r2.toInt = 3 ∧ (v_takeLetter_J123 uo S11)))))))))))))
set_option maxRecDepth 100000 in
theorem ru_takeLetter_J124 {ι : Type} {P : MS → Prop} {Q : MS → Prop} {U124 : MS} {t124_0 : Int32} (i0 : ι) (K : ∀ (i : ι) (uo : MS), v_takeLetter_J124 uo U124 t124_0 → P uo) (h : w_takeLetter_J124 Q U124 t124_0) : ∃ uo, P uo ∧ Q uo := by
  unfold w_takeLetter_J124 at h
  obtain ⟨Q9, h0, h⟩ := h
  obtain ⟨S14, z9, g9⟩ := ru_need h0
  replace h := h S14 g9
  replace K := fun i uo z => K i uo ⟨S14, z9, z⟩
  exact ⟨_, K i0 _ rfl, h⟩
set_option maxRecDepth 100000 in
theorem ru_takeLetter_J123 {ι : Type} {P : MS → Prop} {Q : MS → Prop} {U123 : MS} (i0 : ι) (K : ∀ (i : ι) (uo : MS), v_takeLetter_J123 uo U123 → P uo) (h : w_takeLetter_J123 Q U123) : ∃ uo, P uo ∧ Q uo := by
  unfold w_takeLetter_J123 at h
  exact ru_takeLetter_J124 i0 K h
set_option maxRecDepth 100000 in
theorem ru_takeLetter_J80 {ι : Type} {P : MS → Prop} {Q : MS → Prop} {U80 : MS} {t80_0 : Int32} (i0 : ι) (K : ∀ (i : ι) (uo : MS), v_takeLetter_J80 uo U80 t80_0 → P uo) (h : w_takeLetter_J80 Q U80 t80_0) : ∃ uo, P uo ∧ Q uo := by
  unfold w_takeLetter_J80 at h
  obtain ⟨Q9, h0, h⟩ := h
  obtain ⟨S25, z9, g9⟩ := ru_need h0
  replace h := h S25 g9
  replace K := fun i uo z => K i uo ⟨S25, z9, z⟩
  exact ⟨_, K i0 _ rfl, h⟩
set_option maxRecDepth 100000 in
theorem ru_takeLetter_J75 {ι : Type} {P : MS → Prop} {Q : MS → Prop} {U75 : MS} (i0 : ι) (K : ∀ (i : ι) (uo : MS), v_takeLetter_J75 uo U75 → P uo) (h : w_takeLetter_J75 Q U75) : ∃ uo, P uo ∧ Q uo := by
  unfold w_takeLetter_J75 at h
  exact ru_takeLetter_J80 i0 K h
set_option maxRecDepth 100000 in
theorem ru_takeLetter_J51 {ι : Type} {P : MS → Prop} {Q : MS → Prop} {U51 : MS} {t51_0 : Int32} (i0 : ι) (K : ∀ (i : ι) (uo : MS), v_takeLetter_J51 uo U51 t51_0 → P uo) (h : w_takeLetter_J51 Q U51 t51_0) : ∃ uo, P uo ∧ Q uo := by
  unfold w_takeLetter_J51 at h
  obtain ⟨Q9, h0, h⟩ := h
  obtain ⟨S30, z9, g9⟩ := ru_need h0
  replace h := h S30 g9
  replace K := fun i uo z => K i uo ⟨S30, z9, z⟩
  exact ⟨_, K i0 _ rfl, h⟩
set_option maxRecDepth 100000 in
theorem ru_takeLetter_J46 {ι : Type} {P : MS → Prop} {Q : MS → Prop} {U46 : MS} (i0 : ι) (K : ∀ (i : ι) (uo : MS), v_takeLetter_J46 uo U46 → P uo) (h : w_takeLetter_J46 Q U46) : ∃ uo, P uo ∧ Q uo := by
  unfold w_takeLetter_J46 at h
  exact ru_takeLetter_J51 i0 K h
set_option maxRecDepth 100000 in
theorem ru_takeLetter_J22 {ι : Type} {P : MS → Prop} {Q : MS → Prop} {U22 : MS} {t22_0 : Int32} (i0 : ι) (K : ∀ (i : ι) (uo : MS), v_takeLetter_J22 uo U22 t22_0 → P uo) (h : w_takeLetter_J22 Q U22 t22_0) : ∃ uo, P uo ∧ Q uo := by
  unfold w_takeLetter_J22 at h
  obtain ⟨Q9, h0, h⟩ := h
  obtain ⟨S35, z9, g9⟩ := ru_need h0
  replace h := h S35 g9
  replace K := fun i uo z => K i uo ⟨S35, z9, z⟩
  exact ⟨_, K i0 _ rfl, h⟩
set_option maxRecDepth 100000 in
theorem ru_takeLetter {S : MS} {x1 : Int32} {Q : MS → Prop} (h : w_takeLetter S x1 Q) : ∃ uo, v_takeLetter S x1 uo ∧ Q uo := by
  have i0 : Unit := ()
  have K : ∀ (i : Unit) (uo : MS), v_takeLetter S x1 uo → v_takeLetter S x1 uo := fun _ _ z => z
  unfold w_takeLetter at h
  obtain ⟨Q9, h0, h⟩ := h
  obtain ⟨r2, S3, z9, g9⟩ := ru_pull h0
  replace h := h r2 S3 g9
  replace K := fun i uo z => K i uo ⟨r2, S3, z9, z⟩
  by_cases c : x1.toInt = 73
  · replace h := h.1 c
    replace K := fun i uo z => K i uo (Or.inl ⟨c, z⟩)
    by_cases c : r2.toInt = 1
    · replace h := h.1 c
      replace K := fun i uo z => K i uo (Or.inl ⟨c, z⟩)
      exact ru_takeLetter_J22 i0 K h
    · replace h := h.2 c
      replace K := fun i uo z => K i uo (Or.inr ⟨c, z⟩)
      exact ru_takeLetter_J22 i0 K h
  · replace h := h.2 c
    replace K := fun i uo z => K i uo (Or.inr ⟨c, z⟩)
    by_cases c : x1.toInt = 65
    · replace h := h.1 c
      replace K := fun i uo z => K i uo (Or.inl ⟨c, z⟩)
      by_cases c : r2.toInt = 4
      · replace h := h.1 c
        replace K := fun i uo z => K i uo (Or.inl ⟨c, z⟩)
        exact ru_takeLetter_J46 i0 K h
      · replace h := h.2 c
        replace K := fun i uo z => K i uo (Or.inr ⟨c, z⟩)
        by_cases c : r2.toInt = 6
        · replace h := h.1 c
          replace K := fun i uo z => K i uo (Or.inl ⟨c, z⟩)
          exact ru_takeLetter_J46 i0 K h
        · replace h := h.2 c
          replace K := fun i uo z => K i uo (Or.inr ⟨c, z⟩)
          exact ru_takeLetter_J51 i0 K h
    · replace h := h.2 c
      replace K := fun i uo z => K i uo (Or.inr ⟨c, z⟩)
      by_cases c : x1.toInt = 69
      · replace h := h.1 c
        replace K := fun i uo z => K i uo (Or.inl ⟨c, z⟩)
        by_cases c : r2.toInt = 5
        · replace h := h.1 c
          replace K := fun i uo z => K i uo (Or.inl ⟨c, z⟩)
          exact ru_takeLetter_J75 i0 K h
        · replace h := h.2 c
          replace K := fun i uo z => K i uo (Or.inr ⟨c, z⟩)
          by_cases c : r2.toInt = 6
          · replace h := h.1 c
            replace K := fun i uo z => K i uo (Or.inl ⟨c, z⟩)
            exact ru_takeLetter_J75 i0 K h
          · replace h := h.2 c
            replace K := fun i uo z => K i uo (Or.inr ⟨c, z⟩)
            exact ru_takeLetter_J80 i0 K h
      · replace h := h.2 c
        replace K := fun i uo z => K i uo (Or.inr ⟨c, z⟩)
        by_cases c : x1.toInt = 82
        · replace h := h.1 c
          replace K := fun i uo z => K i uo (Or.inl ⟨c, z⟩)
          obtain ⟨g1_, h⟩ := h
          replace K := fun i uo z => K i uo ⟨g1_, z⟩
          obtain ⟨Q9, h0, h⟩ := h
          obtain ⟨S22, z9, g9⟩ := ru_need h0
          replace h := h S22 g9
          replace K := fun i uo z => K i uo ⟨S22, z9, z⟩
          exact ⟨_, K i0 _ rfl, h⟩
        · replace h := h.2 c
          replace K := fun i uo z => K i uo (Or.inr ⟨c, z⟩)
          obtain ⟨Q9, h0, h⟩ := h
          obtain ⟨r10, S11, z9, g9⟩ := ru_pull h0
          replace h := h r10 S11 g9
          replace K := fun i uo z => K i uo ⟨r10, S11, z9, z⟩
          by_cases c : r2.toInt = 3
          · replace h := h.1 c
            replace K := fun i uo z => K i uo (Or.inl ⟨c, z⟩)
            by_cases c : r10.toInt = 2
            · replace h := h.1 c
              replace K := fun i uo z => K i uo (Or.inl ⟨c, z⟩)
              exact ru_takeLetter_J124 i0 K h
            · replace h := h.2 c
              replace K := fun i uo z => K i uo (Or.inr ⟨c, z⟩)
              exact ru_takeLetter_J123 i0 K h
          · replace h := h.2 c
            replace K := fun i uo z => K i uo (Or.inr ⟨c, z⟩)
            exact ru_takeLetter_J123 i0 K h
set_option maxRecDepth 100000 in
theorem vw_takeLetter_J124 {uo : MS} {U124 : MS} {t124_0 : Int32} (h : v_takeLetter_J124 uo U124 t124_0) : w_takeLetter_J124 (fun u => u = uo) U124 t124_0 := by
  unfold v_takeLetter_J124 at h
  unfold w_takeLetter_J124
  obtain ⟨q9, z9, h⟩ := h
  refine ⟨_, vw_need z9, ?_⟩
  intro q8 d9
  subst d9
  exact h.symm
set_option maxRecDepth 100000 in
theorem vz_takeLetter_J124 {uo : MS} {Q : MS → Prop} {U124 : MS} {t124_0 : Int32} (h : v_takeLetter_J124 uo U124 t124_0) (w : w_takeLetter_J124 Q U124 t124_0) : Q uo := by
  unfold v_takeLetter_J124 at h
  unfold w_takeLetter_J124 at w
  obtain ⟨q9, z9, h⟩ := h
  obtain ⟨Q9, w0, w⟩ := w
  replace w := w q9 (vz_need z9 w0)
  rw [h]
  exact w
set_option maxRecDepth 100000 in
theorem vw_takeLetter_J123 {uo : MS} {U123 : MS} (h : v_takeLetter_J123 uo U123) : w_takeLetter_J123 (fun u => u = uo) U123 := by
  unfold v_takeLetter_J123 at h
  unfold w_takeLetter_J123
  exact vw_takeLetter_J124 h
set_option maxRecDepth 100000 in
theorem vz_takeLetter_J123 {uo : MS} {Q : MS → Prop} {U123 : MS} (h : v_takeLetter_J123 uo U123) (w : w_takeLetter_J123 Q U123) : Q uo := by
  unfold v_takeLetter_J123 at h
  unfold w_takeLetter_J123 at w
  exact vz_takeLetter_J124 h w
set_option maxRecDepth 100000 in
theorem vw_takeLetter_J80 {uo : MS} {U80 : MS} {t80_0 : Int32} (h : v_takeLetter_J80 uo U80 t80_0) : w_takeLetter_J80 (fun u => u = uo) U80 t80_0 := by
  unfold v_takeLetter_J80 at h
  unfold w_takeLetter_J80
  obtain ⟨q9, z9, h⟩ := h
  refine ⟨_, vw_need z9, ?_⟩
  intro q8 d9
  subst d9
  exact h.symm
set_option maxRecDepth 100000 in
theorem vz_takeLetter_J80 {uo : MS} {Q : MS → Prop} {U80 : MS} {t80_0 : Int32} (h : v_takeLetter_J80 uo U80 t80_0) (w : w_takeLetter_J80 Q U80 t80_0) : Q uo := by
  unfold v_takeLetter_J80 at h
  unfold w_takeLetter_J80 at w
  obtain ⟨q9, z9, h⟩ := h
  obtain ⟨Q9, w0, w⟩ := w
  replace w := w q9 (vz_need z9 w0)
  rw [h]
  exact w
set_option maxRecDepth 100000 in
theorem vw_takeLetter_J75 {uo : MS} {U75 : MS} (h : v_takeLetter_J75 uo U75) : w_takeLetter_J75 (fun u => u = uo) U75 := by
  unfold v_takeLetter_J75 at h
  unfold w_takeLetter_J75
  exact vw_takeLetter_J80 h
set_option maxRecDepth 100000 in
theorem vz_takeLetter_J75 {uo : MS} {Q : MS → Prop} {U75 : MS} (h : v_takeLetter_J75 uo U75) (w : w_takeLetter_J75 Q U75) : Q uo := by
  unfold v_takeLetter_J75 at h
  unfold w_takeLetter_J75 at w
  exact vz_takeLetter_J80 h w
set_option maxRecDepth 100000 in
theorem vw_takeLetter_J51 {uo : MS} {U51 : MS} {t51_0 : Int32} (h : v_takeLetter_J51 uo U51 t51_0) : w_takeLetter_J51 (fun u => u = uo) U51 t51_0 := by
  unfold v_takeLetter_J51 at h
  unfold w_takeLetter_J51
  obtain ⟨q9, z9, h⟩ := h
  refine ⟨_, vw_need z9, ?_⟩
  intro q8 d9
  subst d9
  exact h.symm
set_option maxRecDepth 100000 in
theorem vz_takeLetter_J51 {uo : MS} {Q : MS → Prop} {U51 : MS} {t51_0 : Int32} (h : v_takeLetter_J51 uo U51 t51_0) (w : w_takeLetter_J51 Q U51 t51_0) : Q uo := by
  unfold v_takeLetter_J51 at h
  unfold w_takeLetter_J51 at w
  obtain ⟨q9, z9, h⟩ := h
  obtain ⟨Q9, w0, w⟩ := w
  replace w := w q9 (vz_need z9 w0)
  rw [h]
  exact w
set_option maxRecDepth 100000 in
theorem vw_takeLetter_J46 {uo : MS} {U46 : MS} (h : v_takeLetter_J46 uo U46) : w_takeLetter_J46 (fun u => u = uo) U46 := by
  unfold v_takeLetter_J46 at h
  unfold w_takeLetter_J46
  exact vw_takeLetter_J51 h
set_option maxRecDepth 100000 in
theorem vz_takeLetter_J46 {uo : MS} {Q : MS → Prop} {U46 : MS} (h : v_takeLetter_J46 uo U46) (w : w_takeLetter_J46 Q U46) : Q uo := by
  unfold v_takeLetter_J46 at h
  unfold w_takeLetter_J46 at w
  exact vz_takeLetter_J51 h w
set_option maxRecDepth 100000 in
theorem vw_takeLetter_J22 {uo : MS} {U22 : MS} {t22_0 : Int32} (h : v_takeLetter_J22 uo U22 t22_0) : w_takeLetter_J22 (fun u => u = uo) U22 t22_0 := by
  unfold v_takeLetter_J22 at h
  unfold w_takeLetter_J22
  obtain ⟨q9, z9, h⟩ := h
  refine ⟨_, vw_need z9, ?_⟩
  intro q8 d9
  subst d9
  exact h.symm
set_option maxRecDepth 100000 in
theorem vz_takeLetter_J22 {uo : MS} {Q : MS → Prop} {U22 : MS} {t22_0 : Int32} (h : v_takeLetter_J22 uo U22 t22_0) (w : w_takeLetter_J22 Q U22 t22_0) : Q uo := by
  unfold v_takeLetter_J22 at h
  unfold w_takeLetter_J22 at w
  obtain ⟨q9, z9, h⟩ := h
  obtain ⟨Q9, w0, w⟩ := w
  replace w := w q9 (vz_need z9 w0)
  rw [h]
  exact w
set_option maxRecDepth 100000 in
theorem vw_takeLetter {S : MS} {x1 : Int32} {uo : MS} (h : v_takeLetter S x1 uo) : w_takeLetter S x1 (fun u => u = uo) := by
  unfold v_takeLetter at h
  unfold w_takeLetter
  obtain ⟨p9, q9, z9, h⟩ := h
  refine ⟨_, vw_pull z9, ?_⟩
  rintro p8 q8 ⟨d8, d9⟩
  subst d8
  subst d9
  rcases h with ⟨c, h⟩ | ⟨c, h⟩
  · refine ⟨fun _ => ?_, fun c2 => absurd c c2⟩
    rcases h with ⟨c, h⟩ | ⟨c, h⟩
    · refine ⟨fun _ => ?_, fun c2 => absurd c c2⟩
      exact vw_takeLetter_J22 h
    · refine ⟨fun c2 => absurd c2 c, fun _ => ?_⟩
      exact vw_takeLetter_J22 h
  · refine ⟨fun c2 => absurd c2 c, fun _ => ?_⟩
    rcases h with ⟨c, h⟩ | ⟨c, h⟩
    · refine ⟨fun _ => ?_, fun c2 => absurd c c2⟩
      rcases h with ⟨c, h⟩ | ⟨c, h⟩
      · refine ⟨fun _ => ?_, fun c2 => absurd c c2⟩
        exact vw_takeLetter_J46 h
      · refine ⟨fun c2 => absurd c2 c, fun _ => ?_⟩
        rcases h with ⟨c, h⟩ | ⟨c, h⟩
        · refine ⟨fun _ => ?_, fun c2 => absurd c c2⟩
          exact vw_takeLetter_J46 h
        · refine ⟨fun c2 => absurd c2 c, fun _ => ?_⟩
          exact vw_takeLetter_J51 h
    · refine ⟨fun c2 => absurd c2 c, fun _ => ?_⟩
      rcases h with ⟨c, h⟩ | ⟨c, h⟩
      · refine ⟨fun _ => ?_, fun c2 => absurd c c2⟩
        rcases h with ⟨c, h⟩ | ⟨c, h⟩
        · refine ⟨fun _ => ?_, fun c2 => absurd c c2⟩
          exact vw_takeLetter_J75 h
        · refine ⟨fun c2 => absurd c2 c, fun _ => ?_⟩
          rcases h with ⟨c, h⟩ | ⟨c, h⟩
          · refine ⟨fun _ => ?_, fun c2 => absurd c c2⟩
            exact vw_takeLetter_J75 h
          · refine ⟨fun c2 => absurd c2 c, fun _ => ?_⟩
            exact vw_takeLetter_J80 h
      · refine ⟨fun c2 => absurd c2 c, fun _ => ?_⟩
        rcases h with ⟨c, h⟩ | ⟨c, h⟩
        · refine ⟨fun _ => ?_, fun c2 => absurd c c2⟩
          obtain ⟨g9, h⟩ := h
          refine ⟨g9, ?_⟩
          obtain ⟨q9, z9, h⟩ := h
          refine ⟨_, vw_need z9, ?_⟩
          intro q8 d9
          subst d9
          exact h.symm
        · refine ⟨fun c2 => absurd c2 c, fun _ => ?_⟩
          obtain ⟨p9, q9, z9, h⟩ := h
          refine ⟨_, vw_pull z9, ?_⟩
          rintro p8 q8 ⟨d8, d9⟩
          subst d8
          subst d9
          rcases h with ⟨c, h⟩ | ⟨c, h⟩
          · refine ⟨fun _ => ?_, fun c2 => absurd c c2⟩
            rcases h with ⟨c, h⟩ | ⟨c, h⟩
            · refine ⟨fun _ => ?_, fun c2 => absurd c c2⟩
              exact vw_takeLetter_J124 h
            · refine ⟨fun c2 => absurd c2 c, fun _ => ?_⟩
              exact vw_takeLetter_J123 h
          · refine ⟨fun c2 => absurd c2 c, fun _ => ?_⟩
            exact vw_takeLetter_J123 h
set_option maxRecDepth 100000 in
theorem vz_takeLetter {S : MS} {x1 : Int32} {uo : MS} {Q : MS → Prop} (h : v_takeLetter S x1 uo) (w : w_takeLetter S x1 Q) : Q uo := by
  unfold v_takeLetter at h
  unfold w_takeLetter at w
  obtain ⟨p9, q9, z9, h⟩ := h
  obtain ⟨Q9, w0, w⟩ := w
  replace w := w p9 q9 (vz_pull z9 w0)
  rcases h with ⟨c, h⟩ | ⟨c, h⟩
  · replace w := w.1 c
    rcases h with ⟨c, h⟩ | ⟨c, h⟩
    · replace w := w.1 c
      exact vz_takeLetter_J22 h w
    · replace w := w.2 c
      exact vz_takeLetter_J22 h w
  · replace w := w.2 c
    rcases h with ⟨c, h⟩ | ⟨c, h⟩
    · replace w := w.1 c
      rcases h with ⟨c, h⟩ | ⟨c, h⟩
      · replace w := w.1 c
        exact vz_takeLetter_J46 h w
      · replace w := w.2 c
        rcases h with ⟨c, h⟩ | ⟨c, h⟩
        · replace w := w.1 c
          exact vz_takeLetter_J46 h w
        · replace w := w.2 c
          exact vz_takeLetter_J51 h w
    · replace w := w.2 c
      rcases h with ⟨c, h⟩ | ⟨c, h⟩
      · replace w := w.1 c
        rcases h with ⟨c, h⟩ | ⟨c, h⟩
        · replace w := w.1 c
          exact vz_takeLetter_J75 h w
        · replace w := w.2 c
          rcases h with ⟨c, h⟩ | ⟨c, h⟩
          · replace w := w.1 c
            exact vz_takeLetter_J75 h w
          · replace w := w.2 c
            exact vz_takeLetter_J80 h w
      · replace w := w.2 c
        rcases h with ⟨c, h⟩ | ⟨c, h⟩
        · replace w := w.1 c
          replace h := h.2
          replace w := w.2
          obtain ⟨q9, z9, h⟩ := h
          obtain ⟨Q9, w0, w⟩ := w
          replace w := w q9 (vz_need z9 w0)
          rw [h]
          exact w
        · replace w := w.2 c
          obtain ⟨p9, q9, z9, h⟩ := h
          obtain ⟨Q9, w0, w⟩ := w
          replace w := w p9 q9 (vz_pull z9 w0)
          rcases h with ⟨c, h⟩ | ⟨c, h⟩
          · replace w := w.1 c
            rcases h with ⟨c, h⟩ | ⟨c, h⟩
            · replace w := w.1 c
              exact vz_takeLetter_J124 h w
            · replace w := w.2 c
              exact vz_takeLetter_J123 h w
          · replace w := w.2 c
            exact vz_takeLetter_J123 h w
def v_work_J312 (uo : MS) (U312 : MS) (v312_1 : Int32) (v312_4 : Int32) : Prop := (d_givesOf U312 v312_1 ∧ (∃ (S24 : MS), v_giveLetters U312 (f_givesOf U312 v312_1) v312_4 S24 ∧ (uo = S24)))
def v_work_J300 (uo : MS) (U300 : MS) (v300_1 : Int32) (v300_3 : Int32) (v300_4 : Int32) : Prop := (d_first U300 v300_1 ∧ (∃ (S30 : MS), v_store U300 v300_3 (f_first U300 v300_1) v300_4 S30 ∧ (v_work_J312 uo S30 v300_1 v300_4)))
def v_work_L260 (uo : MS) : Nat → MS → Int32 → Int32 → Int32 → Nat → Int32 → Prop
  | 0, _, _, _, _, _, _ => False
  | n260 + 1, U260, v260_1, v260_3, v260_4, v260_5, v260_6 => ((v260_6.toInt < 0 ∧ ((v260_3.toInt = 54 ∧ (v_work_J300 uo U260 v260_1 v260_3 v260_4)) ∨ (¬ v260_3.toInt = 54 ∧ ((v260_3.toInt = 55 ∧ (v_work_J300 uo U260 v260_1 v260_3 v260_4)) ∨ (¬ v260_3.toInt = 55 ∧ ((v260_3.toInt = 58 ∧ (v_work_J300 uo U260 v260_1 v260_3 v260_4)) ∨ (¬ v260_3.toInt = 58 ∧ (v_work_J312 uo U260 v260_1 v260_4)))))))) ∨ (¬ v260_6.toInt < 0 ∧ (((0 : Int) ≤ v260_6.toInt ∧ v260_6.toInt < (qN U260 (v260_5 + 1) : Int)) ∧ (∃ (S38 : MS), v_takeLetter U260 (cAt U260 v260_5 v260_6) S38 ∧ (∃ a40 : Int32, a40 = (v260_6 + Int32.ofInt (-1)) ∧ ((v_work_L260 uo n260) S38 v260_1 v260_3 v260_4 v260_5 a40))))))
def v_work_J244 (uo : MS) (U244 : MS) (v244_1 : Int32) (v244_3 : Int32) (v244_4 : Int32) : Prop := (d_takesOf U244 v244_1 ∧ (∃ a18 : Int32, a18 = ((Int32.ofNat (qN U244 ((f_takesOf U244 v244_1) + 1))) - (1 : Int32)) ∧ (∃ n, v_work_L260 uo n U244 v244_1 v244_3 v244_4 (f_takesOf U244 v244_1) a18)))
def v_work_J238 (uo : MS) (U238 : MS) (t238_0 : Nat) (t238_1 : Nat) (v238_1 : Int32) (v238_3 : Int32) (v238_4 : Int32) : Prop := (∃ (S43 : MS), v_need U238 (sEq U238 t238_1 t238_0) S43 ∧ (v_work_J244 uo S43 v238_1 v238_3 v238_4))
def v_work_J194 (uo : MS) (U194 : MS) (v194_1 : Int32) (v194_2 : Nat) (v194_3 : Int32) (v194_4 : Int32) : Prop := ((v194_3.toInt = 172 ∧ (v_work_J238 uo U194 10000016 v194_2 v194_1 v194_3 v194_4)) ∨ (¬ v194_3.toInt = 172 ∧ ((v194_3.toInt = 173 ∧ (v_work_J238 uo U194 10000022 v194_2 v194_1 v194_3 v194_4)) ∨ (¬ v194_3.toInt = 173 ∧ ((v194_3.toInt = 176 ∧ (v_work_J238 uo U194 10000028 v194_2 v194_1 v194_3 v194_4)) ∨ (¬ v194_3.toInt = 176 ∧ (v_work_J238 uo U194 10000032 v194_2 v194_1 v194_3 v194_4)))))))
def v_work_J166 (uo : MS) (U166 : MS) (v166_1 : Int32) (v166_2 : Nat) (v166_3 : Int32) (v166_4 : Int32) : Prop := ((v166_3.toInt = 172 ∧ (v_work_J194 uo U166 v166_1 v166_2 v166_3 v166_4)) ∨ (¬ v166_3.toInt = 172 ∧ ((v166_3.toInt = 173 ∧ (v_work_J194 uo U166 v166_1 v166_2 v166_3 v166_4)) ∨ (¬ v166_3.toInt = 173 ∧ ((v166_3.toInt = 176 ∧ (v_work_J194 uo U166 v166_1 v166_2 v166_3 v166_4)) ∨ (¬ v166_3.toInt = 176 ∧ ((v166_3.toInt = 177 ∧ (v_work_J194 uo U166 v166_1 v166_2 v166_3 v166_4)) ∨ (¬ v166_3.toInt = 177 ∧ (v_work_J244 uo U166 v166_1 v166_3 v166_4)))))))))
def v_work_J163 (uo : MS) (U163 : MS) (t163_0 : Int32) (v163_1 : Int32) (v163_2 : Nat) (v163_3 : Int32) (v163_4 : Int32) : Prop := (∃ (S63 : MS), v_need U163 t163_0 S63 ∧ (v_work_J166 uo S63 v163_1 v163_2 v163_3 v163_4))
def v_work_J162 (uo : MS) (U162 : MS) (v162_1 : Int32) (v162_2 : Nat) (v162_3 : Int32) (v162_4 : Int32) : Prop := (v_work_J163 uo U162 0 v162_1 v162_2 v162_3 v162_4)
def v_work_J121 (uo : MS) (U121 : MS) (v121_1 : Int32) (v121_2 : Nat) (v121_3 : Int32) (v121_4 : Int32) : Prop := ((v121_3.toInt = 22 ∧ (d_first U121 v121_1 ∧ (((0 : Int) ≤ (f_first U121 v121_1).toInt ∧ (f_first U121 v121_1).toInt < 24) ∧ (((qI U121 25 (((f_first U121 v121_1).toInt).toNat)).toInt = 2 ∧ (d_first U121 v121_1 ∧ (((0 : Int) ≤ ((f_first U121 v121_1) + (1 : Int32)).toInt ∧ ((f_first U121 v121_1) + (1 : Int32)).toInt < 24) ∧ (((qI U121 25 ((((f_first U121 v121_1) + (1 : Int32)).toInt).toNat)).toInt = 3 ∧ (v_work_J163 uo U121 1 v121_1 v121_2 v121_3 v121_4)) ∨ (¬ (qI U121 25 ((((f_first U121 v121_1) + (1 : Int32)).toInt).toNat)).toInt = 3 ∧ (v_work_J162 uo U121 v121_1 v121_2 v121_3 v121_4)))))) ∨ (¬ (qI U121 25 (((f_first U121 v121_1).toInt).toNat)).toInt = 2 ∧ (v_work_J162 uo U121 v121_1 v121_2 v121_3 v121_4)))))) ∨ (¬ v121_3.toInt = 22 ∧ (v_work_J166 uo U121 v121_1 v121_2 v121_3 v121_4)))
def v_work_J118 (uo : MS) (U118 : MS) (t118_0 : Int32) (v118_1 : Int32) (v118_2 : Nat) (v118_3 : Int32) (v118_4 : Int32) : Prop := (∃ (S79 : MS), v_need U118 t118_0 S79 ∧ (v_work_J121 uo S79 v118_1 v118_2 v118_3 v118_4))
def v_work_J98 (uo : MS) (U98 : MS) (v98_1 : Int32) (v98_2 : Nat) (v98_3 : Int32) (v98_4 : Int32) : Prop := (d_first U98 v98_1 ∧ (((0 : Int) ≤ (f_first U98 v98_1).toInt ∧ (f_first U98 v98_1).toInt < 24) ∧ (((qI U98 25 (((f_first U98 v98_1).toInt).toNat)).toInt = 1 ∧ (v_work_J118 uo U98 1 v98_1 v98_2 v98_3 v98_4)) ∨ (¬ (qI U98 25 (((f_first U98 v98_1).toInt).toNat)).toInt = 1 ∧ (v_work_J118 uo U98 0 v98_1 v98_2 v98_3 v98_4)))))
def v_work_J85 (uo : MS) (U85 : MS) (v85_1 : Int32) (v85_2 : Nat) (v85_3 : Int32) (v85_4 : Int32) : Prop := ((v85_3.toInt = 21 ∧ (v_work_J98 uo U85 v85_1 v85_2 v85_3 v85_4)) ∨ (¬ v85_3.toInt = 21 ∧ ((v85_3.toInt = 132 ∧ (v_work_J98 uo U85 v85_1 v85_2 v85_3 v85_4)) ∨ (¬ v85_3.toInt = 132 ∧ (v_work_J121 uo U85 v85_1 v85_2 v85_3 v85_4)))))
def v_work_J74 (uo : MS) (U74 : MS) (v74_1 : Int32) (v74_2 : Nat) (v74_3 : Int32) (v74_4 : Int32) : Prop := (d_isThing U74 v74_4 ∧ (((f_isThing U74 v74_4).toInt = 0 ∧ (v_work_J85 uo U74 v74_1 v74_2 v74_3 0)) ∨ (¬ (f_isThing U74 v74_4).toInt = 0 ∧ (v_work_J85 uo U74 v74_1 v74_2 v74_3 v74_4))))
def v_work_J45 (uo : MS) (U45 : MS) (t45_0 : Int32) (v45_1 : Int32) (v45_2 : Nat) (v45_3 : Int32) : Prop := ((v45_3.toInt = 25 ∧ (d_first U45 v45_1 ∧ (((0 : Int) ≤ (f_first U45 v45_1).toInt ∧ (f_first U45 v45_1).toInt < 24) ∧ (∃ a91 : Int32, a91 = (qI U45 25 (((f_first U45 v45_1).toInt).toNat)) ∧ (d_isThing U45 a91 ∧ (∃ (S96 : MS), v_need U45 (f_isThing U45 a91) S96 ∧ (v_work_J74 uo S96 v45_1 v45_2 v45_3 a91))))))) ∨ (¬ v45_3.toInt = 25 ∧ (v_work_J74 uo U45 v45_1 v45_2 v45_3 t45_0)))
def v_work (S : MS) (x1 : Int32) (p2 : Nat) (uo : MS) : Prop := (∃ S1 : MS, S1 = wI S 0 63 1 ∧ (d_op S1 x1 ∧ (∃ a5 : Int32, a5 = (f_op S1 x1) ∧ (d_moved S1 a5 ∧ (((f_moved S1 a5).toInt ≤ 0 ∧ ((a5.toInt = 58 ∧ (((0 : Int) ≤ ((qI S1 0 62) - (1 : Int32)).toInt ∧ ((qI S1 0 62) - (1 : Int32)).toInt < 28) ∧ (v_work_J45 uo S1 (qI S1 26 ((((qI S1 0 62) - (1 : Int32)).toInt).toNat)) x1 p2 a5))) ∨ (¬ a5.toInt = 58 ∧ (v_work_J45 uo S1 0 x1 p2 a5)))) ∨ (¬ (f_moved S1 a5).toInt ≤ 0 ∧ (∃ (S103 : MS), v_move S1 a5 S103 ∧ (uo = S103))))))))
set_option maxRecDepth 100000 in
theorem ru_work_J312 {ι : Type} {P : MS → Prop} {Q : MS → Prop} {U312 : MS} {v312_1 : Int32} {v312_4 : Int32} (i0 : ι) (K : ∀ (i : ι) (uo : MS), v_work_J312 uo U312 v312_1 v312_4 → P uo) (h : w_work_J312 Q U312 v312_1 v312_4) : ∃ uo, P uo ∧ Q uo := by
  unfold w_work_J312 at h
  obtain ⟨g1_, h⟩ := h
  replace K := fun i uo z => K i uo ⟨g1_, z⟩
  obtain ⟨Q9, h0, h⟩ := h
  obtain ⟨S24, z9, g9⟩ := ru_giveLetters h0
  replace h := h S24 g9
  replace K := fun i uo z => K i uo ⟨S24, z9, z⟩
  exact ⟨_, K i0 _ rfl, h⟩
set_option maxRecDepth 100000 in
theorem ru_work_J300 {ι : Type} {P : MS → Prop} {Q : MS → Prop} {U300 : MS} {v300_1 : Int32} {v300_3 : Int32} {v300_4 : Int32} (i0 : ι) (K : ∀ (i : ι) (uo : MS), v_work_J300 uo U300 v300_1 v300_3 v300_4 → P uo) (h : w_work_J300 Q U300 v300_1 v300_3 v300_4) : ∃ uo, P uo ∧ Q uo := by
  unfold w_work_J300 at h
  obtain ⟨g2_, h⟩ := h
  replace K := fun i uo z => K i uo ⟨g2_, z⟩
  obtain ⟨Q9, h0, h⟩ := h
  obtain ⟨S30, z9, g9⟩ := ru_store h0
  replace h := h S30 g9
  replace K := fun i uo z => K i uo ⟨S30, z9, z⟩
  exact ru_work_J312 i0 K h
set_option maxRecDepth 100000 in
theorem ru_work_L260 {ι : Type} {P : MS → Prop} {Q : MS → Prop} : ∀ (n : Nat) {U260 : MS} {v260_1 : Int32} {v260_3 : Int32} {v260_4 : Int32} {v260_5 : Nat} {v260_6 : Int32} (i0 : ι), (∀ (i : ι) (uo : MS), (∃ n8, v_work_L260 uo n8 U260 v260_1 v260_3 v260_4 v260_5 v260_6) → P uo) → w_work_L260 Q n U260 v260_1 v260_3 v260_4 v260_5 v260_6 → ∃ uo, P uo ∧ Q uo := by
  intro n
  induction n with
  | zero => intro U260 v260_1 v260_3 v260_4 v260_5 v260_6 i0 K h; unfold w_work_L260 at h; exact h.elim
  | succ n ih =>
    intro U260 v260_1 v260_3 v260_4 v260_5 v260_6 i0 K h
    unfold w_work_L260 at h
    replace K := fun (i : ι × Nat) uo (z : v_work_L260 uo (i.2 + 1) U260 v260_1 v260_3 v260_4 v260_5 v260_6) => K i.1 uo ⟨i.2 + 1, z⟩
    have i00 := i0
    replace i0 : ι × Nat := (i0, 0)
    by_cases c : v260_6.toInt < 0
    · replace h := h.1 c
      replace K := fun i uo z => K i uo (Or.inl ⟨c, z⟩)
      by_cases c : v260_3.toInt = 54
      · replace h := h.1 c
        replace K := fun i uo z => K i uo (Or.inl ⟨c, z⟩)
        exact ru_work_J300 i0 K h
      · replace h := h.2 c
        replace K := fun i uo z => K i uo (Or.inr ⟨c, z⟩)
        by_cases c : v260_3.toInt = 55
        · replace h := h.1 c
          replace K := fun i uo z => K i uo (Or.inl ⟨c, z⟩)
          exact ru_work_J300 i0 K h
        · replace h := h.2 c
          replace K := fun i uo z => K i uo (Or.inr ⟨c, z⟩)
          by_cases c : v260_3.toInt = 58
          · replace h := h.1 c
            replace K := fun i uo z => K i uo (Or.inl ⟨c, z⟩)
            exact ru_work_J300 i0 K h
          · replace h := h.2 c
            replace K := fun i uo z => K i uo (Or.inr ⟨c, z⟩)
            exact ru_work_J312 i0 K h
    · replace h := h.2 c
      replace K := fun i uo z => K i uo (Or.inr ⟨c, z⟩)
      obtain ⟨g3_, h⟩ := h
      replace K := fun i uo z => K i uo ⟨g3_, z⟩
      obtain ⟨Q9, h0, h⟩ := h
      obtain ⟨S38, z9, g9⟩ := ru_takeLetter h0
      replace h := h S38 g9
      replace K := fun i uo z => K i uo ⟨S38, z9, z⟩
      obtain ⟨a40, ea40⟩ : ∃ x9 : Int32, x9 = (v260_6 + Int32.ofInt (-1)) := ⟨_, rfl⟩
      replace h := h a40 ea40
      replace K := fun i uo z => K i uo ⟨a40, ea40, z⟩
      exact ih i00 (fun i uo ⟨n8, z⟩ => K (i, n8) uo z) h
set_option maxRecDepth 100000 in
theorem ru_work_J244 {ι : Type} {P : MS → Prop} {Q : MS → Prop} {U244 : MS} {v244_1 : Int32} {v244_3 : Int32} {v244_4 : Int32} (i0 : ι) (K : ∀ (i : ι) (uo : MS), v_work_J244 uo U244 v244_1 v244_3 v244_4 → P uo) (h : w_work_J244 Q U244 v244_1 v244_3 v244_4) : ∃ uo, P uo ∧ Q uo := by
  unfold w_work_J244 at h
  obtain ⟨g4_, h⟩ := h
  replace K := fun i uo z => K i uo ⟨g4_, z⟩
  obtain ⟨a18, ea18⟩ : ∃ x9 : Int32, x9 = ((Int32.ofNat (qN U244 ((f_takesOf U244 v244_1) + 1))) - (1 : Int32)) := ⟨_, rfl⟩
  replace h := h a18 ea18
  replace K := fun i uo z => K i uo ⟨a18, ea18, z⟩
  obtain ⟨n9, h⟩ := h
  exact ru_work_L260 n9 i0 K h
set_option maxRecDepth 100000 in
theorem ru_work_J238 {ι : Type} {P : MS → Prop} {Q : MS → Prop} {U238 : MS} {t238_0 : Nat} {t238_1 : Nat} {v238_1 : Int32} {v238_3 : Int32} {v238_4 : Int32} (i0 : ι) (K : ∀ (i : ι) (uo : MS), v_work_J238 uo U238 t238_0 t238_1 v238_1 v238_3 v238_4 → P uo) (h : w_work_J238 Q U238 t238_0 t238_1 v238_1 v238_3 v238_4) : ∃ uo, P uo ∧ Q uo := by
  unfold w_work_J238 at h
  obtain ⟨Q9, h0, h⟩ := h
  obtain ⟨S43, z9, g9⟩ := ru_need h0
  replace h := h S43 g9
  replace K := fun i uo z => K i uo ⟨S43, z9, z⟩
  exact ru_work_J244 i0 K h
set_option maxRecDepth 100000 in
theorem ru_work_J194 {ι : Type} {P : MS → Prop} {Q : MS → Prop} {U194 : MS} {v194_1 : Int32} {v194_2 : Nat} {v194_3 : Int32} {v194_4 : Int32} (i0 : ι) (K : ∀ (i : ι) (uo : MS), v_work_J194 uo U194 v194_1 v194_2 v194_3 v194_4 → P uo) (h : w_work_J194 Q U194 v194_1 v194_2 v194_3 v194_4) : ∃ uo, P uo ∧ Q uo := by
  unfold w_work_J194 at h
  by_cases c : v194_3.toInt = 172
  · replace h := h.1 c
    replace K := fun i uo z => K i uo (Or.inl ⟨c, z⟩)
    exact ru_work_J238 i0 K h
  · replace h := h.2 c
    replace K := fun i uo z => K i uo (Or.inr ⟨c, z⟩)
    by_cases c : v194_3.toInt = 173
    · replace h := h.1 c
      replace K := fun i uo z => K i uo (Or.inl ⟨c, z⟩)
      exact ru_work_J238 i0 K h
    · replace h := h.2 c
      replace K := fun i uo z => K i uo (Or.inr ⟨c, z⟩)
      by_cases c : v194_3.toInt = 176
      · replace h := h.1 c
        replace K := fun i uo z => K i uo (Or.inl ⟨c, z⟩)
        exact ru_work_J238 i0 K h
      · replace h := h.2 c
        replace K := fun i uo z => K i uo (Or.inr ⟨c, z⟩)
        exact ru_work_J238 i0 K h
set_option maxRecDepth 100000 in
theorem ru_work_J166 {ι : Type} {P : MS → Prop} {Q : MS → Prop} {U166 : MS} {v166_1 : Int32} {v166_2 : Nat} {v166_3 : Int32} {v166_4 : Int32} (i0 : ι) (K : ∀ (i : ι) (uo : MS), v_work_J166 uo U166 v166_1 v166_2 v166_3 v166_4 → P uo) (h : w_work_J166 Q U166 v166_1 v166_2 v166_3 v166_4) : ∃ uo, P uo ∧ Q uo := by
  unfold w_work_J166 at h
  by_cases c : v166_3.toInt = 172
  · replace h := h.1 c
    replace K := fun i uo z => K i uo (Or.inl ⟨c, z⟩)
    exact ru_work_J194 i0 K h
  · replace h := h.2 c
    replace K := fun i uo z => K i uo (Or.inr ⟨c, z⟩)
    by_cases c : v166_3.toInt = 173
    · replace h := h.1 c
      replace K := fun i uo z => K i uo (Or.inl ⟨c, z⟩)
      exact ru_work_J194 i0 K h
    · replace h := h.2 c
      replace K := fun i uo z => K i uo (Or.inr ⟨c, z⟩)
      by_cases c : v166_3.toInt = 176
      · replace h := h.1 c
        replace K := fun i uo z => K i uo (Or.inl ⟨c, z⟩)
        exact ru_work_J194 i0 K h
      · replace h := h.2 c
        replace K := fun i uo z => K i uo (Or.inr ⟨c, z⟩)
        by_cases c : v166_3.toInt = 177
        · replace h := h.1 c
          replace K := fun i uo z => K i uo (Or.inl ⟨c, z⟩)
          exact ru_work_J194 i0 K h
        · replace h := h.2 c
          replace K := fun i uo z => K i uo (Or.inr ⟨c, z⟩)
          exact ru_work_J244 i0 K h
set_option maxRecDepth 100000 in
theorem ru_work_J163 {ι : Type} {P : MS → Prop} {Q : MS → Prop} {U163 : MS} {t163_0 : Int32} {v163_1 : Int32} {v163_2 : Nat} {v163_3 : Int32} {v163_4 : Int32} (i0 : ι) (K : ∀ (i : ι) (uo : MS), v_work_J163 uo U163 t163_0 v163_1 v163_2 v163_3 v163_4 → P uo) (h : w_work_J163 Q U163 t163_0 v163_1 v163_2 v163_3 v163_4) : ∃ uo, P uo ∧ Q uo := by
  unfold w_work_J163 at h
  obtain ⟨Q9, h0, h⟩ := h
  obtain ⟨S63, z9, g9⟩ := ru_need h0
  replace h := h S63 g9
  replace K := fun i uo z => K i uo ⟨S63, z9, z⟩
  exact ru_work_J166 i0 K h
set_option maxRecDepth 100000 in
theorem ru_work_J162 {ι : Type} {P : MS → Prop} {Q : MS → Prop} {U162 : MS} {v162_1 : Int32} {v162_2 : Nat} {v162_3 : Int32} {v162_4 : Int32} (i0 : ι) (K : ∀ (i : ι) (uo : MS), v_work_J162 uo U162 v162_1 v162_2 v162_3 v162_4 → P uo) (h : w_work_J162 Q U162 v162_1 v162_2 v162_3 v162_4) : ∃ uo, P uo ∧ Q uo := by
  unfold w_work_J162 at h
  exact ru_work_J163 i0 K h
set_option maxRecDepth 100000 in
theorem ru_work_J121 {ι : Type} {P : MS → Prop} {Q : MS → Prop} {U121 : MS} {v121_1 : Int32} {v121_2 : Nat} {v121_3 : Int32} {v121_4 : Int32} (i0 : ι) (K : ∀ (i : ι) (uo : MS), v_work_J121 uo U121 v121_1 v121_2 v121_3 v121_4 → P uo) (h : w_work_J121 Q U121 v121_1 v121_2 v121_3 v121_4) : ∃ uo, P uo ∧ Q uo := by
  unfold w_work_J121 at h
  by_cases c : v121_3.toInt = 22
  · replace h := h.1 c
    replace K := fun i uo z => K i uo (Or.inl ⟨c, z⟩)
    obtain ⟨g5_, h⟩ := h
    replace K := fun i uo z => K i uo ⟨g5_, z⟩
    obtain ⟨g6_, h⟩ := h
    replace K := fun i uo z => K i uo ⟨g6_, z⟩
    by_cases c : (qI U121 25 (((f_first U121 v121_1).toInt).toNat)).toInt = 2
    · replace h := h.1 c
      replace K := fun i uo z => K i uo (Or.inl ⟨c, z⟩)
      obtain ⟨g7_, h⟩ := h
      replace K := fun i uo z => K i uo ⟨g7_, z⟩
      obtain ⟨g8_, h⟩ := h
      replace K := fun i uo z => K i uo ⟨g8_, z⟩
      by_cases c : (qI U121 25 ((((f_first U121 v121_1) + (1 : Int32)).toInt).toNat)).toInt = 3
      · replace h := h.1 c
        replace K := fun i uo z => K i uo (Or.inl ⟨c, z⟩)
        exact ru_work_J163 i0 K h
      · replace h := h.2 c
        replace K := fun i uo z => K i uo (Or.inr ⟨c, z⟩)
        exact ru_work_J162 i0 K h
    · replace h := h.2 c
      replace K := fun i uo z => K i uo (Or.inr ⟨c, z⟩)
      exact ru_work_J162 i0 K h
  · replace h := h.2 c
    replace K := fun i uo z => K i uo (Or.inr ⟨c, z⟩)
    exact ru_work_J166 i0 K h
set_option maxRecDepth 100000 in
theorem ru_work_J118 {ι : Type} {P : MS → Prop} {Q : MS → Prop} {U118 : MS} {t118_0 : Int32} {v118_1 : Int32} {v118_2 : Nat} {v118_3 : Int32} {v118_4 : Int32} (i0 : ι) (K : ∀ (i : ι) (uo : MS), v_work_J118 uo U118 t118_0 v118_1 v118_2 v118_3 v118_4 → P uo) (h : w_work_J118 Q U118 t118_0 v118_1 v118_2 v118_3 v118_4) : ∃ uo, P uo ∧ Q uo := by
  unfold w_work_J118 at h
  obtain ⟨Q9, h0, h⟩ := h
  obtain ⟨S79, z9, g9⟩ := ru_need h0
  replace h := h S79 g9
  replace K := fun i uo z => K i uo ⟨S79, z9, z⟩
  exact ru_work_J121 i0 K h
set_option maxRecDepth 100000 in
theorem ru_work_J98 {ι : Type} {P : MS → Prop} {Q : MS → Prop} {U98 : MS} {v98_1 : Int32} {v98_2 : Nat} {v98_3 : Int32} {v98_4 : Int32} (i0 : ι) (K : ∀ (i : ι) (uo : MS), v_work_J98 uo U98 v98_1 v98_2 v98_3 v98_4 → P uo) (h : w_work_J98 Q U98 v98_1 v98_2 v98_3 v98_4) : ∃ uo, P uo ∧ Q uo := by
  unfold w_work_J98 at h
  obtain ⟨g9_, h⟩ := h
  replace K := fun i uo z => K i uo ⟨g9_, z⟩
  obtain ⟨g10_, h⟩ := h
  replace K := fun i uo z => K i uo ⟨g10_, z⟩
  by_cases c : (qI U98 25 (((f_first U98 v98_1).toInt).toNat)).toInt = 1
  · replace h := h.1 c
    replace K := fun i uo z => K i uo (Or.inl ⟨c, z⟩)
    exact ru_work_J118 i0 K h
  · replace h := h.2 c
    replace K := fun i uo z => K i uo (Or.inr ⟨c, z⟩)
    exact ru_work_J118 i0 K h
set_option maxRecDepth 100000 in
theorem ru_work_J85 {ι : Type} {P : MS → Prop} {Q : MS → Prop} {U85 : MS} {v85_1 : Int32} {v85_2 : Nat} {v85_3 : Int32} {v85_4 : Int32} (i0 : ι) (K : ∀ (i : ι) (uo : MS), v_work_J85 uo U85 v85_1 v85_2 v85_3 v85_4 → P uo) (h : w_work_J85 Q U85 v85_1 v85_2 v85_3 v85_4) : ∃ uo, P uo ∧ Q uo := by
  unfold w_work_J85 at h
  by_cases c : v85_3.toInt = 21
  · replace h := h.1 c
    replace K := fun i uo z => K i uo (Or.inl ⟨c, z⟩)
    exact ru_work_J98 i0 K h
  · replace h := h.2 c
    replace K := fun i uo z => K i uo (Or.inr ⟨c, z⟩)
    by_cases c : v85_3.toInt = 132
    · replace h := h.1 c
      replace K := fun i uo z => K i uo (Or.inl ⟨c, z⟩)
      exact ru_work_J98 i0 K h
    · replace h := h.2 c
      replace K := fun i uo z => K i uo (Or.inr ⟨c, z⟩)
      exact ru_work_J121 i0 K h
set_option maxRecDepth 100000 in
theorem ru_work_J74 {ι : Type} {P : MS → Prop} {Q : MS → Prop} {U74 : MS} {v74_1 : Int32} {v74_2 : Nat} {v74_3 : Int32} {v74_4 : Int32} (i0 : ι) (K : ∀ (i : ι) (uo : MS), v_work_J74 uo U74 v74_1 v74_2 v74_3 v74_4 → P uo) (h : w_work_J74 Q U74 v74_1 v74_2 v74_3 v74_4) : ∃ uo, P uo ∧ Q uo := by
  unfold w_work_J74 at h
  obtain ⟨g11_, h⟩ := h
  replace K := fun i uo z => K i uo ⟨g11_, z⟩
  by_cases c : (f_isThing U74 v74_4).toInt = 0
  · replace h := h.1 c
    replace K := fun i uo z => K i uo (Or.inl ⟨c, z⟩)
    exact ru_work_J85 i0 K h
  · replace h := h.2 c
    replace K := fun i uo z => K i uo (Or.inr ⟨c, z⟩)
    exact ru_work_J85 i0 K h
set_option maxRecDepth 100000 in
theorem ru_work_J45 {ι : Type} {P : MS → Prop} {Q : MS → Prop} {U45 : MS} {t45_0 : Int32} {v45_1 : Int32} {v45_2 : Nat} {v45_3 : Int32} (i0 : ι) (K : ∀ (i : ι) (uo : MS), v_work_J45 uo U45 t45_0 v45_1 v45_2 v45_3 → P uo) (h : w_work_J45 Q U45 t45_0 v45_1 v45_2 v45_3) : ∃ uo, P uo ∧ Q uo := by
  unfold w_work_J45 at h
  by_cases c : v45_3.toInt = 25
  · replace h := h.1 c
    replace K := fun i uo z => K i uo (Or.inl ⟨c, z⟩)
    obtain ⟨g12_, h⟩ := h
    replace K := fun i uo z => K i uo ⟨g12_, z⟩
    obtain ⟨g13_, h⟩ := h
    replace K := fun i uo z => K i uo ⟨g13_, z⟩
    obtain ⟨a91, ea91⟩ : ∃ x9 : Int32, x9 = (qI U45 25 (((f_first U45 v45_1).toInt).toNat)) := ⟨_, rfl⟩
    replace h := h a91 ea91
    replace K := fun i uo z => K i uo ⟨a91, ea91, z⟩
    obtain ⟨g14_, h⟩ := h
    replace K := fun i uo z => K i uo ⟨g14_, z⟩
    obtain ⟨Q9, h0, h⟩ := h
    obtain ⟨S96, z9, g9⟩ := ru_need h0
    replace h := h S96 g9
    replace K := fun i uo z => K i uo ⟨S96, z9, z⟩
    exact ru_work_J74 i0 K h
  · replace h := h.2 c
    replace K := fun i uo z => K i uo (Or.inr ⟨c, z⟩)
    exact ru_work_J74 i0 K h
set_option maxRecDepth 100000 in
theorem ru_work {S : MS} {x1 : Int32} {p2 : Nat} {Q : MS → Prop} (h : w_work S x1 p2 Q) : ∃ uo, v_work S x1 p2 uo ∧ Q uo := by
  have i0 : Unit := ()
  have K : ∀ (i : Unit) (uo : MS), v_work S x1 p2 uo → v_work S x1 p2 uo := fun _ _ z => z
  unfold w_work at h
  obtain ⟨S1, eS1⟩ : ∃ x9 : MS, x9 = wI S 0 63 1 := ⟨_, rfl⟩
  replace h := h S1 eS1
  replace K := fun i uo z => K i uo ⟨S1, eS1, z⟩
  obtain ⟨g15_, h⟩ := h
  replace K := fun i uo z => K i uo ⟨g15_, z⟩
  obtain ⟨a5, ea5⟩ : ∃ x9 : Int32, x9 = (f_op S1 x1) := ⟨_, rfl⟩
  replace h := h a5 ea5
  replace K := fun i uo z => K i uo ⟨a5, ea5, z⟩
  obtain ⟨g16_, h⟩ := h
  replace K := fun i uo z => K i uo ⟨g16_, z⟩
  by_cases c : (f_moved S1 a5).toInt ≤ 0
  · replace h := h.1 c
    replace K := fun i uo z => K i uo (Or.inl ⟨c, z⟩)
    by_cases c : a5.toInt = 58
    · replace h := h.1 c
      replace K := fun i uo z => K i uo (Or.inl ⟨c, z⟩)
      obtain ⟨g17_, h⟩ := h
      replace K := fun i uo z => K i uo ⟨g17_, z⟩
      exact ru_work_J45 i0 K h
    · replace h := h.2 c
      replace K := fun i uo z => K i uo (Or.inr ⟨c, z⟩)
      exact ru_work_J45 i0 K h
  · replace h := h.2 c
    replace K := fun i uo z => K i uo (Or.inr ⟨c, z⟩)
    obtain ⟨Q9, h0, h⟩ := h
    obtain ⟨S103, z9, g9⟩ := ru_move h0
    replace h := h S103 g9
    replace K := fun i uo z => K i uo ⟨S103, z9, z⟩
    exact ⟨_, K i0 _ rfl, h⟩
set_option maxRecDepth 100000 in
theorem vw_work_J312 {uo : MS} {U312 : MS} {v312_1 : Int32} {v312_4 : Int32} (h : v_work_J312 uo U312 v312_1 v312_4) : w_work_J312 (fun u => u = uo) U312 v312_1 v312_4 := by
  unfold v_work_J312 at h
  unfold w_work_J312
  obtain ⟨g9, h⟩ := h
  refine ⟨g9, ?_⟩
  obtain ⟨q9, z9, h⟩ := h
  refine ⟨_, vw_giveLetters z9, ?_⟩
  intro q8 d9
  subst d9
  exact h.symm
set_option maxRecDepth 100000 in
theorem vz_work_J312 {uo : MS} {Q : MS → Prop} {U312 : MS} {v312_1 : Int32} {v312_4 : Int32} (h : v_work_J312 uo U312 v312_1 v312_4) (w : w_work_J312 Q U312 v312_1 v312_4) : Q uo := by
  unfold v_work_J312 at h
  unfold w_work_J312 at w
  replace h := h.2
  replace w := w.2
  obtain ⟨q9, z9, h⟩ := h
  obtain ⟨Q9, w0, w⟩ := w
  replace w := w q9 (vz_giveLetters z9 w0)
  rw [h]
  exact w
set_option maxRecDepth 100000 in
theorem vw_work_J300 {uo : MS} {U300 : MS} {v300_1 : Int32} {v300_3 : Int32} {v300_4 : Int32} (h : v_work_J300 uo U300 v300_1 v300_3 v300_4) : w_work_J300 (fun u => u = uo) U300 v300_1 v300_3 v300_4 := by
  unfold v_work_J300 at h
  unfold w_work_J300
  obtain ⟨g9, h⟩ := h
  refine ⟨g9, ?_⟩
  obtain ⟨q9, z9, h⟩ := h
  refine ⟨_, vw_store z9, ?_⟩
  intro q8 d9
  subst d9
  exact vw_work_J312 h
set_option maxRecDepth 100000 in
theorem vz_work_J300 {uo : MS} {Q : MS → Prop} {U300 : MS} {v300_1 : Int32} {v300_3 : Int32} {v300_4 : Int32} (h : v_work_J300 uo U300 v300_1 v300_3 v300_4) (w : w_work_J300 Q U300 v300_1 v300_3 v300_4) : Q uo := by
  unfold v_work_J300 at h
  unfold w_work_J300 at w
  replace h := h.2
  replace w := w.2
  obtain ⟨q9, z9, h⟩ := h
  obtain ⟨Q9, w0, w⟩ := w
  replace w := w q9 (vz_store z9 w0)
  exact vz_work_J312 h w
set_option maxRecDepth 100000 in
theorem vw_work_L260 {uo : MS} : ∀ (n : Nat) {U260 : MS} {v260_1 : Int32} {v260_3 : Int32} {v260_4 : Int32} {v260_5 : Nat} {v260_6 : Int32}, v_work_L260 uo n U260 v260_1 v260_3 v260_4 v260_5 v260_6 → w_work_L260 (fun u => u = uo) n U260 v260_1 v260_3 v260_4 v260_5 v260_6 := by
  intro n
  induction n with
  | zero => intro U260 v260_1 v260_3 v260_4 v260_5 v260_6 h; unfold v_work_L260 at h; exact h.elim
  | succ n ih =>
    intro U260 v260_1 v260_3 v260_4 v260_5 v260_6 h
    unfold v_work_L260 at h
    unfold w_work_L260
    rcases h with ⟨c, h⟩ | ⟨c, h⟩
    · refine ⟨fun _ => ?_, fun c2 => absurd c c2⟩
      rcases h with ⟨c, h⟩ | ⟨c, h⟩
      · refine ⟨fun _ => ?_, fun c2 => absurd c c2⟩
        exact vw_work_J300 h
      · refine ⟨fun c2 => absurd c2 c, fun _ => ?_⟩
        rcases h with ⟨c, h⟩ | ⟨c, h⟩
        · refine ⟨fun _ => ?_, fun c2 => absurd c c2⟩
          exact vw_work_J300 h
        · refine ⟨fun c2 => absurd c2 c, fun _ => ?_⟩
          rcases h with ⟨c, h⟩ | ⟨c, h⟩
          · refine ⟨fun _ => ?_, fun c2 => absurd c c2⟩
            exact vw_work_J300 h
          · refine ⟨fun c2 => absurd c2 c, fun _ => ?_⟩
            exact vw_work_J312 h
    · refine ⟨fun c2 => absurd c2 c, fun _ => ?_⟩
      obtain ⟨g9, h⟩ := h
      refine ⟨g9, ?_⟩
      obtain ⟨q9, z9, h⟩ := h
      refine ⟨_, vw_takeLetter z9, ?_⟩
      intro q8 d9
      subst d9
      obtain ⟨v9, e9, h⟩ := h
      intro x9 d9
      have c9 : v9 = x9 := e9.trans d9.symm
      subst c9
      exact ih h
set_option maxRecDepth 100000 in
theorem vz_work_L260 {uo : MS} {Q : MS → Prop} : ∀ (n m : Nat) {U260 : MS} {v260_1 : Int32} {v260_3 : Int32} {v260_4 : Int32} {v260_5 : Nat} {v260_6 : Int32}, v_work_L260 uo n U260 v260_1 v260_3 v260_4 v260_5 v260_6 → w_work_L260 Q m U260 v260_1 v260_3 v260_4 v260_5 v260_6 → Q uo := by
  intro n
  induction n with
  | zero => intro m U260 v260_1 v260_3 v260_4 v260_5 v260_6 h; unfold v_work_L260 at h; exact h.elim
  | succ n ih =>
    intro m U260 v260_1 v260_3 v260_4 v260_5 v260_6 h w
    cases m with
    | zero => unfold w_work_L260 at w; exact w.elim
    | succ m =>
      unfold v_work_L260 at h
      unfold w_work_L260 at w
      rcases h with ⟨c, h⟩ | ⟨c, h⟩
      · replace w := w.1 c
        rcases h with ⟨c, h⟩ | ⟨c, h⟩
        · replace w := w.1 c
          exact vz_work_J300 h w
        · replace w := w.2 c
          rcases h with ⟨c, h⟩ | ⟨c, h⟩
          · replace w := w.1 c
            exact vz_work_J300 h w
          · replace w := w.2 c
            rcases h with ⟨c, h⟩ | ⟨c, h⟩
            · replace w := w.1 c
              exact vz_work_J300 h w
            · replace w := w.2 c
              exact vz_work_J312 h w
      · replace w := w.2 c
        replace h := h.2
        replace w := w.2
        obtain ⟨q9, z9, h⟩ := h
        obtain ⟨Q9, w0, w⟩ := w
        replace w := w q9 (vz_takeLetter z9 w0)
        obtain ⟨v9, e9, h⟩ := h
        replace w := w v9 e9
        exact ih m h w
set_option maxRecDepth 100000 in
theorem vw_work_J244 {uo : MS} {U244 : MS} {v244_1 : Int32} {v244_3 : Int32} {v244_4 : Int32} (h : v_work_J244 uo U244 v244_1 v244_3 v244_4) : w_work_J244 (fun u => u = uo) U244 v244_1 v244_3 v244_4 := by
  unfold v_work_J244 at h
  unfold w_work_J244
  obtain ⟨g9, h⟩ := h
  refine ⟨g9, ?_⟩
  obtain ⟨v9, e9, h⟩ := h
  intro x9 d9
  have c9 : v9 = x9 := e9.trans d9.symm
  subst c9
  obtain ⟨n9, h⟩ := h
  exact ⟨n9, vw_work_L260 n9 h⟩
set_option maxRecDepth 100000 in
theorem vz_work_J244 {uo : MS} {Q : MS → Prop} {U244 : MS} {v244_1 : Int32} {v244_3 : Int32} {v244_4 : Int32} (h : v_work_J244 uo U244 v244_1 v244_3 v244_4) (w : w_work_J244 Q U244 v244_1 v244_3 v244_4) : Q uo := by
  unfold v_work_J244 at h
  unfold w_work_J244 at w
  replace h := h.2
  replace w := w.2
  obtain ⟨v9, e9, h⟩ := h
  replace w := w v9 e9
  obtain ⟨n9, h⟩ := h
  obtain ⟨n8, w⟩ := w
  exact vz_work_L260 n9 n8 h w
set_option maxRecDepth 100000 in
theorem vw_work_J238 {uo : MS} {U238 : MS} {t238_0 : Nat} {t238_1 : Nat} {v238_1 : Int32} {v238_3 : Int32} {v238_4 : Int32} (h : v_work_J238 uo U238 t238_0 t238_1 v238_1 v238_3 v238_4) : w_work_J238 (fun u => u = uo) U238 t238_0 t238_1 v238_1 v238_3 v238_4 := by
  unfold v_work_J238 at h
  unfold w_work_J238
  obtain ⟨q9, z9, h⟩ := h
  refine ⟨_, vw_need z9, ?_⟩
  intro q8 d9
  subst d9
  exact vw_work_J244 h
set_option maxRecDepth 100000 in
theorem vz_work_J238 {uo : MS} {Q : MS → Prop} {U238 : MS} {t238_0 : Nat} {t238_1 : Nat} {v238_1 : Int32} {v238_3 : Int32} {v238_4 : Int32} (h : v_work_J238 uo U238 t238_0 t238_1 v238_1 v238_3 v238_4) (w : w_work_J238 Q U238 t238_0 t238_1 v238_1 v238_3 v238_4) : Q uo := by
  unfold v_work_J238 at h
  unfold w_work_J238 at w
  obtain ⟨q9, z9, h⟩ := h
  obtain ⟨Q9, w0, w⟩ := w
  replace w := w q9 (vz_need z9 w0)
  exact vz_work_J244 h w
set_option maxRecDepth 100000 in
theorem vw_work_J194 {uo : MS} {U194 : MS} {v194_1 : Int32} {v194_2 : Nat} {v194_3 : Int32} {v194_4 : Int32} (h : v_work_J194 uo U194 v194_1 v194_2 v194_3 v194_4) : w_work_J194 (fun u => u = uo) U194 v194_1 v194_2 v194_3 v194_4 := by
  unfold v_work_J194 at h
  unfold w_work_J194
  rcases h with ⟨c, h⟩ | ⟨c, h⟩
  · refine ⟨fun _ => ?_, fun c2 => absurd c c2⟩
    exact vw_work_J238 h
  · refine ⟨fun c2 => absurd c2 c, fun _ => ?_⟩
    rcases h with ⟨c, h⟩ | ⟨c, h⟩
    · refine ⟨fun _ => ?_, fun c2 => absurd c c2⟩
      exact vw_work_J238 h
    · refine ⟨fun c2 => absurd c2 c, fun _ => ?_⟩
      rcases h with ⟨c, h⟩ | ⟨c, h⟩
      · refine ⟨fun _ => ?_, fun c2 => absurd c c2⟩
        exact vw_work_J238 h
      · refine ⟨fun c2 => absurd c2 c, fun _ => ?_⟩
        exact vw_work_J238 h
set_option maxRecDepth 100000 in
theorem vz_work_J194 {uo : MS} {Q : MS → Prop} {U194 : MS} {v194_1 : Int32} {v194_2 : Nat} {v194_3 : Int32} {v194_4 : Int32} (h : v_work_J194 uo U194 v194_1 v194_2 v194_3 v194_4) (w : w_work_J194 Q U194 v194_1 v194_2 v194_3 v194_4) : Q uo := by
  unfold v_work_J194 at h
  unfold w_work_J194 at w
  rcases h with ⟨c, h⟩ | ⟨c, h⟩
  · replace w := w.1 c
    exact vz_work_J238 h w
  · replace w := w.2 c
    rcases h with ⟨c, h⟩ | ⟨c, h⟩
    · replace w := w.1 c
      exact vz_work_J238 h w
    · replace w := w.2 c
      rcases h with ⟨c, h⟩ | ⟨c, h⟩
      · replace w := w.1 c
        exact vz_work_J238 h w
      · replace w := w.2 c
        exact vz_work_J238 h w
set_option maxRecDepth 100000 in
theorem vw_work_J166 {uo : MS} {U166 : MS} {v166_1 : Int32} {v166_2 : Nat} {v166_3 : Int32} {v166_4 : Int32} (h : v_work_J166 uo U166 v166_1 v166_2 v166_3 v166_4) : w_work_J166 (fun u => u = uo) U166 v166_1 v166_2 v166_3 v166_4 := by
  unfold v_work_J166 at h
  unfold w_work_J166
  rcases h with ⟨c, h⟩ | ⟨c, h⟩
  · refine ⟨fun _ => ?_, fun c2 => absurd c c2⟩
    exact vw_work_J194 h
  · refine ⟨fun c2 => absurd c2 c, fun _ => ?_⟩
    rcases h with ⟨c, h⟩ | ⟨c, h⟩
    · refine ⟨fun _ => ?_, fun c2 => absurd c c2⟩
      exact vw_work_J194 h
    · refine ⟨fun c2 => absurd c2 c, fun _ => ?_⟩
      rcases h with ⟨c, h⟩ | ⟨c, h⟩
      · refine ⟨fun _ => ?_, fun c2 => absurd c c2⟩
        exact vw_work_J194 h
      · refine ⟨fun c2 => absurd c2 c, fun _ => ?_⟩
        rcases h with ⟨c, h⟩ | ⟨c, h⟩
        · refine ⟨fun _ => ?_, fun c2 => absurd c c2⟩
          exact vw_work_J194 h
        · refine ⟨fun c2 => absurd c2 c, fun _ => ?_⟩
          exact vw_work_J244 h
set_option maxRecDepth 100000 in
theorem vz_work_J166 {uo : MS} {Q : MS → Prop} {U166 : MS} {v166_1 : Int32} {v166_2 : Nat} {v166_3 : Int32} {v166_4 : Int32} (h : v_work_J166 uo U166 v166_1 v166_2 v166_3 v166_4) (w : w_work_J166 Q U166 v166_1 v166_2 v166_3 v166_4) : Q uo := by
  unfold v_work_J166 at h
  unfold w_work_J166 at w
  rcases h with ⟨c, h⟩ | ⟨c, h⟩
  · replace w := w.1 c
    exact vz_work_J194 h w
  · replace w := w.2 c
    rcases h with ⟨c, h⟩ | ⟨c, h⟩
    · replace w := w.1 c
      exact vz_work_J194 h w
    · replace w := w.2 c
      rcases h with ⟨c, h⟩ | ⟨c, h⟩
      · replace w := w.1 c
        exact vz_work_J194 h w
      · replace w := w.2 c
        rcases h with ⟨c, h⟩ | ⟨c, h⟩
        · replace w := w.1 c
          exact vz_work_J194 h w
        · replace w := w.2 c
          exact vz_work_J244 h w
set_option maxRecDepth 100000 in
theorem vw_work_J163 {uo : MS} {U163 : MS} {t163_0 : Int32} {v163_1 : Int32} {v163_2 : Nat} {v163_3 : Int32} {v163_4 : Int32} (h : v_work_J163 uo U163 t163_0 v163_1 v163_2 v163_3 v163_4) : w_work_J163 (fun u => u = uo) U163 t163_0 v163_1 v163_2 v163_3 v163_4 := by
  unfold v_work_J163 at h
  unfold w_work_J163
  obtain ⟨q9, z9, h⟩ := h
  refine ⟨_, vw_need z9, ?_⟩
  intro q8 d9
  subst d9
  exact vw_work_J166 h
set_option maxRecDepth 100000 in
theorem vz_work_J163 {uo : MS} {Q : MS → Prop} {U163 : MS} {t163_0 : Int32} {v163_1 : Int32} {v163_2 : Nat} {v163_3 : Int32} {v163_4 : Int32} (h : v_work_J163 uo U163 t163_0 v163_1 v163_2 v163_3 v163_4) (w : w_work_J163 Q U163 t163_0 v163_1 v163_2 v163_3 v163_4) : Q uo := by
  unfold v_work_J163 at h
  unfold w_work_J163 at w
  obtain ⟨q9, z9, h⟩ := h
  obtain ⟨Q9, w0, w⟩ := w
  replace w := w q9 (vz_need z9 w0)
  exact vz_work_J166 h w
set_option maxRecDepth 100000 in
theorem vw_work_J162 {uo : MS} {U162 : MS} {v162_1 : Int32} {v162_2 : Nat} {v162_3 : Int32} {v162_4 : Int32} (h : v_work_J162 uo U162 v162_1 v162_2 v162_3 v162_4) : w_work_J162 (fun u => u = uo) U162 v162_1 v162_2 v162_3 v162_4 := by
  unfold v_work_J162 at h
  unfold w_work_J162
  exact vw_work_J163 h
set_option maxRecDepth 100000 in
theorem vz_work_J162 {uo : MS} {Q : MS → Prop} {U162 : MS} {v162_1 : Int32} {v162_2 : Nat} {v162_3 : Int32} {v162_4 : Int32} (h : v_work_J162 uo U162 v162_1 v162_2 v162_3 v162_4) (w : w_work_J162 Q U162 v162_1 v162_2 v162_3 v162_4) : Q uo := by
  unfold v_work_J162 at h
  unfold w_work_J162 at w
  exact vz_work_J163 h w
set_option maxRecDepth 100000 in
theorem vw_work_J121 {uo : MS} {U121 : MS} {v121_1 : Int32} {v121_2 : Nat} {v121_3 : Int32} {v121_4 : Int32} (h : v_work_J121 uo U121 v121_1 v121_2 v121_3 v121_4) : w_work_J121 (fun u => u = uo) U121 v121_1 v121_2 v121_3 v121_4 := by
  unfold v_work_J121 at h
  unfold w_work_J121
  rcases h with ⟨c, h⟩ | ⟨c, h⟩
  · refine ⟨fun _ => ?_, fun c2 => absurd c c2⟩
    obtain ⟨g9, h⟩ := h
    refine ⟨g9, ?_⟩
    obtain ⟨g9, h⟩ := h
    refine ⟨g9, ?_⟩
    rcases h with ⟨c, h⟩ | ⟨c, h⟩
    · refine ⟨fun _ => ?_, fun c2 => absurd c c2⟩
      obtain ⟨g9, h⟩ := h
      refine ⟨g9, ?_⟩
      obtain ⟨g9, h⟩ := h
      refine ⟨g9, ?_⟩
      rcases h with ⟨c, h⟩ | ⟨c, h⟩
      · refine ⟨fun _ => ?_, fun c2 => absurd c c2⟩
        exact vw_work_J163 h
      · refine ⟨fun c2 => absurd c2 c, fun _ => ?_⟩
        exact vw_work_J162 h
    · refine ⟨fun c2 => absurd c2 c, fun _ => ?_⟩
      exact vw_work_J162 h
  · refine ⟨fun c2 => absurd c2 c, fun _ => ?_⟩
    exact vw_work_J166 h
set_option maxRecDepth 100000 in
theorem vz_work_J121 {uo : MS} {Q : MS → Prop} {U121 : MS} {v121_1 : Int32} {v121_2 : Nat} {v121_3 : Int32} {v121_4 : Int32} (h : v_work_J121 uo U121 v121_1 v121_2 v121_3 v121_4) (w : w_work_J121 Q U121 v121_1 v121_2 v121_3 v121_4) : Q uo := by
  unfold v_work_J121 at h
  unfold w_work_J121 at w
  rcases h with ⟨c, h⟩ | ⟨c, h⟩
  · replace w := w.1 c
    replace h := h.2
    replace w := w.2
    replace h := h.2
    replace w := w.2
    rcases h with ⟨c, h⟩ | ⟨c, h⟩
    · replace w := w.1 c
      replace h := h.2
      replace w := w.2
      replace h := h.2
      replace w := w.2
      rcases h with ⟨c, h⟩ | ⟨c, h⟩
      · replace w := w.1 c
        exact vz_work_J163 h w
      · replace w := w.2 c
        exact vz_work_J162 h w
    · replace w := w.2 c
      exact vz_work_J162 h w
  · replace w := w.2 c
    exact vz_work_J166 h w
set_option maxRecDepth 100000 in
theorem vw_work_J118 {uo : MS} {U118 : MS} {t118_0 : Int32} {v118_1 : Int32} {v118_2 : Nat} {v118_3 : Int32} {v118_4 : Int32} (h : v_work_J118 uo U118 t118_0 v118_1 v118_2 v118_3 v118_4) : w_work_J118 (fun u => u = uo) U118 t118_0 v118_1 v118_2 v118_3 v118_4 := by
  unfold v_work_J118 at h
  unfold w_work_J118
  obtain ⟨q9, z9, h⟩ := h
  refine ⟨_, vw_need z9, ?_⟩
  intro q8 d9
  subst d9
  exact vw_work_J121 h
set_option maxRecDepth 100000 in
theorem vz_work_J118 {uo : MS} {Q : MS → Prop} {U118 : MS} {t118_0 : Int32} {v118_1 : Int32} {v118_2 : Nat} {v118_3 : Int32} {v118_4 : Int32} (h : v_work_J118 uo U118 t118_0 v118_1 v118_2 v118_3 v118_4) (w : w_work_J118 Q U118 t118_0 v118_1 v118_2 v118_3 v118_4) : Q uo := by
  unfold v_work_J118 at h
  unfold w_work_J118 at w
  obtain ⟨q9, z9, h⟩ := h
  obtain ⟨Q9, w0, w⟩ := w
  replace w := w q9 (vz_need z9 w0)
  exact vz_work_J121 h w
set_option maxRecDepth 100000 in
theorem vw_work_J98 {uo : MS} {U98 : MS} {v98_1 : Int32} {v98_2 : Nat} {v98_3 : Int32} {v98_4 : Int32} (h : v_work_J98 uo U98 v98_1 v98_2 v98_3 v98_4) : w_work_J98 (fun u => u = uo) U98 v98_1 v98_2 v98_3 v98_4 := by
  unfold v_work_J98 at h
  unfold w_work_J98
  obtain ⟨g9, h⟩ := h
  refine ⟨g9, ?_⟩
  obtain ⟨g9, h⟩ := h
  refine ⟨g9, ?_⟩
  rcases h with ⟨c, h⟩ | ⟨c, h⟩
  · refine ⟨fun _ => ?_, fun c2 => absurd c c2⟩
    exact vw_work_J118 h
  · refine ⟨fun c2 => absurd c2 c, fun _ => ?_⟩
    exact vw_work_J118 h
set_option maxRecDepth 100000 in
theorem vz_work_J98 {uo : MS} {Q : MS → Prop} {U98 : MS} {v98_1 : Int32} {v98_2 : Nat} {v98_3 : Int32} {v98_4 : Int32} (h : v_work_J98 uo U98 v98_1 v98_2 v98_3 v98_4) (w : w_work_J98 Q U98 v98_1 v98_2 v98_3 v98_4) : Q uo := by
  unfold v_work_J98 at h
  unfold w_work_J98 at w
  replace h := h.2
  replace w := w.2
  replace h := h.2
  replace w := w.2
  rcases h with ⟨c, h⟩ | ⟨c, h⟩
  · replace w := w.1 c
    exact vz_work_J118 h w
  · replace w := w.2 c
    exact vz_work_J118 h w
set_option maxRecDepth 100000 in
theorem vw_work_J85 {uo : MS} {U85 : MS} {v85_1 : Int32} {v85_2 : Nat} {v85_3 : Int32} {v85_4 : Int32} (h : v_work_J85 uo U85 v85_1 v85_2 v85_3 v85_4) : w_work_J85 (fun u => u = uo) U85 v85_1 v85_2 v85_3 v85_4 := by
  unfold v_work_J85 at h
  unfold w_work_J85
  rcases h with ⟨c, h⟩ | ⟨c, h⟩
  · refine ⟨fun _ => ?_, fun c2 => absurd c c2⟩
    exact vw_work_J98 h
  · refine ⟨fun c2 => absurd c2 c, fun _ => ?_⟩
    rcases h with ⟨c, h⟩ | ⟨c, h⟩
    · refine ⟨fun _ => ?_, fun c2 => absurd c c2⟩
      exact vw_work_J98 h
    · refine ⟨fun c2 => absurd c2 c, fun _ => ?_⟩
      exact vw_work_J121 h
set_option maxRecDepth 100000 in
theorem vz_work_J85 {uo : MS} {Q : MS → Prop} {U85 : MS} {v85_1 : Int32} {v85_2 : Nat} {v85_3 : Int32} {v85_4 : Int32} (h : v_work_J85 uo U85 v85_1 v85_2 v85_3 v85_4) (w : w_work_J85 Q U85 v85_1 v85_2 v85_3 v85_4) : Q uo := by
  unfold v_work_J85 at h
  unfold w_work_J85 at w
  rcases h with ⟨c, h⟩ | ⟨c, h⟩
  · replace w := w.1 c
    exact vz_work_J98 h w
  · replace w := w.2 c
    rcases h with ⟨c, h⟩ | ⟨c, h⟩
    · replace w := w.1 c
      exact vz_work_J98 h w
    · replace w := w.2 c
      exact vz_work_J121 h w
set_option maxRecDepth 100000 in
theorem vw_work_J74 {uo : MS} {U74 : MS} {v74_1 : Int32} {v74_2 : Nat} {v74_3 : Int32} {v74_4 : Int32} (h : v_work_J74 uo U74 v74_1 v74_2 v74_3 v74_4) : w_work_J74 (fun u => u = uo) U74 v74_1 v74_2 v74_3 v74_4 := by
  unfold v_work_J74 at h
  unfold w_work_J74
  obtain ⟨g9, h⟩ := h
  refine ⟨g9, ?_⟩
  rcases h with ⟨c, h⟩ | ⟨c, h⟩
  · refine ⟨fun _ => ?_, fun c2 => absurd c c2⟩
    exact vw_work_J85 h
  · refine ⟨fun c2 => absurd c2 c, fun _ => ?_⟩
    exact vw_work_J85 h
set_option maxRecDepth 100000 in
theorem vz_work_J74 {uo : MS} {Q : MS → Prop} {U74 : MS} {v74_1 : Int32} {v74_2 : Nat} {v74_3 : Int32} {v74_4 : Int32} (h : v_work_J74 uo U74 v74_1 v74_2 v74_3 v74_4) (w : w_work_J74 Q U74 v74_1 v74_2 v74_3 v74_4) : Q uo := by
  unfold v_work_J74 at h
  unfold w_work_J74 at w
  replace h := h.2
  replace w := w.2
  rcases h with ⟨c, h⟩ | ⟨c, h⟩
  · replace w := w.1 c
    exact vz_work_J85 h w
  · replace w := w.2 c
    exact vz_work_J85 h w
set_option maxRecDepth 100000 in
theorem vw_work_J45 {uo : MS} {U45 : MS} {t45_0 : Int32} {v45_1 : Int32} {v45_2 : Nat} {v45_3 : Int32} (h : v_work_J45 uo U45 t45_0 v45_1 v45_2 v45_3) : w_work_J45 (fun u => u = uo) U45 t45_0 v45_1 v45_2 v45_3 := by
  unfold v_work_J45 at h
  unfold w_work_J45
  rcases h with ⟨c, h⟩ | ⟨c, h⟩
  · refine ⟨fun _ => ?_, fun c2 => absurd c c2⟩
    obtain ⟨g9, h⟩ := h
    refine ⟨g9, ?_⟩
    obtain ⟨g9, h⟩ := h
    refine ⟨g9, ?_⟩
    obtain ⟨v9, e9, h⟩ := h
    intro x9 d9
    have c9 : v9 = x9 := e9.trans d9.symm
    subst c9
    obtain ⟨g9, h⟩ := h
    refine ⟨g9, ?_⟩
    obtain ⟨q9, z9, h⟩ := h
    refine ⟨_, vw_need z9, ?_⟩
    intro q8 d9
    subst d9
    exact vw_work_J74 h
  · refine ⟨fun c2 => absurd c2 c, fun _ => ?_⟩
    exact vw_work_J74 h
set_option maxRecDepth 100000 in
theorem vz_work_J45 {uo : MS} {Q : MS → Prop} {U45 : MS} {t45_0 : Int32} {v45_1 : Int32} {v45_2 : Nat} {v45_3 : Int32} (h : v_work_J45 uo U45 t45_0 v45_1 v45_2 v45_3) (w : w_work_J45 Q U45 t45_0 v45_1 v45_2 v45_3) : Q uo := by
  unfold v_work_J45 at h
  unfold w_work_J45 at w
  rcases h with ⟨c, h⟩ | ⟨c, h⟩
  · replace w := w.1 c
    replace h := h.2
    replace w := w.2
    replace h := h.2
    replace w := w.2
    obtain ⟨v9, e9, h⟩ := h
    replace w := w v9 e9
    replace h := h.2
    replace w := w.2
    obtain ⟨q9, z9, h⟩ := h
    obtain ⟨Q9, w0, w⟩ := w
    replace w := w q9 (vz_need z9 w0)
    exact vz_work_J74 h w
  · replace w := w.2 c
    exact vz_work_J74 h w
set_option maxRecDepth 100000 in
theorem vw_work {S : MS} {x1 : Int32} {p2 : Nat} {uo : MS} (h : v_work S x1 p2 uo) : w_work S x1 p2 (fun u => u = uo) := by
  unfold v_work at h
  unfold w_work
  obtain ⟨v9, e9, h⟩ := h
  intro x9 d9
  have c9 : v9 = x9 := e9.trans d9.symm
  subst c9
  obtain ⟨g9, h⟩ := h
  refine ⟨g9, ?_⟩
  obtain ⟨v9, e9, h⟩ := h
  intro x9 d9
  have c9 : v9 = x9 := e9.trans d9.symm
  subst c9
  obtain ⟨g9, h⟩ := h
  refine ⟨g9, ?_⟩
  rcases h with ⟨c, h⟩ | ⟨c, h⟩
  · refine ⟨fun _ => ?_, fun c2 => absurd c c2⟩
    rcases h with ⟨c, h⟩ | ⟨c, h⟩
    · refine ⟨fun _ => ?_, fun c2 => absurd c c2⟩
      obtain ⟨g9, h⟩ := h
      refine ⟨g9, ?_⟩
      exact vw_work_J45 h
    · refine ⟨fun c2 => absurd c2 c, fun _ => ?_⟩
      exact vw_work_J45 h
  · refine ⟨fun c2 => absurd c2 c, fun _ => ?_⟩
    obtain ⟨q9, z9, h⟩ := h
    refine ⟨_, vw_move z9, ?_⟩
    intro q8 d9
    subst d9
    exact h.symm
set_option maxRecDepth 100000 in
theorem vz_work {S : MS} {x1 : Int32} {p2 : Nat} {uo : MS} {Q : MS → Prop} (h : v_work S x1 p2 uo) (w : w_work S x1 p2 Q) : Q uo := by
  unfold v_work at h
  unfold w_work at w
  obtain ⟨v9, e9, h⟩ := h
  replace w := w v9 e9
  replace h := h.2
  replace w := w.2
  obtain ⟨v9, e9, h⟩ := h
  replace w := w v9 e9
  replace h := h.2
  replace w := w.2
  rcases h with ⟨c, h⟩ | ⟨c, h⟩
  · replace w := w.1 c
    rcases h with ⟨c, h⟩ | ⟨c, h⟩
    · replace w := w.1 c
      replace h := h.2
      replace w := w.2
      exact vz_work_J45 h w
    · replace w := w.2 c
      exact vz_work_J45 h w
  · replace w := w.2 c
    obtain ⟨q9, z9, h⟩ := h
    obtain ⟨Q9, w0, w⟩ := w
    replace w := w q9 (vz_move z9 w0)
    rw [h]
    exact w
