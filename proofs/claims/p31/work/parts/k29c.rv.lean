def v_dominate_J235 (uo : MS) (k200 : MS → Int32 → Prop) (U235 : MS) (t235_0 : Int32) (t235_1 : Int32) (v235_2 : Int32) : Prop := (((0 : Int) ≤ t235_1.toInt ∧ t235_1.toInt < 1200) ∧ (∃ S10 : MS, S10 = wI U235 55 t235_1.toInt.toNat t235_0 ∧ (∃ a11 : Int32, a11 = (v235_2 + Int32.ofInt 1) ∧ (k200 S10 a11))))
def v_dominate_J234 (uo : MS) (k200 : MS → Int32 → Prop) (U234 : MS) (t234_0 : Int32) (v234_2 : Int32) : Prop := (v_dominate_J235 uo k200 U234 (-1) t234_0 v234_2)
def v_dominate_J186 (uo : MS) (k159 : MS → Int32 → Int32 → Prop) (U186 : MS) (v186_2 : Int32) (v186_3 : Int32) : Prop := (∃ a25 : Int32, a25 = (v186_3 + Int32.ofInt 1) ∧ (k159 U186 v186_2 a25))
def v_dominate_J131 (uo : MS) (k65 : MS → Int32 → Int32 → Prop) (U131 : MS) (v131_1 : Int32) (v131_2 : Int32) : Prop := (∃ a38 : Int32, a38 = (v131_2 + Int32.ofInt 1) ∧ (k65 U131 v131_1 a38))
def v_dominate_J124 (uo : MS) (k80 : MS → Int32 → Int32 → Int32 → Prop) (U124 : MS) (t124_0 : Int32) (v124_2 : Int32) (v124_3 : Int32) : Prop := (∃ a50 : Int32, a50 = (v124_3 + Int32.ofInt 1) ∧ (k80 U124 t124_0 v124_2 a50))
def v_dominate_J119 (uo : MS) (k80 : MS → Int32 → Int32 → Int32 → Prop) (U119 : MS) (v119_2 : Int32) (v119_3 : Int32) : Prop := (v_dominate_J124 uo k80 U119 1 v119_2 v119_3)
def v_dominate_J48 (uo : MS) (k28 : MS → Int32 → Prop) (U48 : MS) (t48_0 : Int32) (t48_1 : Int32) (v48_1 : Int32) : Prop := (((0 : Int) ≤ t48_1.toInt ∧ t48_1.toInt < 45600) ∧ (∃ S54 : MS, S54 = wI U48 54 t48_1.toInt.toNat t48_0 ∧ (∃ a55 : Int32, a55 = (v48_1 + Int32.ofInt 1) ∧ (k28 S54 a55))))
def v_dominate_L200 (uo : MS) : Nat → MS → Int32 → Prop
  | 0, _, _ => False
  | n200 + 1, U200, v200_2 => (((qI U200 0 105).toInt ≤ v200_2.toInt ∧ (uo = U200)) ∨ (¬ (qI U200 0 105).toInt ≤ v200_2.toInt ∧ (((0 : Int) ≤ v200_2.toInt ∧ v200_2.toInt < 1200) ∧ (((qI U200 53 v200_2.toInt.toNat).toInt = 0 ∧ (v_dominate_J234 uo (v_dominate_L200 uo n200) U200 v200_2 v200_2)) ∨ (¬ (qI U200 53 v200_2.toInt.toNat).toInt = 0 ∧ ((v200_2.toInt ≤ 0 ∧ (v_dominate_J234 uo (v_dominate_L200 uo n200) U200 v200_2 v200_2)) ∨ (¬ v200_2.toInt ≤ 0 ∧ (∃ (r15 : Int32) (S16 : MS), v_nearestOf U200 v200_2 r15 S16 ∧ (v_dominate_J235 uo (v_dominate_L200 uo n200) S16 r15 v200_2 v200_2)))))))))
def v_dominate_L159 (uo : MS) (k142 : MS → Int32 → Prop) : Nat → MS → Int32 → Int32 → Prop
  | 0, _, _, _ => False
  | n159 + 1, U159, v159_2, v159_3 => (((qI U159 0 105).toInt ≤ v159_3.toInt ∧ (∃ a21 : Int32, a21 = (v159_2 + Int32.ofInt 1) ∧ (k142 U159 a21))) ∨ (¬ (qI U159 0 105).toInt ≤ v159_3.toInt ∧ (d_dominates U159 v159_3 v159_2 ∧ (((f_dominates U159 v159_3 v159_2).toInt = 0 ∧ (v_dominate_J186 uo (v_dominate_L159 uo k142 n159) U159 v159_2 v159_3)) ∨ (¬ (f_dominates U159 v159_3 v159_2).toInt = 0 ∧ (((0 : Int) ≤ v159_2.toInt ∧ v159_2.toInt < 1200) ∧ (((0 : Int) ≤ v159_2.toInt ∧ v159_2.toInt < 1200) ∧ (∃ S31 : MS, S31 = wI U159 59 v159_2.toInt.toNat ((qI U159 59 v159_2.toInt.toNat) + (1 : Int32)) ∧ (v_dominate_J186 uo (v_dominate_L159 uo k142 n159) S31 v159_2 v159_3)))))))))
def v_dominate_L142 (uo : MS) : Nat → MS → Int32 → Prop
  | 0, _, _ => False
  | n142 + 1, U142, v142_2 => (((qI U142 0 105).toInt ≤ v142_2.toInt ∧ (∃ n, v_dominate_L200 uo n U142 0)) ∨ (¬ (qI U142 0 105).toInt ≤ v142_2.toInt ∧ (((0 : Int) ≤ v142_2.toInt ∧ v142_2.toInt < 1200) ∧ (∃ S19 : MS, S19 = wI U142 59 v142_2.toInt.toNat (0 : Int32) ∧ (∃ n, v_dominate_L159 uo (v_dominate_L142 uo n142) n S19 v142_2 0)))))
def v_dominate_L80 (uo : MS) (k65 : MS → Int32 → Int32 → Prop) : Nat → MS → Int32 → Int32 → Int32 → Prop
  | 0, _, _, _, _ => False
  | n80 + 1, U80, v80_1, v80_2, v80_3 => (((0 : Int) ≤ v80_2.toInt ∧ v80_2.toInt < 1200) ∧ (((qI U80 53 v80_2.toInt.toNat).toInt = 0 ∧ (v_dominate_J131 uo k65 U80 v80_1 v80_2)) ∨ (¬ (qI U80 53 v80_2.toInt.toNat).toInt = 0 ∧ (((0 : Int) ≤ (v80_2 + (1 : Int32)).toInt ∧ (v80_2 + (1 : Int32)).toInt < 1202) ∧ (((qI U80 51 (((v80_2 + (1 : Int32)).toInt).toNat)).toInt ≤ v80_3.toInt ∧ (v_dominate_J131 uo k65 U80 v80_1 v80_2)) ∨ (¬ (qI U80 51 (((v80_2 + (1 : Int32)).toInt).toNat)).toInt ≤ v80_3.toInt ∧ (((0 : Int) ≤ v80_3.toInt ∧ v80_3.toInt < 24000) ∧ (∃ (r47 : Int32) (S48 : MS), v_narrowed U80 v80_2 (qI U80 52 v80_3.toInt.toNat) r47 S48 ∧ ((r47.toInt = 0 ∧ ((v80_1.toInt = 0 ∧ (v_dominate_J124 uo (v_dominate_L80 uo k65 n80) S48 0 v80_2 v80_3)) ∨ (¬ v80_1.toInt = 0 ∧ (v_dominate_J119 uo (v_dominate_L80 uo k65 n80) S48 v80_2 v80_3)))) ∨ (¬ r47.toInt = 0 ∧ (v_dominate_J119 uo (v_dominate_L80 uo k65 n80) S48 v80_2 v80_3)))))))))))
def v_dominate_L65 (uo : MS) (k57 : MS → Int32 → Prop) : Nat → MS → Int32 → Int32 → Prop
  | 0, _, _, _ => False
  | n65 + 1, U65, v65_1, v65_2 => (((qI U65 0 105).toInt ≤ v65_2.toInt ∧ (k57 U65 v65_1)) ∨ (¬ (qI U65 0 105).toInt ≤ v65_2.toInt ∧ (((0 : Int) ≤ v65_2.toInt ∧ v65_2.toInt < 1202) ∧ (∃ a35 : Int32, a35 = (qI U65 51 v65_2.toInt.toNat) ∧ (∃ n, v_dominate_L80 uo (v_dominate_L65 uo k57 n65) n U65 v65_1 v65_2 a35)))))
def v_dominate_L57 (uo : MS) : Nat → MS → Int32 → Prop
  | 0, _, _ => False
  | n57 + 1, U57, v57_1 => ((v57_1.toInt = 0 ∧ (∃ n, v_dominate_L142 uo n U57 0)) ∨ (¬ v57_1.toInt = 0 ∧ (∃ n, v_dominate_L65 uo (v_dominate_L57 uo n57) n U57 0 0)))
def v_dominate_L28 (uo : MS) : Nat → MS → Int32 → Prop
  | 0, _, _ => False
  | n28 + 1, U28, v28_1 => ((38 ≤ v28_1.toInt ∧ (∃ n, v_dominate_L57 uo n U28 1)) ∨ (¬ 38 ≤ v28_1.toInt ∧ ((v28_1.toInt = 0 ∧ (v_dominate_J48 uo (v_dominate_L28 uo n28) U28 1 v28_1 v28_1)) ∨ (¬ v28_1.toInt = 0 ∧ (v_dominate_J48 uo (v_dominate_L28 uo n28) U28 0 v28_1 v28_1)))))
def v_dominate_L2 (uo : MS) : Nat → MS → Int32 → Prop
  | 0, _, _ => False
  | n2 + 1, U2, v2_1 => ((((qI U2 0 105) * (38 : Int32)).toInt ≤ v2_1.toInt ∧ (∃ n, v_dominate_L28 uo n U2 0)) ∨ (¬ ((qI U2 0 105) * (38 : Int32)).toInt ≤ v2_1.toInt ∧ (((0 : Int) ≤ v2_1.toInt ∧ v2_1.toInt < 45600) ∧ (∃ S58 : MS, S58 = wI U2 54 v2_1.toInt.toNat (-1 : Int32) ∧ (∃ a59 : Int32, a59 = (v2_1 + Int32.ofInt 1) ∧ ((v_dominate_L2 uo n2) S58 a59))))))
def v_dominate (S : MS) (uo : MS) : Prop := (∃ n, v_dominate_L2 uo n S 0)
set_option maxRecDepth 100000 in
theorem ru_dominate_J235 {ι : Type} {P : MS → Prop} {Q : MS → Prop} {k200 : MS → Int32 → Prop} {k200v : ι → MS → MS → Int32 → Prop} {U235 : MS} {t235_0 : Int32} {t235_1 : Int32} {v235_2 : Int32} (i0 : ι) (hk200 : ∀ (u : MS) (z0 : Int32), k200 u z0 → (∀ (i : ι) (uo : MS), k200v i uo u z0 → P uo) → ∃ uo, P uo ∧ Q uo) (K : ∀ (i : ι) (uo : MS), v_dominate_J235 uo (k200v i uo) U235 t235_0 t235_1 v235_2 → P uo) (h : w_dominate_J235 Q k200 U235 t235_0 t235_1 v235_2) : ∃ uo, P uo ∧ Q uo := by
  unfold w_dominate_J235 at h
  obtain ⟨g1_, h⟩ := h
  replace K := fun i uo z => K i uo ⟨g1_, z⟩
  obtain ⟨S10, eS10⟩ : ∃ x9 : MS, x9 = wI U235 55 t235_1.toInt.toNat t235_0 := ⟨_, rfl⟩
  replace h := h S10 eS10
  replace K := fun i uo z => K i uo ⟨S10, eS10, z⟩
  obtain ⟨a11, ea11⟩ : ∃ x9 : Int32, x9 = (v235_2 + Int32.ofInt 1) := ⟨_, rfl⟩
  replace h := h a11 ea11
  replace K := fun i uo z => K i uo ⟨a11, ea11, z⟩
  exact hk200 _ _ h K
set_option maxRecDepth 100000 in
theorem ru_dominate_J234 {ι : Type} {P : MS → Prop} {Q : MS → Prop} {k200 : MS → Int32 → Prop} {k200v : ι → MS → MS → Int32 → Prop} {U234 : MS} {t234_0 : Int32} {v234_2 : Int32} (i0 : ι) (hk200 : ∀ (u : MS) (z0 : Int32), k200 u z0 → (∀ (i : ι) (uo : MS), k200v i uo u z0 → P uo) → ∃ uo, P uo ∧ Q uo) (K : ∀ (i : ι) (uo : MS), v_dominate_J234 uo (k200v i uo) U234 t234_0 v234_2 → P uo) (h : w_dominate_J234 Q k200 U234 t234_0 v234_2) : ∃ uo, P uo ∧ Q uo := by
  unfold w_dominate_J234 at h
  exact ru_dominate_J235 i0 hk200 K h
set_option maxRecDepth 100000 in
theorem ru_dominate_J186 {ι : Type} {P : MS → Prop} {Q : MS → Prop} {k159 : MS → Int32 → Int32 → Prop} {k159v : ι → MS → MS → Int32 → Int32 → Prop} {U186 : MS} {v186_2 : Int32} {v186_3 : Int32} (i0 : ι) (hk159 : ∀ (u : MS) (z0 : Int32) (z1 : Int32), k159 u z0 z1 → (∀ (i : ι) (uo : MS), k159v i uo u z0 z1 → P uo) → ∃ uo, P uo ∧ Q uo) (K : ∀ (i : ι) (uo : MS), v_dominate_J186 uo (k159v i uo) U186 v186_2 v186_3 → P uo) (h : w_dominate_J186 Q k159 U186 v186_2 v186_3) : ∃ uo, P uo ∧ Q uo := by
  unfold w_dominate_J186 at h
  obtain ⟨a25, ea25⟩ : ∃ x9 : Int32, x9 = (v186_3 + Int32.ofInt 1) := ⟨_, rfl⟩
  replace h := h a25 ea25
  replace K := fun i uo z => K i uo ⟨a25, ea25, z⟩
  exact hk159 _ _ _ h K
set_option maxRecDepth 100000 in
theorem ru_dominate_J131 {ι : Type} {P : MS → Prop} {Q : MS → Prop} {k65 : MS → Int32 → Int32 → Prop} {k65v : ι → MS → MS → Int32 → Int32 → Prop} {U131 : MS} {v131_1 : Int32} {v131_2 : Int32} (i0 : ι) (hk65 : ∀ (u : MS) (z0 : Int32) (z1 : Int32), k65 u z0 z1 → (∀ (i : ι) (uo : MS), k65v i uo u z0 z1 → P uo) → ∃ uo, P uo ∧ Q uo) (K : ∀ (i : ι) (uo : MS), v_dominate_J131 uo (k65v i uo) U131 v131_1 v131_2 → P uo) (h : w_dominate_J131 Q k65 U131 v131_1 v131_2) : ∃ uo, P uo ∧ Q uo := by
  unfold w_dominate_J131 at h
  obtain ⟨a38, ea38⟩ : ∃ x9 : Int32, x9 = (v131_2 + Int32.ofInt 1) := ⟨_, rfl⟩
  replace h := h a38 ea38
  replace K := fun i uo z => K i uo ⟨a38, ea38, z⟩
  exact hk65 _ _ _ h K
set_option maxRecDepth 100000 in
theorem ru_dominate_J124 {ι : Type} {P : MS → Prop} {Q : MS → Prop} {k80 : MS → Int32 → Int32 → Int32 → Prop} {k80v : ι → MS → MS → Int32 → Int32 → Int32 → Prop} {U124 : MS} {t124_0 : Int32} {v124_2 : Int32} {v124_3 : Int32} (i0 : ι) (hk80 : ∀ (u : MS) (z0 : Int32) (z1 : Int32) (z2 : Int32), k80 u z0 z1 z2 → (∀ (i : ι) (uo : MS), k80v i uo u z0 z1 z2 → P uo) → ∃ uo, P uo ∧ Q uo) (K : ∀ (i : ι) (uo : MS), v_dominate_J124 uo (k80v i uo) U124 t124_0 v124_2 v124_3 → P uo) (h : w_dominate_J124 Q k80 U124 t124_0 v124_2 v124_3) : ∃ uo, P uo ∧ Q uo := by
  unfold w_dominate_J124 at h
  obtain ⟨a50, ea50⟩ : ∃ x9 : Int32, x9 = (v124_3 + Int32.ofInt 1) := ⟨_, rfl⟩
  replace h := h a50 ea50
  replace K := fun i uo z => K i uo ⟨a50, ea50, z⟩
  exact hk80 _ _ _ _ h K
set_option maxRecDepth 100000 in
theorem ru_dominate_J119 {ι : Type} {P : MS → Prop} {Q : MS → Prop} {k80 : MS → Int32 → Int32 → Int32 → Prop} {k80v : ι → MS → MS → Int32 → Int32 → Int32 → Prop} {U119 : MS} {v119_2 : Int32} {v119_3 : Int32} (i0 : ι) (hk80 : ∀ (u : MS) (z0 : Int32) (z1 : Int32) (z2 : Int32), k80 u z0 z1 z2 → (∀ (i : ι) (uo : MS), k80v i uo u z0 z1 z2 → P uo) → ∃ uo, P uo ∧ Q uo) (K : ∀ (i : ι) (uo : MS), v_dominate_J119 uo (k80v i uo) U119 v119_2 v119_3 → P uo) (h : w_dominate_J119 Q k80 U119 v119_2 v119_3) : ∃ uo, P uo ∧ Q uo := by
  unfold w_dominate_J119 at h
  exact ru_dominate_J124 i0 hk80 K h
set_option maxRecDepth 100000 in
theorem ru_dominate_J48 {ι : Type} {P : MS → Prop} {Q : MS → Prop} {k28 : MS → Int32 → Prop} {k28v : ι → MS → MS → Int32 → Prop} {U48 : MS} {t48_0 : Int32} {t48_1 : Int32} {v48_1 : Int32} (i0 : ι) (hk28 : ∀ (u : MS) (z0 : Int32), k28 u z0 → (∀ (i : ι) (uo : MS), k28v i uo u z0 → P uo) → ∃ uo, P uo ∧ Q uo) (K : ∀ (i : ι) (uo : MS), v_dominate_J48 uo (k28v i uo) U48 t48_0 t48_1 v48_1 → P uo) (h : w_dominate_J48 Q k28 U48 t48_0 t48_1 v48_1) : ∃ uo, P uo ∧ Q uo := by
  unfold w_dominate_J48 at h
  obtain ⟨g2_, h⟩ := h
  replace K := fun i uo z => K i uo ⟨g2_, z⟩
  obtain ⟨S54, eS54⟩ : ∃ x9 : MS, x9 = wI U48 54 t48_1.toInt.toNat t48_0 := ⟨_, rfl⟩
  replace h := h S54 eS54
  replace K := fun i uo z => K i uo ⟨S54, eS54, z⟩
  obtain ⟨a55, ea55⟩ : ∃ x9 : Int32, x9 = (v48_1 + Int32.ofInt 1) := ⟨_, rfl⟩
  replace h := h a55 ea55
  replace K := fun i uo z => K i uo ⟨a55, ea55, z⟩
  exact hk28 _ _ h K
set_option maxRecDepth 100000 in
theorem ru_dominate_L200 {ι : Type} {P : MS → Prop} {Q : MS → Prop} : ∀ (n : Nat) {U200 : MS} {v200_2 : Int32} (i0 : ι), (∀ (i : ι) (uo : MS), (∃ n8, v_dominate_L200 uo n8 U200 v200_2) → P uo) → w_dominate_L200 Q n U200 v200_2 → ∃ uo, P uo ∧ Q uo := by
  intro n
  induction n with
  | zero => intro U200 v200_2 i0 K h; unfold w_dominate_L200 at h; exact h.elim
  | succ n ih =>
    intro U200 v200_2 i0 K h
    unfold w_dominate_L200 at h
    replace K := fun (i : ι × Nat) uo (z : v_dominate_L200 uo (i.2 + 1) U200 v200_2) => K i.1 uo ⟨i.2 + 1, z⟩
    have i00 := i0
    replace i0 : ι × Nat := (i0, 0)
    by_cases c : (qI U200 0 105).toInt ≤ v200_2.toInt
    · replace h := h.1 c
      replace K := fun i uo z => K i uo (Or.inl ⟨c, z⟩)
      exact ⟨_, K i0 _ rfl, h⟩
    · replace h := h.2 c
      replace K := fun i uo z => K i uo (Or.inr ⟨c, z⟩)
      obtain ⟨g3_, h⟩ := h
      replace K := fun i uo z => K i uo ⟨g3_, z⟩
      by_cases c : (qI U200 53 v200_2.toInt.toNat).toInt = 0
      · replace h := h.1 c
        replace K := fun i uo z => K i uo (Or.inl ⟨c, z⟩)
        exact ru_dominate_J234 i0 (fun _ _ h K => ih i00 (fun i uo ⟨n8, z⟩ => K (i, n8) uo z) h) K h
      · replace h := h.2 c
        replace K := fun i uo z => K i uo (Or.inr ⟨c, z⟩)
        by_cases c : v200_2.toInt ≤ 0
        · replace h := h.1 c
          replace K := fun i uo z => K i uo (Or.inl ⟨c, z⟩)
          exact ru_dominate_J234 i0 (fun _ _ h K => ih i00 (fun i uo ⟨n8, z⟩ => K (i, n8) uo z) h) K h
        · replace h := h.2 c
          replace K := fun i uo z => K i uo (Or.inr ⟨c, z⟩)
          obtain ⟨Q9, h0, h⟩ := h
          obtain ⟨r15, S16, z9, g9⟩ := ru_nearestOf h0
          replace h := h r15 S16 g9
          replace K := fun i uo z => K i uo ⟨r15, S16, z9, z⟩
          exact ru_dominate_J235 i0 (fun _ _ h K => ih i00 (fun i uo ⟨n8, z⟩ => K (i, n8) uo z) h) K h
set_option maxRecDepth 100000 in
theorem ru_dominate_L159 {ι : Type} {P : MS → Prop} {Q : MS → Prop} {k142 : MS → Int32 → Prop} {k142v : ι → MS → MS → Int32 → Prop} : ∀ (n : Nat) {U159 : MS} {v159_2 : Int32} {v159_3 : Int32} (i0 : ι) (hk142 : ∀ (u : MS) (z0 : Int32), k142 u z0 → (∀ (i : ι) (uo : MS), k142v i uo u z0 → P uo) → ∃ uo, P uo ∧ Q uo), (∀ (i : ι) (uo : MS), (∃ n8, v_dominate_L159 uo (k142v i uo) n8 U159 v159_2 v159_3) → P uo) → w_dominate_L159 Q k142 n U159 v159_2 v159_3 → ∃ uo, P uo ∧ Q uo := by
  intro n
  induction n with
  | zero => intro U159 v159_2 v159_3 i0 hk142 K h; unfold w_dominate_L159 at h; exact h.elim
  | succ n ih =>
    intro U159 v159_2 v159_3 i0 hk142 K h
    unfold w_dominate_L159 at h
    replace K := fun (i : ι × Nat) uo (z : v_dominate_L159 uo (k142v i.1 uo) (i.2 + 1) U159 v159_2 v159_3) => K i.1 uo ⟨i.2 + 1, z⟩
    have i00 := i0
    replace i0 : ι × Nat := (i0, 0)
    by_cases c : (qI U159 0 105).toInt ≤ v159_3.toInt
    · replace h := h.1 c
      replace K := fun i uo z => K i uo (Or.inl ⟨c, z⟩)
      obtain ⟨a21, ea21⟩ : ∃ x9 : Int32, x9 = (v159_2 + Int32.ofInt 1) := ⟨_, rfl⟩
      replace h := h a21 ea21
      replace K := fun i uo z => K i uo ⟨a21, ea21, z⟩
      exact hk142 _ _ h (fun i uo z => K (i, 0) uo z)
    · replace h := h.2 c
      replace K := fun i uo z => K i uo (Or.inr ⟨c, z⟩)
      obtain ⟨g4_, h⟩ := h
      replace K := fun i uo z => K i uo ⟨g4_, z⟩
      by_cases c : (f_dominates U159 v159_3 v159_2).toInt = 0
      · replace h := h.1 c
        replace K := fun i uo z => K i uo (Or.inl ⟨c, z⟩)
        exact ru_dominate_J186 i0 (fun _ _ _ h K => ih i00 hk142 (fun i uo ⟨n8, z⟩ => K (i, n8) uo z) h) K h
      · replace h := h.2 c
        replace K := fun i uo z => K i uo (Or.inr ⟨c, z⟩)
        obtain ⟨g5_, h⟩ := h
        replace K := fun i uo z => K i uo ⟨g5_, z⟩
        obtain ⟨g6_, h⟩ := h
        replace K := fun i uo z => K i uo ⟨g6_, z⟩
        obtain ⟨S31, eS31⟩ : ∃ x9 : MS, x9 = wI U159 59 v159_2.toInt.toNat ((qI U159 59 v159_2.toInt.toNat) + (1 : Int32)) := ⟨_, rfl⟩
        replace h := h S31 eS31
        replace K := fun i uo z => K i uo ⟨S31, eS31, z⟩
        exact ru_dominate_J186 i0 (fun _ _ _ h K => ih i00 hk142 (fun i uo ⟨n8, z⟩ => K (i, n8) uo z) h) K h
set_option maxRecDepth 100000 in
theorem ru_dominate_L142 {ι : Type} {P : MS → Prop} {Q : MS → Prop} : ∀ (n : Nat) {U142 : MS} {v142_2 : Int32} (i0 : ι), (∀ (i : ι) (uo : MS), (∃ n8, v_dominate_L142 uo n8 U142 v142_2) → P uo) → w_dominate_L142 Q n U142 v142_2 → ∃ uo, P uo ∧ Q uo := by
  intro n
  induction n with
  | zero => intro U142 v142_2 i0 K h; unfold w_dominate_L142 at h; exact h.elim
  | succ n ih =>
    intro U142 v142_2 i0 K h
    unfold w_dominate_L142 at h
    replace K := fun (i : ι × Nat) uo (z : v_dominate_L142 uo (i.2 + 1) U142 v142_2) => K i.1 uo ⟨i.2 + 1, z⟩
    have i00 := i0
    replace i0 : ι × Nat := (i0, 0)
    by_cases c : (qI U142 0 105).toInt ≤ v142_2.toInt
    · replace h := h.1 c
      replace K := fun i uo z => K i uo (Or.inl ⟨c, z⟩)
      obtain ⟨n9, h⟩ := h
      exact ru_dominate_L200 n9 i0 K h
    · replace h := h.2 c
      replace K := fun i uo z => K i uo (Or.inr ⟨c, z⟩)
      obtain ⟨g7_, h⟩ := h
      replace K := fun i uo z => K i uo ⟨g7_, z⟩
      obtain ⟨S19, eS19⟩ : ∃ x9 : MS, x9 = wI U142 59 v142_2.toInt.toNat (0 : Int32) := ⟨_, rfl⟩
      replace h := h S19 eS19
      replace K := fun i uo z => K i uo ⟨S19, eS19, z⟩
      obtain ⟨n9, h⟩ := h
      exact ru_dominate_L159 n9 i0 (fun _ _ h K => ih i00 (fun i uo ⟨n8, z⟩ => K (i, n8) uo z) h) K h
set_option maxRecDepth 100000 in
theorem ru_dominate_L80 {ι : Type} {P : MS → Prop} {Q : MS → Prop} {k65 : MS → Int32 → Int32 → Prop} {k65v : ι → MS → MS → Int32 → Int32 → Prop} : ∀ (n : Nat) {U80 : MS} {v80_1 : Int32} {v80_2 : Int32} {v80_3 : Int32} (i0 : ι) (hk65 : ∀ (u : MS) (z0 : Int32) (z1 : Int32), k65 u z0 z1 → (∀ (i : ι) (uo : MS), k65v i uo u z0 z1 → P uo) → ∃ uo, P uo ∧ Q uo), (∀ (i : ι) (uo : MS), (∃ n8, v_dominate_L80 uo (k65v i uo) n8 U80 v80_1 v80_2 v80_3) → P uo) → w_dominate_L80 Q k65 n U80 v80_1 v80_2 v80_3 → ∃ uo, P uo ∧ Q uo := by
  intro n
  induction n with
  | zero => intro U80 v80_1 v80_2 v80_3 i0 hk65 K h; unfold w_dominate_L80 at h; exact h.elim
  | succ n ih =>
    intro U80 v80_1 v80_2 v80_3 i0 hk65 K h
    unfold w_dominate_L80 at h
    replace K := fun (i : ι × Nat) uo (z : v_dominate_L80 uo (k65v i.1 uo) (i.2 + 1) U80 v80_1 v80_2 v80_3) => K i.1 uo ⟨i.2 + 1, z⟩
    have i00 := i0
    replace i0 : ι × Nat := (i0, 0)
    obtain ⟨g8_, h⟩ := h
    replace K := fun i uo z => K i uo ⟨g8_, z⟩
    by_cases c : (qI U80 53 v80_2.toInt.toNat).toInt = 0
    · replace h := h.1 c
      replace K := fun i uo z => K i uo (Or.inl ⟨c, z⟩)
      exact ru_dominate_J131 i0 (fun _ _ _ h K => hk65 _ _ _ h (fun i uo z => K (i, 0) uo z)) K h
    · replace h := h.2 c
      replace K := fun i uo z => K i uo (Or.inr ⟨c, z⟩)
      obtain ⟨g9_, h⟩ := h
      replace K := fun i uo z => K i uo ⟨g9_, z⟩
      by_cases c : (qI U80 51 (((v80_2 + (1 : Int32)).toInt).toNat)).toInt ≤ v80_3.toInt
      · replace h := h.1 c
        replace K := fun i uo z => K i uo (Or.inl ⟨c, z⟩)
        exact ru_dominate_J131 i0 (fun _ _ _ h K => hk65 _ _ _ h (fun i uo z => K (i, 0) uo z)) K h
      · replace h := h.2 c
        replace K := fun i uo z => K i uo (Or.inr ⟨c, z⟩)
        obtain ⟨g10_, h⟩ := h
        replace K := fun i uo z => K i uo ⟨g10_, z⟩
        obtain ⟨Q9, h0, h⟩ := h
        obtain ⟨r47, S48, z9, g9⟩ := ru_narrowed h0
        replace h := h r47 S48 g9
        replace K := fun i uo z => K i uo ⟨r47, S48, z9, z⟩
        by_cases c : r47.toInt = 0
        · replace h := h.1 c
          replace K := fun i uo z => K i uo (Or.inl ⟨c, z⟩)
          by_cases c : v80_1.toInt = 0
          · replace h := h.1 c
            replace K := fun i uo z => K i uo (Or.inl ⟨c, z⟩)
            exact ru_dominate_J124 i0 (fun _ _ _ _ h K => ih i00 hk65 (fun i uo ⟨n8, z⟩ => K (i, n8) uo z) h) K h
          · replace h := h.2 c
            replace K := fun i uo z => K i uo (Or.inr ⟨c, z⟩)
            exact ru_dominate_J119 i0 (fun _ _ _ _ h K => ih i00 hk65 (fun i uo ⟨n8, z⟩ => K (i, n8) uo z) h) K h
        · replace h := h.2 c
          replace K := fun i uo z => K i uo (Or.inr ⟨c, z⟩)
          exact ru_dominate_J119 i0 (fun _ _ _ _ h K => ih i00 hk65 (fun i uo ⟨n8, z⟩ => K (i, n8) uo z) h) K h
set_option maxRecDepth 100000 in
theorem ru_dominate_L65 {ι : Type} {P : MS → Prop} {Q : MS → Prop} {k57 : MS → Int32 → Prop} {k57v : ι → MS → MS → Int32 → Prop} : ∀ (n : Nat) {U65 : MS} {v65_1 : Int32} {v65_2 : Int32} (i0 : ι) (hk57 : ∀ (u : MS) (z0 : Int32), k57 u z0 → (∀ (i : ι) (uo : MS), k57v i uo u z0 → P uo) → ∃ uo, P uo ∧ Q uo), (∀ (i : ι) (uo : MS), (∃ n8, v_dominate_L65 uo (k57v i uo) n8 U65 v65_1 v65_2) → P uo) → w_dominate_L65 Q k57 n U65 v65_1 v65_2 → ∃ uo, P uo ∧ Q uo := by
  intro n
  induction n with
  | zero => intro U65 v65_1 v65_2 i0 hk57 K h; unfold w_dominate_L65 at h; exact h.elim
  | succ n ih =>
    intro U65 v65_1 v65_2 i0 hk57 K h
    unfold w_dominate_L65 at h
    replace K := fun (i : ι × Nat) uo (z : v_dominate_L65 uo (k57v i.1 uo) (i.2 + 1) U65 v65_1 v65_2) => K i.1 uo ⟨i.2 + 1, z⟩
    have i00 := i0
    replace i0 : ι × Nat := (i0, 0)
    by_cases c : (qI U65 0 105).toInt ≤ v65_2.toInt
    · replace h := h.1 c
      replace K := fun i uo z => K i uo (Or.inl ⟨c, z⟩)
      exact hk57 _ _ h (fun i uo z => K (i, 0) uo z)
    · replace h := h.2 c
      replace K := fun i uo z => K i uo (Or.inr ⟨c, z⟩)
      obtain ⟨g11_, h⟩ := h
      replace K := fun i uo z => K i uo ⟨g11_, z⟩
      obtain ⟨a35, ea35⟩ : ∃ x9 : Int32, x9 = (qI U65 51 v65_2.toInt.toNat) := ⟨_, rfl⟩
      replace h := h a35 ea35
      replace K := fun i uo z => K i uo ⟨a35, ea35, z⟩
      obtain ⟨n9, h⟩ := h
      exact ru_dominate_L80 n9 i0 (fun _ _ _ h K => ih i00 hk57 (fun i uo ⟨n8, z⟩ => K (i, n8) uo z) h) K h
set_option maxRecDepth 100000 in
theorem ru_dominate_L57 {ι : Type} {P : MS → Prop} {Q : MS → Prop} : ∀ (n : Nat) {U57 : MS} {v57_1 : Int32} (i0 : ι), (∀ (i : ι) (uo : MS), (∃ n8, v_dominate_L57 uo n8 U57 v57_1) → P uo) → w_dominate_L57 Q n U57 v57_1 → ∃ uo, P uo ∧ Q uo := by
  intro n
  induction n with
  | zero => intro U57 v57_1 i0 K h; unfold w_dominate_L57 at h; exact h.elim
  | succ n ih =>
    intro U57 v57_1 i0 K h
    unfold w_dominate_L57 at h
    replace K := fun (i : ι × Nat) uo (z : v_dominate_L57 uo (i.2 + 1) U57 v57_1) => K i.1 uo ⟨i.2 + 1, z⟩
    have i00 := i0
    replace i0 : ι × Nat := (i0, 0)
    by_cases c : v57_1.toInt = 0
    · replace h := h.1 c
      replace K := fun i uo z => K i uo (Or.inl ⟨c, z⟩)
      obtain ⟨n9, h⟩ := h
      exact ru_dominate_L142 n9 i0 K h
    · replace h := h.2 c
      replace K := fun i uo z => K i uo (Or.inr ⟨c, z⟩)
      obtain ⟨n9, h⟩ := h
      exact ru_dominate_L65 n9 i0 (fun _ _ h K => ih i00 (fun i uo ⟨n8, z⟩ => K (i, n8) uo z) h) K h
set_option maxRecDepth 100000 in
theorem ru_dominate_L28 {ι : Type} {P : MS → Prop} {Q : MS → Prop} : ∀ (n : Nat) {U28 : MS} {v28_1 : Int32} (i0 : ι), (∀ (i : ι) (uo : MS), (∃ n8, v_dominate_L28 uo n8 U28 v28_1) → P uo) → w_dominate_L28 Q n U28 v28_1 → ∃ uo, P uo ∧ Q uo := by
  intro n
  induction n with
  | zero => intro U28 v28_1 i0 K h; unfold w_dominate_L28 at h; exact h.elim
  | succ n ih =>
    intro U28 v28_1 i0 K h
    unfold w_dominate_L28 at h
    replace K := fun (i : ι × Nat) uo (z : v_dominate_L28 uo (i.2 + 1) U28 v28_1) => K i.1 uo ⟨i.2 + 1, z⟩
    have i00 := i0
    replace i0 : ι × Nat := (i0, 0)
    by_cases c : 38 ≤ v28_1.toInt
    · replace h := h.1 c
      replace K := fun i uo z => K i uo (Or.inl ⟨c, z⟩)
      obtain ⟨n9, h⟩ := h
      exact ru_dominate_L57 n9 i0 K h
    · replace h := h.2 c
      replace K := fun i uo z => K i uo (Or.inr ⟨c, z⟩)
      by_cases c : v28_1.toInt = 0
      · replace h := h.1 c
        replace K := fun i uo z => K i uo (Or.inl ⟨c, z⟩)
        exact ru_dominate_J48 i0 (fun _ _ h K => ih i00 (fun i uo ⟨n8, z⟩ => K (i, n8) uo z) h) K h
      · replace h := h.2 c
        replace K := fun i uo z => K i uo (Or.inr ⟨c, z⟩)
        exact ru_dominate_J48 i0 (fun _ _ h K => ih i00 (fun i uo ⟨n8, z⟩ => K (i, n8) uo z) h) K h
set_option maxRecDepth 100000 in
theorem ru_dominate_L2 {ι : Type} {P : MS → Prop} {Q : MS → Prop} : ∀ (n : Nat) {U2 : MS} {v2_1 : Int32} (i0 : ι), (∀ (i : ι) (uo : MS), (∃ n8, v_dominate_L2 uo n8 U2 v2_1) → P uo) → w_dominate_L2 Q n U2 v2_1 → ∃ uo, P uo ∧ Q uo := by
  intro n
  induction n with
  | zero => intro U2 v2_1 i0 K h; unfold w_dominate_L2 at h; exact h.elim
  | succ n ih =>
    intro U2 v2_1 i0 K h
    unfold w_dominate_L2 at h
    replace K := fun (i : ι × Nat) uo (z : v_dominate_L2 uo (i.2 + 1) U2 v2_1) => K i.1 uo ⟨i.2 + 1, z⟩
    have i00 := i0
    replace i0 : ι × Nat := (i0, 0)
    by_cases c : ((qI U2 0 105) * (38 : Int32)).toInt ≤ v2_1.toInt
    · replace h := h.1 c
      replace K := fun i uo z => K i uo (Or.inl ⟨c, z⟩)
      obtain ⟨n9, h⟩ := h
      exact ru_dominate_L28 n9 i0 K h
    · replace h := h.2 c
      replace K := fun i uo z => K i uo (Or.inr ⟨c, z⟩)
      obtain ⟨g12_, h⟩ := h
      replace K := fun i uo z => K i uo ⟨g12_, z⟩
      obtain ⟨S58, eS58⟩ : ∃ x9 : MS, x9 = wI U2 54 v2_1.toInt.toNat (-1 : Int32) := ⟨_, rfl⟩
      replace h := h S58 eS58
      replace K := fun i uo z => K i uo ⟨S58, eS58, z⟩
      obtain ⟨a59, ea59⟩ : ∃ x9 : Int32, x9 = (v2_1 + Int32.ofInt 1) := ⟨_, rfl⟩
      replace h := h a59 ea59
      replace K := fun i uo z => K i uo ⟨a59, ea59, z⟩
      exact ih i00 (fun i uo ⟨n8, z⟩ => K (i, n8) uo z) h
set_option maxRecDepth 100000 in
theorem ru_dominate {S : MS} {Q : MS → Prop} (h : w_dominate S Q) : ∃ uo, v_dominate S uo ∧ Q uo := by
  have i0 : Unit := ()
  have K : ∀ (i : Unit) (uo : MS), v_dominate S uo → v_dominate S uo := fun _ _ z => z
  unfold w_dominate at h
  obtain ⟨n9, h⟩ := h
  exact ru_dominate_L2 n9 i0 K h
set_option maxRecDepth 100000 in
theorem vw_dominate_J235 {uo : MS} {k200 k200v : MS → Int32 → Prop} {U235 : MS} {t235_0 : Int32} {t235_1 : Int32} {v235_2 : Int32} (hk200 : ∀ (u : MS) (z0 : Int32), k200v u z0 → k200 u z0) (h : v_dominate_J235 uo k200v U235 t235_0 t235_1 v235_2) : w_dominate_J235 (fun u => u = uo) k200 U235 t235_0 t235_1 v235_2 := by
  unfold v_dominate_J235 at h
  unfold w_dominate_J235
  obtain ⟨g9, h⟩ := h
  refine ⟨g9, ?_⟩
  obtain ⟨v9, e9, h⟩ := h
  intro x9 d9
  have c9 : v9 = x9 := e9.trans d9.symm
  subst c9
  obtain ⟨v9, e9, h⟩ := h
  intro x9 d9
  have c9 : v9 = x9 := e9.trans d9.symm
  subst c9
  exact hk200 _ _ h
set_option maxRecDepth 100000 in
theorem vz_dominate_J235 {uo : MS} {Q : MS → Prop} {k200 k200v : MS → Int32 → Prop} {U235 : MS} {t235_0 : Int32} {t235_1 : Int32} {v235_2 : Int32} (hk200 : ∀ (u : MS) (z0 : Int32), k200v u z0 → k200 u z0 → Q uo) (h : v_dominate_J235 uo k200v U235 t235_0 t235_1 v235_2) (w : w_dominate_J235 Q k200 U235 t235_0 t235_1 v235_2) : Q uo := by
  unfold v_dominate_J235 at h
  unfold w_dominate_J235 at w
  replace h := h.2
  replace w := w.2
  obtain ⟨v9, e9, h⟩ := h
  replace w := w v9 e9
  obtain ⟨v9, e9, h⟩ := h
  replace w := w v9 e9
  exact hk200 _ _ h w
set_option maxRecDepth 100000 in
theorem vw_dominate_J234 {uo : MS} {k200 k200v : MS → Int32 → Prop} {U234 : MS} {t234_0 : Int32} {v234_2 : Int32} (hk200 : ∀ (u : MS) (z0 : Int32), k200v u z0 → k200 u z0) (h : v_dominate_J234 uo k200v U234 t234_0 v234_2) : w_dominate_J234 (fun u => u = uo) k200 U234 t234_0 v234_2 := by
  unfold v_dominate_J234 at h
  unfold w_dominate_J234
  exact vw_dominate_J235 hk200 h
set_option maxRecDepth 100000 in
theorem vz_dominate_J234 {uo : MS} {Q : MS → Prop} {k200 k200v : MS → Int32 → Prop} {U234 : MS} {t234_0 : Int32} {v234_2 : Int32} (hk200 : ∀ (u : MS) (z0 : Int32), k200v u z0 → k200 u z0 → Q uo) (h : v_dominate_J234 uo k200v U234 t234_0 v234_2) (w : w_dominate_J234 Q k200 U234 t234_0 v234_2) : Q uo := by
  unfold v_dominate_J234 at h
  unfold w_dominate_J234 at w
  exact vz_dominate_J235 hk200 h w
set_option maxRecDepth 100000 in
theorem vw_dominate_J186 {uo : MS} {k159 k159v : MS → Int32 → Int32 → Prop} {U186 : MS} {v186_2 : Int32} {v186_3 : Int32} (hk159 : ∀ (u : MS) (z0 : Int32) (z1 : Int32), k159v u z0 z1 → k159 u z0 z1) (h : v_dominate_J186 uo k159v U186 v186_2 v186_3) : w_dominate_J186 (fun u => u = uo) k159 U186 v186_2 v186_3 := by
  unfold v_dominate_J186 at h
  unfold w_dominate_J186
  obtain ⟨v9, e9, h⟩ := h
  intro x9 d9
  have c9 : v9 = x9 := e9.trans d9.symm
  subst c9
  exact hk159 _ _ _ h
set_option maxRecDepth 100000 in
theorem vz_dominate_J186 {uo : MS} {Q : MS → Prop} {k159 k159v : MS → Int32 → Int32 → Prop} {U186 : MS} {v186_2 : Int32} {v186_3 : Int32} (hk159 : ∀ (u : MS) (z0 : Int32) (z1 : Int32), k159v u z0 z1 → k159 u z0 z1 → Q uo) (h : v_dominate_J186 uo k159v U186 v186_2 v186_3) (w : w_dominate_J186 Q k159 U186 v186_2 v186_3) : Q uo := by
  unfold v_dominate_J186 at h
  unfold w_dominate_J186 at w
  obtain ⟨v9, e9, h⟩ := h
  replace w := w v9 e9
  exact hk159 _ _ _ h w
set_option maxRecDepth 100000 in
theorem vw_dominate_J131 {uo : MS} {k65 k65v : MS → Int32 → Int32 → Prop} {U131 : MS} {v131_1 : Int32} {v131_2 : Int32} (hk65 : ∀ (u : MS) (z0 : Int32) (z1 : Int32), k65v u z0 z1 → k65 u z0 z1) (h : v_dominate_J131 uo k65v U131 v131_1 v131_2) : w_dominate_J131 (fun u => u = uo) k65 U131 v131_1 v131_2 := by
  unfold v_dominate_J131 at h
  unfold w_dominate_J131
  obtain ⟨v9, e9, h⟩ := h
  intro x9 d9
  have c9 : v9 = x9 := e9.trans d9.symm
  subst c9
  exact hk65 _ _ _ h
set_option maxRecDepth 100000 in
theorem vz_dominate_J131 {uo : MS} {Q : MS → Prop} {k65 k65v : MS → Int32 → Int32 → Prop} {U131 : MS} {v131_1 : Int32} {v131_2 : Int32} (hk65 : ∀ (u : MS) (z0 : Int32) (z1 : Int32), k65v u z0 z1 → k65 u z0 z1 → Q uo) (h : v_dominate_J131 uo k65v U131 v131_1 v131_2) (w : w_dominate_J131 Q k65 U131 v131_1 v131_2) : Q uo := by
  unfold v_dominate_J131 at h
  unfold w_dominate_J131 at w
  obtain ⟨v9, e9, h⟩ := h
  replace w := w v9 e9
  exact hk65 _ _ _ h w
set_option maxRecDepth 100000 in
theorem vw_dominate_J124 {uo : MS} {k80 k80v : MS → Int32 → Int32 → Int32 → Prop} {U124 : MS} {t124_0 : Int32} {v124_2 : Int32} {v124_3 : Int32} (hk80 : ∀ (u : MS) (z0 : Int32) (z1 : Int32) (z2 : Int32), k80v u z0 z1 z2 → k80 u z0 z1 z2) (h : v_dominate_J124 uo k80v U124 t124_0 v124_2 v124_3) : w_dominate_J124 (fun u => u = uo) k80 U124 t124_0 v124_2 v124_3 := by
  unfold v_dominate_J124 at h
  unfold w_dominate_J124
  obtain ⟨v9, e9, h⟩ := h
  intro x9 d9
  have c9 : v9 = x9 := e9.trans d9.symm
  subst c9
  exact hk80 _ _ _ _ h
set_option maxRecDepth 100000 in
theorem vz_dominate_J124 {uo : MS} {Q : MS → Prop} {k80 k80v : MS → Int32 → Int32 → Int32 → Prop} {U124 : MS} {t124_0 : Int32} {v124_2 : Int32} {v124_3 : Int32} (hk80 : ∀ (u : MS) (z0 : Int32) (z1 : Int32) (z2 : Int32), k80v u z0 z1 z2 → k80 u z0 z1 z2 → Q uo) (h : v_dominate_J124 uo k80v U124 t124_0 v124_2 v124_3) (w : w_dominate_J124 Q k80 U124 t124_0 v124_2 v124_3) : Q uo := by
  unfold v_dominate_J124 at h
  unfold w_dominate_J124 at w
  obtain ⟨v9, e9, h⟩ := h
  replace w := w v9 e9
  exact hk80 _ _ _ _ h w
set_option maxRecDepth 100000 in
theorem vw_dominate_J119 {uo : MS} {k80 k80v : MS → Int32 → Int32 → Int32 → Prop} {U119 : MS} {v119_2 : Int32} {v119_3 : Int32} (hk80 : ∀ (u : MS) (z0 : Int32) (z1 : Int32) (z2 : Int32), k80v u z0 z1 z2 → k80 u z0 z1 z2) (h : v_dominate_J119 uo k80v U119 v119_2 v119_3) : w_dominate_J119 (fun u => u = uo) k80 U119 v119_2 v119_3 := by
  unfold v_dominate_J119 at h
  unfold w_dominate_J119
  exact vw_dominate_J124 hk80 h
set_option maxRecDepth 100000 in
theorem vz_dominate_J119 {uo : MS} {Q : MS → Prop} {k80 k80v : MS → Int32 → Int32 → Int32 → Prop} {U119 : MS} {v119_2 : Int32} {v119_3 : Int32} (hk80 : ∀ (u : MS) (z0 : Int32) (z1 : Int32) (z2 : Int32), k80v u z0 z1 z2 → k80 u z0 z1 z2 → Q uo) (h : v_dominate_J119 uo k80v U119 v119_2 v119_3) (w : w_dominate_J119 Q k80 U119 v119_2 v119_3) : Q uo := by
  unfold v_dominate_J119 at h
  unfold w_dominate_J119 at w
  exact vz_dominate_J124 hk80 h w
set_option maxRecDepth 100000 in
theorem vw_dominate_J48 {uo : MS} {k28 k28v : MS → Int32 → Prop} {U48 : MS} {t48_0 : Int32} {t48_1 : Int32} {v48_1 : Int32} (hk28 : ∀ (u : MS) (z0 : Int32), k28v u z0 → k28 u z0) (h : v_dominate_J48 uo k28v U48 t48_0 t48_1 v48_1) : w_dominate_J48 (fun u => u = uo) k28 U48 t48_0 t48_1 v48_1 := by
  unfold v_dominate_J48 at h
  unfold w_dominate_J48
  obtain ⟨g9, h⟩ := h
  refine ⟨g9, ?_⟩
  obtain ⟨v9, e9, h⟩ := h
  intro x9 d9
  have c9 : v9 = x9 := e9.trans d9.symm
  subst c9
  obtain ⟨v9, e9, h⟩ := h
  intro x9 d9
  have c9 : v9 = x9 := e9.trans d9.symm
  subst c9
  exact hk28 _ _ h
set_option maxRecDepth 100000 in
theorem vz_dominate_J48 {uo : MS} {Q : MS → Prop} {k28 k28v : MS → Int32 → Prop} {U48 : MS} {t48_0 : Int32} {t48_1 : Int32} {v48_1 : Int32} (hk28 : ∀ (u : MS) (z0 : Int32), k28v u z0 → k28 u z0 → Q uo) (h : v_dominate_J48 uo k28v U48 t48_0 t48_1 v48_1) (w : w_dominate_J48 Q k28 U48 t48_0 t48_1 v48_1) : Q uo := by
  unfold v_dominate_J48 at h
  unfold w_dominate_J48 at w
  replace h := h.2
  replace w := w.2
  obtain ⟨v9, e9, h⟩ := h
  replace w := w v9 e9
  obtain ⟨v9, e9, h⟩ := h
  replace w := w v9 e9
  exact hk28 _ _ h w
set_option maxRecDepth 100000 in
theorem vw_dominate_L200 {uo : MS} : ∀ (n : Nat) {U200 : MS} {v200_2 : Int32}, v_dominate_L200 uo n U200 v200_2 → w_dominate_L200 (fun u => u = uo) n U200 v200_2 := by
  intro n
  induction n with
  | zero => intro U200 v200_2 h; unfold v_dominate_L200 at h; exact h.elim
  | succ n ih =>
    intro U200 v200_2 h
    unfold v_dominate_L200 at h
    unfold w_dominate_L200
    rcases h with ⟨c, h⟩ | ⟨c, h⟩
    · refine ⟨fun _ => ?_, fun c2 => absurd c c2⟩
      exact h.symm
    · refine ⟨fun c2 => absurd c2 c, fun _ => ?_⟩
      obtain ⟨g9, h⟩ := h
      refine ⟨g9, ?_⟩
      rcases h with ⟨c, h⟩ | ⟨c, h⟩
      · refine ⟨fun _ => ?_, fun c2 => absurd c c2⟩
        exact vw_dominate_J234 (fun _ _ h => ih h) h
      · refine ⟨fun c2 => absurd c2 c, fun _ => ?_⟩
        rcases h with ⟨c, h⟩ | ⟨c, h⟩
        · refine ⟨fun _ => ?_, fun c2 => absurd c c2⟩
          exact vw_dominate_J234 (fun _ _ h => ih h) h
        · refine ⟨fun c2 => absurd c2 c, fun _ => ?_⟩
          obtain ⟨p9, q9, z9, h⟩ := h
          refine ⟨_, vw_nearestOf z9, ?_⟩
          rintro p8 q8 ⟨d8, d9⟩
          subst d8
          subst d9
          exact vw_dominate_J235 (fun _ _ h => ih h) h
set_option maxRecDepth 100000 in
theorem vz_dominate_L200 {uo : MS} {Q : MS → Prop} : ∀ (n m : Nat) {U200 : MS} {v200_2 : Int32}, v_dominate_L200 uo n U200 v200_2 → w_dominate_L200 Q m U200 v200_2 → Q uo := by
  intro n
  induction n with
  | zero => intro m U200 v200_2 h; unfold v_dominate_L200 at h; exact h.elim
  | succ n ih =>
    intro m U200 v200_2 h w
    cases m with
    | zero => unfold w_dominate_L200 at w; exact w.elim
    | succ m =>
      unfold v_dominate_L200 at h
      unfold w_dominate_L200 at w
      rcases h with ⟨c, h⟩ | ⟨c, h⟩
      · replace w := w.1 c
        rw [h]
        exact w
      · replace w := w.2 c
        replace h := h.2
        replace w := w.2
        rcases h with ⟨c, h⟩ | ⟨c, h⟩
        · replace w := w.1 c
          exact vz_dominate_J234 (fun _ _ h w => ih m h w) h w
        · replace w := w.2 c
          rcases h with ⟨c, h⟩ | ⟨c, h⟩
          · replace w := w.1 c
            exact vz_dominate_J234 (fun _ _ h w => ih m h w) h w
          · replace w := w.2 c
            obtain ⟨p9, q9, z9, h⟩ := h
            obtain ⟨Q9, w0, w⟩ := w
            replace w := w p9 q9 (vz_nearestOf z9 w0)
            exact vz_dominate_J235 (fun _ _ h w => ih m h w) h w
set_option maxRecDepth 100000 in
theorem vw_dominate_L159 {uo : MS} {k142 k142v : MS → Int32 → Prop} : ∀ (n : Nat) {U159 : MS} {v159_2 : Int32} {v159_3 : Int32} (hk142 : ∀ (u : MS) (z0 : Int32), k142v u z0 → k142 u z0), v_dominate_L159 uo k142v n U159 v159_2 v159_3 → w_dominate_L159 (fun u => u = uo) k142 n U159 v159_2 v159_3 := by
  intro n
  induction n with
  | zero => intro U159 v159_2 v159_3 hk142 h; unfold v_dominate_L159 at h; exact h.elim
  | succ n ih =>
    intro U159 v159_2 v159_3 hk142 h
    unfold v_dominate_L159 at h
    unfold w_dominate_L159
    rcases h with ⟨c, h⟩ | ⟨c, h⟩
    · refine ⟨fun _ => ?_, fun c2 => absurd c c2⟩
      obtain ⟨v9, e9, h⟩ := h
      intro x9 d9
      have c9 : v9 = x9 := e9.trans d9.symm
      subst c9
      exact hk142 _ _ h
    · refine ⟨fun c2 => absurd c2 c, fun _ => ?_⟩
      obtain ⟨g9, h⟩ := h
      refine ⟨g9, ?_⟩
      rcases h with ⟨c, h⟩ | ⟨c, h⟩
      · refine ⟨fun _ => ?_, fun c2 => absurd c c2⟩
        exact vw_dominate_J186 (fun _ _ _ h => ih hk142 h) h
      · refine ⟨fun c2 => absurd c2 c, fun _ => ?_⟩
        obtain ⟨g9, h⟩ := h
        refine ⟨g9, ?_⟩
        obtain ⟨g9, h⟩ := h
        refine ⟨g9, ?_⟩
        obtain ⟨v9, e9, h⟩ := h
        intro x9 d9
        have c9 : v9 = x9 := e9.trans d9.symm
        subst c9
        exact vw_dominate_J186 (fun _ _ _ h => ih hk142 h) h
set_option maxRecDepth 100000 in
theorem vz_dominate_L159 {uo : MS} {Q : MS → Prop} {k142 k142v : MS → Int32 → Prop} : ∀ (n m : Nat) {U159 : MS} {v159_2 : Int32} {v159_3 : Int32} (hk142 : ∀ (u : MS) (z0 : Int32), k142v u z0 → k142 u z0 → Q uo), v_dominate_L159 uo k142v n U159 v159_2 v159_3 → w_dominate_L159 Q k142 m U159 v159_2 v159_3 → Q uo := by
  intro n
  induction n with
  | zero => intro m U159 v159_2 v159_3 hk142 h; unfold v_dominate_L159 at h; exact h.elim
  | succ n ih =>
    intro m U159 v159_2 v159_3 hk142 h w
    cases m with
    | zero => unfold w_dominate_L159 at w; exact w.elim
    | succ m =>
      unfold v_dominate_L159 at h
      unfold w_dominate_L159 at w
      rcases h with ⟨c, h⟩ | ⟨c, h⟩
      · replace w := w.1 c
        obtain ⟨v9, e9, h⟩ := h
        replace w := w v9 e9
        exact hk142 _ _ h w
      · replace w := w.2 c
        replace h := h.2
        replace w := w.2
        rcases h with ⟨c, h⟩ | ⟨c, h⟩
        · replace w := w.1 c
          exact vz_dominate_J186 (fun _ _ _ h w => ih m hk142 h w) h w
        · replace w := w.2 c
          replace h := h.2
          replace w := w.2
          replace h := h.2
          replace w := w.2
          obtain ⟨v9, e9, h⟩ := h
          replace w := w v9 e9
          exact vz_dominate_J186 (fun _ _ _ h w => ih m hk142 h w) h w
set_option maxRecDepth 100000 in
theorem vw_dominate_L142 {uo : MS} : ∀ (n : Nat) {U142 : MS} {v142_2 : Int32}, v_dominate_L142 uo n U142 v142_2 → w_dominate_L142 (fun u => u = uo) n U142 v142_2 := by
  intro n
  induction n with
  | zero => intro U142 v142_2 h; unfold v_dominate_L142 at h; exact h.elim
  | succ n ih =>
    intro U142 v142_2 h
    unfold v_dominate_L142 at h
    unfold w_dominate_L142
    rcases h with ⟨c, h⟩ | ⟨c, h⟩
    · refine ⟨fun _ => ?_, fun c2 => absurd c c2⟩
      obtain ⟨n9, h⟩ := h
      exact ⟨n9, vw_dominate_L200 n9 h⟩
    · refine ⟨fun c2 => absurd c2 c, fun _ => ?_⟩
      obtain ⟨g9, h⟩ := h
      refine ⟨g9, ?_⟩
      obtain ⟨v9, e9, h⟩ := h
      intro x9 d9
      have c9 : v9 = x9 := e9.trans d9.symm
      subst c9
      obtain ⟨n9, h⟩ := h
      exact ⟨n9, vw_dominate_L159 n9 (fun _ _ h => ih h) h⟩
set_option maxRecDepth 100000 in
theorem vz_dominate_L142 {uo : MS} {Q : MS → Prop} : ∀ (n m : Nat) {U142 : MS} {v142_2 : Int32}, v_dominate_L142 uo n U142 v142_2 → w_dominate_L142 Q m U142 v142_2 → Q uo := by
  intro n
  induction n with
  | zero => intro m U142 v142_2 h; unfold v_dominate_L142 at h; exact h.elim
  | succ n ih =>
    intro m U142 v142_2 h w
    cases m with
    | zero => unfold w_dominate_L142 at w; exact w.elim
    | succ m =>
      unfold v_dominate_L142 at h
      unfold w_dominate_L142 at w
      rcases h with ⟨c, h⟩ | ⟨c, h⟩
      · replace w := w.1 c
        obtain ⟨n9, h⟩ := h
        obtain ⟨n8, w⟩ := w
        exact vz_dominate_L200 n9 n8 h w
      · replace w := w.2 c
        replace h := h.2
        replace w := w.2
        obtain ⟨v9, e9, h⟩ := h
        replace w := w v9 e9
        obtain ⟨n9, h⟩ := h
        obtain ⟨n8, w⟩ := w
        exact vz_dominate_L159 n9 n8 (fun _ _ h w => ih m h w) h w
set_option maxRecDepth 100000 in
theorem vw_dominate_L80 {uo : MS} {k65 k65v : MS → Int32 → Int32 → Prop} : ∀ (n : Nat) {U80 : MS} {v80_1 : Int32} {v80_2 : Int32} {v80_3 : Int32} (hk65 : ∀ (u : MS) (z0 : Int32) (z1 : Int32), k65v u z0 z1 → k65 u z0 z1), v_dominate_L80 uo k65v n U80 v80_1 v80_2 v80_3 → w_dominate_L80 (fun u => u = uo) k65 n U80 v80_1 v80_2 v80_3 := by
  intro n
  induction n with
  | zero => intro U80 v80_1 v80_2 v80_3 hk65 h; unfold v_dominate_L80 at h; exact h.elim
  | succ n ih =>
    intro U80 v80_1 v80_2 v80_3 hk65 h
    unfold v_dominate_L80 at h
    unfold w_dominate_L80
    obtain ⟨g9, h⟩ := h
    refine ⟨g9, ?_⟩
    rcases h with ⟨c, h⟩ | ⟨c, h⟩
    · refine ⟨fun _ => ?_, fun c2 => absurd c c2⟩
      exact vw_dominate_J131 hk65 h
    · refine ⟨fun c2 => absurd c2 c, fun _ => ?_⟩
      obtain ⟨g9, h⟩ := h
      refine ⟨g9, ?_⟩
      rcases h with ⟨c, h⟩ | ⟨c, h⟩
      · refine ⟨fun _ => ?_, fun c2 => absurd c c2⟩
        exact vw_dominate_J131 hk65 h
      · refine ⟨fun c2 => absurd c2 c, fun _ => ?_⟩
        obtain ⟨g9, h⟩ := h
        refine ⟨g9, ?_⟩
        obtain ⟨p9, q9, z9, h⟩ := h
        refine ⟨_, vw_narrowed z9, ?_⟩
        rintro p8 q8 ⟨d8, d9⟩
        subst d8
        subst d9
        rcases h with ⟨c, h⟩ | ⟨c, h⟩
        · refine ⟨fun _ => ?_, fun c2 => absurd c c2⟩
          rcases h with ⟨c, h⟩ | ⟨c, h⟩
          · refine ⟨fun _ => ?_, fun c2 => absurd c c2⟩
            exact vw_dominate_J124 (fun _ _ _ _ h => ih hk65 h) h
          · refine ⟨fun c2 => absurd c2 c, fun _ => ?_⟩
            exact vw_dominate_J119 (fun _ _ _ _ h => ih hk65 h) h
        · refine ⟨fun c2 => absurd c2 c, fun _ => ?_⟩
          exact vw_dominate_J119 (fun _ _ _ _ h => ih hk65 h) h
set_option maxRecDepth 100000 in
theorem vz_dominate_L80 {uo : MS} {Q : MS → Prop} {k65 k65v : MS → Int32 → Int32 → Prop} : ∀ (n m : Nat) {U80 : MS} {v80_1 : Int32} {v80_2 : Int32} {v80_3 : Int32} (hk65 : ∀ (u : MS) (z0 : Int32) (z1 : Int32), k65v u z0 z1 → k65 u z0 z1 → Q uo), v_dominate_L80 uo k65v n U80 v80_1 v80_2 v80_3 → w_dominate_L80 Q k65 m U80 v80_1 v80_2 v80_3 → Q uo := by
  intro n
  induction n with
  | zero => intro m U80 v80_1 v80_2 v80_3 hk65 h; unfold v_dominate_L80 at h; exact h.elim
  | succ n ih =>
    intro m U80 v80_1 v80_2 v80_3 hk65 h w
    cases m with
    | zero => unfold w_dominate_L80 at w; exact w.elim
    | succ m =>
      unfold v_dominate_L80 at h
      unfold w_dominate_L80 at w
      replace h := h.2
      replace w := w.2
      rcases h with ⟨c, h⟩ | ⟨c, h⟩
      · replace w := w.1 c
        exact vz_dominate_J131 hk65 h w
      · replace w := w.2 c
        replace h := h.2
        replace w := w.2
        rcases h with ⟨c, h⟩ | ⟨c, h⟩
        · replace w := w.1 c
          exact vz_dominate_J131 hk65 h w
        · replace w := w.2 c
          replace h := h.2
          replace w := w.2
          obtain ⟨p9, q9, z9, h⟩ := h
          obtain ⟨Q9, w0, w⟩ := w
          replace w := w p9 q9 (vz_narrowed z9 w0)
          rcases h with ⟨c, h⟩ | ⟨c, h⟩
          · replace w := w.1 c
            rcases h with ⟨c, h⟩ | ⟨c, h⟩
            · replace w := w.1 c
              exact vz_dominate_J124 (fun _ _ _ _ h w => ih m hk65 h w) h w
            · replace w := w.2 c
              exact vz_dominate_J119 (fun _ _ _ _ h w => ih m hk65 h w) h w
          · replace w := w.2 c
            exact vz_dominate_J119 (fun _ _ _ _ h w => ih m hk65 h w) h w
set_option maxRecDepth 100000 in
theorem vw_dominate_L65 {uo : MS} {k57 k57v : MS → Int32 → Prop} : ∀ (n : Nat) {U65 : MS} {v65_1 : Int32} {v65_2 : Int32} (hk57 : ∀ (u : MS) (z0 : Int32), k57v u z0 → k57 u z0), v_dominate_L65 uo k57v n U65 v65_1 v65_2 → w_dominate_L65 (fun u => u = uo) k57 n U65 v65_1 v65_2 := by
  intro n
  induction n with
  | zero => intro U65 v65_1 v65_2 hk57 h; unfold v_dominate_L65 at h; exact h.elim
  | succ n ih =>
    intro U65 v65_1 v65_2 hk57 h
    unfold v_dominate_L65 at h
    unfold w_dominate_L65
    rcases h with ⟨c, h⟩ | ⟨c, h⟩
    · refine ⟨fun _ => ?_, fun c2 => absurd c c2⟩
      exact hk57 _ _ h
    · refine ⟨fun c2 => absurd c2 c, fun _ => ?_⟩
      obtain ⟨g9, h⟩ := h
      refine ⟨g9, ?_⟩
      obtain ⟨v9, e9, h⟩ := h
      intro x9 d9
      have c9 : v9 = x9 := e9.trans d9.symm
      subst c9
      obtain ⟨n9, h⟩ := h
      exact ⟨n9, vw_dominate_L80 n9 (fun _ _ _ h => ih hk57 h) h⟩
set_option maxRecDepth 100000 in
theorem vz_dominate_L65 {uo : MS} {Q : MS → Prop} {k57 k57v : MS → Int32 → Prop} : ∀ (n m : Nat) {U65 : MS} {v65_1 : Int32} {v65_2 : Int32} (hk57 : ∀ (u : MS) (z0 : Int32), k57v u z0 → k57 u z0 → Q uo), v_dominate_L65 uo k57v n U65 v65_1 v65_2 → w_dominate_L65 Q k57 m U65 v65_1 v65_2 → Q uo := by
  intro n
  induction n with
  | zero => intro m U65 v65_1 v65_2 hk57 h; unfold v_dominate_L65 at h; exact h.elim
  | succ n ih =>
    intro m U65 v65_1 v65_2 hk57 h w
    cases m with
    | zero => unfold w_dominate_L65 at w; exact w.elim
    | succ m =>
      unfold v_dominate_L65 at h
      unfold w_dominate_L65 at w
      rcases h with ⟨c, h⟩ | ⟨c, h⟩
      · replace w := w.1 c
        exact hk57 _ _ h w
      · replace w := w.2 c
        replace h := h.2
        replace w := w.2
        obtain ⟨v9, e9, h⟩ := h
        replace w := w v9 e9
        obtain ⟨n9, h⟩ := h
        obtain ⟨n8, w⟩ := w
        exact vz_dominate_L80 n9 n8 (fun _ _ _ h w => ih m hk57 h w) h w
set_option maxRecDepth 100000 in
theorem vw_dominate_L57 {uo : MS} : ∀ (n : Nat) {U57 : MS} {v57_1 : Int32}, v_dominate_L57 uo n U57 v57_1 → w_dominate_L57 (fun u => u = uo) n U57 v57_1 := by
  intro n
  induction n with
  | zero => intro U57 v57_1 h; unfold v_dominate_L57 at h; exact h.elim
  | succ n ih =>
    intro U57 v57_1 h
    unfold v_dominate_L57 at h
    unfold w_dominate_L57
    rcases h with ⟨c, h⟩ | ⟨c, h⟩
    · refine ⟨fun _ => ?_, fun c2 => absurd c c2⟩
      obtain ⟨n9, h⟩ := h
      exact ⟨n9, vw_dominate_L142 n9 h⟩
    · refine ⟨fun c2 => absurd c2 c, fun _ => ?_⟩
      obtain ⟨n9, h⟩ := h
      exact ⟨n9, vw_dominate_L65 n9 (fun _ _ h => ih h) h⟩
set_option maxRecDepth 100000 in
theorem vz_dominate_L57 {uo : MS} {Q : MS → Prop} : ∀ (n m : Nat) {U57 : MS} {v57_1 : Int32}, v_dominate_L57 uo n U57 v57_1 → w_dominate_L57 Q m U57 v57_1 → Q uo := by
  intro n
  induction n with
  | zero => intro m U57 v57_1 h; unfold v_dominate_L57 at h; exact h.elim
  | succ n ih =>
    intro m U57 v57_1 h w
    cases m with
    | zero => unfold w_dominate_L57 at w; exact w.elim
    | succ m =>
      unfold v_dominate_L57 at h
      unfold w_dominate_L57 at w
      rcases h with ⟨c, h⟩ | ⟨c, h⟩
      · replace w := w.1 c
        obtain ⟨n9, h⟩ := h
        obtain ⟨n8, w⟩ := w
        exact vz_dominate_L142 n9 n8 h w
      · replace w := w.2 c
        obtain ⟨n9, h⟩ := h
        obtain ⟨n8, w⟩ := w
        exact vz_dominate_L65 n9 n8 (fun _ _ h w => ih m h w) h w
set_option maxRecDepth 100000 in
theorem vw_dominate_L28 {uo : MS} : ∀ (n : Nat) {U28 : MS} {v28_1 : Int32}, v_dominate_L28 uo n U28 v28_1 → w_dominate_L28 (fun u => u = uo) n U28 v28_1 := by
  intro n
  induction n with
  | zero => intro U28 v28_1 h; unfold v_dominate_L28 at h; exact h.elim
  | succ n ih =>
    intro U28 v28_1 h
    unfold v_dominate_L28 at h
    unfold w_dominate_L28
    rcases h with ⟨c, h⟩ | ⟨c, h⟩
    · refine ⟨fun _ => ?_, fun c2 => absurd c c2⟩
      obtain ⟨n9, h⟩ := h
      exact ⟨n9, vw_dominate_L57 n9 h⟩
    · refine ⟨fun c2 => absurd c2 c, fun _ => ?_⟩
      rcases h with ⟨c, h⟩ | ⟨c, h⟩
      · refine ⟨fun _ => ?_, fun c2 => absurd c c2⟩
        exact vw_dominate_J48 (fun _ _ h => ih h) h
      · refine ⟨fun c2 => absurd c2 c, fun _ => ?_⟩
        exact vw_dominate_J48 (fun _ _ h => ih h) h
set_option maxRecDepth 100000 in
theorem vz_dominate_L28 {uo : MS} {Q : MS → Prop} : ∀ (n m : Nat) {U28 : MS} {v28_1 : Int32}, v_dominate_L28 uo n U28 v28_1 → w_dominate_L28 Q m U28 v28_1 → Q uo := by
  intro n
  induction n with
  | zero => intro m U28 v28_1 h; unfold v_dominate_L28 at h; exact h.elim
  | succ n ih =>
    intro m U28 v28_1 h w
    cases m with
    | zero => unfold w_dominate_L28 at w; exact w.elim
    | succ m =>
      unfold v_dominate_L28 at h
      unfold w_dominate_L28 at w
      rcases h with ⟨c, h⟩ | ⟨c, h⟩
      · replace w := w.1 c
        obtain ⟨n9, h⟩ := h
        obtain ⟨n8, w⟩ := w
        exact vz_dominate_L57 n9 n8 h w
      · replace w := w.2 c
        rcases h with ⟨c, h⟩ | ⟨c, h⟩
        · replace w := w.1 c
          exact vz_dominate_J48 (fun _ _ h w => ih m h w) h w
        · replace w := w.2 c
          exact vz_dominate_J48 (fun _ _ h w => ih m h w) h w
set_option maxRecDepth 100000 in
theorem vw_dominate_L2 {uo : MS} : ∀ (n : Nat) {U2 : MS} {v2_1 : Int32}, v_dominate_L2 uo n U2 v2_1 → w_dominate_L2 (fun u => u = uo) n U2 v2_1 := by
  intro n
  induction n with
  | zero => intro U2 v2_1 h; unfold v_dominate_L2 at h; exact h.elim
  | succ n ih =>
    intro U2 v2_1 h
    unfold v_dominate_L2 at h
    unfold w_dominate_L2
    rcases h with ⟨c, h⟩ | ⟨c, h⟩
    · refine ⟨fun _ => ?_, fun c2 => absurd c c2⟩
      obtain ⟨n9, h⟩ := h
      exact ⟨n9, vw_dominate_L28 n9 h⟩
    · refine ⟨fun c2 => absurd c2 c, fun _ => ?_⟩
      obtain ⟨g9, h⟩ := h
      refine ⟨g9, ?_⟩
      obtain ⟨v9, e9, h⟩ := h
      intro x9 d9
      have c9 : v9 = x9 := e9.trans d9.symm
      subst c9
      obtain ⟨v9, e9, h⟩ := h
      intro x9 d9
      have c9 : v9 = x9 := e9.trans d9.symm
      subst c9
      exact ih h
set_option maxRecDepth 100000 in
theorem vz_dominate_L2 {uo : MS} {Q : MS → Prop} : ∀ (n m : Nat) {U2 : MS} {v2_1 : Int32}, v_dominate_L2 uo n U2 v2_1 → w_dominate_L2 Q m U2 v2_1 → Q uo := by
  intro n
  induction n with
  | zero => intro m U2 v2_1 h; unfold v_dominate_L2 at h; exact h.elim
  | succ n ih =>
    intro m U2 v2_1 h w
    cases m with
    | zero => unfold w_dominate_L2 at w; exact w.elim
    | succ m =>
      unfold v_dominate_L2 at h
      unfold w_dominate_L2 at w
      rcases h with ⟨c, h⟩ | ⟨c, h⟩
      · replace w := w.1 c
        obtain ⟨n9, h⟩ := h
        obtain ⟨n8, w⟩ := w
        exact vz_dominate_L28 n9 n8 h w
      · replace w := w.2 c
        replace h := h.2
        replace w := w.2
        obtain ⟨v9, e9, h⟩ := h
        replace w := w v9 e9
        obtain ⟨v9, e9, h⟩ := h
        replace w := w v9 e9
        exact ih m h w
set_option maxRecDepth 100000 in
theorem vw_dominate {S : MS} {uo : MS} (h : v_dominate S uo) : w_dominate S (fun u => u = uo) := by
  unfold v_dominate at h
  unfold w_dominate
  obtain ⟨n9, h⟩ := h
  exact ⟨n9, vw_dominate_L2 n9 h⟩
set_option maxRecDepth 100000 in
theorem vz_dominate {S : MS} {uo : MS} {Q : MS → Prop} (h : v_dominate S uo) (w : w_dominate S Q) : Q uo := by
  unfold v_dominate at h
  unfold w_dominate at w
  obtain ⟨n9, h⟩ := h
  obtain ⟨n8, w⟩ := w
  exact vz_dominate_L2 n9 n8 h w
def v_edgeInto_L7 (uo : MS) : Nat → MS → Int32 → Int32 → Prop
  | 0, _, _, _ => False
  | n7 + 1, U7, v7_2, v7_3 => (((qI U7 0 110).toInt ≤ v7_3.toInt ∧ (((0 : Int) ≤ (qI U7 0 110).toInt ∧ (qI U7 0 110).toInt < 24000) ∧ (∃ S6 : MS, S6 = wI U7 52 (((qI U7 0 110).toInt).toNat) v7_2 ∧ (∃ S8 : MS, S8 = wI S6 0 110 ((qI S6 0 110) + (1 : Int32)) ∧ (uo = S8))))) ∨ (¬ (qI U7 0 110).toInt ≤ v7_3.toInt ∧ (((0 : Int) ≤ v7_3.toInt ∧ v7_3.toInt < 24000) ∧ (((qI U7 52 v7_3.toInt.toNat).toInt = v7_2.toInt ∧ (uo = U7)) ∨ (¬ (qI U7 52 v7_3.toInt.toNat).toInt = v7_2.toInt ∧ (∃ a12 : Int32, a12 = (v7_3 + Int32.ofInt 1) ∧ ((v_edgeInto_L7 uo n7) U7 v7_2 a12)))))))
def v_edgeInto (S : MS) (x1 : Int32) (x2 : Int32) (uo : MS) : Prop := (((0 : Int) ≤ x1.toInt ∧ x1.toInt < 1202) ∧ (∃ a3 : Int32, a3 = (qI S 51 x1.toInt.toNat) ∧ (∃ n, v_edgeInto_L7 uo n S x2 a3)))
set_option maxRecDepth 100000 in
theorem ru_edgeInto_L7 {ι : Type} {P : MS → Prop} {Q : MS → Prop} : ∀ (n : Nat) {U7 : MS} {v7_2 : Int32} {v7_3 : Int32} (i0 : ι), (∀ (i : ι) (uo : MS), (∃ n8, v_edgeInto_L7 uo n8 U7 v7_2 v7_3) → P uo) → w_edgeInto_L7 Q n U7 v7_2 v7_3 → ∃ uo, P uo ∧ Q uo := by
  intro n
  induction n with
  | zero => intro U7 v7_2 v7_3 i0 K h; unfold w_edgeInto_L7 at h; exact h.elim
  | succ n ih =>
    intro U7 v7_2 v7_3 i0 K h
    unfold w_edgeInto_L7 at h
    replace K := fun (i : ι × Nat) uo (z : v_edgeInto_L7 uo (i.2 + 1) U7 v7_2 v7_3) => K i.1 uo ⟨i.2 + 1, z⟩
    have i00 := i0
    replace i0 : ι × Nat := (i0, 0)
    by_cases c : (qI U7 0 110).toInt ≤ v7_3.toInt
    · replace h := h.1 c
      replace K := fun i uo z => K i uo (Or.inl ⟨c, z⟩)
      obtain ⟨g1_, h⟩ := h
      replace K := fun i uo z => K i uo ⟨g1_, z⟩
      obtain ⟨S6, eS6⟩ : ∃ x9 : MS, x9 = wI U7 52 (((qI U7 0 110).toInt).toNat) v7_2 := ⟨_, rfl⟩
      replace h := h S6 eS6
      replace K := fun i uo z => K i uo ⟨S6, eS6, z⟩
      obtain ⟨S8, eS8⟩ : ∃ x9 : MS, x9 = wI S6 0 110 ((qI S6 0 110) + (1 : Int32)) := ⟨_, rfl⟩
      replace h := h S8 eS8
      replace K := fun i uo z => K i uo ⟨S8, eS8, z⟩
      exact ⟨_, K i0 _ rfl, h⟩
    · replace h := h.2 c
      replace K := fun i uo z => K i uo (Or.inr ⟨c, z⟩)
      obtain ⟨g2_, h⟩ := h
      replace K := fun i uo z => K i uo ⟨g2_, z⟩
      by_cases c : (qI U7 52 v7_3.toInt.toNat).toInt = v7_2.toInt
      · replace h := h.1 c
        replace K := fun i uo z => K i uo (Or.inl ⟨c, z⟩)
        exact ⟨_, K i0 _ rfl, h⟩
      · replace h := h.2 c
        replace K := fun i uo z => K i uo (Or.inr ⟨c, z⟩)
        obtain ⟨a12, ea12⟩ : ∃ x9 : Int32, x9 = (v7_3 + Int32.ofInt 1) := ⟨_, rfl⟩
        replace h := h a12 ea12
        replace K := fun i uo z => K i uo ⟨a12, ea12, z⟩
        exact ih i00 (fun i uo ⟨n8, z⟩ => K (i, n8) uo z) h
set_option maxRecDepth 100000 in
theorem ru_edgeInto {S : MS} {x1 : Int32} {x2 : Int32} {Q : MS → Prop} (h : w_edgeInto S x1 x2 Q) : ∃ uo, v_edgeInto S x1 x2 uo ∧ Q uo := by
  have i0 : Unit := ()
  have K : ∀ (i : Unit) (uo : MS), v_edgeInto S x1 x2 uo → v_edgeInto S x1 x2 uo := fun _ _ z => z
  unfold w_edgeInto at h
  obtain ⟨g3_, h⟩ := h
  replace K := fun i uo z => K i uo ⟨g3_, z⟩
  obtain ⟨a3, ea3⟩ : ∃ x9 : Int32, x9 = (qI S 51 x1.toInt.toNat) := ⟨_, rfl⟩
  replace h := h a3 ea3
  replace K := fun i uo z => K i uo ⟨a3, ea3, z⟩
  obtain ⟨n9, h⟩ := h
  exact ru_edgeInto_L7 n9 i0 K h
set_option maxRecDepth 100000 in
theorem vw_edgeInto_L7 {uo : MS} : ∀ (n : Nat) {U7 : MS} {v7_2 : Int32} {v7_3 : Int32}, v_edgeInto_L7 uo n U7 v7_2 v7_3 → w_edgeInto_L7 (fun u => u = uo) n U7 v7_2 v7_3 := by
  intro n
  induction n with
  | zero => intro U7 v7_2 v7_3 h; unfold v_edgeInto_L7 at h; exact h.elim
  | succ n ih =>
    intro U7 v7_2 v7_3 h
    unfold v_edgeInto_L7 at h
    unfold w_edgeInto_L7
    rcases h with ⟨c, h⟩ | ⟨c, h⟩
    · refine ⟨fun _ => ?_, fun c2 => absurd c c2⟩
      obtain ⟨g9, h⟩ := h
      refine ⟨g9, ?_⟩
      obtain ⟨v9, e9, h⟩ := h
      intro x9 d9
      have c9 : v9 = x9 := e9.trans d9.symm
      subst c9
      obtain ⟨v9, e9, h⟩ := h
      intro x9 d9
      have c9 : v9 = x9 := e9.trans d9.symm
      subst c9
      exact h.symm
    · refine ⟨fun c2 => absurd c2 c, fun _ => ?_⟩
      obtain ⟨g9, h⟩ := h
      refine ⟨g9, ?_⟩
      rcases h with ⟨c, h⟩ | ⟨c, h⟩
      · refine ⟨fun _ => ?_, fun c2 => absurd c c2⟩
        exact h.symm
      · refine ⟨fun c2 => absurd c2 c, fun _ => ?_⟩
        obtain ⟨v9, e9, h⟩ := h
        intro x9 d9
        have c9 : v9 = x9 := e9.trans d9.symm
        subst c9
        exact ih h
set_option maxRecDepth 100000 in
theorem vz_edgeInto_L7 {uo : MS} {Q : MS → Prop} : ∀ (n m : Nat) {U7 : MS} {v7_2 : Int32} {v7_3 : Int32}, v_edgeInto_L7 uo n U7 v7_2 v7_3 → w_edgeInto_L7 Q m U7 v7_2 v7_3 → Q uo := by
  intro n
  induction n with
  | zero => intro m U7 v7_2 v7_3 h; unfold v_edgeInto_L7 at h; exact h.elim
  | succ n ih =>
    intro m U7 v7_2 v7_3 h w
    cases m with
    | zero => unfold w_edgeInto_L7 at w; exact w.elim
    | succ m =>
      unfold v_edgeInto_L7 at h
      unfold w_edgeInto_L7 at w
      rcases h with ⟨c, h⟩ | ⟨c, h⟩
      · replace w := w.1 c
        replace h := h.2
        replace w := w.2
        obtain ⟨v9, e9, h⟩ := h
        replace w := w v9 e9
        obtain ⟨v9, e9, h⟩ := h
        replace w := w v9 e9
        rw [h]
        exact w
      · replace w := w.2 c
        replace h := h.2
        replace w := w.2
        rcases h with ⟨c, h⟩ | ⟨c, h⟩
        · replace w := w.1 c
          rw [h]
          exact w
        · replace w := w.2 c
          obtain ⟨v9, e9, h⟩ := h
          replace w := w v9 e9
          exact ih m h w
set_option maxRecDepth 100000 in
theorem vw_edgeInto {S : MS} {x1 : Int32} {x2 : Int32} {uo : MS} (h : v_edgeInto S x1 x2 uo) : w_edgeInto S x1 x2 (fun u => u = uo) := by
  unfold v_edgeInto at h
  unfold w_edgeInto
  obtain ⟨g9, h⟩ := h
  refine ⟨g9, ?_⟩
  obtain ⟨v9, e9, h⟩ := h
  intro x9 d9
  have c9 : v9 = x9 := e9.trans d9.symm
  subst c9
  obtain ⟨n9, h⟩ := h
  exact ⟨n9, vw_edgeInto_L7 n9 h⟩
set_option maxRecDepth 100000 in
theorem vz_edgeInto {S : MS} {x1 : Int32} {x2 : Int32} {uo : MS} {Q : MS → Prop} (h : v_edgeInto S x1 x2 uo) (w : w_edgeInto S x1 x2 Q) : Q uo := by
  unfold v_edgeInto at h
  unfold w_edgeInto at w
  replace h := h.2
  replace w := w.2
  obtain ⟨v9, e9, h⟩ := h
  replace w := w v9 e9
  obtain ⟨n9, h⟩ := h
  obtain ⟨n8, w⟩ := w
  exact vz_edgeInto_L7 n9 n8 h w
def v_edges_J133 (uo : MS) (k100 : MS → Int32 → Int32 → Int32 → Prop) (U133 : MS) (v133_1 : Int32) (v133_2 : Int32) (v133_3 : Int32) : Prop := (∃ a27 : Int32, a27 = (v133_3 + Int32.ofInt 1) ∧ (k100 U133 v133_1 v133_2 a27))
def v_edges_L100 (uo : MS) (k7 : MS → Int32 → Prop) : Nat → MS → Int32 → Int32 → Int32 → Prop
  | 0, _, _, _, _ => False
  | n100 + 1, U100, v100_1, v100_2, v100_3 => (((qI U100 0 54).toInt ≤ v100_3.toInt ∧ (∃ a23 : Int32, a23 = (v100_1 + Int32.ofInt 1) ∧ (k7 U100 a23))) ∨ (¬ (qI U100 0 54).toInt ≤ v100_3.toInt ∧ (d_isCaught U100 v100_2 v100_3 ∧ (((f_isCaught U100 v100_2 v100_3).toInt = 0 ∧ (v_edges_J133 uo (v_edges_L100 uo k7 n100) U100 v100_1 v100_2 v100_3)) ∨ (¬ (f_isCaught U100 v100_2 v100_3).toInt = 0 ∧ (d_catchWord U100 v100_3 (2 : Int32) ∧ (((0 : Int) ≤ (f_catchWord U100 v100_3 (2 : Int32)).toInt ∧ (f_catchWord U100 v100_3 (2 : Int32)).toInt < 1201) ∧ (∃ (S35 : MS), v_edgeInto U100 v100_1 (qI U100 50 (((f_catchWord U100 v100_3 (2 : Int32)).toInt).toNat)) S35 ∧ (v_edges_J133 uo (v_edges_L100 uo k7 n100) S35 v100_1 v100_2 v100_3)))))))))
def v_edges_L67 (uo : MS) (k7 : MS → Int32 → Prop) : Nat → MS → Int32 → Int32 → Int32 → Prop
  | 0, _, _, _, _ => False
  | n67 + 1, U67, v67_1, v67_2, v67_3 => (d_ways U67 v67_2 ∧ (((f_ways U67 v67_2).toInt ≤ v67_3.toInt ∧ (∃ n, v_edges_L100 uo k7 n U67 v67_1 v67_2 0)) ∨ (¬ (f_ways U67 v67_2).toInt ≤ v67_3.toInt ∧ (d_way U67 v67_2 v67_3 ∧ (((0 : Int) ≤ (f_way U67 v67_2 v67_3).toInt ∧ (f_way U67 v67_2 v67_3).toInt < 1201) ∧ (∃ (S43 : MS), v_edgeInto U67 v67_1 (qI U67 50 (((f_way U67 v67_2 v67_3).toInt).toNat)) S43 ∧ (∃ a45 : Int32, a45 = (v67_3 + Int32.ofInt 1) ∧ ((v_edges_L67 uo k7 n67) S43 v67_1 v67_2 a45))))))))
def v_edges_J65 (uo : MS) (k7 : MS → Int32 → Prop) (U65 : MS) (v65_1 : Int32) (v65_2 : Int32) : Prop := (∃ n, v_edges_L67 uo k7 n U65 v65_1 v65_2 0)
def v_edges_L7 (uo : MS) : Nat → MS → Int32 → Prop
  | 0, _, _ => False
  | n7 + 1, U7, v7_1 => (((qI U7 0 105).toInt ≤ v7_1.toInt ∧ (((0 : Int) ≤ (qI U7 0 105).toInt ∧ (qI U7 0 105).toInt < 1202) ∧ (∃ S4 : MS, S4 = wI U7 51 (((qI U7 0 105).toInt).toNat) (qI U7 0 110) ∧ (uo = S4)))) ∨ (¬ (qI U7 0 105).toInt ≤ v7_1.toInt ∧ (((0 : Int) ≤ v7_1.toInt ∧ v7_1.toInt < 1202) ∧ (∃ S6 : MS, S6 = wI U7 51 v7_1.toInt.toNat (qI U7 0 110) ∧ (((0 : Int) ≤ (v7_1 + (1 : Int32)).toInt ∧ (v7_1 + (1 : Int32)).toInt < 1201) ∧ (∃ a11 : Int32, a11 = ((qI S6 49 (((v7_1 + (1 : Int32)).toInt).toNat)) - (1 : Int32)) ∧ (d_op S6 a11 ∧ (d_goesOn S6 (f_op S6 a11) ∧ (((f_goesOn S6 (f_op S6 a11)).toInt = 0 ∧ (v_edges_J65 uo (v_edges_L7 uo n7) S6 v7_1 a11)) ∨ (¬ (f_goesOn S6 (f_op S6 a11)).toInt = 0 ∧ (((qI S6 0 52).toInt ≤ (a11 + (1 : Int32)).toInt ∧ (v_edges_J65 uo (v_edges_L7 uo n7) S6 v7_1 a11)) ∨ (¬ (qI S6 0 52).toInt ≤ (a11 + (1 : Int32)).toInt ∧ (∃ (S51 : MS), v_edgeInto S6 v7_1 (v7_1 + (1 : Int32)) S51 ∧ (v_edges_J65 uo (v_edges_L7 uo n7) S51 v7_1 a11))))))))))))))
def v_edges (S : MS) (uo : MS) : Prop := (∃ S1 : MS, S1 = wI S 0 110 0 ∧ (∃ n, v_edges_L7 uo n S1 0))
set_option maxRecDepth 100000 in
theorem ru_edges_J133 {ι : Type} {P : MS → Prop} {Q : MS → Prop} {k100 : MS → Int32 → Int32 → Int32 → Prop} {k100v : ι → MS → MS → Int32 → Int32 → Int32 → Prop} {U133 : MS} {v133_1 : Int32} {v133_2 : Int32} {v133_3 : Int32} (i0 : ι) (hk100 : ∀ (u : MS) (z0 : Int32) (z1 : Int32) (z2 : Int32), k100 u z0 z1 z2 → (∀ (i : ι) (uo : MS), k100v i uo u z0 z1 z2 → P uo) → ∃ uo, P uo ∧ Q uo) (K : ∀ (i : ι) (uo : MS), v_edges_J133 uo (k100v i uo) U133 v133_1 v133_2 v133_3 → P uo) (h : w_edges_J133 Q k100 U133 v133_1 v133_2 v133_3) : ∃ uo, P uo ∧ Q uo := by
  unfold w_edges_J133 at h
  obtain ⟨a27, ea27⟩ : ∃ x9 : Int32, x9 = (v133_3 + Int32.ofInt 1) := ⟨_, rfl⟩
  replace h := h a27 ea27
  replace K := fun i uo z => K i uo ⟨a27, ea27, z⟩
  exact hk100 _ _ _ _ h K
set_option maxRecDepth 100000 in
theorem ru_edges_L100 {ι : Type} {P : MS → Prop} {Q : MS → Prop} {k7 : MS → Int32 → Prop} {k7v : ι → MS → MS → Int32 → Prop} : ∀ (n : Nat) {U100 : MS} {v100_1 : Int32} {v100_2 : Int32} {v100_3 : Int32} (i0 : ι) (hk7 : ∀ (u : MS) (z0 : Int32), k7 u z0 → (∀ (i : ι) (uo : MS), k7v i uo u z0 → P uo) → ∃ uo, P uo ∧ Q uo), (∀ (i : ι) (uo : MS), (∃ n8, v_edges_L100 uo (k7v i uo) n8 U100 v100_1 v100_2 v100_3) → P uo) → w_edges_L100 Q k7 n U100 v100_1 v100_2 v100_3 → ∃ uo, P uo ∧ Q uo := by
  intro n
  induction n with
  | zero => intro U100 v100_1 v100_2 v100_3 i0 hk7 K h; unfold w_edges_L100 at h; exact h.elim
  | succ n ih =>
    intro U100 v100_1 v100_2 v100_3 i0 hk7 K h
    unfold w_edges_L100 at h
    replace K := fun (i : ι × Nat) uo (z : v_edges_L100 uo (k7v i.1 uo) (i.2 + 1) U100 v100_1 v100_2 v100_3) => K i.1 uo ⟨i.2 + 1, z⟩
    have i00 := i0
    replace i0 : ι × Nat := (i0, 0)
    by_cases c : (qI U100 0 54).toInt ≤ v100_3.toInt
    · replace h := h.1 c
      replace K := fun i uo z => K i uo (Or.inl ⟨c, z⟩)
      obtain ⟨a23, ea23⟩ : ∃ x9 : Int32, x9 = (v100_1 + Int32.ofInt 1) := ⟨_, rfl⟩
      replace h := h a23 ea23
      replace K := fun i uo z => K i uo ⟨a23, ea23, z⟩
      exact hk7 _ _ h (fun i uo z => K (i, 0) uo z)
    · replace h := h.2 c
      replace K := fun i uo z => K i uo (Or.inr ⟨c, z⟩)
      obtain ⟨g1_, h⟩ := h
      replace K := fun i uo z => K i uo ⟨g1_, z⟩
      by_cases c : (f_isCaught U100 v100_2 v100_3).toInt = 0
      · replace h := h.1 c
        replace K := fun i uo z => K i uo (Or.inl ⟨c, z⟩)
        exact ru_edges_J133 i0 (fun _ _ _ _ h K => ih i00 hk7 (fun i uo ⟨n8, z⟩ => K (i, n8) uo z) h) K h
      · replace h := h.2 c
        replace K := fun i uo z => K i uo (Or.inr ⟨c, z⟩)
        obtain ⟨g2_, h⟩ := h
        replace K := fun i uo z => K i uo ⟨g2_, z⟩
        obtain ⟨g3_, h⟩ := h
        replace K := fun i uo z => K i uo ⟨g3_, z⟩
        obtain ⟨Q9, h0, h⟩ := h
        obtain ⟨S35, z9, g9⟩ := ru_edgeInto h0
        replace h := h S35 g9
        replace K := fun i uo z => K i uo ⟨S35, z9, z⟩
        exact ru_edges_J133 i0 (fun _ _ _ _ h K => ih i00 hk7 (fun i uo ⟨n8, z⟩ => K (i, n8) uo z) h) K h
set_option maxRecDepth 100000 in
theorem ru_edges_L67 {ι : Type} {P : MS → Prop} {Q : MS → Prop} {k7 : MS → Int32 → Prop} {k7v : ι → MS → MS → Int32 → Prop} : ∀ (n : Nat) {U67 : MS} {v67_1 : Int32} {v67_2 : Int32} {v67_3 : Int32} (i0 : ι) (hk7 : ∀ (u : MS) (z0 : Int32), k7 u z0 → (∀ (i : ι) (uo : MS), k7v i uo u z0 → P uo) → ∃ uo, P uo ∧ Q uo), (∀ (i : ι) (uo : MS), (∃ n8, v_edges_L67 uo (k7v i uo) n8 U67 v67_1 v67_2 v67_3) → P uo) → w_edges_L67 Q k7 n U67 v67_1 v67_2 v67_3 → ∃ uo, P uo ∧ Q uo := by
  intro n
  induction n with
  | zero => intro U67 v67_1 v67_2 v67_3 i0 hk7 K h; unfold w_edges_L67 at h; exact h.elim
  | succ n ih =>
    intro U67 v67_1 v67_2 v67_3 i0 hk7 K h
    unfold w_edges_L67 at h
    replace K := fun (i : ι × Nat) uo (z : v_edges_L67 uo (k7v i.1 uo) (i.2 + 1) U67 v67_1 v67_2 v67_3) => K i.1 uo ⟨i.2 + 1, z⟩
    have i00 := i0
    replace i0 : ι × Nat := (i0, 0)
    obtain ⟨g4_, h⟩ := h
    replace K := fun i uo z => K i uo ⟨g4_, z⟩
    by_cases c : (f_ways U67 v67_2).toInt ≤ v67_3.toInt
    · replace h := h.1 c
      replace K := fun i uo z => K i uo (Or.inl ⟨c, z⟩)
      obtain ⟨n9, h⟩ := h
      exact ru_edges_L100 n9 i0 (fun _ _ h K => hk7 _ _ h (fun i uo z => K (i, 0) uo z)) K h
    · replace h := h.2 c
      replace K := fun i uo z => K i uo (Or.inr ⟨c, z⟩)
      obtain ⟨g5_, h⟩ := h
      replace K := fun i uo z => K i uo ⟨g5_, z⟩
      obtain ⟨g6_, h⟩ := h
      replace K := fun i uo z => K i uo ⟨g6_, z⟩
      obtain ⟨Q9, h0, h⟩ := h
      obtain ⟨S43, z9, g9⟩ := ru_edgeInto h0
      replace h := h S43 g9
      replace K := fun i uo z => K i uo ⟨S43, z9, z⟩
      obtain ⟨a45, ea45⟩ : ∃ x9 : Int32, x9 = (v67_3 + Int32.ofInt 1) := ⟨_, rfl⟩
      replace h := h a45 ea45
      replace K := fun i uo z => K i uo ⟨a45, ea45, z⟩
      exact ih i00 hk7 (fun i uo ⟨n8, z⟩ => K (i, n8) uo z) h
set_option maxRecDepth 100000 in
theorem ru_edges_J65 {ι : Type} {P : MS → Prop} {Q : MS → Prop} {k7 : MS → Int32 → Prop} {k7v : ι → MS → MS → Int32 → Prop} {U65 : MS} {v65_1 : Int32} {v65_2 : Int32} (i0 : ι) (hk7 : ∀ (u : MS) (z0 : Int32), k7 u z0 → (∀ (i : ι) (uo : MS), k7v i uo u z0 → P uo) → ∃ uo, P uo ∧ Q uo) (K : ∀ (i : ι) (uo : MS), v_edges_J65 uo (k7v i uo) U65 v65_1 v65_2 → P uo) (h : w_edges_J65 Q k7 U65 v65_1 v65_2) : ∃ uo, P uo ∧ Q uo := by
  unfold w_edges_J65 at h
  obtain ⟨n9, h⟩ := h
  exact ru_edges_L67 n9 i0 hk7 K h
set_option maxRecDepth 100000 in
theorem ru_edges_L7 {ι : Type} {P : MS → Prop} {Q : MS → Prop} : ∀ (n : Nat) {U7 : MS} {v7_1 : Int32} (i0 : ι), (∀ (i : ι) (uo : MS), (∃ n8, v_edges_L7 uo n8 U7 v7_1) → P uo) → w_edges_L7 Q n U7 v7_1 → ∃ uo, P uo ∧ Q uo := by
  intro n
  induction n with
  | zero => intro U7 v7_1 i0 K h; unfold w_edges_L7 at h; exact h.elim
  | succ n ih =>
    intro U7 v7_1 i0 K h
    unfold w_edges_L7 at h
    replace K := fun (i : ι × Nat) uo (z : v_edges_L7 uo (i.2 + 1) U7 v7_1) => K i.1 uo ⟨i.2 + 1, z⟩
    have i00 := i0
    replace i0 : ι × Nat := (i0, 0)
    by_cases c : (qI U7 0 105).toInt ≤ v7_1.toInt
    · replace h := h.1 c
      replace K := fun i uo z => K i uo (Or.inl ⟨c, z⟩)
      obtain ⟨g7_, h⟩ := h
      replace K := fun i uo z => K i uo ⟨g7_, z⟩
      obtain ⟨S4, eS4⟩ : ∃ x9 : MS, x9 = wI U7 51 (((qI U7 0 105).toInt).toNat) (qI U7 0 110) := ⟨_, rfl⟩
      replace h := h S4 eS4
      replace K := fun i uo z => K i uo ⟨S4, eS4, z⟩
      exact ⟨_, K i0 _ rfl, h⟩
    · replace h := h.2 c
      replace K := fun i uo z => K i uo (Or.inr ⟨c, z⟩)
      obtain ⟨g8_, h⟩ := h
      replace K := fun i uo z => K i uo ⟨g8_, z⟩
      obtain ⟨S6, eS6⟩ : ∃ x9 : MS, x9 = wI U7 51 v7_1.toInt.toNat (qI U7 0 110) := ⟨_, rfl⟩
      replace h := h S6 eS6
      replace K := fun i uo z => K i uo ⟨S6, eS6, z⟩
      obtain ⟨g9_, h⟩ := h
      replace K := fun i uo z => K i uo ⟨g9_, z⟩
      obtain ⟨a11, ea11⟩ : ∃ x9 : Int32, x9 = ((qI S6 49 (((v7_1 + (1 : Int32)).toInt).toNat)) - (1 : Int32)) := ⟨_, rfl⟩
      replace h := h a11 ea11
      replace K := fun i uo z => K i uo ⟨a11, ea11, z⟩
      obtain ⟨g10_, h⟩ := h
      replace K := fun i uo z => K i uo ⟨g10_, z⟩
      obtain ⟨g11_, h⟩ := h
      replace K := fun i uo z => K i uo ⟨g11_, z⟩
      by_cases c : (f_goesOn S6 (f_op S6 a11)).toInt = 0
      · replace h := h.1 c
        replace K := fun i uo z => K i uo (Or.inl ⟨c, z⟩)
        exact ru_edges_J65 i0 (fun _ _ h K => ih i00 (fun i uo ⟨n8, z⟩ => K (i, n8) uo z) h) K h
      · replace h := h.2 c
        replace K := fun i uo z => K i uo (Or.inr ⟨c, z⟩)
        by_cases c : (qI S6 0 52).toInt ≤ (a11 + (1 : Int32)).toInt
        · replace h := h.1 c
          replace K := fun i uo z => K i uo (Or.inl ⟨c, z⟩)
          exact ru_edges_J65 i0 (fun _ _ h K => ih i00 (fun i uo ⟨n8, z⟩ => K (i, n8) uo z) h) K h
        · replace h := h.2 c
          replace K := fun i uo z => K i uo (Or.inr ⟨c, z⟩)
          obtain ⟨Q9, h0, h⟩ := h
          obtain ⟨S51, z9, g9⟩ := ru_edgeInto h0
          replace h := h S51 g9
          replace K := fun i uo z => K i uo ⟨S51, z9, z⟩
          exact ru_edges_J65 i0 (fun _ _ h K => ih i00 (fun i uo ⟨n8, z⟩ => K (i, n8) uo z) h) K h
set_option maxRecDepth 100000 in
theorem ru_edges {S : MS} {Q : MS → Prop} (h : w_edges S Q) : ∃ uo, v_edges S uo ∧ Q uo := by
  have i0 : Unit := ()
  have K : ∀ (i : Unit) (uo : MS), v_edges S uo → v_edges S uo := fun _ _ z => z
  unfold w_edges at h
  obtain ⟨S1, eS1⟩ : ∃ x9 : MS, x9 = wI S 0 110 0 := ⟨_, rfl⟩
  replace h := h S1 eS1
  replace K := fun i uo z => K i uo ⟨S1, eS1, z⟩
  obtain ⟨n9, h⟩ := h
  exact ru_edges_L7 n9 i0 K h
set_option maxRecDepth 100000 in
theorem vw_edges_J133 {uo : MS} {k100 k100v : MS → Int32 → Int32 → Int32 → Prop} {U133 : MS} {v133_1 : Int32} {v133_2 : Int32} {v133_3 : Int32} (hk100 : ∀ (u : MS) (z0 : Int32) (z1 : Int32) (z2 : Int32), k100v u z0 z1 z2 → k100 u z0 z1 z2) (h : v_edges_J133 uo k100v U133 v133_1 v133_2 v133_3) : w_edges_J133 (fun u => u = uo) k100 U133 v133_1 v133_2 v133_3 := by
  unfold v_edges_J133 at h
  unfold w_edges_J133
  obtain ⟨v9, e9, h⟩ := h
  intro x9 d9
  have c9 : v9 = x9 := e9.trans d9.symm
  subst c9
  exact hk100 _ _ _ _ h
set_option maxRecDepth 100000 in
theorem vz_edges_J133 {uo : MS} {Q : MS → Prop} {k100 k100v : MS → Int32 → Int32 → Int32 → Prop} {U133 : MS} {v133_1 : Int32} {v133_2 : Int32} {v133_3 : Int32} (hk100 : ∀ (u : MS) (z0 : Int32) (z1 : Int32) (z2 : Int32), k100v u z0 z1 z2 → k100 u z0 z1 z2 → Q uo) (h : v_edges_J133 uo k100v U133 v133_1 v133_2 v133_3) (w : w_edges_J133 Q k100 U133 v133_1 v133_2 v133_3) : Q uo := by
  unfold v_edges_J133 at h
  unfold w_edges_J133 at w
  obtain ⟨v9, e9, h⟩ := h
  replace w := w v9 e9
  exact hk100 _ _ _ _ h w
set_option maxRecDepth 100000 in
theorem vw_edges_L100 {uo : MS} {k7 k7v : MS → Int32 → Prop} : ∀ (n : Nat) {U100 : MS} {v100_1 : Int32} {v100_2 : Int32} {v100_3 : Int32} (hk7 : ∀ (u : MS) (z0 : Int32), k7v u z0 → k7 u z0), v_edges_L100 uo k7v n U100 v100_1 v100_2 v100_3 → w_edges_L100 (fun u => u = uo) k7 n U100 v100_1 v100_2 v100_3 := by
  intro n
  induction n with
  | zero => intro U100 v100_1 v100_2 v100_3 hk7 h; unfold v_edges_L100 at h; exact h.elim
  | succ n ih =>
    intro U100 v100_1 v100_2 v100_3 hk7 h
    unfold v_edges_L100 at h
    unfold w_edges_L100
    rcases h with ⟨c, h⟩ | ⟨c, h⟩
    · refine ⟨fun _ => ?_, fun c2 => absurd c c2⟩
      obtain ⟨v9, e9, h⟩ := h
      intro x9 d9
      have c9 : v9 = x9 := e9.trans d9.symm
      subst c9
      exact hk7 _ _ h
    · refine ⟨fun c2 => absurd c2 c, fun _ => ?_⟩
      obtain ⟨g9, h⟩ := h
      refine ⟨g9, ?_⟩
      rcases h with ⟨c, h⟩ | ⟨c, h⟩
      · refine ⟨fun _ => ?_, fun c2 => absurd c c2⟩
        exact vw_edges_J133 (fun _ _ _ _ h => ih hk7 h) h
      · refine ⟨fun c2 => absurd c2 c, fun _ => ?_⟩
        obtain ⟨g9, h⟩ := h
        refine ⟨g9, ?_⟩
        obtain ⟨g9, h⟩ := h
        refine ⟨g9, ?_⟩
        obtain ⟨q9, z9, h⟩ := h
        refine ⟨_, vw_edgeInto z9, ?_⟩
        intro q8 d9
        subst d9
        exact vw_edges_J133 (fun _ _ _ _ h => ih hk7 h) h
set_option maxRecDepth 100000 in
theorem vz_edges_L100 {uo : MS} {Q : MS → Prop} {k7 k7v : MS → Int32 → Prop} : ∀ (n m : Nat) {U100 : MS} {v100_1 : Int32} {v100_2 : Int32} {v100_3 : Int32} (hk7 : ∀ (u : MS) (z0 : Int32), k7v u z0 → k7 u z0 → Q uo), v_edges_L100 uo k7v n U100 v100_1 v100_2 v100_3 → w_edges_L100 Q k7 m U100 v100_1 v100_2 v100_3 → Q uo := by
  intro n
  induction n with
  | zero => intro m U100 v100_1 v100_2 v100_3 hk7 h; unfold v_edges_L100 at h; exact h.elim
  | succ n ih =>
    intro m U100 v100_1 v100_2 v100_3 hk7 h w
    cases m with
    | zero => unfold w_edges_L100 at w; exact w.elim
    | succ m =>
      unfold v_edges_L100 at h
      unfold w_edges_L100 at w
      rcases h with ⟨c, h⟩ | ⟨c, h⟩
      · replace w := w.1 c
        obtain ⟨v9, e9, h⟩ := h
        replace w := w v9 e9
        exact hk7 _ _ h w
      · replace w := w.2 c
        replace h := h.2
        replace w := w.2
        rcases h with ⟨c, h⟩ | ⟨c, h⟩
        · replace w := w.1 c
          exact vz_edges_J133 (fun _ _ _ _ h w => ih m hk7 h w) h w
        · replace w := w.2 c
          replace h := h.2
          replace w := w.2
          replace h := h.2
          replace w := w.2
          obtain ⟨q9, z9, h⟩ := h
          obtain ⟨Q9, w0, w⟩ := w
          replace w := w q9 (vz_edgeInto z9 w0)
          exact vz_edges_J133 (fun _ _ _ _ h w => ih m hk7 h w) h w
set_option maxRecDepth 100000 in
theorem vw_edges_L67 {uo : MS} {k7 k7v : MS → Int32 → Prop} : ∀ (n : Nat) {U67 : MS} {v67_1 : Int32} {v67_2 : Int32} {v67_3 : Int32} (hk7 : ∀ (u : MS) (z0 : Int32), k7v u z0 → k7 u z0), v_edges_L67 uo k7v n U67 v67_1 v67_2 v67_3 → w_edges_L67 (fun u => u = uo) k7 n U67 v67_1 v67_2 v67_3 := by
  intro n
  induction n with
  | zero => intro U67 v67_1 v67_2 v67_3 hk7 h; unfold v_edges_L67 at h; exact h.elim
  | succ n ih =>
    intro U67 v67_1 v67_2 v67_3 hk7 h
    unfold v_edges_L67 at h
    unfold w_edges_L67
    obtain ⟨g9, h⟩ := h
    refine ⟨g9, ?_⟩
    rcases h with ⟨c, h⟩ | ⟨c, h⟩
    · refine ⟨fun _ => ?_, fun c2 => absurd c c2⟩
      obtain ⟨n9, h⟩ := h
      exact ⟨n9, vw_edges_L100 n9 hk7 h⟩
    · refine ⟨fun c2 => absurd c2 c, fun _ => ?_⟩
      obtain ⟨g9, h⟩ := h
      refine ⟨g9, ?_⟩
      obtain ⟨g9, h⟩ := h
      refine ⟨g9, ?_⟩
      obtain ⟨q9, z9, h⟩ := h
      refine ⟨_, vw_edgeInto z9, ?_⟩
      intro q8 d9
      subst d9
      obtain ⟨v9, e9, h⟩ := h
      intro x9 d9
      have c9 : v9 = x9 := e9.trans d9.symm
      subst c9
      exact ih hk7 h
set_option maxRecDepth 100000 in
theorem vz_edges_L67 {uo : MS} {Q : MS → Prop} {k7 k7v : MS → Int32 → Prop} : ∀ (n m : Nat) {U67 : MS} {v67_1 : Int32} {v67_2 : Int32} {v67_3 : Int32} (hk7 : ∀ (u : MS) (z0 : Int32), k7v u z0 → k7 u z0 → Q uo), v_edges_L67 uo k7v n U67 v67_1 v67_2 v67_3 → w_edges_L67 Q k7 m U67 v67_1 v67_2 v67_3 → Q uo := by
  intro n
  induction n with
  | zero => intro m U67 v67_1 v67_2 v67_3 hk7 h; unfold v_edges_L67 at h; exact h.elim
  | succ n ih =>
    intro m U67 v67_1 v67_2 v67_3 hk7 h w
    cases m with
    | zero => unfold w_edges_L67 at w; exact w.elim
    | succ m =>
      unfold v_edges_L67 at h
      unfold w_edges_L67 at w
      replace h := h.2
      replace w := w.2
      rcases h with ⟨c, h⟩ | ⟨c, h⟩
      · replace w := w.1 c
        obtain ⟨n9, h⟩ := h
        obtain ⟨n8, w⟩ := w
        exact vz_edges_L100 n9 n8 hk7 h w
      · replace w := w.2 c
        replace h := h.2
        replace w := w.2
        replace h := h.2
        replace w := w.2
        obtain ⟨q9, z9, h⟩ := h
        obtain ⟨Q9, w0, w⟩ := w
        replace w := w q9 (vz_edgeInto z9 w0)
        obtain ⟨v9, e9, h⟩ := h
        replace w := w v9 e9
        exact ih m hk7 h w
set_option maxRecDepth 100000 in
theorem vw_edges_J65 {uo : MS} {k7 k7v : MS → Int32 → Prop} {U65 : MS} {v65_1 : Int32} {v65_2 : Int32} (hk7 : ∀ (u : MS) (z0 : Int32), k7v u z0 → k7 u z0) (h : v_edges_J65 uo k7v U65 v65_1 v65_2) : w_edges_J65 (fun u => u = uo) k7 U65 v65_1 v65_2 := by
  unfold v_edges_J65 at h
  unfold w_edges_J65
  obtain ⟨n9, h⟩ := h
  exact ⟨n9, vw_edges_L67 n9 hk7 h⟩
set_option maxRecDepth 100000 in
theorem vz_edges_J65 {uo : MS} {Q : MS → Prop} {k7 k7v : MS → Int32 → Prop} {U65 : MS} {v65_1 : Int32} {v65_2 : Int32} (hk7 : ∀ (u : MS) (z0 : Int32), k7v u z0 → k7 u z0 → Q uo) (h : v_edges_J65 uo k7v U65 v65_1 v65_2) (w : w_edges_J65 Q k7 U65 v65_1 v65_2) : Q uo := by
  unfold v_edges_J65 at h
  unfold w_edges_J65 at w
  obtain ⟨n9, h⟩ := h
  obtain ⟨n8, w⟩ := w
  exact vz_edges_L67 n9 n8 hk7 h w
set_option maxRecDepth 100000 in
theorem vw_edges_L7 {uo : MS} : ∀ (n : Nat) {U7 : MS} {v7_1 : Int32}, v_edges_L7 uo n U7 v7_1 → w_edges_L7 (fun u => u = uo) n U7 v7_1 := by
  intro n
  induction n with
  | zero => intro U7 v7_1 h; unfold v_edges_L7 at h; exact h.elim
  | succ n ih =>
    intro U7 v7_1 h
    unfold v_edges_L7 at h
    unfold w_edges_L7
    rcases h with ⟨c, h⟩ | ⟨c, h⟩
    · refine ⟨fun _ => ?_, fun c2 => absurd c c2⟩
      obtain ⟨g9, h⟩ := h
      refine ⟨g9, ?_⟩
      obtain ⟨v9, e9, h⟩ := h
      intro x9 d9
      have c9 : v9 = x9 := e9.trans d9.symm
      subst c9
      exact h.symm
    · refine ⟨fun c2 => absurd c2 c, fun _ => ?_⟩
      obtain ⟨g9, h⟩ := h
      refine ⟨g9, ?_⟩
      obtain ⟨v9, e9, h⟩ := h
      intro x9 d9
      have c9 : v9 = x9 := e9.trans d9.symm
      subst c9
      obtain ⟨g9, h⟩ := h
      refine ⟨g9, ?_⟩
      obtain ⟨v9, e9, h⟩ := h
      intro x9 d9
      have c9 : v9 = x9 := e9.trans d9.symm
      subst c9
      obtain ⟨g9, h⟩ := h
      refine ⟨g9, ?_⟩
      obtain ⟨g9, h⟩ := h
      refine ⟨g9, ?_⟩
      rcases h with ⟨c, h⟩ | ⟨c, h⟩
      · refine ⟨fun _ => ?_, fun c2 => absurd c c2⟩
        exact vw_edges_J65 (fun _ _ h => ih h) h
      · refine ⟨fun c2 => absurd c2 c, fun _ => ?_⟩
        rcases h with ⟨c, h⟩ | ⟨c, h⟩
        · refine ⟨fun _ => ?_, fun c2 => absurd c c2⟩
          exact vw_edges_J65 (fun _ _ h => ih h) h
        · refine ⟨fun c2 => absurd c2 c, fun _ => ?_⟩
          obtain ⟨q9, z9, h⟩ := h
          refine ⟨_, vw_edgeInto z9, ?_⟩
          intro q8 d9
          subst d9
          exact vw_edges_J65 (fun _ _ h => ih h) h
set_option maxRecDepth 100000 in
theorem vz_edges_L7 {uo : MS} {Q : MS → Prop} : ∀ (n m : Nat) {U7 : MS} {v7_1 : Int32}, v_edges_L7 uo n U7 v7_1 → w_edges_L7 Q m U7 v7_1 → Q uo := by
  intro n
  induction n with
  | zero => intro m U7 v7_1 h; unfold v_edges_L7 at h; exact h.elim
  | succ n ih =>
    intro m U7 v7_1 h w
    cases m with
    | zero => unfold w_edges_L7 at w; exact w.elim
    | succ m =>
      unfold v_edges_L7 at h
      unfold w_edges_L7 at w
      rcases h with ⟨c, h⟩ | ⟨c, h⟩
      · replace w := w.1 c
        replace h := h.2
        replace w := w.2
        obtain ⟨v9, e9, h⟩ := h
        replace w := w v9 e9
        rw [h]
        exact w
      · replace w := w.2 c
        replace h := h.2
        replace w := w.2
        obtain ⟨v9, e9, h⟩ := h
        replace w := w v9 e9
        replace h := h.2
        replace w := w.2
        obtain ⟨v9, e9, h⟩ := h
        replace w := w v9 e9
        replace h := h.2
        replace w := w.2
        replace h := h.2
        replace w := w.2
        rcases h with ⟨c, h⟩ | ⟨c, h⟩
        · replace w := w.1 c
          exact vz_edges_J65 (fun _ _ h w => ih m h w) h w
        · replace w := w.2 c
          rcases h with ⟨c, h⟩ | ⟨c, h⟩
          · replace w := w.1 c
            exact vz_edges_J65 (fun _ _ h w => ih m h w) h w
          · replace w := w.2 c
            obtain ⟨q9, z9, h⟩ := h
            obtain ⟨Q9, w0, w⟩ := w
            replace w := w q9 (vz_edgeInto z9 w0)
            exact vz_edges_J65 (fun _ _ h w => ih m h w) h w
set_option maxRecDepth 100000 in
theorem vw_edges {S : MS} {uo : MS} (h : v_edges S uo) : w_edges S (fun u => u = uo) := by
  unfold v_edges at h
  unfold w_edges
  obtain ⟨v9, e9, h⟩ := h
  intro x9 d9
  have c9 : v9 = x9 := e9.trans d9.symm
  subst c9
  obtain ⟨n9, h⟩ := h
  exact ⟨n9, vw_edges_L7 n9 h⟩
set_option maxRecDepth 100000 in
theorem vz_edges {S : MS} {uo : MS} {Q : MS → Prop} (h : v_edges S uo) (w : w_edges S Q) : Q uo := by
  unfold v_edges at h
  unfold w_edges at w
  obtain ⟨v9, e9, h⟩ := h
  replace w := w v9 e9
  obtain ⟨n9, h⟩ := h
  obtain ⟨n8, w⟩ := w
  exact vz_edges_L7 n9 n8 h w
def v_look (S : MS) (p1 : Nat) (x2 : Int32) (uo : MS) : Prop := (∃ S1 : MS, S1 = wR S 0 47 (some p1) ∧ ((qR S1 p1 18 = some (qO S1 p1 18)) ∧ (∃ S4 : MS, S4 = wR S1 0 48 (some (qO S1 p1 18)) ∧ ((qR S4 p1 19 = some (qO S4 p1 19)) ∧ (∃ S7 : MS, S7 = wR S4 0 49 (some (qO S4 p1 19)) ∧ ((qR S7 p1 20 = some (qO S7 p1 20)) ∧ (∃ S10 : MS, S10 = wR S7 0 50 (some (qO S7 p1 20)) ∧ ((qR S10 p1 14 = some (qO S10 p1 14)) ∧ (((0 : Int) ≤ x2.toInt ∧ x2.toInt < (qN S10 (qO S10 p1 14) : Int)) ∧ (∃ S15 : MS, S15 = wI S10 0 51 (qI S10 (qO S10 p1 14) x2.toInt.toNat) ∧ ((qR S15 p1 15 = some (qO S15 p1 15)) ∧ (((0 : Int) ≤ x2.toInt ∧ x2.toInt < (qN S15 (qO S15 p1 15) : Int)) ∧ (∃ S20 : MS, S20 = wI S15 0 52 (qI S15 (qO S15 p1 15) x2.toInt.toNat) ∧ ((qR S20 p1 16 = some (qO S20 p1 16)) ∧ (((0 : Int) ≤ x2.toInt ∧ x2.toInt < (qN S20 (qO S20 p1 16) : Int)) ∧ (∃ S25 : MS, S25 = wI S20 0 53 (qI S20 (qO S20 p1 16) x2.toInt.toNat) ∧ ((qR S25 p1 17 = some (qO S25 p1 17)) ∧ (((0 : Int) ≤ x2.toInt ∧ x2.toInt < (qN S25 (qO S25 p1 17) : Int)) ∧ (∃ S30 : MS, S30 = wI S25 0 54 (qI S25 (qO S25 p1 17) x2.toInt.toNat) ∧ (uo = S30))))))))))))))))))))
set_option maxRecDepth 100000 in
theorem ru_look {S : MS} {p1 : Nat} {x2 : Int32} {Q : MS → Prop} (h : w_look S p1 x2 Q) : ∃ uo, v_look S p1 x2 uo ∧ Q uo := by
  have i0 : Unit := ()
  have K : ∀ (i : Unit) (uo : MS), v_look S p1 x2 uo → v_look S p1 x2 uo := fun _ _ z => z
  unfold w_look at h
  obtain ⟨S1, eS1⟩ : ∃ x9 : MS, x9 = wR S 0 47 (some p1) := ⟨_, rfl⟩
  replace h := h S1 eS1
  replace K := fun i uo z => K i uo ⟨S1, eS1, z⟩
  obtain ⟨g1_, h⟩ := h
  replace K := fun i uo z => K i uo ⟨g1_, z⟩
  obtain ⟨S4, eS4⟩ : ∃ x9 : MS, x9 = wR S1 0 48 (some (qO S1 p1 18)) := ⟨_, rfl⟩
  replace h := h S4 eS4
  replace K := fun i uo z => K i uo ⟨S4, eS4, z⟩
  obtain ⟨g2_, h⟩ := h
  replace K := fun i uo z => K i uo ⟨g2_, z⟩
  obtain ⟨S7, eS7⟩ : ∃ x9 : MS, x9 = wR S4 0 49 (some (qO S4 p1 19)) := ⟨_, rfl⟩
  replace h := h S7 eS7
  replace K := fun i uo z => K i uo ⟨S7, eS7, z⟩
  obtain ⟨g3_, h⟩ := h
  replace K := fun i uo z => K i uo ⟨g3_, z⟩
  obtain ⟨S10, eS10⟩ : ∃ x9 : MS, x9 = wR S7 0 50 (some (qO S7 p1 20)) := ⟨_, rfl⟩
  replace h := h S10 eS10
  replace K := fun i uo z => K i uo ⟨S10, eS10, z⟩
  obtain ⟨g4_, h⟩ := h
  replace K := fun i uo z => K i uo ⟨g4_, z⟩
  obtain ⟨g5_, h⟩ := h
  replace K := fun i uo z => K i uo ⟨g5_, z⟩
  obtain ⟨S15, eS15⟩ : ∃ x9 : MS, x9 = wI S10 0 51 (qI S10 (qO S10 p1 14) x2.toInt.toNat) := ⟨_, rfl⟩
  replace h := h S15 eS15
  replace K := fun i uo z => K i uo ⟨S15, eS15, z⟩
  obtain ⟨g6_, h⟩ := h
  replace K := fun i uo z => K i uo ⟨g6_, z⟩
  obtain ⟨g7_, h⟩ := h
  replace K := fun i uo z => K i uo ⟨g7_, z⟩
  obtain ⟨S20, eS20⟩ : ∃ x9 : MS, x9 = wI S15 0 52 (qI S15 (qO S15 p1 15) x2.toInt.toNat) := ⟨_, rfl⟩
  replace h := h S20 eS20
  replace K := fun i uo z => K i uo ⟨S20, eS20, z⟩
  obtain ⟨g8_, h⟩ := h
  replace K := fun i uo z => K i uo ⟨g8_, z⟩
  obtain ⟨g9_, h⟩ := h
  replace K := fun i uo z => K i uo ⟨g9_, z⟩
  obtain ⟨S25, eS25⟩ : ∃ x9 : MS, x9 = wI S20 0 53 (qI S20 (qO S20 p1 16) x2.toInt.toNat) := ⟨_, rfl⟩
  replace h := h S25 eS25
  replace K := fun i uo z => K i uo ⟨S25, eS25, z⟩
  obtain ⟨g10_, h⟩ := h
  replace K := fun i uo z => K i uo ⟨g10_, z⟩
  obtain ⟨g11_, h⟩ := h
  replace K := fun i uo z => K i uo ⟨g11_, z⟩
  obtain ⟨S30, eS30⟩ : ∃ x9 : MS, x9 = wI S25 0 54 (qI S25 (qO S25 p1 17) x2.toInt.toNat) := ⟨_, rfl⟩
  replace h := h S30 eS30
  replace K := fun i uo z => K i uo ⟨S30, eS30, z⟩
  exact ⟨_, K i0 _ rfl, h⟩
set_option maxRecDepth 100000 in
theorem vw_look {S : MS} {p1 : Nat} {x2 : Int32} {uo : MS} (h : v_look S p1 x2 uo) : w_look S p1 x2 (fun u => u = uo) := by
  unfold v_look at h
  unfold w_look
  obtain ⟨v9, e9, h⟩ := h
  intro x9 d9
  have c9 : v9 = x9 := e9.trans d9.symm
  subst c9
  obtain ⟨g9, h⟩ := h
  refine ⟨g9, ?_⟩
  obtain ⟨v9, e9, h⟩ := h
  intro x9 d9
  have c9 : v9 = x9 := e9.trans d9.symm
  subst c9
  obtain ⟨g9, h⟩ := h
  refine ⟨g9, ?_⟩
  obtain ⟨v9, e9, h⟩ := h
  intro x9 d9
  have c9 : v9 = x9 := e9.trans d9.symm
  subst c9
  obtain ⟨g9, h⟩ := h
  refine ⟨g9, ?_⟩
  obtain ⟨v9, e9, h⟩ := h
  intro x9 d9
  have c9 : v9 = x9 := e9.trans d9.symm
  subst c9
  obtain ⟨g9, h⟩ := h
  refine ⟨g9, ?_⟩
  obtain ⟨g9, h⟩ := h
  refine ⟨g9, ?_⟩
  obtain ⟨v9, e9, h⟩ := h
  intro x9 d9
  have c9 : v9 = x9 := e9.trans d9.symm
  subst c9
  obtain ⟨g9, h⟩ := h
  refine ⟨g9, ?_⟩
  obtain ⟨g9, h⟩ := h
  refine ⟨g9, ?_⟩
  obtain ⟨v9, e9, h⟩ := h
  intro x9 d9
  have c9 : v9 = x9 := e9.trans d9.symm
  subst c9
  obtain ⟨g9, h⟩ := h
  refine ⟨g9, ?_⟩
  obtain ⟨g9, h⟩ := h
  refine ⟨g9, ?_⟩
  obtain ⟨v9, e9, h⟩ := h
  intro x9 d9
  have c9 : v9 = x9 := e9.trans d9.symm
  subst c9
  obtain ⟨g9, h⟩ := h
  refine ⟨g9, ?_⟩
  obtain ⟨g9, h⟩ := h
  refine ⟨g9, ?_⟩
  obtain ⟨v9, e9, h⟩ := h
  intro x9 d9
  have c9 : v9 = x9 := e9.trans d9.symm
  subst c9
  exact h.symm
set_option maxRecDepth 100000 in
theorem vz_look {S : MS} {p1 : Nat} {x2 : Int32} {uo : MS} {Q : MS → Prop} (h : v_look S p1 x2 uo) (w : w_look S p1 x2 Q) : Q uo := by
  unfold v_look at h
  unfold w_look at w
  obtain ⟨v9, e9, h⟩ := h
  replace w := w v9 e9
  replace h := h.2
  replace w := w.2
  obtain ⟨v9, e9, h⟩ := h
  replace w := w v9 e9
  replace h := h.2
  replace w := w.2
  obtain ⟨v9, e9, h⟩ := h
  replace w := w v9 e9
  replace h := h.2
  replace w := w.2
  obtain ⟨v9, e9, h⟩ := h
  replace w := w v9 e9
  replace h := h.2
  replace w := w.2
  replace h := h.2
  replace w := w.2
  obtain ⟨v9, e9, h⟩ := h
  replace w := w v9 e9
  replace h := h.2
  replace w := w.2
  replace h := h.2
  replace w := w.2
  obtain ⟨v9, e9, h⟩ := h
  replace w := w v9 e9
  replace h := h.2
  replace w := w.2
  replace h := h.2
  replace w := w.2
  obtain ⟨v9, e9, h⟩ := h
  replace w := w v9 e9
  replace h := h.2
  replace w := w.2
  replace h := h.2
  replace w := w.2
  obtain ⟨v9, e9, h⟩ := h
  replace w := w v9 e9
  rw [h]
  exact w
def v_reach_J119 (uo : MS) (k41 : MS → Int32 → Int32 → Prop) (U119 : MS) (v119_1 : Int32) (v119_2 : Int32) : Prop := (∃ a9 : Int32, a9 = (v119_2 + Int32.ofInt 1) ∧ (k41 U119 v119_1 a9))
def v_reach_J100 (uo : MS) (k56 : MS → Int32 → Int32 → Int32 → Prop) (U100 : MS) (t100_0 : Int32) (v100_2 : Int32) (v100_3 : Int32) : Prop := (((0 : Int) ≤ v100_3.toInt ∧ v100_3.toInt < 24000) ∧ (((0 : Int) ≤ (qI U100 52 v100_3.toInt.toNat).toInt ∧ (qI U100 52 v100_3.toInt.toNat).toInt < 1200) ∧ (∃ S18 : MS, S18 = wI U100 53 (((qI U100 52 v100_3.toInt.toNat).toInt).toNat) (vp_nar .boolean (1 : Int32)) ∧ (∃ a19 : Int32, a19 = (v100_3 + Int32.ofInt 1) ∧ (k56 S18 t100_0 v100_2 a19)))))
def v_reach_J95 (uo : MS) (k56 : MS → Int32 → Int32 → Int32 → Prop) (U95 : MS) (v95_2 : Int32) (v95_3 : Int32) : Prop := (v_reach_J100 uo k56 U95 1 v95_2 v95_3)
def v_reach_J24 (uo : MS) (k2 : MS → Int32 → Prop) (U24 : MS) (t24_0 : Int32) (t24_1 : Int32) (v24_1 : Int32) : Prop := (((0 : Int) ≤ t24_1.toInt ∧ t24_1.toInt < 1200) ∧ (∃ S27 : MS, S27 = wI U24 53 t24_1.toInt.toNat (vp_nar .boolean t24_0) ∧ (∃ a28 : Int32, a28 = (v24_1 + Int32.ofInt 1) ∧ (k2 S27 a28))))
def v_reach_L56 (uo : MS) (k41 : MS → Int32 → Int32 → Prop) : Nat → MS → Int32 → Int32 → Int32 → Prop
  | 0, _, _, _, _ => False
  | n56 + 1, U56, v56_1, v56_2, v56_3 => (((0 : Int) ≤ v56_2.toInt ∧ v56_2.toInt < 1200) ∧ (((qI U56 53 v56_2.toInt.toNat).toInt = 0 ∧ (v_reach_J119 uo k41 U56 v56_1 v56_2)) ∨ (¬ (qI U56 53 v56_2.toInt.toNat).toInt = 0 ∧ (((0 : Int) ≤ (v56_2 + (1 : Int32)).toInt ∧ (v56_2 + (1 : Int32)).toInt < 1202) ∧ (((qI U56 51 (((v56_2 + (1 : Int32)).toInt).toNat)).toInt ≤ v56_3.toInt ∧ (v_reach_J119 uo k41 U56 v56_1 v56_2)) ∨ (¬ (qI U56 51 (((v56_2 + (1 : Int32)).toInt).toNat)).toInt ≤ v56_3.toInt ∧ ((v56_1.toInt = 0 ∧ (((0 : Int) ≤ v56_3.toInt ∧ v56_3.toInt < 24000) ∧ (((0 : Int) ≤ (qI U56 52 v56_3.toInt.toNat).toInt ∧ (qI U56 52 v56_3.toInt.toNat).toInt < 1200) ∧ (((qI U56 53 (((qI U56 52 v56_3.toInt.toNat).toInt).toNat)).toInt = 0 ∧ (v_reach_J95 uo (v_reach_L56 uo k41 n56) U56 v56_2 v56_3)) ∨ (¬ (qI U56 53 (((qI U56 52 v56_3.toInt.toNat).toInt).toNat)).toInt = 0 ∧ (v_reach_J100 uo (v_reach_L56 uo k41 n56) U56 0 v56_2 v56_3)))))) ∨ (¬ v56_1.toInt = 0 ∧ (v_reach_J95 uo (v_reach_L56 uo k41 n56) U56 v56_2 v56_3)))))))))
def v_reach_L41 (uo : MS) (k33 : MS → Int32 → Prop) : Nat → MS → Int32 → Int32 → Prop
  | 0, _, _, _ => False
  | n41 + 1, U41, v41_1, v41_2 => (((qI U41 0 105).toInt ≤ v41_2.toInt ∧ (k33 U41 v41_1)) ∨ (¬ (qI U41 0 105).toInt ≤ v41_2.toInt ∧ (((0 : Int) ≤ v41_2.toInt ∧ v41_2.toInt < 1202) ∧ (∃ a6 : Int32, a6 = (qI U41 51 v41_2.toInt.toNat) ∧ (∃ n, v_reach_L56 uo (v_reach_L41 uo k33 n41) n U41 v41_1 v41_2 a6)))))
def v_reach_L33 (uo : MS) : Nat → MS → Int32 → Prop
  | 0, _, _ => False
  | n33 + 1, U33, v33_1 => ((v33_1.toInt = 0 ∧ (uo = U33)) ∨ (¬ v33_1.toInt = 0 ∧ (∃ n, v_reach_L41 uo (v_reach_L33 uo n33) n U33 0 0)))
def v_reach_L2 (uo : MS) : Nat → MS → Int32 → Prop
  | 0, _, _ => False
  | n2 + 1, U2, v2_1 => (((qI U2 0 105).toInt ≤ v2_1.toInt ∧ (∃ n, v_reach_L33 uo n U2 1)) ∨ (¬ (qI U2 0 105).toInt ≤ v2_1.toInt ∧ ((v2_1.toInt = 0 ∧ (v_reach_J24 uo (v_reach_L2 uo n2) U2 1 v2_1 v2_1)) ∨ (¬ v2_1.toInt = 0 ∧ (v_reach_J24 uo (v_reach_L2 uo n2) U2 0 v2_1 v2_1)))))
def v_reach (S : MS) (uo : MS) : Prop := (∃ n, v_reach_L2 uo n S 0)
set_option maxRecDepth 100000 in
theorem ru_reach_J119 {ι : Type} {P : MS → Prop} {Q : MS → Prop} {k41 : MS → Int32 → Int32 → Prop} {k41v : ι → MS → MS → Int32 → Int32 → Prop} {U119 : MS} {v119_1 : Int32} {v119_2 : Int32} (i0 : ι) (hk41 : ∀ (u : MS) (z0 : Int32) (z1 : Int32), k41 u z0 z1 → (∀ (i : ι) (uo : MS), k41v i uo u z0 z1 → P uo) → ∃ uo, P uo ∧ Q uo) (K : ∀ (i : ι) (uo : MS), v_reach_J119 uo (k41v i uo) U119 v119_1 v119_2 → P uo) (h : w_reach_J119 Q k41 U119 v119_1 v119_2) : ∃ uo, P uo ∧ Q uo := by
  unfold w_reach_J119 at h
  obtain ⟨a9, ea9⟩ : ∃ x9 : Int32, x9 = (v119_2 + Int32.ofInt 1) := ⟨_, rfl⟩
  replace h := h a9 ea9
  replace K := fun i uo z => K i uo ⟨a9, ea9, z⟩
  exact hk41 _ _ _ h K
set_option maxRecDepth 100000 in
theorem ru_reach_J100 {ι : Type} {P : MS → Prop} {Q : MS → Prop} {k56 : MS → Int32 → Int32 → Int32 → Prop} {k56v : ι → MS → MS → Int32 → Int32 → Int32 → Prop} {U100 : MS} {t100_0 : Int32} {v100_2 : Int32} {v100_3 : Int32} (i0 : ι) (hk56 : ∀ (u : MS) (z0 : Int32) (z1 : Int32) (z2 : Int32), k56 u z0 z1 z2 → (∀ (i : ι) (uo : MS), k56v i uo u z0 z1 z2 → P uo) → ∃ uo, P uo ∧ Q uo) (K : ∀ (i : ι) (uo : MS), v_reach_J100 uo (k56v i uo) U100 t100_0 v100_2 v100_3 → P uo) (h : w_reach_J100 Q k56 U100 t100_0 v100_2 v100_3) : ∃ uo, P uo ∧ Q uo := by
  unfold w_reach_J100 at h
  obtain ⟨g1_, h⟩ := h
  replace K := fun i uo z => K i uo ⟨g1_, z⟩
  obtain ⟨g2_, h⟩ := h
  replace K := fun i uo z => K i uo ⟨g2_, z⟩
  obtain ⟨S18, eS18⟩ : ∃ x9 : MS, x9 = wI U100 53 (((qI U100 52 v100_3.toInt.toNat).toInt).toNat) (vp_nar .boolean (1 : Int32)) := ⟨_, rfl⟩
  replace h := h S18 eS18
  replace K := fun i uo z => K i uo ⟨S18, eS18, z⟩
  obtain ⟨a19, ea19⟩ : ∃ x9 : Int32, x9 = (v100_3 + Int32.ofInt 1) := ⟨_, rfl⟩
  replace h := h a19 ea19
  replace K := fun i uo z => K i uo ⟨a19, ea19, z⟩
  exact hk56 _ _ _ _ h K
set_option maxRecDepth 100000 in
theorem ru_reach_J95 {ι : Type} {P : MS → Prop} {Q : MS → Prop} {k56 : MS → Int32 → Int32 → Int32 → Prop} {k56v : ι → MS → MS → Int32 → Int32 → Int32 → Prop} {U95 : MS} {v95_2 : Int32} {v95_3 : Int32} (i0 : ι) (hk56 : ∀ (u : MS) (z0 : Int32) (z1 : Int32) (z2 : Int32), k56 u z0 z1 z2 → (∀ (i : ι) (uo : MS), k56v i uo u z0 z1 z2 → P uo) → ∃ uo, P uo ∧ Q uo) (K : ∀ (i : ι) (uo : MS), v_reach_J95 uo (k56v i uo) U95 v95_2 v95_3 → P uo) (h : w_reach_J95 Q k56 U95 v95_2 v95_3) : ∃ uo, P uo ∧ Q uo := by
  unfold w_reach_J95 at h
  exact ru_reach_J100 i0 hk56 K h
set_option maxRecDepth 100000 in
theorem ru_reach_J24 {ι : Type} {P : MS → Prop} {Q : MS → Prop} {k2 : MS → Int32 → Prop} {k2v : ι → MS → MS → Int32 → Prop} {U24 : MS} {t24_0 : Int32} {t24_1 : Int32} {v24_1 : Int32} (i0 : ι) (hk2 : ∀ (u : MS) (z0 : Int32), k2 u z0 → (∀ (i : ι) (uo : MS), k2v i uo u z0 → P uo) → ∃ uo, P uo ∧ Q uo) (K : ∀ (i : ι) (uo : MS), v_reach_J24 uo (k2v i uo) U24 t24_0 t24_1 v24_1 → P uo) (h : w_reach_J24 Q k2 U24 t24_0 t24_1 v24_1) : ∃ uo, P uo ∧ Q uo := by
  unfold w_reach_J24 at h
  obtain ⟨g3_, h⟩ := h
  replace K := fun i uo z => K i uo ⟨g3_, z⟩
  obtain ⟨S27, eS27⟩ : ∃ x9 : MS, x9 = wI U24 53 t24_1.toInt.toNat (vp_nar .boolean t24_0) := ⟨_, rfl⟩
  replace h := h S27 eS27
  replace K := fun i uo z => K i uo ⟨S27, eS27, z⟩
  obtain ⟨a28, ea28⟩ : ∃ x9 : Int32, x9 = (v24_1 + Int32.ofInt 1) := ⟨_, rfl⟩
  replace h := h a28 ea28
  replace K := fun i uo z => K i uo ⟨a28, ea28, z⟩
  exact hk2 _ _ h K
set_option maxRecDepth 100000 in
theorem ru_reach_L56 {ι : Type} {P : MS → Prop} {Q : MS → Prop} {k41 : MS → Int32 → Int32 → Prop} {k41v : ι → MS → MS → Int32 → Int32 → Prop} : ∀ (n : Nat) {U56 : MS} {v56_1 : Int32} {v56_2 : Int32} {v56_3 : Int32} (i0 : ι) (hk41 : ∀ (u : MS) (z0 : Int32) (z1 : Int32), k41 u z0 z1 → (∀ (i : ι) (uo : MS), k41v i uo u z0 z1 → P uo) → ∃ uo, P uo ∧ Q uo), (∀ (i : ι) (uo : MS), (∃ n8, v_reach_L56 uo (k41v i uo) n8 U56 v56_1 v56_2 v56_3) → P uo) → w_reach_L56 Q k41 n U56 v56_1 v56_2 v56_3 → ∃ uo, P uo ∧ Q uo := by
  intro n
  induction n with
  | zero => intro U56 v56_1 v56_2 v56_3 i0 hk41 K h; unfold w_reach_L56 at h; exact h.elim
  | succ n ih =>
    intro U56 v56_1 v56_2 v56_3 i0 hk41 K h
    unfold w_reach_L56 at h
    replace K := fun (i : ι × Nat) uo (z : v_reach_L56 uo (k41v i.1 uo) (i.2 + 1) U56 v56_1 v56_2 v56_3) => K i.1 uo ⟨i.2 + 1, z⟩
    have i00 := i0
    replace i0 : ι × Nat := (i0, 0)
    obtain ⟨g4_, h⟩ := h
    replace K := fun i uo z => K i uo ⟨g4_, z⟩
    by_cases c : (qI U56 53 v56_2.toInt.toNat).toInt = 0
    · replace h := h.1 c
      replace K := fun i uo z => K i uo (Or.inl ⟨c, z⟩)
      exact ru_reach_J119 i0 (fun _ _ _ h K => hk41 _ _ _ h (fun i uo z => K (i, 0) uo z)) K h
    · replace h := h.2 c
      replace K := fun i uo z => K i uo (Or.inr ⟨c, z⟩)
      obtain ⟨g5_, h⟩ := h
      replace K := fun i uo z => K i uo ⟨g5_, z⟩
      by_cases c : (qI U56 51 (((v56_2 + (1 : Int32)).toInt).toNat)).toInt ≤ v56_3.toInt
      · replace h := h.1 c
        replace K := fun i uo z => K i uo (Or.inl ⟨c, z⟩)
        exact ru_reach_J119 i0 (fun _ _ _ h K => hk41 _ _ _ h (fun i uo z => K (i, 0) uo z)) K h
      · replace h := h.2 c
        replace K := fun i uo z => K i uo (Or.inr ⟨c, z⟩)
        by_cases c : v56_1.toInt = 0
        · replace h := h.1 c
          replace K := fun i uo z => K i uo (Or.inl ⟨c, z⟩)
          obtain ⟨g6_, h⟩ := h
          replace K := fun i uo z => K i uo ⟨g6_, z⟩
          obtain ⟨g7_, h⟩ := h
          replace K := fun i uo z => K i uo ⟨g7_, z⟩
          by_cases c : (qI U56 53 (((qI U56 52 v56_3.toInt.toNat).toInt).toNat)).toInt = 0
          · replace h := h.1 c
            replace K := fun i uo z => K i uo (Or.inl ⟨c, z⟩)
            exact ru_reach_J95 i0 (fun _ _ _ _ h K => ih i00 hk41 (fun i uo ⟨n8, z⟩ => K (i, n8) uo z) h) K h
          · replace h := h.2 c
            replace K := fun i uo z => K i uo (Or.inr ⟨c, z⟩)
            exact ru_reach_J100 i0 (fun _ _ _ _ h K => ih i00 hk41 (fun i uo ⟨n8, z⟩ => K (i, n8) uo z) h) K h
        · replace h := h.2 c
          replace K := fun i uo z => K i uo (Or.inr ⟨c, z⟩)
          exact ru_reach_J95 i0 (fun _ _ _ _ h K => ih i00 hk41 (fun i uo ⟨n8, z⟩ => K (i, n8) uo z) h) K h
set_option maxRecDepth 100000 in
theorem ru_reach_L41 {ι : Type} {P : MS → Prop} {Q : MS → Prop} {k33 : MS → Int32 → Prop} {k33v : ι → MS → MS → Int32 → Prop} : ∀ (n : Nat) {U41 : MS} {v41_1 : Int32} {v41_2 : Int32} (i0 : ι) (hk33 : ∀ (u : MS) (z0 : Int32), k33 u z0 → (∀ (i : ι) (uo : MS), k33v i uo u z0 → P uo) → ∃ uo, P uo ∧ Q uo), (∀ (i : ι) (uo : MS), (∃ n8, v_reach_L41 uo (k33v i uo) n8 U41 v41_1 v41_2) → P uo) → w_reach_L41 Q k33 n U41 v41_1 v41_2 → ∃ uo, P uo ∧ Q uo := by
  intro n
  induction n with
  | zero => intro U41 v41_1 v41_2 i0 hk33 K h; unfold w_reach_L41 at h; exact h.elim
  | succ n ih =>
    intro U41 v41_1 v41_2 i0 hk33 K h
    unfold w_reach_L41 at h
    replace K := fun (i : ι × Nat) uo (z : v_reach_L41 uo (k33v i.1 uo) (i.2 + 1) U41 v41_1 v41_2) => K i.1 uo ⟨i.2 + 1, z⟩
    have i00 := i0
    replace i0 : ι × Nat := (i0, 0)
    by_cases c : (qI U41 0 105).toInt ≤ v41_2.toInt
    · replace h := h.1 c
      replace K := fun i uo z => K i uo (Or.inl ⟨c, z⟩)
      exact hk33 _ _ h (fun i uo z => K (i, 0) uo z)
    · replace h := h.2 c
      replace K := fun i uo z => K i uo (Or.inr ⟨c, z⟩)
      obtain ⟨g8_, h⟩ := h
      replace K := fun i uo z => K i uo ⟨g8_, z⟩
      obtain ⟨a6, ea6⟩ : ∃ x9 : Int32, x9 = (qI U41 51 v41_2.toInt.toNat) := ⟨_, rfl⟩
      replace h := h a6 ea6
      replace K := fun i uo z => K i uo ⟨a6, ea6, z⟩
      obtain ⟨n9, h⟩ := h
      exact ru_reach_L56 n9 i0 (fun _ _ _ h K => ih i00 hk33 (fun i uo ⟨n8, z⟩ => K (i, n8) uo z) h) K h
set_option maxRecDepth 100000 in
theorem ru_reach_L33 {ι : Type} {P : MS → Prop} {Q : MS → Prop} : ∀ (n : Nat) {U33 : MS} {v33_1 : Int32} (i0 : ι), (∀ (i : ι) (uo : MS), (∃ n8, v_reach_L33 uo n8 U33 v33_1) → P uo) → w_reach_L33 Q n U33 v33_1 → ∃ uo, P uo ∧ Q uo := by
  intro n
  induction n with
  | zero => intro U33 v33_1 i0 K h; unfold w_reach_L33 at h; exact h.elim
  | succ n ih =>
    intro U33 v33_1 i0 K h
    unfold w_reach_L33 at h
    replace K := fun (i : ι × Nat) uo (z : v_reach_L33 uo (i.2 + 1) U33 v33_1) => K i.1 uo ⟨i.2 + 1, z⟩
    have i00 := i0
    replace i0 : ι × Nat := (i0, 0)
    by_cases c : v33_1.toInt = 0
    · replace h := h.1 c
      replace K := fun i uo z => K i uo (Or.inl ⟨c, z⟩)
      exact ⟨_, K i0 _ rfl, h⟩
    · replace h := h.2 c
      replace K := fun i uo z => K i uo (Or.inr ⟨c, z⟩)
      obtain ⟨n9, h⟩ := h
      exact ru_reach_L41 n9 i0 (fun _ _ h K => ih i00 (fun i uo ⟨n8, z⟩ => K (i, n8) uo z) h) K h
set_option maxRecDepth 100000 in
theorem ru_reach_L2 {ι : Type} {P : MS → Prop} {Q : MS → Prop} : ∀ (n : Nat) {U2 : MS} {v2_1 : Int32} (i0 : ι), (∀ (i : ι) (uo : MS), (∃ n8, v_reach_L2 uo n8 U2 v2_1) → P uo) → w_reach_L2 Q n U2 v2_1 → ∃ uo, P uo ∧ Q uo := by
  intro n
  induction n with
  | zero => intro U2 v2_1 i0 K h; unfold w_reach_L2 at h; exact h.elim
  | succ n ih =>
    intro U2 v2_1 i0 K h
    unfold w_reach_L2 at h
    replace K := fun (i : ι × Nat) uo (z : v_reach_L2 uo (i.2 + 1) U2 v2_1) => K i.1 uo ⟨i.2 + 1, z⟩
    have i00 := i0
    replace i0 : ι × Nat := (i0, 0)
    by_cases c : (qI U2 0 105).toInt ≤ v2_1.toInt
    · replace h := h.1 c
      replace K := fun i uo z => K i uo (Or.inl ⟨c, z⟩)
      obtain ⟨n9, h⟩ := h
      exact ru_reach_L33 n9 i0 K h
    · replace h := h.2 c
      replace K := fun i uo z => K i uo (Or.inr ⟨c, z⟩)
      by_cases c : v2_1.toInt = 0
      · replace h := h.1 c
        replace K := fun i uo z => K i uo (Or.inl ⟨c, z⟩)
        exact ru_reach_J24 i0 (fun _ _ h K => ih i00 (fun i uo ⟨n8, z⟩ => K (i, n8) uo z) h) K h
      · replace h := h.2 c
        replace K := fun i uo z => K i uo (Or.inr ⟨c, z⟩)
        exact ru_reach_J24 i0 (fun _ _ h K => ih i00 (fun i uo ⟨n8, z⟩ => K (i, n8) uo z) h) K h
set_option maxRecDepth 100000 in
theorem ru_reach {S : MS} {Q : MS → Prop} (h : w_reach S Q) : ∃ uo, v_reach S uo ∧ Q uo := by
  have i0 : Unit := ()
  have K : ∀ (i : Unit) (uo : MS), v_reach S uo → v_reach S uo := fun _ _ z => z
  unfold w_reach at h
  obtain ⟨n9, h⟩ := h
  exact ru_reach_L2 n9 i0 K h
set_option maxRecDepth 100000 in
theorem vw_reach_J119 {uo : MS} {k41 k41v : MS → Int32 → Int32 → Prop} {U119 : MS} {v119_1 : Int32} {v119_2 : Int32} (hk41 : ∀ (u : MS) (z0 : Int32) (z1 : Int32), k41v u z0 z1 → k41 u z0 z1) (h : v_reach_J119 uo k41v U119 v119_1 v119_2) : w_reach_J119 (fun u => u = uo) k41 U119 v119_1 v119_2 := by
  unfold v_reach_J119 at h
  unfold w_reach_J119
  obtain ⟨v9, e9, h⟩ := h
  intro x9 d9
  have c9 : v9 = x9 := e9.trans d9.symm
  subst c9
  exact hk41 _ _ _ h
set_option maxRecDepth 100000 in
theorem vz_reach_J119 {uo : MS} {Q : MS → Prop} {k41 k41v : MS → Int32 → Int32 → Prop} {U119 : MS} {v119_1 : Int32} {v119_2 : Int32} (hk41 : ∀ (u : MS) (z0 : Int32) (z1 : Int32), k41v u z0 z1 → k41 u z0 z1 → Q uo) (h : v_reach_J119 uo k41v U119 v119_1 v119_2) (w : w_reach_J119 Q k41 U119 v119_1 v119_2) : Q uo := by
  unfold v_reach_J119 at h
  unfold w_reach_J119 at w
  obtain ⟨v9, e9, h⟩ := h
  replace w := w v9 e9
  exact hk41 _ _ _ h w
set_option maxRecDepth 100000 in
theorem vw_reach_J100 {uo : MS} {k56 k56v : MS → Int32 → Int32 → Int32 → Prop} {U100 : MS} {t100_0 : Int32} {v100_2 : Int32} {v100_3 : Int32} (hk56 : ∀ (u : MS) (z0 : Int32) (z1 : Int32) (z2 : Int32), k56v u z0 z1 z2 → k56 u z0 z1 z2) (h : v_reach_J100 uo k56v U100 t100_0 v100_2 v100_3) : w_reach_J100 (fun u => u = uo) k56 U100 t100_0 v100_2 v100_3 := by
  unfold v_reach_J100 at h
  unfold w_reach_J100
  obtain ⟨g9, h⟩ := h
  refine ⟨g9, ?_⟩
  obtain ⟨g9, h⟩ := h
  refine ⟨g9, ?_⟩
  obtain ⟨v9, e9, h⟩ := h
  intro x9 d9
  have c9 : v9 = x9 := e9.trans d9.symm
  subst c9
  obtain ⟨v9, e9, h⟩ := h
  intro x9 d9
  have c9 : v9 = x9 := e9.trans d9.symm
  subst c9
  exact hk56 _ _ _ _ h
set_option maxRecDepth 100000 in
theorem vz_reach_J100 {uo : MS} {Q : MS → Prop} {k56 k56v : MS → Int32 → Int32 → Int32 → Prop} {U100 : MS} {t100_0 : Int32} {v100_2 : Int32} {v100_3 : Int32} (hk56 : ∀ (u : MS) (z0 : Int32) (z1 : Int32) (z2 : Int32), k56v u z0 z1 z2 → k56 u z0 z1 z2 → Q uo) (h : v_reach_J100 uo k56v U100 t100_0 v100_2 v100_3) (w : w_reach_J100 Q k56 U100 t100_0 v100_2 v100_3) : Q uo := by
  unfold v_reach_J100 at h
  unfold w_reach_J100 at w
  replace h := h.2
  replace w := w.2
  replace h := h.2
  replace w := w.2
  obtain ⟨v9, e9, h⟩ := h
  replace w := w v9 e9
  obtain ⟨v9, e9, h⟩ := h
  replace w := w v9 e9
  exact hk56 _ _ _ _ h w
set_option maxRecDepth 100000 in
theorem vw_reach_J95 {uo : MS} {k56 k56v : MS → Int32 → Int32 → Int32 → Prop} {U95 : MS} {v95_2 : Int32} {v95_3 : Int32} (hk56 : ∀ (u : MS) (z0 : Int32) (z1 : Int32) (z2 : Int32), k56v u z0 z1 z2 → k56 u z0 z1 z2) (h : v_reach_J95 uo k56v U95 v95_2 v95_3) : w_reach_J95 (fun u => u = uo) k56 U95 v95_2 v95_3 := by
  unfold v_reach_J95 at h
  unfold w_reach_J95
  exact vw_reach_J100 hk56 h
set_option maxRecDepth 100000 in
theorem vz_reach_J95 {uo : MS} {Q : MS → Prop} {k56 k56v : MS → Int32 → Int32 → Int32 → Prop} {U95 : MS} {v95_2 : Int32} {v95_3 : Int32} (hk56 : ∀ (u : MS) (z0 : Int32) (z1 : Int32) (z2 : Int32), k56v u z0 z1 z2 → k56 u z0 z1 z2 → Q uo) (h : v_reach_J95 uo k56v U95 v95_2 v95_3) (w : w_reach_J95 Q k56 U95 v95_2 v95_3) : Q uo := by
  unfold v_reach_J95 at h
  unfold w_reach_J95 at w
  exact vz_reach_J100 hk56 h w
set_option maxRecDepth 100000 in
theorem vw_reach_J24 {uo : MS} {k2 k2v : MS → Int32 → Prop} {U24 : MS} {t24_0 : Int32} {t24_1 : Int32} {v24_1 : Int32} (hk2 : ∀ (u : MS) (z0 : Int32), k2v u z0 → k2 u z0) (h : v_reach_J24 uo k2v U24 t24_0 t24_1 v24_1) : w_reach_J24 (fun u => u = uo) k2 U24 t24_0 t24_1 v24_1 := by
  unfold v_reach_J24 at h
  unfold w_reach_J24
  obtain ⟨g9, h⟩ := h
  refine ⟨g9, ?_⟩
  obtain ⟨v9, e9, h⟩ := h
  intro x9 d9
  have c9 : v9 = x9 := e9.trans d9.symm
  subst c9
  obtain ⟨v9, e9, h⟩ := h
  intro x9 d9
  have c9 : v9 = x9 := e9.trans d9.symm
  subst c9
  exact hk2 _ _ h
set_option maxRecDepth 100000 in
theorem vz_reach_J24 {uo : MS} {Q : MS → Prop} {k2 k2v : MS → Int32 → Prop} {U24 : MS} {t24_0 : Int32} {t24_1 : Int32} {v24_1 : Int32} (hk2 : ∀ (u : MS) (z0 : Int32), k2v u z0 → k2 u z0 → Q uo) (h : v_reach_J24 uo k2v U24 t24_0 t24_1 v24_1) (w : w_reach_J24 Q k2 U24 t24_0 t24_1 v24_1) : Q uo := by
  unfold v_reach_J24 at h
  unfold w_reach_J24 at w
  replace h := h.2
  replace w := w.2
  obtain ⟨v9, e9, h⟩ := h
  replace w := w v9 e9
  obtain ⟨v9, e9, h⟩ := h
  replace w := w v9 e9
  exact hk2 _ _ h w
set_option maxRecDepth 100000 in
theorem vw_reach_L56 {uo : MS} {k41 k41v : MS → Int32 → Int32 → Prop} : ∀ (n : Nat) {U56 : MS} {v56_1 : Int32} {v56_2 : Int32} {v56_3 : Int32} (hk41 : ∀ (u : MS) (z0 : Int32) (z1 : Int32), k41v u z0 z1 → k41 u z0 z1), v_reach_L56 uo k41v n U56 v56_1 v56_2 v56_3 → w_reach_L56 (fun u => u = uo) k41 n U56 v56_1 v56_2 v56_3 := by
  intro n
  induction n with
  | zero => intro U56 v56_1 v56_2 v56_3 hk41 h; unfold v_reach_L56 at h; exact h.elim
  | succ n ih =>
    intro U56 v56_1 v56_2 v56_3 hk41 h
    unfold v_reach_L56 at h
    unfold w_reach_L56
    obtain ⟨g9, h⟩ := h
    refine ⟨g9, ?_⟩
    rcases h with ⟨c, h⟩ | ⟨c, h⟩
    · refine ⟨fun _ => ?_, fun c2 => absurd c c2⟩
      exact vw_reach_J119 hk41 h
    · refine ⟨fun c2 => absurd c2 c, fun _ => ?_⟩
      obtain ⟨g9, h⟩ := h
      refine ⟨g9, ?_⟩
      rcases h with ⟨c, h⟩ | ⟨c, h⟩
      · refine ⟨fun _ => ?_, fun c2 => absurd c c2⟩
        exact vw_reach_J119 hk41 h
      · refine ⟨fun c2 => absurd c2 c, fun _ => ?_⟩
        rcases h with ⟨c, h⟩ | ⟨c, h⟩
        · refine ⟨fun _ => ?_, fun c2 => absurd c c2⟩
          obtain ⟨g9, h⟩ := h
          refine ⟨g9, ?_⟩
          obtain ⟨g9, h⟩ := h
          refine ⟨g9, ?_⟩
          rcases h with ⟨c, h⟩ | ⟨c, h⟩
          · refine ⟨fun _ => ?_, fun c2 => absurd c c2⟩
            exact vw_reach_J95 (fun _ _ _ _ h => ih hk41 h) h
          · refine ⟨fun c2 => absurd c2 c, fun _ => ?_⟩
            exact vw_reach_J100 (fun _ _ _ _ h => ih hk41 h) h
        · refine ⟨fun c2 => absurd c2 c, fun _ => ?_⟩
          exact vw_reach_J95 (fun _ _ _ _ h => ih hk41 h) h
set_option maxRecDepth 100000 in
theorem vz_reach_L56 {uo : MS} {Q : MS → Prop} {k41 k41v : MS → Int32 → Int32 → Prop} : ∀ (n m : Nat) {U56 : MS} {v56_1 : Int32} {v56_2 : Int32} {v56_3 : Int32} (hk41 : ∀ (u : MS) (z0 : Int32) (z1 : Int32), k41v u z0 z1 → k41 u z0 z1 → Q uo), v_reach_L56 uo k41v n U56 v56_1 v56_2 v56_3 → w_reach_L56 Q k41 m U56 v56_1 v56_2 v56_3 → Q uo := by
  intro n
  induction n with
  | zero => intro m U56 v56_1 v56_2 v56_3 hk41 h; unfold v_reach_L56 at h; exact h.elim
  | succ n ih =>
    intro m U56 v56_1 v56_2 v56_3 hk41 h w
    cases m with
    | zero => unfold w_reach_L56 at w; exact w.elim
    | succ m =>
      unfold v_reach_L56 at h
      unfold w_reach_L56 at w
      replace h := h.2
      replace w := w.2
      rcases h with ⟨c, h⟩ | ⟨c, h⟩
      · replace w := w.1 c
        exact vz_reach_J119 hk41 h w
      · replace w := w.2 c
        replace h := h.2
        replace w := w.2
        rcases h with ⟨c, h⟩ | ⟨c, h⟩
        · replace w := w.1 c
          exact vz_reach_J119 hk41 h w
        · replace w := w.2 c
          rcases h with ⟨c, h⟩ | ⟨c, h⟩
          · replace w := w.1 c
            replace h := h.2
            replace w := w.2
            replace h := h.2
            replace w := w.2
            rcases h with ⟨c, h⟩ | ⟨c, h⟩
            · replace w := w.1 c
              exact vz_reach_J95 (fun _ _ _ _ h w => ih m hk41 h w) h w
            · replace w := w.2 c
              exact vz_reach_J100 (fun _ _ _ _ h w => ih m hk41 h w) h w
          · replace w := w.2 c
            exact vz_reach_J95 (fun _ _ _ _ h w => ih m hk41 h w) h w
set_option maxRecDepth 100000 in
theorem vw_reach_L41 {uo : MS} {k33 k33v : MS → Int32 → Prop} : ∀ (n : Nat) {U41 : MS} {v41_1 : Int32} {v41_2 : Int32} (hk33 : ∀ (u : MS) (z0 : Int32), k33v u z0 → k33 u z0), v_reach_L41 uo k33v n U41 v41_1 v41_2 → w_reach_L41 (fun u => u = uo) k33 n U41 v41_1 v41_2 := by
  intro n
  induction n with
  | zero => intro U41 v41_1 v41_2 hk33 h; unfold v_reach_L41 at h; exact h.elim
  | succ n ih =>
    intro U41 v41_1 v41_2 hk33 h
    unfold v_reach_L41 at h
    unfold w_reach_L41
    rcases h with ⟨c, h⟩ | ⟨c, h⟩
    · refine ⟨fun _ => ?_, fun c2 => absurd c c2⟩
      exact hk33 _ _ h
    · refine ⟨fun c2 => absurd c2 c, fun _ => ?_⟩
      obtain ⟨g9, h⟩ := h
      refine ⟨g9, ?_⟩
      obtain ⟨v9, e9, h⟩ := h
      intro x9 d9
      have c9 : v9 = x9 := e9.trans d9.symm
      subst c9
      obtain ⟨n9, h⟩ := h
      exact ⟨n9, vw_reach_L56 n9 (fun _ _ _ h => ih hk33 h) h⟩
set_option maxRecDepth 100000 in
theorem vz_reach_L41 {uo : MS} {Q : MS → Prop} {k33 k33v : MS → Int32 → Prop} : ∀ (n m : Nat) {U41 : MS} {v41_1 : Int32} {v41_2 : Int32} (hk33 : ∀ (u : MS) (z0 : Int32), k33v u z0 → k33 u z0 → Q uo), v_reach_L41 uo k33v n U41 v41_1 v41_2 → w_reach_L41 Q k33 m U41 v41_1 v41_2 → Q uo := by
  intro n
  induction n with
  | zero => intro m U41 v41_1 v41_2 hk33 h; unfold v_reach_L41 at h; exact h.elim
  | succ n ih =>
    intro m U41 v41_1 v41_2 hk33 h w
    cases m with
    | zero => unfold w_reach_L41 at w; exact w.elim
    | succ m =>
      unfold v_reach_L41 at h
      unfold w_reach_L41 at w
      rcases h with ⟨c, h⟩ | ⟨c, h⟩
      · replace w := w.1 c
        exact hk33 _ _ h w
      · replace w := w.2 c
        replace h := h.2
        replace w := w.2
        obtain ⟨v9, e9, h⟩ := h
        replace w := w v9 e9
        obtain ⟨n9, h⟩ := h
        obtain ⟨n8, w⟩ := w
        exact vz_reach_L56 n9 n8 (fun _ _ _ h w => ih m hk33 h w) h w
set_option maxRecDepth 100000 in
theorem vw_reach_L33 {uo : MS} : ∀ (n : Nat) {U33 : MS} {v33_1 : Int32}, v_reach_L33 uo n U33 v33_1 → w_reach_L33 (fun u => u = uo) n U33 v33_1 := by
  intro n
  induction n with
  | zero => intro U33 v33_1 h; unfold v_reach_L33 at h; exact h.elim
  | succ n ih =>
    intro U33 v33_1 h
    unfold v_reach_L33 at h
    unfold w_reach_L33
    rcases h with ⟨c, h⟩ | ⟨c, h⟩
    · refine ⟨fun _ => ?_, fun c2 => absurd c c2⟩
      exact h.symm
    · refine ⟨fun c2 => absurd c2 c, fun _ => ?_⟩
      obtain ⟨n9, h⟩ := h
      exact ⟨n9, vw_reach_L41 n9 (fun _ _ h => ih h) h⟩
set_option maxRecDepth 100000 in
theorem vz_reach_L33 {uo : MS} {Q : MS → Prop} : ∀ (n m : Nat) {U33 : MS} {v33_1 : Int32}, v_reach_L33 uo n U33 v33_1 → w_reach_L33 Q m U33 v33_1 → Q uo := by
  intro n
  induction n with
  | zero => intro m U33 v33_1 h; unfold v_reach_L33 at h; exact h.elim
  | succ n ih =>
    intro m U33 v33_1 h w
    cases m with
    | zero => unfold w_reach_L33 at w; exact w.elim
    | succ m =>
      unfold v_reach_L33 at h
      unfold w_reach_L33 at w
      rcases h with ⟨c, h⟩ | ⟨c, h⟩
      · replace w := w.1 c
        rw [h]
        exact w
      · replace w := w.2 c
        obtain ⟨n9, h⟩ := h
        obtain ⟨n8, w⟩ := w
        exact vz_reach_L41 n9 n8 (fun _ _ h w => ih m h w) h w
set_option maxRecDepth 100000 in
theorem vw_reach_L2 {uo : MS} : ∀ (n : Nat) {U2 : MS} {v2_1 : Int32}, v_reach_L2 uo n U2 v2_1 → w_reach_L2 (fun u => u = uo) n U2 v2_1 := by
  intro n
  induction n with
  | zero => intro U2 v2_1 h; unfold v_reach_L2 at h; exact h.elim
  | succ n ih =>
    intro U2 v2_1 h
    unfold v_reach_L2 at h
    unfold w_reach_L2
    rcases h with ⟨c, h⟩ | ⟨c, h⟩
    · refine ⟨fun _ => ?_, fun c2 => absurd c c2⟩
      obtain ⟨n9, h⟩ := h
      exact ⟨n9, vw_reach_L33 n9 h⟩
    · refine ⟨fun c2 => absurd c2 c, fun _ => ?_⟩
      rcases h with ⟨c, h⟩ | ⟨c, h⟩
      · refine ⟨fun _ => ?_, fun c2 => absurd c c2⟩
        exact vw_reach_J24 (fun _ _ h => ih h) h
      · refine ⟨fun c2 => absurd c2 c, fun _ => ?_⟩
        exact vw_reach_J24 (fun _ _ h => ih h) h
set_option maxRecDepth 100000 in
theorem vz_reach_L2 {uo : MS} {Q : MS → Prop} : ∀ (n m : Nat) {U2 : MS} {v2_1 : Int32}, v_reach_L2 uo n U2 v2_1 → w_reach_L2 Q m U2 v2_1 → Q uo := by
  intro n
  induction n with
  | zero => intro m U2 v2_1 h; unfold v_reach_L2 at h; exact h.elim
  | succ n ih =>
    intro m U2 v2_1 h w
    cases m with
    | zero => unfold w_reach_L2 at w; exact w.elim
    | succ m =>
      unfold v_reach_L2 at h
      unfold w_reach_L2 at w
      rcases h with ⟨c, h⟩ | ⟨c, h⟩
      · replace w := w.1 c
        obtain ⟨n9, h⟩ := h
        obtain ⟨n8, w⟩ := w
        exact vz_reach_L33 n9 n8 h w
      · replace w := w.2 c
        rcases h with ⟨c, h⟩ | ⟨c, h⟩
        · replace w := w.1 c
          exact vz_reach_J24 (fun _ _ h w => ih m h w) h w
        · replace w := w.2 c
          exact vz_reach_J24 (fun _ _ h w => ih m h w) h w
set_option maxRecDepth 100000 in
theorem vw_reach {S : MS} {uo : MS} (h : v_reach S uo) : w_reach S (fun u => u = uo) := by
  unfold v_reach at h
  unfold w_reach
  obtain ⟨n9, h⟩ := h
  exact ⟨n9, vw_reach_L2 n9 h⟩
set_option maxRecDepth 100000 in
theorem vz_reach {S : MS} {uo : MS} {Q : MS → Prop} (h : v_reach S uo) (w : w_reach S Q) : Q uo := by
  unfold v_reach at h
  unfold w_reach at w
  obtain ⟨n9, h⟩ := h
  obtain ⟨n8, w⟩ := w
  exact vz_reach_L2 n9 n8 h w
def v_draw_J205 (uo : MS) (k167 : MS → Int32 → Prop) (U205 : MS) (v205_3 : Int32) : Prop := (((0 : Int) ≤ v205_3.toInt ∧ v205_3.toInt < 1201) ∧ (∃ S22 : MS, S22 = wI U205 50 v205_3.toInt.toNat ((qI U205 0 105) - (1 : Int32)) ∧ (∃ a23 : Int32, a23 = (v205_3 + Int32.ofInt 1) ∧ (k167 S22 a23))))
def v_draw_L81 (uo : MS) (k38 : MS → Int32 → Prop) : Nat → MS → Int32 → Int32 → Prop
  | 0, _, _, _ => False
  | n81 + 1, U81, v81_3, v81_5 => (d_ways U81 v81_3 ∧ (((f_ways U81 v81_3).toInt ≤ v81_5.toInt ∧ (∃ a48 : Int32, a48 = (v81_3 + Int32.ofInt 1) ∧ (k38 U81 a48))) ∨ (¬ (f_ways U81 v81_3).toInt ≤ v81_5.toInt ∧ (d_way U81 v81_3 v81_5 ∧ (((0 : Int) ≤ (f_way U81 v81_3 v81_5).toInt ∧ (f_way U81 v81_3 v81_5).toInt < 1201) ∧ (∃ S53 : MS, S53 = wI U81 50 (((f_way U81 v81_3 v81_5).toInt).toNat) (1 : Int32) ∧ (∃ a54 : Int32, a54 = (v81_5 + Int32.ofInt 1) ∧ ((v_draw_L81 uo k38 n81) S53 v81_3 a54))))))))
def v_draw_J78 (uo : MS) (k38 : MS → Int32 → Prop) (U78 : MS) (v78_3 : Int32) : Prop := (∃ n, v_draw_L81 uo k38 n U78 v78_3 0)
def v_draw_J69 (uo : MS) (k38 : MS → Int32 → Prop) (U69 : MS) (v69_3 : Int32) : Prop := (((0 : Int) ≤ (v69_3 + (1 : Int32)).toInt ∧ (v69_3 + (1 : Int32)).toInt < 1201) ∧ (∃ S57 : MS, S57 = wI U69 50 (((v69_3 + (1 : Int32)).toInt).toNat) (1 : Int32) ∧ (v_draw_J78 uo k38 S57 v69_3)))
def v_draw_L167 (uo : MS) : Nat → MS → Int32 → Prop
  | 0, _, _ => False
  | n167 + 1, U167, v167_3 => (((qI U167 0 52).toInt ≤ v167_3.toInt ∧ (((0 : Int) ≤ (qI U167 0 105).toInt ∧ (qI U167 0 105).toInt < 1201) ∧ (∃ S11 : MS, S11 = wI U167 49 (((qI U167 0 105).toInt).toNat) (qI U167 0 52) ∧ (∃ (S13 : MS), v_edges S11 S13 ∧ (∃ (S16 : MS), v_reach S13 S16 ∧ (uo = S16)))))) ∨ (¬ (qI U167 0 52).toInt ≤ v167_3.toInt ∧ (((0 : Int) ≤ v167_3.toInt ∧ v167_3.toInt < 1201) ∧ (((qI U167 50 v167_3.toInt.toNat).toInt = 1 ∧ (((0 : Int) ≤ (qI U167 0 105).toInt ∧ (qI U167 0 105).toInt < 1201) ∧ (∃ S26 : MS, S26 = wI U167 49 (((qI U167 0 105).toInt).toNat) v167_3 ∧ (∃ S28 : MS, S28 = wI S26 0 105 ((qI S26 0 105) + (1 : Int32)) ∧ (v_draw_J205 uo (v_draw_L167 uo n167) S28 v167_3))))) ∨ (¬ (qI U167 50 v167_3.toInt.toNat).toInt = 1 ∧ (v_draw_J205 uo (v_draw_L167 uo n167) U167 v167_3))))))
def v_draw_L129 (uo : MS) (k118 : MS → Int32 → Prop) : Nat → MS → Int32 → Int32 → Prop
  | 0, _, _, _ => False
  | n129 + 1, U129, v129_3, v129_4 => ((3 ≤ v129_4.toInt ∧ (∃ a30 : Int32, a30 = (v129_3 + Int32.ofInt 1) ∧ (k118 U129 a30))) ∨ (¬ 3 ≤ v129_4.toInt ∧ (d_catchWord U129 v129_3 v129_4 ∧ (((0 : Int) ≤ (f_catchWord U129 v129_3 v129_4).toInt ∧ (f_catchWord U129 v129_3 v129_4).toInt < 1201) ∧ (∃ S35 : MS, S35 = wI U129 50 (((f_catchWord U129 v129_3 v129_4).toInt).toNat) (1 : Int32) ∧ (∃ a36 : Int32, a36 = (v129_4 + Int32.ofInt 1) ∧ ((v_draw_L129 uo k118 n129) S35 v129_3 a36)))))))
def v_draw_L118 (uo : MS) : Nat → MS → Int32 → Prop
  | 0, _, _ => False
  | n118 + 1, U118, v118_3 => (((qI U118 0 54).toInt ≤ v118_3.toInt ∧ (∃ S8 : MS, S8 = wI U118 0 105 0 ∧ (∃ n, v_draw_L167 uo n S8 0))) ∨ (¬ (qI U118 0 54).toInt ≤ v118_3.toInt ∧ (∃ n, v_draw_L129 uo (v_draw_L118 uo n118) n U118 v118_3 0)))
def v_draw_L38 (uo : MS) : Nat → MS → Int32 → Prop
  | 0, _, _ => False
  | n38 + 1, U38, v38_3 => (((qI U38 0 52).toInt ≤ v38_3.toInt ∧ (∃ n, v_draw_L118 uo n U38 0)) ∨ (¬ (qI U38 0 52).toInt ≤ v38_3.toInt ∧ (d_op U38 v38_3 ∧ (∃ a40 : Int32, a40 = (f_op U38 v38_3) ∧ (d_isJump U38 a40 ∧ (((f_isJump U38 a40).toInt = 0 ∧ (d_goesOn U38 a40 ∧ (((f_goesOn U38 a40).toInt = 0 ∧ (v_draw_J69 uo (v_draw_L38 uo n38) U38 v38_3)) ∨ (¬ (f_goesOn U38 a40).toInt = 0 ∧ (v_draw_J78 uo (v_draw_L38 uo n38) U38 v38_3))))) ∨ (¬ (f_isJump U38 a40).toInt = 0 ∧ (v_draw_J69 uo (v_draw_L38 uo n38) U38 v38_3))))))))
def v_draw_L8 (uo : MS) : Nat → MS → Int32 → Prop
  | 0, _, _ => False
  | n8 + 1, U8, v8_3 => (((qI U8 0 52).toInt < v8_3.toInt ∧ (∃ S5 : MS, S5 = wI U8 50 0 (1 : Int32) ∧ (∃ n, v_draw_L38 uo n S5 0))) ∨ (¬ (qI U8 0 52).toInt < v8_3.toInt ∧ (((0 : Int) ≤ v8_3.toInt ∧ v8_3.toInt < 1201) ∧ (∃ S64 : MS, S64 = wI U8 50 v8_3.toInt.toNat (0 : Int32) ∧ (∃ a65 : Int32, a65 = (v8_3 + Int32.ofInt 1) ∧ ((v_draw_L8 uo n8) S64 a65))))))
def v_draw (S : MS) (p1 : Nat) (x2 : Int32) (uo : MS) : Prop := (∃ (S2 : MS), v_look S p1 x2 S2 ∧ (∃ n, v_draw_L8 uo n S2 0))
set_option maxRecDepth 100000 in
theorem ru_draw_J205 {ι : Type} {P : MS → Prop} {Q : MS → Prop} {k167 : MS → Int32 → Prop} {k167v : ι → MS → MS → Int32 → Prop} {U205 : MS} {v205_3 : Int32} (i0 : ι) (hk167 : ∀ (u : MS) (z0 : Int32), k167 u z0 → (∀ (i : ι) (uo : MS), k167v i uo u z0 → P uo) → ∃ uo, P uo ∧ Q uo) (K : ∀ (i : ι) (uo : MS), v_draw_J205 uo (k167v i uo) U205 v205_3 → P uo) (h : w_draw_J205 Q k167 U205 v205_3) : ∃ uo, P uo ∧ Q uo := by
  unfold w_draw_J205 at h
  obtain ⟨g1_, h⟩ := h
  replace K := fun i uo z => K i uo ⟨g1_, z⟩
  obtain ⟨S22, eS22⟩ : ∃ x9 : MS, x9 = wI U205 50 v205_3.toInt.toNat ((qI U205 0 105) - (1 : Int32)) := ⟨_, rfl⟩
  replace h := h S22 eS22
  replace K := fun i uo z => K i uo ⟨S22, eS22, z⟩
  obtain ⟨a23, ea23⟩ : ∃ x9 : Int32, x9 = (v205_3 + Int32.ofInt 1) := ⟨_, rfl⟩
  replace h := h a23 ea23
  replace K := fun i uo z => K i uo ⟨a23, ea23, z⟩
  exact hk167 _ _ h K
set_option maxRecDepth 100000 in
theorem ru_draw_L81 {ι : Type} {P : MS → Prop} {Q : MS → Prop} {k38 : MS → Int32 → Prop} {k38v : ι → MS → MS → Int32 → Prop} : ∀ (n : Nat) {U81 : MS} {v81_3 : Int32} {v81_5 : Int32} (i0 : ι) (hk38 : ∀ (u : MS) (z0 : Int32), k38 u z0 → (∀ (i : ι) (uo : MS), k38v i uo u z0 → P uo) → ∃ uo, P uo ∧ Q uo), (∀ (i : ι) (uo : MS), (∃ n8, v_draw_L81 uo (k38v i uo) n8 U81 v81_3 v81_5) → P uo) → w_draw_L81 Q k38 n U81 v81_3 v81_5 → ∃ uo, P uo ∧ Q uo := by
  intro n
  induction n with
  | zero => intro U81 v81_3 v81_5 i0 hk38 K h; unfold w_draw_L81 at h; exact h.elim
  | succ n ih =>
    intro U81 v81_3 v81_5 i0 hk38 K h
    unfold w_draw_L81 at h
    replace K := fun (i : ι × Nat) uo (z : v_draw_L81 uo (k38v i.1 uo) (i.2 + 1) U81 v81_3 v81_5) => K i.1 uo ⟨i.2 + 1, z⟩
    have i00 := i0
    replace i0 : ι × Nat := (i0, 0)
    obtain ⟨g2_, h⟩ := h
    replace K := fun i uo z => K i uo ⟨g2_, z⟩
    by_cases c : (f_ways U81 v81_3).toInt ≤ v81_5.toInt
    · replace h := h.1 c
      replace K := fun i uo z => K i uo (Or.inl ⟨c, z⟩)
      obtain ⟨a48, ea48⟩ : ∃ x9 : Int32, x9 = (v81_3 + Int32.ofInt 1) := ⟨_, rfl⟩
      replace h := h a48 ea48
      replace K := fun i uo z => K i uo ⟨a48, ea48, z⟩
      exact hk38 _ _ h (fun i uo z => K (i, 0) uo z)
    · replace h := h.2 c
      replace K := fun i uo z => K i uo (Or.inr ⟨c, z⟩)
      obtain ⟨g3_, h⟩ := h
      replace K := fun i uo z => K i uo ⟨g3_, z⟩
      obtain ⟨g4_, h⟩ := h
      replace K := fun i uo z => K i uo ⟨g4_, z⟩
      obtain ⟨S53, eS53⟩ : ∃ x9 : MS, x9 = wI U81 50 (((f_way U81 v81_3 v81_5).toInt).toNat) (1 : Int32) := ⟨_, rfl⟩
      replace h := h S53 eS53
      replace K := fun i uo z => K i uo ⟨S53, eS53, z⟩
      obtain ⟨a54, ea54⟩ : ∃ x9 : Int32, x9 = (v81_5 + Int32.ofInt 1) := ⟨_, rfl⟩
      replace h := h a54 ea54
      replace K := fun i uo z => K i uo ⟨a54, ea54, z⟩
      exact ih i00 hk38 (fun i uo ⟨n8, z⟩ => K (i, n8) uo z) h
set_option maxRecDepth 100000 in
theorem ru_draw_J78 {ι : Type} {P : MS → Prop} {Q : MS → Prop} {k38 : MS → Int32 → Prop} {k38v : ι → MS → MS → Int32 → Prop} {U78 : MS} {v78_3 : Int32} (i0 : ι) (hk38 : ∀ (u : MS) (z0 : Int32), k38 u z0 → (∀ (i : ι) (uo : MS), k38v i uo u z0 → P uo) → ∃ uo, P uo ∧ Q uo) (K : ∀ (i : ι) (uo : MS), v_draw_J78 uo (k38v i uo) U78 v78_3 → P uo) (h : w_draw_J78 Q k38 U78 v78_3) : ∃ uo, P uo ∧ Q uo := by
  unfold w_draw_J78 at h
  obtain ⟨n9, h⟩ := h
  exact ru_draw_L81 n9 i0 hk38 K h
set_option maxRecDepth 100000 in
theorem ru_draw_J69 {ι : Type} {P : MS → Prop} {Q : MS → Prop} {k38 : MS → Int32 → Prop} {k38v : ι → MS → MS → Int32 → Prop} {U69 : MS} {v69_3 : Int32} (i0 : ι) (hk38 : ∀ (u : MS) (z0 : Int32), k38 u z0 → (∀ (i : ι) (uo : MS), k38v i uo u z0 → P uo) → ∃ uo, P uo ∧ Q uo) (K : ∀ (i : ι) (uo : MS), v_draw_J69 uo (k38v i uo) U69 v69_3 → P uo) (h : w_draw_J69 Q k38 U69 v69_3) : ∃ uo, P uo ∧ Q uo := by
  unfold w_draw_J69 at h
  obtain ⟨g5_, h⟩ := h
  replace K := fun i uo z => K i uo ⟨g5_, z⟩
  obtain ⟨S57, eS57⟩ : ∃ x9 : MS, x9 = wI U69 50 (((v69_3 + (1 : Int32)).toInt).toNat) (1 : Int32) := ⟨_, rfl⟩
  replace h := h S57 eS57
  replace K := fun i uo z => K i uo ⟨S57, eS57, z⟩
  exact ru_draw_J78 i0 hk38 K h
set_option maxRecDepth 100000 in
theorem ru_draw_L167 {ι : Type} {P : MS → Prop} {Q : MS → Prop} : ∀ (n : Nat) {U167 : MS} {v167_3 : Int32} (i0 : ι), (∀ (i : ι) (uo : MS), (∃ n8, v_draw_L167 uo n8 U167 v167_3) → P uo) → w_draw_L167 Q n U167 v167_3 → ∃ uo, P uo ∧ Q uo := by
  intro n
  induction n with
  | zero => intro U167 v167_3 i0 K h; unfold w_draw_L167 at h; exact h.elim
  | succ n ih =>
    intro U167 v167_3 i0 K h
    unfold w_draw_L167 at h
    replace K := fun (i : ι × Nat) uo (z : v_draw_L167 uo (i.2 + 1) U167 v167_3) => K i.1 uo ⟨i.2 + 1, z⟩
    have i00 := i0
    replace i0 : ι × Nat := (i0, 0)
    by_cases c : (qI U167 0 52).toInt ≤ v167_3.toInt
    · replace h := h.1 c
      replace K := fun i uo z => K i uo (Or.inl ⟨c, z⟩)
      obtain ⟨g6_, h⟩ := h
      replace K := fun i uo z => K i uo ⟨g6_, z⟩
      obtain ⟨S11, eS11⟩ : ∃ x9 : MS, x9 = wI U167 49 (((qI U167 0 105).toInt).toNat) (qI U167 0 52) := ⟨_, rfl⟩
      replace h := h S11 eS11
      replace K := fun i uo z => K i uo ⟨S11, eS11, z⟩
      obtain ⟨Q9, h0, h⟩ := h
      obtain ⟨S13, z9, g9⟩ := ru_edges h0
      replace h := h S13 g9
      replace K := fun i uo z => K i uo ⟨S13, z9, z⟩
      obtain ⟨Q9, h0, h⟩ := h
      obtain ⟨S16, z9, g9⟩ := ru_reach h0
      replace h := h S16 g9
      replace K := fun i uo z => K i uo ⟨S16, z9, z⟩
      exact ⟨_, K i0 _ rfl, h⟩
    · replace h := h.2 c
      replace K := fun i uo z => K i uo (Or.inr ⟨c, z⟩)
      obtain ⟨g7_, h⟩ := h
      replace K := fun i uo z => K i uo ⟨g7_, z⟩
      by_cases c : (qI U167 50 v167_3.toInt.toNat).toInt = 1
      · replace h := h.1 c
        replace K := fun i uo z => K i uo (Or.inl ⟨c, z⟩)
        obtain ⟨g8_, h⟩ := h
        replace K := fun i uo z => K i uo ⟨g8_, z⟩
        obtain ⟨S26, eS26⟩ : ∃ x9 : MS, x9 = wI U167 49 (((qI U167 0 105).toInt).toNat) v167_3 := ⟨_, rfl⟩
        replace h := h S26 eS26
        replace K := fun i uo z => K i uo ⟨S26, eS26, z⟩
        obtain ⟨S28, eS28⟩ : ∃ x9 : MS, x9 = wI S26 0 105 ((qI S26 0 105) + (1 : Int32)) := ⟨_, rfl⟩
        replace h := h S28 eS28
        replace K := fun i uo z => K i uo ⟨S28, eS28, z⟩
        exact ru_draw_J205 i0 (fun _ _ h K => ih i00 (fun i uo ⟨n8, z⟩ => K (i, n8) uo z) h) K h
      · replace h := h.2 c
        replace K := fun i uo z => K i uo (Or.inr ⟨c, z⟩)
        exact ru_draw_J205 i0 (fun _ _ h K => ih i00 (fun i uo ⟨n8, z⟩ => K (i, n8) uo z) h) K h
set_option maxRecDepth 100000 in
theorem ru_draw_L129 {ι : Type} {P : MS → Prop} {Q : MS → Prop} {k118 : MS → Int32 → Prop} {k118v : ι → MS → MS → Int32 → Prop} : ∀ (n : Nat) {U129 : MS} {v129_3 : Int32} {v129_4 : Int32} (i0 : ι) (hk118 : ∀ (u : MS) (z0 : Int32), k118 u z0 → (∀ (i : ι) (uo : MS), k118v i uo u z0 → P uo) → ∃ uo, P uo ∧ Q uo), (∀ (i : ι) (uo : MS), (∃ n8, v_draw_L129 uo (k118v i uo) n8 U129 v129_3 v129_4) → P uo) → w_draw_L129 Q k118 n U129 v129_3 v129_4 → ∃ uo, P uo ∧ Q uo := by
  intro n
  induction n with
  | zero => intro U129 v129_3 v129_4 i0 hk118 K h; unfold w_draw_L129 at h; exact h.elim
  | succ n ih =>
    intro U129 v129_3 v129_4 i0 hk118 K h
    unfold w_draw_L129 at h
    replace K := fun (i : ι × Nat) uo (z : v_draw_L129 uo (k118v i.1 uo) (i.2 + 1) U129 v129_3 v129_4) => K i.1 uo ⟨i.2 + 1, z⟩
    have i00 := i0
    replace i0 : ι × Nat := (i0, 0)
    by_cases c : 3 ≤ v129_4.toInt
    · replace h := h.1 c
      replace K := fun i uo z => K i uo (Or.inl ⟨c, z⟩)
      obtain ⟨a30, ea30⟩ : ∃ x9 : Int32, x9 = (v129_3 + Int32.ofInt 1) := ⟨_, rfl⟩
      replace h := h a30 ea30
      replace K := fun i uo z => K i uo ⟨a30, ea30, z⟩
      exact hk118 _ _ h (fun i uo z => K (i, 0) uo z)
    · replace h := h.2 c
      replace K := fun i uo z => K i uo (Or.inr ⟨c, z⟩)
      obtain ⟨g9_, h⟩ := h
      replace K := fun i uo z => K i uo ⟨g9_, z⟩
      obtain ⟨g10_, h⟩ := h
      replace K := fun i uo z => K i uo ⟨g10_, z⟩
      obtain ⟨S35, eS35⟩ : ∃ x9 : MS, x9 = wI U129 50 (((f_catchWord U129 v129_3 v129_4).toInt).toNat) (1 : Int32) := ⟨_, rfl⟩
      replace h := h S35 eS35
      replace K := fun i uo z => K i uo ⟨S35, eS35, z⟩
      obtain ⟨a36, ea36⟩ : ∃ x9 : Int32, x9 = (v129_4 + Int32.ofInt 1) := ⟨_, rfl⟩
      replace h := h a36 ea36
      replace K := fun i uo z => K i uo ⟨a36, ea36, z⟩
      exact ih i00 hk118 (fun i uo ⟨n8, z⟩ => K (i, n8) uo z) h
set_option maxRecDepth 100000 in
theorem ru_draw_L118 {ι : Type} {P : MS → Prop} {Q : MS → Prop} : ∀ (n : Nat) {U118 : MS} {v118_3 : Int32} (i0 : ι), (∀ (i : ι) (uo : MS), (∃ n8, v_draw_L118 uo n8 U118 v118_3) → P uo) → w_draw_L118 Q n U118 v118_3 → ∃ uo, P uo ∧ Q uo := by
  intro n
  induction n with
  | zero => intro U118 v118_3 i0 K h; unfold w_draw_L118 at h; exact h.elim
  | succ n ih =>
    intro U118 v118_3 i0 K h
    unfold w_draw_L118 at h
    replace K := fun (i : ι × Nat) uo (z : v_draw_L118 uo (i.2 + 1) U118 v118_3) => K i.1 uo ⟨i.2 + 1, z⟩
    have i00 := i0
    replace i0 : ι × Nat := (i0, 0)
    by_cases c : (qI U118 0 54).toInt ≤ v118_3.toInt
    · replace h := h.1 c
      replace K := fun i uo z => K i uo (Or.inl ⟨c, z⟩)
      obtain ⟨S8, eS8⟩ : ∃ x9 : MS, x9 = wI U118 0 105 0 := ⟨_, rfl⟩
      replace h := h S8 eS8
      replace K := fun i uo z => K i uo ⟨S8, eS8, z⟩
      obtain ⟨n9, h⟩ := h
      exact ru_draw_L167 n9 i0 K h
    · replace h := h.2 c
      replace K := fun i uo z => K i uo (Or.inr ⟨c, z⟩)
      obtain ⟨n9, h⟩ := h
      exact ru_draw_L129 n9 i0 (fun _ _ h K => ih i00 (fun i uo ⟨n8, z⟩ => K (i, n8) uo z) h) K h
set_option maxRecDepth 100000 in
theorem ru_draw_L38 {ι : Type} {P : MS → Prop} {Q : MS → Prop} : ∀ (n : Nat) {U38 : MS} {v38_3 : Int32} (i0 : ι), (∀ (i : ι) (uo : MS), (∃ n8, v_draw_L38 uo n8 U38 v38_3) → P uo) → w_draw_L38 Q n U38 v38_3 → ∃ uo, P uo ∧ Q uo := by
  intro n
  induction n with
  | zero => intro U38 v38_3 i0 K h; unfold w_draw_L38 at h; exact h.elim
  | succ n ih =>
    intro U38 v38_3 i0 K h
    unfold w_draw_L38 at h
    replace K := fun (i : ι × Nat) uo (z : v_draw_L38 uo (i.2 + 1) U38 v38_3) => K i.1 uo ⟨i.2 + 1, z⟩
    have i00 := i0
    replace i0 : ι × Nat := (i0, 0)
    by_cases c : (qI U38 0 52).toInt ≤ v38_3.toInt
    · replace h := h.1 c
      replace K := fun i uo z => K i uo (Or.inl ⟨c, z⟩)
      obtain ⟨n9, h⟩ := h
      exact ru_draw_L118 n9 i0 K h
    · replace h := h.2 c
      replace K := fun i uo z => K i uo (Or.inr ⟨c, z⟩)
      obtain ⟨g11_, h⟩ := h
      replace K := fun i uo z => K i uo ⟨g11_, z⟩
      obtain ⟨a40, ea40⟩ : ∃ x9 : Int32, x9 = (f_op U38 v38_3) := ⟨_, rfl⟩
      replace h := h a40 ea40
      replace K := fun i uo z => K i uo ⟨a40, ea40, z⟩
      obtain ⟨g12_, h⟩ := h
      replace K := fun i uo z => K i uo ⟨g12_, z⟩
      by_cases c : (f_isJump U38 a40).toInt = 0
      · replace h := h.1 c
        replace K := fun i uo z => K i uo (Or.inl ⟨c, z⟩)
        obtain ⟨g13_, h⟩ := h
        replace K := fun i uo z => K i uo ⟨g13_, z⟩
        by_cases c : (f_goesOn U38 a40).toInt = 0
        · replace h := h.1 c
          replace K := fun i uo z => K i uo (Or.inl ⟨c, z⟩)
          exact ru_draw_J69 i0 (fun _ _ h K => ih i00 (fun i uo ⟨n8, z⟩ => K (i, n8) uo z) h) K h
        · replace h := h.2 c
          replace K := fun i uo z => K i uo (Or.inr ⟨c, z⟩)
          exact ru_draw_J78 i0 (fun _ _ h K => ih i00 (fun i uo ⟨n8, z⟩ => K (i, n8) uo z) h) K h
      · replace h := h.2 c
        replace K := fun i uo z => K i uo (Or.inr ⟨c, z⟩)
        exact ru_draw_J69 i0 (fun _ _ h K => ih i00 (fun i uo ⟨n8, z⟩ => K (i, n8) uo z) h) K h
set_option maxRecDepth 100000 in
theorem ru_draw_L8 {ι : Type} {P : MS → Prop} {Q : MS → Prop} : ∀ (n : Nat) {U8 : MS} {v8_3 : Int32} (i0 : ι), (∀ (i : ι) (uo : MS), (∃ n8, v_draw_L8 uo n8 U8 v8_3) → P uo) → w_draw_L8 Q n U8 v8_3 → ∃ uo, P uo ∧ Q uo := by
  intro n
  induction n with
  | zero => intro U8 v8_3 i0 K h; unfold w_draw_L8 at h; exact h.elim
  | succ n ih =>
    intro U8 v8_3 i0 K h
    unfold w_draw_L8 at h
    replace K := fun (i : ι × Nat) uo (z : v_draw_L8 uo (i.2 + 1) U8 v8_3) => K i.1 uo ⟨i.2 + 1, z⟩
    have i00 := i0
    replace i0 : ι × Nat := (i0, 0)
    by_cases c : (qI U8 0 52).toInt < v8_3.toInt
    · replace h := h.1 c
      replace K := fun i uo z => K i uo (Or.inl ⟨c, z⟩)
      obtain ⟨S5, eS5⟩ : ∃ x9 : MS, x9 = wI U8 50 0 (1 : Int32) := ⟨_, rfl⟩
      replace h := h S5 eS5
      replace K := fun i uo z => K i uo ⟨S5, eS5, z⟩
      obtain ⟨n9, h⟩ := h
      exact ru_draw_L38 n9 i0 K h
    · replace h := h.2 c
      replace K := fun i uo z => K i uo (Or.inr ⟨c, z⟩)
      obtain ⟨g14_, h⟩ := h
      replace K := fun i uo z => K i uo ⟨g14_, z⟩
      obtain ⟨S64, eS64⟩ : ∃ x9 : MS, x9 = wI U8 50 v8_3.toInt.toNat (0 : Int32) := ⟨_, rfl⟩
      replace h := h S64 eS64
      replace K := fun i uo z => K i uo ⟨S64, eS64, z⟩
      obtain ⟨a65, ea65⟩ : ∃ x9 : Int32, x9 = (v8_3 + Int32.ofInt 1) := ⟨_, rfl⟩
      replace h := h a65 ea65
      replace K := fun i uo z => K i uo ⟨a65, ea65, z⟩
      exact ih i00 (fun i uo ⟨n8, z⟩ => K (i, n8) uo z) h
set_option maxRecDepth 100000 in
theorem ru_draw {S : MS} {p1 : Nat} {x2 : Int32} {Q : MS → Prop} (h : w_draw S p1 x2 Q) : ∃ uo, v_draw S p1 x2 uo ∧ Q uo := by
  have i0 : Unit := ()
  have K : ∀ (i : Unit) (uo : MS), v_draw S p1 x2 uo → v_draw S p1 x2 uo := fun _ _ z => z
  unfold w_draw at h
  obtain ⟨Q9, h0, h⟩ := h
  obtain ⟨S2, z9, g9⟩ := ru_look h0
  replace h := h S2 g9
  replace K := fun i uo z => K i uo ⟨S2, z9, z⟩
  obtain ⟨n9, h⟩ := h
  exact ru_draw_L8 n9 i0 K h
set_option maxRecDepth 100000 in
theorem vw_draw_J205 {uo : MS} {k167 k167v : MS → Int32 → Prop} {U205 : MS} {v205_3 : Int32} (hk167 : ∀ (u : MS) (z0 : Int32), k167v u z0 → k167 u z0) (h : v_draw_J205 uo k167v U205 v205_3) : w_draw_J205 (fun u => u = uo) k167 U205 v205_3 := by
  unfold v_draw_J205 at h
  unfold w_draw_J205
  obtain ⟨g9, h⟩ := h
  refine ⟨g9, ?_⟩
  obtain ⟨v9, e9, h⟩ := h
  intro x9 d9
  have c9 : v9 = x9 := e9.trans d9.symm
  subst c9
  obtain ⟨v9, e9, h⟩ := h
  intro x9 d9
  have c9 : v9 = x9 := e9.trans d9.symm
  subst c9
  exact hk167 _ _ h
set_option maxRecDepth 100000 in
theorem vz_draw_J205 {uo : MS} {Q : MS → Prop} {k167 k167v : MS → Int32 → Prop} {U205 : MS} {v205_3 : Int32} (hk167 : ∀ (u : MS) (z0 : Int32), k167v u z0 → k167 u z0 → Q uo) (h : v_draw_J205 uo k167v U205 v205_3) (w : w_draw_J205 Q k167 U205 v205_3) : Q uo := by
  unfold v_draw_J205 at h
  unfold w_draw_J205 at w
  replace h := h.2
  replace w := w.2
  obtain ⟨v9, e9, h⟩ := h
  replace w := w v9 e9
  obtain ⟨v9, e9, h⟩ := h
  replace w := w v9 e9
  exact hk167 _ _ h w
set_option maxRecDepth 100000 in
theorem vw_draw_L81 {uo : MS} {k38 k38v : MS → Int32 → Prop} : ∀ (n : Nat) {U81 : MS} {v81_3 : Int32} {v81_5 : Int32} (hk38 : ∀ (u : MS) (z0 : Int32), k38v u z0 → k38 u z0), v_draw_L81 uo k38v n U81 v81_3 v81_5 → w_draw_L81 (fun u => u = uo) k38 n U81 v81_3 v81_5 := by
  intro n
  induction n with
  | zero => intro U81 v81_3 v81_5 hk38 h; unfold v_draw_L81 at h; exact h.elim
  | succ n ih =>
    intro U81 v81_3 v81_5 hk38 h
    unfold v_draw_L81 at h
    unfold w_draw_L81
    obtain ⟨g9, h⟩ := h
    refine ⟨g9, ?_⟩
    rcases h with ⟨c, h⟩ | ⟨c, h⟩
    · refine ⟨fun _ => ?_, fun c2 => absurd c c2⟩
      obtain ⟨v9, e9, h⟩ := h
      intro x9 d9
      have c9 : v9 = x9 := e9.trans d9.symm
      subst c9
      exact hk38 _ _ h
    · refine ⟨fun c2 => absurd c2 c, fun _ => ?_⟩
      obtain ⟨g9, h⟩ := h
      refine ⟨g9, ?_⟩
      obtain ⟨g9, h⟩ := h
      refine ⟨g9, ?_⟩
      obtain ⟨v9, e9, h⟩ := h
      intro x9 d9
      have c9 : v9 = x9 := e9.trans d9.symm
      subst c9
      obtain ⟨v9, e9, h⟩ := h
      intro x9 d9
      have c9 : v9 = x9 := e9.trans d9.symm
      subst c9
      exact ih hk38 h
set_option maxRecDepth 100000 in
theorem vz_draw_L81 {uo : MS} {Q : MS → Prop} {k38 k38v : MS → Int32 → Prop} : ∀ (n m : Nat) {U81 : MS} {v81_3 : Int32} {v81_5 : Int32} (hk38 : ∀ (u : MS) (z0 : Int32), k38v u z0 → k38 u z0 → Q uo), v_draw_L81 uo k38v n U81 v81_3 v81_5 → w_draw_L81 Q k38 m U81 v81_3 v81_5 → Q uo := by
  intro n
  induction n with
  | zero => intro m U81 v81_3 v81_5 hk38 h; unfold v_draw_L81 at h; exact h.elim
  | succ n ih =>
    intro m U81 v81_3 v81_5 hk38 h w
    cases m with
    | zero => unfold w_draw_L81 at w; exact w.elim
    | succ m =>
      unfold v_draw_L81 at h
      unfold w_draw_L81 at w
      replace h := h.2
      replace w := w.2
      rcases h with ⟨c, h⟩ | ⟨c, h⟩
      · replace w := w.1 c
        obtain ⟨v9, e9, h⟩ := h
        replace w := w v9 e9
        exact hk38 _ _ h w
      · replace w := w.2 c
        replace h := h.2
        replace w := w.2
        replace h := h.2
        replace w := w.2
        obtain ⟨v9, e9, h⟩ := h
        replace w := w v9 e9
        obtain ⟨v9, e9, h⟩ := h
        replace w := w v9 e9
        exact ih m hk38 h w
set_option maxRecDepth 100000 in
theorem vw_draw_J78 {uo : MS} {k38 k38v : MS → Int32 → Prop} {U78 : MS} {v78_3 : Int32} (hk38 : ∀ (u : MS) (z0 : Int32), k38v u z0 → k38 u z0) (h : v_draw_J78 uo k38v U78 v78_3) : w_draw_J78 (fun u => u = uo) k38 U78 v78_3 := by
  unfold v_draw_J78 at h
  unfold w_draw_J78
  obtain ⟨n9, h⟩ := h
  exact ⟨n9, vw_draw_L81 n9 hk38 h⟩
set_option maxRecDepth 100000 in
theorem vz_draw_J78 {uo : MS} {Q : MS → Prop} {k38 k38v : MS → Int32 → Prop} {U78 : MS} {v78_3 : Int32} (hk38 : ∀ (u : MS) (z0 : Int32), k38v u z0 → k38 u z0 → Q uo) (h : v_draw_J78 uo k38v U78 v78_3) (w : w_draw_J78 Q k38 U78 v78_3) : Q uo := by
  unfold v_draw_J78 at h
  unfold w_draw_J78 at w
  obtain ⟨n9, h⟩ := h
  obtain ⟨n8, w⟩ := w
  exact vz_draw_L81 n9 n8 hk38 h w
set_option maxRecDepth 100000 in
theorem vw_draw_J69 {uo : MS} {k38 k38v : MS → Int32 → Prop} {U69 : MS} {v69_3 : Int32} (hk38 : ∀ (u : MS) (z0 : Int32), k38v u z0 → k38 u z0) (h : v_draw_J69 uo k38v U69 v69_3) : w_draw_J69 (fun u => u = uo) k38 U69 v69_3 := by
  unfold v_draw_J69 at h
  unfold w_draw_J69
  obtain ⟨g9, h⟩ := h
  refine ⟨g9, ?_⟩
  obtain ⟨v9, e9, h⟩ := h
  intro x9 d9
  have c9 : v9 = x9 := e9.trans d9.symm
  subst c9
  exact vw_draw_J78 hk38 h
set_option maxRecDepth 100000 in
theorem vz_draw_J69 {uo : MS} {Q : MS → Prop} {k38 k38v : MS → Int32 → Prop} {U69 : MS} {v69_3 : Int32} (hk38 : ∀ (u : MS) (z0 : Int32), k38v u z0 → k38 u z0 → Q uo) (h : v_draw_J69 uo k38v U69 v69_3) (w : w_draw_J69 Q k38 U69 v69_3) : Q uo := by
  unfold v_draw_J69 at h
  unfold w_draw_J69 at w
  replace h := h.2
  replace w := w.2
  obtain ⟨v9, e9, h⟩ := h
  replace w := w v9 e9
  exact vz_draw_J78 hk38 h w
set_option maxRecDepth 100000 in
theorem vw_draw_L167 {uo : MS} : ∀ (n : Nat) {U167 : MS} {v167_3 : Int32}, v_draw_L167 uo n U167 v167_3 → w_draw_L167 (fun u => u = uo) n U167 v167_3 := by
  intro n
  induction n with
  | zero => intro U167 v167_3 h; unfold v_draw_L167 at h; exact h.elim
  | succ n ih =>
    intro U167 v167_3 h
    unfold v_draw_L167 at h
    unfold w_draw_L167
    rcases h with ⟨c, h⟩ | ⟨c, h⟩
    · refine ⟨fun _ => ?_, fun c2 => absurd c c2⟩
      obtain ⟨g9, h⟩ := h
      refine ⟨g9, ?_⟩
      obtain ⟨v9, e9, h⟩ := h
      intro x9 d9
      have c9 : v9 = x9 := e9.trans d9.symm
      subst c9
      obtain ⟨q9, z9, h⟩ := h
      refine ⟨_, vw_edges z9, ?_⟩
      intro q8 d9
      subst d9
      obtain ⟨q9, z9, h⟩ := h
      refine ⟨_, vw_reach z9, ?_⟩
      intro q8 d9
      subst d9
      exact h.symm
    · refine ⟨fun c2 => absurd c2 c, fun _ => ?_⟩
      obtain ⟨g9, h⟩ := h
      refine ⟨g9, ?_⟩
      rcases h with ⟨c, h⟩ | ⟨c, h⟩
      · refine ⟨fun _ => ?_, fun c2 => absurd c c2⟩
        obtain ⟨g9, h⟩ := h
        refine ⟨g9, ?_⟩
        obtain ⟨v9, e9, h⟩ := h
        intro x9 d9
        have c9 : v9 = x9 := e9.trans d9.symm
        subst c9
        obtain ⟨v9, e9, h⟩ := h
        intro x9 d9
        have c9 : v9 = x9 := e9.trans d9.symm
        subst c9
        exact vw_draw_J205 (fun _ _ h => ih h) h
      · refine ⟨fun c2 => absurd c2 c, fun _ => ?_⟩
        exact vw_draw_J205 (fun _ _ h => ih h) h
set_option maxRecDepth 100000 in
theorem vz_draw_L167 {uo : MS} {Q : MS → Prop} : ∀ (n m : Nat) {U167 : MS} {v167_3 : Int32}, v_draw_L167 uo n U167 v167_3 → w_draw_L167 Q m U167 v167_3 → Q uo := by
  intro n
  induction n with
  | zero => intro m U167 v167_3 h; unfold v_draw_L167 at h; exact h.elim
  | succ n ih =>
    intro m U167 v167_3 h w
    cases m with
    | zero => unfold w_draw_L167 at w; exact w.elim
    | succ m =>
      unfold v_draw_L167 at h
      unfold w_draw_L167 at w
      rcases h with ⟨c, h⟩ | ⟨c, h⟩
      · replace w := w.1 c
        replace h := h.2
        replace w := w.2
        obtain ⟨v9, e9, h⟩ := h
        replace w := w v9 e9
        obtain ⟨q9, z9, h⟩ := h
        obtain ⟨Q9, w0, w⟩ := w
        replace w := w q9 (vz_edges z9 w0)
        obtain ⟨q9, z9, h⟩ := h
        obtain ⟨Q9, w0, w⟩ := w
        replace w := w q9 (vz_reach z9 w0)
        rw [h]
        exact w
      · replace w := w.2 c
        replace h := h.2
        replace w := w.2
        rcases h with ⟨c, h⟩ | ⟨c, h⟩
        · replace w := w.1 c
          replace h := h.2
          replace w := w.2
          obtain ⟨v9, e9, h⟩ := h
          replace w := w v9 e9
          obtain ⟨v9, e9, h⟩ := h
          replace w := w v9 e9
          exact vz_draw_J205 (fun _ _ h w => ih m h w) h w
        · replace w := w.2 c
          exact vz_draw_J205 (fun _ _ h w => ih m h w) h w
set_option maxRecDepth 100000 in
theorem vw_draw_L129 {uo : MS} {k118 k118v : MS → Int32 → Prop} : ∀ (n : Nat) {U129 : MS} {v129_3 : Int32} {v129_4 : Int32} (hk118 : ∀ (u : MS) (z0 : Int32), k118v u z0 → k118 u z0), v_draw_L129 uo k118v n U129 v129_3 v129_4 → w_draw_L129 (fun u => u = uo) k118 n U129 v129_3 v129_4 := by
  intro n
  induction n with
  | zero => intro U129 v129_3 v129_4 hk118 h; unfold v_draw_L129 at h; exact h.elim
  | succ n ih =>
    intro U129 v129_3 v129_4 hk118 h
    unfold v_draw_L129 at h
    unfold w_draw_L129
    rcases h with ⟨c, h⟩ | ⟨c, h⟩
    · refine ⟨fun _ => ?_, fun c2 => absurd c c2⟩
      obtain ⟨v9, e9, h⟩ := h
      intro x9 d9
      have c9 : v9 = x9 := e9.trans d9.symm
      subst c9
      exact hk118 _ _ h
    · refine ⟨fun c2 => absurd c2 c, fun _ => ?_⟩
      obtain ⟨g9, h⟩ := h
      refine ⟨g9, ?_⟩
      obtain ⟨g9, h⟩ := h
      refine ⟨g9, ?_⟩
      obtain ⟨v9, e9, h⟩ := h
      intro x9 d9
      have c9 : v9 = x9 := e9.trans d9.symm
      subst c9
      obtain ⟨v9, e9, h⟩ := h
      intro x9 d9
      have c9 : v9 = x9 := e9.trans d9.symm
      subst c9
      exact ih hk118 h
set_option maxRecDepth 100000 in
theorem vz_draw_L129 {uo : MS} {Q : MS → Prop} {k118 k118v : MS → Int32 → Prop} : ∀ (n m : Nat) {U129 : MS} {v129_3 : Int32} {v129_4 : Int32} (hk118 : ∀ (u : MS) (z0 : Int32), k118v u z0 → k118 u z0 → Q uo), v_draw_L129 uo k118v n U129 v129_3 v129_4 → w_draw_L129 Q k118 m U129 v129_3 v129_4 → Q uo := by
  intro n
  induction n with
  | zero => intro m U129 v129_3 v129_4 hk118 h; unfold v_draw_L129 at h; exact h.elim
  | succ n ih =>
    intro m U129 v129_3 v129_4 hk118 h w
    cases m with
    | zero => unfold w_draw_L129 at w; exact w.elim
    | succ m =>
      unfold v_draw_L129 at h
      unfold w_draw_L129 at w
      rcases h with ⟨c, h⟩ | ⟨c, h⟩
      · replace w := w.1 c
        obtain ⟨v9, e9, h⟩ := h
        replace w := w v9 e9
        exact hk118 _ _ h w
      · replace w := w.2 c
        replace h := h.2
        replace w := w.2
        replace h := h.2
        replace w := w.2
        obtain ⟨v9, e9, h⟩ := h
        replace w := w v9 e9
        obtain ⟨v9, e9, h⟩ := h
        replace w := w v9 e9
        exact ih m hk118 h w
set_option maxRecDepth 100000 in
theorem vw_draw_L118 {uo : MS} : ∀ (n : Nat) {U118 : MS} {v118_3 : Int32}, v_draw_L118 uo n U118 v118_3 → w_draw_L118 (fun u => u = uo) n U118 v118_3 := by
  intro n
  induction n with
  | zero => intro U118 v118_3 h; unfold v_draw_L118 at h; exact h.elim
  | succ n ih =>
    intro U118 v118_3 h
    unfold v_draw_L118 at h
    unfold w_draw_L118
    rcases h with ⟨c, h⟩ | ⟨c, h⟩
    · refine ⟨fun _ => ?_, fun c2 => absurd c c2⟩
      obtain ⟨v9, e9, h⟩ := h
      intro x9 d9
      have c9 : v9 = x9 := e9.trans d9.symm
      subst c9
      obtain ⟨n9, h⟩ := h
      exact ⟨n9, vw_draw_L167 n9 h⟩
    · refine ⟨fun c2 => absurd c2 c, fun _ => ?_⟩
      obtain ⟨n9, h⟩ := h
      exact ⟨n9, vw_draw_L129 n9 (fun _ _ h => ih h) h⟩
set_option maxRecDepth 100000 in
theorem vz_draw_L118 {uo : MS} {Q : MS → Prop} : ∀ (n m : Nat) {U118 : MS} {v118_3 : Int32}, v_draw_L118 uo n U118 v118_3 → w_draw_L118 Q m U118 v118_3 → Q uo := by
  intro n
  induction n with
  | zero => intro m U118 v118_3 h; unfold v_draw_L118 at h; exact h.elim
  | succ n ih =>
    intro m U118 v118_3 h w
    cases m with
    | zero => unfold w_draw_L118 at w; exact w.elim
    | succ m =>
      unfold v_draw_L118 at h
      unfold w_draw_L118 at w
      rcases h with ⟨c, h⟩ | ⟨c, h⟩
      · replace w := w.1 c
        obtain ⟨v9, e9, h⟩ := h
        replace w := w v9 e9
        obtain ⟨n9, h⟩ := h
        obtain ⟨n8, w⟩ := w
        exact vz_draw_L167 n9 n8 h w
      · replace w := w.2 c
        obtain ⟨n9, h⟩ := h
        obtain ⟨n8, w⟩ := w
        exact vz_draw_L129 n9 n8 (fun _ _ h w => ih m h w) h w
set_option maxRecDepth 100000 in
theorem vw_draw_L38 {uo : MS} : ∀ (n : Nat) {U38 : MS} {v38_3 : Int32}, v_draw_L38 uo n U38 v38_3 → w_draw_L38 (fun u => u = uo) n U38 v38_3 := by
  intro n
  induction n with
  | zero => intro U38 v38_3 h; unfold v_draw_L38 at h; exact h.elim
  | succ n ih =>
    intro U38 v38_3 h
    unfold v_draw_L38 at h
    unfold w_draw_L38
    rcases h with ⟨c, h⟩ | ⟨c, h⟩
    · refine ⟨fun _ => ?_, fun c2 => absurd c c2⟩
      obtain ⟨n9, h⟩ := h
      exact ⟨n9, vw_draw_L118 n9 h⟩
    · refine ⟨fun c2 => absurd c2 c, fun _ => ?_⟩
      obtain ⟨g9, h⟩ := h
      refine ⟨g9, ?_⟩
      obtain ⟨v9, e9, h⟩ := h
      intro x9 d9
      have c9 : v9 = x9 := e9.trans d9.symm
      subst c9
      obtain ⟨g9, h⟩ := h
      refine ⟨g9, ?_⟩
      rcases h with ⟨c, h⟩ | ⟨c, h⟩
      · refine ⟨fun _ => ?_, fun c2 => absurd c c2⟩
        obtain ⟨g9, h⟩ := h
        refine ⟨g9, ?_⟩
        rcases h with ⟨c, h⟩ | ⟨c, h⟩
        · refine ⟨fun _ => ?_, fun c2 => absurd c c2⟩
          exact vw_draw_J69 (fun _ _ h => ih h) h
        · refine ⟨fun c2 => absurd c2 c, fun _ => ?_⟩
          exact vw_draw_J78 (fun _ _ h => ih h) h
      · refine ⟨fun c2 => absurd c2 c, fun _ => ?_⟩
        exact vw_draw_J69 (fun _ _ h => ih h) h
set_option maxRecDepth 100000 in
theorem vz_draw_L38 {uo : MS} {Q : MS → Prop} : ∀ (n m : Nat) {U38 : MS} {v38_3 : Int32}, v_draw_L38 uo n U38 v38_3 → w_draw_L38 Q m U38 v38_3 → Q uo := by
  intro n
  induction n with
  | zero => intro m U38 v38_3 h; unfold v_draw_L38 at h; exact h.elim
  | succ n ih =>
    intro m U38 v38_3 h w
    cases m with
    | zero => unfold w_draw_L38 at w; exact w.elim
    | succ m =>
      unfold v_draw_L38 at h
      unfold w_draw_L38 at w
      rcases h with ⟨c, h⟩ | ⟨c, h⟩
      · replace w := w.1 c
        obtain ⟨n9, h⟩ := h
        obtain ⟨n8, w⟩ := w
        exact vz_draw_L118 n9 n8 h w
      · replace w := w.2 c
        replace h := h.2
        replace w := w.2
        obtain ⟨v9, e9, h⟩ := h
        replace w := w v9 e9
        replace h := h.2
        replace w := w.2
        rcases h with ⟨c, h⟩ | ⟨c, h⟩
        · replace w := w.1 c
          replace h := h.2
          replace w := w.2
          rcases h with ⟨c, h⟩ | ⟨c, h⟩
          · replace w := w.1 c
            exact vz_draw_J69 (fun _ _ h w => ih m h w) h w
          · replace w := w.2 c
            exact vz_draw_J78 (fun _ _ h w => ih m h w) h w
        · replace w := w.2 c
          exact vz_draw_J69 (fun _ _ h w => ih m h w) h w
set_option maxRecDepth 100000 in
theorem vw_draw_L8 {uo : MS} : ∀ (n : Nat) {U8 : MS} {v8_3 : Int32}, v_draw_L8 uo n U8 v8_3 → w_draw_L8 (fun u => u = uo) n U8 v8_3 := by
  intro n
  induction n with
  | zero => intro U8 v8_3 h; unfold v_draw_L8 at h; exact h.elim
  | succ n ih =>
    intro U8 v8_3 h
    unfold v_draw_L8 at h
    unfold w_draw_L8
    rcases h with ⟨c, h⟩ | ⟨c, h⟩
    · refine ⟨fun _ => ?_, fun c2 => absurd c c2⟩
      obtain ⟨v9, e9, h⟩ := h
      intro x9 d9
      have c9 : v9 = x9 := e9.trans d9.symm
      subst c9
      obtain ⟨n9, h⟩ := h
      exact ⟨n9, vw_draw_L38 n9 h⟩
    · refine ⟨fun c2 => absurd c2 c, fun _ => ?_⟩
      obtain ⟨g9, h⟩ := h
      refine ⟨g9, ?_⟩
      obtain ⟨v9, e9, h⟩ := h
      intro x9 d9
      have c9 : v9 = x9 := e9.trans d9.symm
      subst c9
      obtain ⟨v9, e9, h⟩ := h
      intro x9 d9
      have c9 : v9 = x9 := e9.trans d9.symm
      subst c9
      exact ih h
set_option maxRecDepth 100000 in
theorem vz_draw_L8 {uo : MS} {Q : MS → Prop} : ∀ (n m : Nat) {U8 : MS} {v8_3 : Int32}, v_draw_L8 uo n U8 v8_3 → w_draw_L8 Q m U8 v8_3 → Q uo := by
  intro n
  induction n with
  | zero => intro m U8 v8_3 h; unfold v_draw_L8 at h; exact h.elim
  | succ n ih =>
    intro m U8 v8_3 h w
    cases m with
    | zero => unfold w_draw_L8 at w; exact w.elim
    | succ m =>
      unfold v_draw_L8 at h
      unfold w_draw_L8 at w
      rcases h with ⟨c, h⟩ | ⟨c, h⟩
      · replace w := w.1 c
        obtain ⟨v9, e9, h⟩ := h
        replace w := w v9 e9
        obtain ⟨n9, h⟩ := h
        obtain ⟨n8, w⟩ := w
        exact vz_draw_L38 n9 n8 h w
      · replace w := w.2 c
        replace h := h.2
        replace w := w.2
        obtain ⟨v9, e9, h⟩ := h
        replace w := w v9 e9
        obtain ⟨v9, e9, h⟩ := h
        replace w := w v9 e9
        exact ih m h w
set_option maxRecDepth 100000 in
theorem vw_draw {S : MS} {p1 : Nat} {x2 : Int32} {uo : MS} (h : v_draw S p1 x2 uo) : w_draw S p1 x2 (fun u => u = uo) := by
  unfold v_draw at h
  unfold w_draw
  obtain ⟨q9, z9, h⟩ := h
  refine ⟨_, vw_look z9, ?_⟩
  intro q8 d9
  subst d9
  obtain ⟨n9, h⟩ := h
  exact ⟨n9, vw_draw_L8 n9 h⟩
set_option maxRecDepth 100000 in
theorem vz_draw {S : MS} {p1 : Nat} {x2 : Int32} {uo : MS} {Q : MS → Prop} (h : v_draw S p1 x2 uo) (w : w_draw S p1 x2 Q) : Q uo := by
  unfold v_draw at h
  unfold w_draw at w
  obtain ⟨q9, z9, h⟩ := h
  obtain ⟨Q9, w0, w⟩ := w
  replace w := w q9 (vz_look z9 w0)
  obtain ⟨n9, h⟩ := h
  obtain ⟨n8, w⟩ := w
  exact vz_draw_L8 n9 n8 h w
def v_loop_J294 (uo : MS) (k264 : MS → Int32 → Prop) (U294 : MS) (v294_4 : Int32) : Prop := (∃ a11 : Int32, a11 = (v294_4 + Int32.ofInt 1) ∧ (k264 U294 a11))
def v_loop_J252 (uo : MS) (k137 : MS → Int32 → Int32 → Int32 → Prop) (U252 : MS) (v252_1 : Int32) (v252_3 : Int32) (v252_4 : Int32) : Prop := (∃ a21 : Int32, a21 = (v252_4 + Int32.ofInt 1) ∧ (k137 U252 v252_1 v252_3 a21))
def v_loop_J251 (uo : MS) (k137 : MS → Int32 → Int32 → Int32 → Prop) (U251 : MS) (t251_0 : Int32) (v251_1 : Int32) (v251_4 : Int32) : Prop := (v_loop_J252 uo k137 U251 v251_1 t251_0 v251_4)
def v_loop_J246 (uo : MS) (k137 : MS → Int32 → Int32 → Int32 → Prop) (U246 : MS) (v246_1 : Int32) (v246_4 : Int32) : Prop := (v_loop_J251 uo k137 U246 1 v246_1 v246_4)
def v_loop_J226 (uo : MS) (k178 : MS → Int32 → Int32 → Int32 → Int32 → Prop) (U226 : MS) (v226_1 : Int32) (v226_3 : Int32) (v226_4 : Int32) (v226_5 : Int32) : Prop := (∃ a41 : Int32, a41 = (v226_5 + Int32.ofInt 1) ∧ (k178 U226 v226_1 v226_3 v226_4 a41))
def v_loop_J100 (uo : MS) (k4 : MS → Int32 → Int32 → Int32 → Prop) (U100 : MS) (t100_0 : Int32) (v100_1 : Int32) (v100_3 : Int32) : Prop := (∃ a55 : Int32, a55 = (v100_3 + Int32.ofInt 1) ∧ (k4 U100 v100_1 t100_0 a55))
def v_loop_J95 (uo : MS) (k4 : MS → Int32 → Int32 → Int32 → Prop) (U95 : MS) (v95_1 : Int32) (v95_3 : Int32) : Prop := (v_loop_J100 uo k4 U95 1 v95_1 v95_3)
def v_loop_J82 (uo : MS) (k4 : MS → Int32 → Int32 → Int32 → Prop) (U82 : MS) (v82_1 : Int32) (v82_2 : Int32) (v82_3 : Int32) : Prop := ((v82_2.toInt = 0 ∧ (((0 : Int) ≤ v82_3.toInt ∧ v82_3.toInt < 1200) ∧ (((qI U82 58 v82_3.toInt.toNat).toInt = 0 ∧ (v_loop_J100 uo k4 U82 0 v82_1 v82_3)) ∨ (¬ (qI U82 58 v82_3.toInt.toNat).toInt = 0 ∧ (v_loop_J95 uo k4 U82 v82_1 v82_3))))) ∨ (¬ v82_2.toInt = 0 ∧ (v_loop_J95 uo k4 U82 v82_1 v82_3)))
def v_loop_J76 (uo : MS) (k27 : MS → Int32 → Int32 → Int32 → Int32 → Prop) (U76 : MS) (v76_1 : Int32) (v76_2 : Int32) (v76_3 : Int32) (v76_4 : Int32) : Prop := (∃ a67 : Int32, a67 = (v76_4 + Int32.ofInt 1) ∧ (k27 U76 v76_1 v76_2 v76_3 a67))
def v_loop_L264 (uo : MS) : Nat → MS → Int32 → Prop
  | 0, _, _ => False
  | n264 + 1, U264, v264_4 => (((qI U264 0 105).toInt ≤ v264_4.toInt ∧ (uo = U264)) ∨ (¬ (qI U264 0 105).toInt ≤ v264_4.toInt ∧ (((0 : Int) ≤ v264_4.toInt ∧ v264_4.toInt < 1200) ∧ (((qI U264 58 v264_4.toInt.toNat).toInt = 0 ∧ (v_loop_J294 uo (v_loop_L264 uo n264) U264 v264_4)) ∨ (¬ (qI U264 58 v264_4.toInt.toNat).toInt = 0 ∧ (((0 : Int) ≤ v264_4.toInt ∧ v264_4.toInt < 1200) ∧ (((0 : Int) ≤ v264_4.toInt ∧ v264_4.toInt < 1200) ∧ (∃ S17 : MS, S17 = wI U264 57 v264_4.toInt.toNat ((qI U264 57 v264_4.toInt.toNat) + (1 : Int32)) ∧ (v_loop_J294 uo (v_loop_L264 uo n264) S17 v264_4)))))))))
def v_loop_L178 (uo : MS) (k137 : MS → Int32 → Int32 → Int32 → Prop) : Nat → MS → Int32 → Int32 → Int32 → Int32 → Prop
  | 0, _, _, _, _, _ => False
  | n178 + 1, U178, v178_1, v178_3, v178_4, v178_5 => (((0 : Int) ≤ (v178_4 + (1 : Int32)).toInt ∧ (v178_4 + (1 : Int32)).toInt < 1202) ∧ (((qI U178 51 (((v178_4 + (1 : Int32)).toInt).toNat)).toInt ≤ v178_5.toInt ∧ ((v178_3.toInt = 0 ∧ (((0 : Int) ≤ v178_4.toInt ∧ v178_4.toInt < 1200) ∧ (((qI U178 58 v178_4.toInt.toNat).toInt = 0 ∧ (v_loop_J251 uo k137 U178 0 v178_1 v178_4)) ∨ (¬ (qI U178 58 v178_4.toInt.toNat).toInt = 0 ∧ (v_loop_J246 uo k137 U178 v178_1 v178_4))))) ∨ (¬ v178_3.toInt = 0 ∧ (v_loop_J246 uo k137 U178 v178_1 v178_4)))) ∨ (¬ (qI U178 51 (((v178_4 + (1 : Int32)).toInt).toNat)).toInt ≤ v178_5.toInt ∧ (((0 : Int) ≤ v178_5.toInt ∧ v178_5.toInt < 24000) ∧ (((0 : Int) ≤ (qI U178 52 v178_5.toInt.toNat).toInt ∧ (qI U178 52 v178_5.toInt.toNat).toInt < 1200) ∧ (((qI U178 58 (((qI U178 52 v178_5.toInt.toNat).toInt).toNat)).toInt = 0 ∧ (v_loop_J226 uo (v_loop_L178 uo k137 n178) U178 v178_1 v178_3 v178_4 v178_5)) ∨ (¬ (qI U178 58 (((qI U178 52 v178_5.toInt.toNat).toInt).toNat)).toInt = 0 ∧ (((0 : Int) ≤ v178_5.toInt ∧ v178_5.toInt < 24000) ∧ (((qI U178 52 v178_5.toInt.toNat).toInt = v178_1.toInt ∧ (v_loop_J226 uo (v_loop_L178 uo k137 n178) U178 v178_1 v178_3 v178_4 v178_5)) ∨ (¬ (qI U178 52 v178_5.toInt.toNat).toInt = v178_1.toInt ∧ (((0 : Int) ≤ v178_4.toInt ∧ v178_4.toInt < 1200) ∧ (∃ S47 : MS, S47 = wI U178 58 v178_4.toInt.toNat (vp_nar .boolean (1 : Int32)) ∧ (v_loop_J226 uo (v_loop_L178 uo k137 n178) S47 v178_1 v178_3 v178_4 v178_5)))))))))))))
def v_loop_L137 (uo : MS) (k128 : MS → Int32 → Int32 → Prop) : Nat → MS → Int32 → Int32 → Int32 → Prop
  | 0, _, _, _, _ => False
  | n137 + 1, U137, v137_1, v137_3, v137_4 => (((qI U137 0 105).toInt ≤ v137_4.toInt ∧ (k128 U137 v137_1 v137_3)) ∨ (¬ (qI U137 0 105).toInt ≤ v137_4.toInt ∧ (((0 : Int) ≤ v137_4.toInt ∧ v137_4.toInt < 1200) ∧ (((qI U137 58 v137_4.toInt.toNat).toInt = 0 ∧ (((0 : Int) ≤ v137_4.toInt ∧ v137_4.toInt < 1200) ∧ (((qI U137 53 v137_4.toInt.toNat).toInt = 0 ∧ (v_loop_J252 uo (v_loop_L137 uo k128 n137) U137 v137_1 v137_3 v137_4)) ∨ (¬ (qI U137 53 v137_4.toInt.toNat).toInt = 0 ∧ (((0 : Int) ≤ v137_4.toInt ∧ v137_4.toInt < 1202) ∧ (∃ a28 : Int32, a28 = (qI U137 51 v137_4.toInt.toNat) ∧ (∃ n, v_loop_L178 uo (v_loop_L137 uo k128 n137) n U137 v137_1 v137_3 v137_4 a28))))))) ∨ (¬ (qI U137 58 v137_4.toInt.toNat).toInt = 0 ∧ (v_loop_J252 uo (v_loop_L137 uo k128 n137) U137 v137_1 v137_3 v137_4))))))
def v_loop_L128 (uo : MS) : Nat → MS → Int32 → Int32 → Prop
  | 0, _, _, _ => False
  | n128 + 1, U128, v128_1, v128_3 => ((v128_3.toInt = 0 ∧ (∃ n, v_loop_L264 uo n U128 0)) ∨ (¬ v128_3.toInt = 0 ∧ (∃ n, v_loop_L137 uo (v_loop_L128 uo n128) n U128 v128_1 0 0)))
def v_loop_L27 (uo : MS) (k4 : MS → Int32 → Int32 → Int32 → Prop) : Nat → MS → Int32 → Int32 → Int32 → Int32 → Prop
  | 0, _, _, _, _, _ => False
  | n27 + 1, U27, v27_1, v27_2, v27_3, v27_4 => (((0 : Int) ≤ v27_3.toInt ∧ v27_3.toInt < 1200) ∧ (((qI U27 53 v27_3.toInt.toNat).toInt = 0 ∧ (v_loop_J82 uo k4 U27 v27_1 v27_2 v27_3)) ∨ (¬ (qI U27 53 v27_3.toInt.toNat).toInt = 0 ∧ (((0 : Int) ≤ (v27_3 + (1 : Int32)).toInt ∧ (v27_3 + (1 : Int32)).toInt < 1202) ∧ (((qI U27 51 (((v27_3 + (1 : Int32)).toInt).toNat)).toInt ≤ v27_4.toInt ∧ (v_loop_J82 uo k4 U27 v27_1 v27_2 v27_3)) ∨ (¬ (qI U27 51 (((v27_3 + (1 : Int32)).toInt).toNat)).toInt ≤ v27_4.toInt ∧ (((0 : Int) ≤ v27_4.toInt ∧ v27_4.toInt < 24000) ∧ (((qI U27 52 v27_4.toInt.toNat).toInt = v27_1.toInt ∧ (d_dominates U27 v27_1 v27_3 ∧ (((f_dominates U27 v27_1 v27_3).toInt = 0 ∧ (v_loop_J76 uo (v_loop_L27 uo k4 n27) U27 v27_1 v27_2 v27_3 v27_4)) ∨ (¬ (f_dominates U27 v27_1 v27_3).toInt = 0 ∧ (((0 : Int) ≤ v27_3.toInt ∧ v27_3.toInt < 1200) ∧ (∃ S74 : MS, S74 = wI U27 58 v27_3.toInt.toNat (vp_nar .boolean (1 : Int32)) ∧ (v_loop_J76 uo (v_loop_L27 uo k4 n27) S74 v27_1 v27_2 v27_3 v27_4))))))) ∨ (¬ (qI U27 52 v27_4.toInt.toNat).toInt = v27_1.toInt ∧ (v_loop_J76 uo (v_loop_L27 uo k4 n27) U27 v27_1 v27_2 v27_3 v27_4))))))))))
def v_loop_L4 (uo : MS) : Nat → MS → Int32 → Int32 → Int32 → Prop
  | 0, _, _, _, _ => False
  | n4 + 1, U4, v4_1, v4_2, v4_3 => (((qI U4 0 105).toInt ≤ v4_3.toInt ∧ ((v4_2.toInt = 0 ∧ (uo = U4)) ∨ (¬ v4_2.toInt = 0 ∧ (((0 : Int) ≤ v4_1.toInt ∧ v4_1.toInt < 1200) ∧ (∃ S4 : MS, S4 = wI U4 56 v4_1.toInt.toNat (vp_nar .boolean (1 : Int32)) ∧ (((0 : Int) ≤ v4_1.toInt ∧ v4_1.toInt < 1200) ∧ (∃ S6 : MS, S6 = wI S4 58 v4_1.toInt.toNat (vp_nar .boolean (1 : Int32)) ∧ (∃ n, v_loop_L128 uo n S6 v4_1 1)))))))) ∨ (¬ (qI U4 0 105).toInt ≤ v4_3.toInt ∧ (((0 : Int) ≤ v4_3.toInt ∧ v4_3.toInt < 1200) ∧ (∃ S49 : MS, S49 = wI U4 58 v4_3.toInt.toNat (vp_nar .boolean (0 : Int32)) ∧ (((0 : Int) ≤ v4_3.toInt ∧ v4_3.toInt < 1202) ∧ (∃ a52 : Int32, a52 = (qI S49 51 v4_3.toInt.toNat) ∧ (∃ n, v_loop_L27 uo (v_loop_L4 uo n4) n S49 v4_1 v4_2 v4_3 a52)))))))
def v_loop (S : MS) (x1 : Int32) (uo : MS) : Prop := (∃ n, v_loop_L4 uo n S x1 0 0)
set_option maxRecDepth 100000 in
theorem ru_loop_J294 {ι : Type} {P : MS → Prop} {Q : MS → Prop} {k264 : MS → Int32 → Prop} {k264v : ι → MS → MS → Int32 → Prop} {U294 : MS} {v294_4 : Int32} (i0 : ι) (hk264 : ∀ (u : MS) (z0 : Int32), k264 u z0 → (∀ (i : ι) (uo : MS), k264v i uo u z0 → P uo) → ∃ uo, P uo ∧ Q uo) (K : ∀ (i : ι) (uo : MS), v_loop_J294 uo (k264v i uo) U294 v294_4 → P uo) (h : w_loop_J294 Q k264 U294 v294_4) : ∃ uo, P uo ∧ Q uo := by
  unfold w_loop_J294 at h
  obtain ⟨a11, ea11⟩ : ∃ x9 : Int32, x9 = (v294_4 + Int32.ofInt 1) := ⟨_, rfl⟩
  replace h := h a11 ea11
  replace K := fun i uo z => K i uo ⟨a11, ea11, z⟩
  exact hk264 _ _ h K
set_option maxRecDepth 100000 in
theorem ru_loop_J252 {ι : Type} {P : MS → Prop} {Q : MS → Prop} {k137 : MS → Int32 → Int32 → Int32 → Prop} {k137v : ι → MS → MS → Int32 → Int32 → Int32 → Prop} {U252 : MS} {v252_1 : Int32} {v252_3 : Int32} {v252_4 : Int32} (i0 : ι) (hk137 : ∀ (u : MS) (z0 : Int32) (z1 : Int32) (z2 : Int32), k137 u z0 z1 z2 → (∀ (i : ι) (uo : MS), k137v i uo u z0 z1 z2 → P uo) → ∃ uo, P uo ∧ Q uo) (K : ∀ (i : ι) (uo : MS), v_loop_J252 uo (k137v i uo) U252 v252_1 v252_3 v252_4 → P uo) (h : w_loop_J252 Q k137 U252 v252_1 v252_3 v252_4) : ∃ uo, P uo ∧ Q uo := by
  unfold w_loop_J252 at h
  obtain ⟨a21, ea21⟩ : ∃ x9 : Int32, x9 = (v252_4 + Int32.ofInt 1) := ⟨_, rfl⟩
  replace h := h a21 ea21
  replace K := fun i uo z => K i uo ⟨a21, ea21, z⟩
  exact hk137 _ _ _ _ h K
set_option maxRecDepth 100000 in
theorem ru_loop_J251 {ι : Type} {P : MS → Prop} {Q : MS → Prop} {k137 : MS → Int32 → Int32 → Int32 → Prop} {k137v : ι → MS → MS → Int32 → Int32 → Int32 → Prop} {U251 : MS} {t251_0 : Int32} {v251_1 : Int32} {v251_4 : Int32} (i0 : ι) (hk137 : ∀ (u : MS) (z0 : Int32) (z1 : Int32) (z2 : Int32), k137 u z0 z1 z2 → (∀ (i : ι) (uo : MS), k137v i uo u z0 z1 z2 → P uo) → ∃ uo, P uo ∧ Q uo) (K : ∀ (i : ι) (uo : MS), v_loop_J251 uo (k137v i uo) U251 t251_0 v251_1 v251_4 → P uo) (h : w_loop_J251 Q k137 U251 t251_0 v251_1 v251_4) : ∃ uo, P uo ∧ Q uo := by
  unfold w_loop_J251 at h
  exact ru_loop_J252 i0 hk137 K h
set_option maxRecDepth 100000 in
theorem ru_loop_J246 {ι : Type} {P : MS → Prop} {Q : MS → Prop} {k137 : MS → Int32 → Int32 → Int32 → Prop} {k137v : ι → MS → MS → Int32 → Int32 → Int32 → Prop} {U246 : MS} {v246_1 : Int32} {v246_4 : Int32} (i0 : ι) (hk137 : ∀ (u : MS) (z0 : Int32) (z1 : Int32) (z2 : Int32), k137 u z0 z1 z2 → (∀ (i : ι) (uo : MS), k137v i uo u z0 z1 z2 → P uo) → ∃ uo, P uo ∧ Q uo) (K : ∀ (i : ι) (uo : MS), v_loop_J246 uo (k137v i uo) U246 v246_1 v246_4 → P uo) (h : w_loop_J246 Q k137 U246 v246_1 v246_4) : ∃ uo, P uo ∧ Q uo := by
  unfold w_loop_J246 at h
  exact ru_loop_J251 i0 hk137 K h
set_option maxRecDepth 100000 in
theorem ru_loop_J226 {ι : Type} {P : MS → Prop} {Q : MS → Prop} {k178 : MS → Int32 → Int32 → Int32 → Int32 → Prop} {k178v : ι → MS → MS → Int32 → Int32 → Int32 → Int32 → Prop} {U226 : MS} {v226_1 : Int32} {v226_3 : Int32} {v226_4 : Int32} {v226_5 : Int32} (i0 : ι) (hk178 : ∀ (u : MS) (z0 : Int32) (z1 : Int32) (z2 : Int32) (z3 : Int32), k178 u z0 z1 z2 z3 → (∀ (i : ι) (uo : MS), k178v i uo u z0 z1 z2 z3 → P uo) → ∃ uo, P uo ∧ Q uo) (K : ∀ (i : ι) (uo : MS), v_loop_J226 uo (k178v i uo) U226 v226_1 v226_3 v226_4 v226_5 → P uo) (h : w_loop_J226 Q k178 U226 v226_1 v226_3 v226_4 v226_5) : ∃ uo, P uo ∧ Q uo := by
  unfold w_loop_J226 at h
  obtain ⟨a41, ea41⟩ : ∃ x9 : Int32, x9 = (v226_5 + Int32.ofInt 1) := ⟨_, rfl⟩
  replace h := h a41 ea41
  replace K := fun i uo z => K i uo ⟨a41, ea41, z⟩
  exact hk178 _ _ _ _ _ h K
set_option maxRecDepth 100000 in
theorem ru_loop_J100 {ι : Type} {P : MS → Prop} {Q : MS → Prop} {k4 : MS → Int32 → Int32 → Int32 → Prop} {k4v : ι → MS → MS → Int32 → Int32 → Int32 → Prop} {U100 : MS} {t100_0 : Int32} {v100_1 : Int32} {v100_3 : Int32} (i0 : ι) (hk4 : ∀ (u : MS) (z0 : Int32) (z1 : Int32) (z2 : Int32), k4 u z0 z1 z2 → (∀ (i : ι) (uo : MS), k4v i uo u z0 z1 z2 → P uo) → ∃ uo, P uo ∧ Q uo) (K : ∀ (i : ι) (uo : MS), v_loop_J100 uo (k4v i uo) U100 t100_0 v100_1 v100_3 → P uo) (h : w_loop_J100 Q k4 U100 t100_0 v100_1 v100_3) : ∃ uo, P uo ∧ Q uo := by
  unfold w_loop_J100 at h
  obtain ⟨a55, ea55⟩ : ∃ x9 : Int32, x9 = (v100_3 + Int32.ofInt 1) := ⟨_, rfl⟩
  replace h := h a55 ea55
  replace K := fun i uo z => K i uo ⟨a55, ea55, z⟩
  exact hk4 _ _ _ _ h K
set_option maxRecDepth 100000 in
theorem ru_loop_J95 {ι : Type} {P : MS → Prop} {Q : MS → Prop} {k4 : MS → Int32 → Int32 → Int32 → Prop} {k4v : ι → MS → MS → Int32 → Int32 → Int32 → Prop} {U95 : MS} {v95_1 : Int32} {v95_3 : Int32} (i0 : ι) (hk4 : ∀ (u : MS) (z0 : Int32) (z1 : Int32) (z2 : Int32), k4 u z0 z1 z2 → (∀ (i : ι) (uo : MS), k4v i uo u z0 z1 z2 → P uo) → ∃ uo, P uo ∧ Q uo) (K : ∀ (i : ι) (uo : MS), v_loop_J95 uo (k4v i uo) U95 v95_1 v95_3 → P uo) (h : w_loop_J95 Q k4 U95 v95_1 v95_3) : ∃ uo, P uo ∧ Q uo := by
  unfold w_loop_J95 at h
  exact ru_loop_J100 i0 hk4 K h
set_option maxRecDepth 100000 in
theorem ru_loop_J82 {ι : Type} {P : MS → Prop} {Q : MS → Prop} {k4 : MS → Int32 → Int32 → Int32 → Prop} {k4v : ι → MS → MS → Int32 → Int32 → Int32 → Prop} {U82 : MS} {v82_1 : Int32} {v82_2 : Int32} {v82_3 : Int32} (i0 : ι) (hk4 : ∀ (u : MS) (z0 : Int32) (z1 : Int32) (z2 : Int32), k4 u z0 z1 z2 → (∀ (i : ι) (uo : MS), k4v i uo u z0 z1 z2 → P uo) → ∃ uo, P uo ∧ Q uo) (K : ∀ (i : ι) (uo : MS), v_loop_J82 uo (k4v i uo) U82 v82_1 v82_2 v82_3 → P uo) (h : w_loop_J82 Q k4 U82 v82_1 v82_2 v82_3) : ∃ uo, P uo ∧ Q uo := by
  unfold w_loop_J82 at h
  by_cases c : v82_2.toInt = 0
  · replace h := h.1 c
    replace K := fun i uo z => K i uo (Or.inl ⟨c, z⟩)
    obtain ⟨g1_, h⟩ := h
    replace K := fun i uo z => K i uo ⟨g1_, z⟩
    by_cases c : (qI U82 58 v82_3.toInt.toNat).toInt = 0
    · replace h := h.1 c
      replace K := fun i uo z => K i uo (Or.inl ⟨c, z⟩)
      exact ru_loop_J100 i0 hk4 K h
    · replace h := h.2 c
      replace K := fun i uo z => K i uo (Or.inr ⟨c, z⟩)
      exact ru_loop_J95 i0 hk4 K h
  · replace h := h.2 c
    replace K := fun i uo z => K i uo (Or.inr ⟨c, z⟩)
    exact ru_loop_J95 i0 hk4 K h
set_option maxRecDepth 100000 in
theorem ru_loop_J76 {ι : Type} {P : MS → Prop} {Q : MS → Prop} {k27 : MS → Int32 → Int32 → Int32 → Int32 → Prop} {k27v : ι → MS → MS → Int32 → Int32 → Int32 → Int32 → Prop} {U76 : MS} {v76_1 : Int32} {v76_2 : Int32} {v76_3 : Int32} {v76_4 : Int32} (i0 : ι) (hk27 : ∀ (u : MS) (z0 : Int32) (z1 : Int32) (z2 : Int32) (z3 : Int32), k27 u z0 z1 z2 z3 → (∀ (i : ι) (uo : MS), k27v i uo u z0 z1 z2 z3 → P uo) → ∃ uo, P uo ∧ Q uo) (K : ∀ (i : ι) (uo : MS), v_loop_J76 uo (k27v i uo) U76 v76_1 v76_2 v76_3 v76_4 → P uo) (h : w_loop_J76 Q k27 U76 v76_1 v76_2 v76_3 v76_4) : ∃ uo, P uo ∧ Q uo := by
  unfold w_loop_J76 at h
  obtain ⟨a67, ea67⟩ : ∃ x9 : Int32, x9 = (v76_4 + Int32.ofInt 1) := ⟨_, rfl⟩
  replace h := h a67 ea67
  replace K := fun i uo z => K i uo ⟨a67, ea67, z⟩
  exact hk27 _ _ _ _ _ h K
set_option maxRecDepth 100000 in
theorem ru_loop_L264 {ι : Type} {P : MS → Prop} {Q : MS → Prop} : ∀ (n : Nat) {U264 : MS} {v264_4 : Int32} (i0 : ι), (∀ (i : ι) (uo : MS), (∃ n8, v_loop_L264 uo n8 U264 v264_4) → P uo) → w_loop_L264 Q n U264 v264_4 → ∃ uo, P uo ∧ Q uo := by
  intro n
  induction n with
  | zero => intro U264 v264_4 i0 K h; unfold w_loop_L264 at h; exact h.elim
  | succ n ih =>
    intro U264 v264_4 i0 K h
    unfold w_loop_L264 at h
    replace K := fun (i : ι × Nat) uo (z : v_loop_L264 uo (i.2 + 1) U264 v264_4) => K i.1 uo ⟨i.2 + 1, z⟩
    have i00 := i0
    replace i0 : ι × Nat := (i0, 0)
    by_cases c : (qI U264 0 105).toInt ≤ v264_4.toInt
    · replace h := h.1 c
      replace K := fun i uo z => K i uo (Or.inl ⟨c, z⟩)
      exact ⟨_, K i0 _ rfl, h⟩
    · replace h := h.2 c
      replace K := fun i uo z => K i uo (Or.inr ⟨c, z⟩)
      obtain ⟨g2_, h⟩ := h
      replace K := fun i uo z => K i uo ⟨g2_, z⟩
      by_cases c : (qI U264 58 v264_4.toInt.toNat).toInt = 0
      · replace h := h.1 c
        replace K := fun i uo z => K i uo (Or.inl ⟨c, z⟩)
        exact ru_loop_J294 i0 (fun _ _ h K => ih i00 (fun i uo ⟨n8, z⟩ => K (i, n8) uo z) h) K h
      · replace h := h.2 c
        replace K := fun i uo z => K i uo (Or.inr ⟨c, z⟩)
        obtain ⟨g3_, h⟩ := h
        replace K := fun i uo z => K i uo ⟨g3_, z⟩
        obtain ⟨g4_, h⟩ := h
        replace K := fun i uo z => K i uo ⟨g4_, z⟩
        obtain ⟨S17, eS17⟩ : ∃ x9 : MS, x9 = wI U264 57 v264_4.toInt.toNat ((qI U264 57 v264_4.toInt.toNat) + (1 : Int32)) := ⟨_, rfl⟩
        replace h := h S17 eS17
        replace K := fun i uo z => K i uo ⟨S17, eS17, z⟩
        exact ru_loop_J294 i0 (fun _ _ h K => ih i00 (fun i uo ⟨n8, z⟩ => K (i, n8) uo z) h) K h
set_option maxRecDepth 100000 in
theorem ru_loop_L178 {ι : Type} {P : MS → Prop} {Q : MS → Prop} {k137 : MS → Int32 → Int32 → Int32 → Prop} {k137v : ι → MS → MS → Int32 → Int32 → Int32 → Prop} : ∀ (n : Nat) {U178 : MS} {v178_1 : Int32} {v178_3 : Int32} {v178_4 : Int32} {v178_5 : Int32} (i0 : ι) (hk137 : ∀ (u : MS) (z0 : Int32) (z1 : Int32) (z2 : Int32), k137 u z0 z1 z2 → (∀ (i : ι) (uo : MS), k137v i uo u z0 z1 z2 → P uo) → ∃ uo, P uo ∧ Q uo), (∀ (i : ι) (uo : MS), (∃ n8, v_loop_L178 uo (k137v i uo) n8 U178 v178_1 v178_3 v178_4 v178_5) → P uo) → w_loop_L178 Q k137 n U178 v178_1 v178_3 v178_4 v178_5 → ∃ uo, P uo ∧ Q uo := by
  intro n
  induction n with
  | zero => intro U178 v178_1 v178_3 v178_4 v178_5 i0 hk137 K h; unfold w_loop_L178 at h; exact h.elim
  | succ n ih =>
    intro U178 v178_1 v178_3 v178_4 v178_5 i0 hk137 K h
    unfold w_loop_L178 at h
    replace K := fun (i : ι × Nat) uo (z : v_loop_L178 uo (k137v i.1 uo) (i.2 + 1) U178 v178_1 v178_3 v178_4 v178_5) => K i.1 uo ⟨i.2 + 1, z⟩
    have i00 := i0
    replace i0 : ι × Nat := (i0, 0)
    obtain ⟨g5_, h⟩ := h
    replace K := fun i uo z => K i uo ⟨g5_, z⟩
    by_cases c : (qI U178 51 (((v178_4 + (1 : Int32)).toInt).toNat)).toInt ≤ v178_5.toInt
    · replace h := h.1 c
      replace K := fun i uo z => K i uo (Or.inl ⟨c, z⟩)
      by_cases c : v178_3.toInt = 0
      · replace h := h.1 c
        replace K := fun i uo z => K i uo (Or.inl ⟨c, z⟩)
        obtain ⟨g6_, h⟩ := h
        replace K := fun i uo z => K i uo ⟨g6_, z⟩
        by_cases c : (qI U178 58 v178_4.toInt.toNat).toInt = 0
        · replace h := h.1 c
          replace K := fun i uo z => K i uo (Or.inl ⟨c, z⟩)
          exact ru_loop_J251 i0 (fun _ _ _ _ h K => hk137 _ _ _ _ h (fun i uo z => K (i, 0) uo z)) K h
        · replace h := h.2 c
          replace K := fun i uo z => K i uo (Or.inr ⟨c, z⟩)
          exact ru_loop_J246 i0 (fun _ _ _ _ h K => hk137 _ _ _ _ h (fun i uo z => K (i, 0) uo z)) K h
      · replace h := h.2 c
        replace K := fun i uo z => K i uo (Or.inr ⟨c, z⟩)
        exact ru_loop_J246 i0 (fun _ _ _ _ h K => hk137 _ _ _ _ h (fun i uo z => K (i, 0) uo z)) K h
    · replace h := h.2 c
      replace K := fun i uo z => K i uo (Or.inr ⟨c, z⟩)
      obtain ⟨g7_, h⟩ := h
      replace K := fun i uo z => K i uo ⟨g7_, z⟩
      obtain ⟨g8_, h⟩ := h
      replace K := fun i uo z => K i uo ⟨g8_, z⟩
      by_cases c : (qI U178 58 (((qI U178 52 v178_5.toInt.toNat).toInt).toNat)).toInt = 0
      · replace h := h.1 c
        replace K := fun i uo z => K i uo (Or.inl ⟨c, z⟩)
        exact ru_loop_J226 i0 (fun _ _ _ _ _ h K => ih i00 hk137 (fun i uo ⟨n8, z⟩ => K (i, n8) uo z) h) K h
      · replace h := h.2 c
        replace K := fun i uo z => K i uo (Or.inr ⟨c, z⟩)
        obtain ⟨g9_, h⟩ := h
        replace K := fun i uo z => K i uo ⟨g9_, z⟩
        by_cases c : (qI U178 52 v178_5.toInt.toNat).toInt = v178_1.toInt
        · replace h := h.1 c
          replace K := fun i uo z => K i uo (Or.inl ⟨c, z⟩)
          exact ru_loop_J226 i0 (fun _ _ _ _ _ h K => ih i00 hk137 (fun i uo ⟨n8, z⟩ => K (i, n8) uo z) h) K h
        · replace h := h.2 c
          replace K := fun i uo z => K i uo (Or.inr ⟨c, z⟩)
          obtain ⟨g10_, h⟩ := h
          replace K := fun i uo z => K i uo ⟨g10_, z⟩
          obtain ⟨S47, eS47⟩ : ∃ x9 : MS, x9 = wI U178 58 v178_4.toInt.toNat (vp_nar .boolean (1 : Int32)) := ⟨_, rfl⟩
          replace h := h S47 eS47
          replace K := fun i uo z => K i uo ⟨S47, eS47, z⟩
          exact ru_loop_J226 i0 (fun _ _ _ _ _ h K => ih i00 hk137 (fun i uo ⟨n8, z⟩ => K (i, n8) uo z) h) K h
set_option maxRecDepth 100000 in
theorem ru_loop_L137 {ι : Type} {P : MS → Prop} {Q : MS → Prop} {k128 : MS → Int32 → Int32 → Prop} {k128v : ι → MS → MS → Int32 → Int32 → Prop} : ∀ (n : Nat) {U137 : MS} {v137_1 : Int32} {v137_3 : Int32} {v137_4 : Int32} (i0 : ι) (hk128 : ∀ (u : MS) (z0 : Int32) (z1 : Int32), k128 u z0 z1 → (∀ (i : ι) (uo : MS), k128v i uo u z0 z1 → P uo) → ∃ uo, P uo ∧ Q uo), (∀ (i : ι) (uo : MS), (∃ n8, v_loop_L137 uo (k128v i uo) n8 U137 v137_1 v137_3 v137_4) → P uo) → w_loop_L137 Q k128 n U137 v137_1 v137_3 v137_4 → ∃ uo, P uo ∧ Q uo := by
  intro n
  induction n with
  | zero => intro U137 v137_1 v137_3 v137_4 i0 hk128 K h; unfold w_loop_L137 at h; exact h.elim
  | succ n ih =>
    intro U137 v137_1 v137_3 v137_4 i0 hk128 K h
    unfold w_loop_L137 at h
    replace K := fun (i : ι × Nat) uo (z : v_loop_L137 uo (k128v i.1 uo) (i.2 + 1) U137 v137_1 v137_3 v137_4) => K i.1 uo ⟨i.2 + 1, z⟩
    have i00 := i0
    replace i0 : ι × Nat := (i0, 0)
    by_cases c : (qI U137 0 105).toInt ≤ v137_4.toInt
    · replace h := h.1 c
      replace K := fun i uo z => K i uo (Or.inl ⟨c, z⟩)
      exact hk128 _ _ _ h (fun i uo z => K (i, 0) uo z)
    · replace h := h.2 c
      replace K := fun i uo z => K i uo (Or.inr ⟨c, z⟩)
      obtain ⟨g11_, h⟩ := h
      replace K := fun i uo z => K i uo ⟨g11_, z⟩
      by_cases c : (qI U137 58 v137_4.toInt.toNat).toInt = 0
      · replace h := h.1 c
        replace K := fun i uo z => K i uo (Or.inl ⟨c, z⟩)
        obtain ⟨g12_, h⟩ := h
        replace K := fun i uo z => K i uo ⟨g12_, z⟩
        by_cases c : (qI U137 53 v137_4.toInt.toNat).toInt = 0
        · replace h := h.1 c
          replace K := fun i uo z => K i uo (Or.inl ⟨c, z⟩)
          exact ru_loop_J252 i0 (fun _ _ _ _ h K => ih i00 hk128 (fun i uo ⟨n8, z⟩ => K (i, n8) uo z) h) K h
        · replace h := h.2 c
          replace K := fun i uo z => K i uo (Or.inr ⟨c, z⟩)
          obtain ⟨g13_, h⟩ := h
          replace K := fun i uo z => K i uo ⟨g13_, z⟩
          obtain ⟨a28, ea28⟩ : ∃ x9 : Int32, x9 = (qI U137 51 v137_4.toInt.toNat) := ⟨_, rfl⟩
          replace h := h a28 ea28
          replace K := fun i uo z => K i uo ⟨a28, ea28, z⟩
          obtain ⟨n9, h⟩ := h
          exact ru_loop_L178 n9 i0 (fun _ _ _ _ h K => ih i00 hk128 (fun i uo ⟨n8, z⟩ => K (i, n8) uo z) h) K h
      · replace h := h.2 c
        replace K := fun i uo z => K i uo (Or.inr ⟨c, z⟩)
        exact ru_loop_J252 i0 (fun _ _ _ _ h K => ih i00 hk128 (fun i uo ⟨n8, z⟩ => K (i, n8) uo z) h) K h
set_option maxRecDepth 100000 in
theorem ru_loop_L128 {ι : Type} {P : MS → Prop} {Q : MS → Prop} : ∀ (n : Nat) {U128 : MS} {v128_1 : Int32} {v128_3 : Int32} (i0 : ι), (∀ (i : ι) (uo : MS), (∃ n8, v_loop_L128 uo n8 U128 v128_1 v128_3) → P uo) → w_loop_L128 Q n U128 v128_1 v128_3 → ∃ uo, P uo ∧ Q uo := by
  intro n
  induction n with
  | zero => intro U128 v128_1 v128_3 i0 K h; unfold w_loop_L128 at h; exact h.elim
  | succ n ih =>
    intro U128 v128_1 v128_3 i0 K h
    unfold w_loop_L128 at h
    replace K := fun (i : ι × Nat) uo (z : v_loop_L128 uo (i.2 + 1) U128 v128_1 v128_3) => K i.1 uo ⟨i.2 + 1, z⟩
    have i00 := i0
    replace i0 : ι × Nat := (i0, 0)
    by_cases c : v128_3.toInt = 0
    · replace h := h.1 c
      replace K := fun i uo z => K i uo (Or.inl ⟨c, z⟩)
      obtain ⟨n9, h⟩ := h
      exact ru_loop_L264 n9 i0 K h
    · replace h := h.2 c
      replace K := fun i uo z => K i uo (Or.inr ⟨c, z⟩)
      obtain ⟨n9, h⟩ := h
      exact ru_loop_L137 n9 i0 (fun _ _ _ h K => ih i00 (fun i uo ⟨n8, z⟩ => K (i, n8) uo z) h) K h
set_option maxRecDepth 100000 in
theorem ru_loop_L27 {ι : Type} {P : MS → Prop} {Q : MS → Prop} {k4 : MS → Int32 → Int32 → Int32 → Prop} {k4v : ι → MS → MS → Int32 → Int32 → Int32 → Prop} : ∀ (n : Nat) {U27 : MS} {v27_1 : Int32} {v27_2 : Int32} {v27_3 : Int32} {v27_4 : Int32} (i0 : ι) (hk4 : ∀ (u : MS) (z0 : Int32) (z1 : Int32) (z2 : Int32), k4 u z0 z1 z2 → (∀ (i : ι) (uo : MS), k4v i uo u z0 z1 z2 → P uo) → ∃ uo, P uo ∧ Q uo), (∀ (i : ι) (uo : MS), (∃ n8, v_loop_L27 uo (k4v i uo) n8 U27 v27_1 v27_2 v27_3 v27_4) → P uo) → w_loop_L27 Q k4 n U27 v27_1 v27_2 v27_3 v27_4 → ∃ uo, P uo ∧ Q uo := by
  intro n
  induction n with
  | zero => intro U27 v27_1 v27_2 v27_3 v27_4 i0 hk4 K h; unfold w_loop_L27 at h; exact h.elim
  | succ n ih =>
    intro U27 v27_1 v27_2 v27_3 v27_4 i0 hk4 K h
    unfold w_loop_L27 at h
    replace K := fun (i : ι × Nat) uo (z : v_loop_L27 uo (k4v i.1 uo) (i.2 + 1) U27 v27_1 v27_2 v27_3 v27_4) => K i.1 uo ⟨i.2 + 1, z⟩
    have i00 := i0
    replace i0 : ι × Nat := (i0, 0)
    obtain ⟨g14_, h⟩ := h
    replace K := fun i uo z => K i uo ⟨g14_, z⟩
    by_cases c : (qI U27 53 v27_3.toInt.toNat).toInt = 0
    · replace h := h.1 c
      replace K := fun i uo z => K i uo (Or.inl ⟨c, z⟩)
      exact ru_loop_J82 i0 (fun _ _ _ _ h K => hk4 _ _ _ _ h (fun i uo z => K (i, 0) uo z)) K h
    · replace h := h.2 c
      replace K := fun i uo z => K i uo (Or.inr ⟨c, z⟩)
      obtain ⟨g15_, h⟩ := h
      replace K := fun i uo z => K i uo ⟨g15_, z⟩
      by_cases c : (qI U27 51 (((v27_3 + (1 : Int32)).toInt).toNat)).toInt ≤ v27_4.toInt
      · replace h := h.1 c
        replace K := fun i uo z => K i uo (Or.inl ⟨c, z⟩)
        exact ru_loop_J82 i0 (fun _ _ _ _ h K => hk4 _ _ _ _ h (fun i uo z => K (i, 0) uo z)) K h
      · replace h := h.2 c
        replace K := fun i uo z => K i uo (Or.inr ⟨c, z⟩)
        obtain ⟨g16_, h⟩ := h
        replace K := fun i uo z => K i uo ⟨g16_, z⟩
        by_cases c : (qI U27 52 v27_4.toInt.toNat).toInt = v27_1.toInt
        · replace h := h.1 c
          replace K := fun i uo z => K i uo (Or.inl ⟨c, z⟩)
          obtain ⟨g17_, h⟩ := h
          replace K := fun i uo z => K i uo ⟨g17_, z⟩
          by_cases c : (f_dominates U27 v27_1 v27_3).toInt = 0
          · replace h := h.1 c
            replace K := fun i uo z => K i uo (Or.inl ⟨c, z⟩)
            exact ru_loop_J76 i0 (fun _ _ _ _ _ h K => ih i00 hk4 (fun i uo ⟨n8, z⟩ => K (i, n8) uo z) h) K h
          · replace h := h.2 c
            replace K := fun i uo z => K i uo (Or.inr ⟨c, z⟩)
            obtain ⟨g18_, h⟩ := h
            replace K := fun i uo z => K i uo ⟨g18_, z⟩
            obtain ⟨S74, eS74⟩ : ∃ x9 : MS, x9 = wI U27 58 v27_3.toInt.toNat (vp_nar .boolean (1 : Int32)) := ⟨_, rfl⟩
            replace h := h S74 eS74
            replace K := fun i uo z => K i uo ⟨S74, eS74, z⟩
            exact ru_loop_J76 i0 (fun _ _ _ _ _ h K => ih i00 hk4 (fun i uo ⟨n8, z⟩ => K (i, n8) uo z) h) K h
        · replace h := h.2 c
          replace K := fun i uo z => K i uo (Or.inr ⟨c, z⟩)
          exact ru_loop_J76 i0 (fun _ _ _ _ _ h K => ih i00 hk4 (fun i uo ⟨n8, z⟩ => K (i, n8) uo z) h) K h
set_option maxRecDepth 100000 in
theorem ru_loop_L4 {ι : Type} {P : MS → Prop} {Q : MS → Prop} : ∀ (n : Nat) {U4 : MS} {v4_1 : Int32} {v4_2 : Int32} {v4_3 : Int32} (i0 : ι), (∀ (i : ι) (uo : MS), (∃ n8, v_loop_L4 uo n8 U4 v4_1 v4_2 v4_3) → P uo) → w_loop_L4 Q n U4 v4_1 v4_2 v4_3 → ∃ uo, P uo ∧ Q uo := by
  intro n
  induction n with
  | zero => intro U4 v4_1 v4_2 v4_3 i0 K h; unfold w_loop_L4 at h; exact h.elim
  | succ n ih =>
    intro U4 v4_1 v4_2 v4_3 i0 K h
    unfold w_loop_L4 at h
    replace K := fun (i : ι × Nat) uo (z : v_loop_L4 uo (i.2 + 1) U4 v4_1 v4_2 v4_3) => K i.1 uo ⟨i.2 + 1, z⟩
    have i00 := i0
    replace i0 : ι × Nat := (i0, 0)
    by_cases c : (qI U4 0 105).toInt ≤ v4_3.toInt
    · replace h := h.1 c
      replace K := fun i uo z => K i uo (Or.inl ⟨c, z⟩)
      by_cases c : v4_2.toInt = 0
      · replace h := h.1 c
        replace K := fun i uo z => K i uo (Or.inl ⟨c, z⟩)
        exact ⟨_, K i0 _ rfl, h⟩
      · replace h := h.2 c
        replace K := fun i uo z => K i uo (Or.inr ⟨c, z⟩)
        obtain ⟨g19_, h⟩ := h
        replace K := fun i uo z => K i uo ⟨g19_, z⟩
        obtain ⟨S4, eS4⟩ : ∃ x9 : MS, x9 = wI U4 56 v4_1.toInt.toNat (vp_nar .boolean (1 : Int32)) := ⟨_, rfl⟩
        replace h := h S4 eS4
        replace K := fun i uo z => K i uo ⟨S4, eS4, z⟩
        obtain ⟨g20_, h⟩ := h
        replace K := fun i uo z => K i uo ⟨g20_, z⟩
        obtain ⟨S6, eS6⟩ : ∃ x9 : MS, x9 = wI S4 58 v4_1.toInt.toNat (vp_nar .boolean (1 : Int32)) := ⟨_, rfl⟩
        replace h := h S6 eS6
        replace K := fun i uo z => K i uo ⟨S6, eS6, z⟩
        obtain ⟨n9, h⟩ := h
        exact ru_loop_L128 n9 i0 K h
    · replace h := h.2 c
      replace K := fun i uo z => K i uo (Or.inr ⟨c, z⟩)
      obtain ⟨g21_, h⟩ := h
      replace K := fun i uo z => K i uo ⟨g21_, z⟩
      obtain ⟨S49, eS49⟩ : ∃ x9 : MS, x9 = wI U4 58 v4_3.toInt.toNat (vp_nar .boolean (0 : Int32)) := ⟨_, rfl⟩
      replace h := h S49 eS49
      replace K := fun i uo z => K i uo ⟨S49, eS49, z⟩
      obtain ⟨g22_, h⟩ := h
      replace K := fun i uo z => K i uo ⟨g22_, z⟩
      obtain ⟨a52, ea52⟩ : ∃ x9 : Int32, x9 = (qI S49 51 v4_3.toInt.toNat) := ⟨_, rfl⟩
      replace h := h a52 ea52
      replace K := fun i uo z => K i uo ⟨a52, ea52, z⟩
      obtain ⟨n9, h⟩ := h
      exact ru_loop_L27 n9 i0 (fun _ _ _ _ h K => ih i00 (fun i uo ⟨n8, z⟩ => K (i, n8) uo z) h) K h
set_option maxRecDepth 100000 in
theorem ru_loop {S : MS} {x1 : Int32} {Q : MS → Prop} (h : w_loop S x1 Q) : ∃ uo, v_loop S x1 uo ∧ Q uo := by
  have i0 : Unit := ()
  have K : ∀ (i : Unit) (uo : MS), v_loop S x1 uo → v_loop S x1 uo := fun _ _ z => z
  unfold w_loop at h
  obtain ⟨n9, h⟩ := h
  exact ru_loop_L4 n9 i0 K h
set_option maxRecDepth 100000 in
theorem vw_loop_J294 {uo : MS} {k264 k264v : MS → Int32 → Prop} {U294 : MS} {v294_4 : Int32} (hk264 : ∀ (u : MS) (z0 : Int32), k264v u z0 → k264 u z0) (h : v_loop_J294 uo k264v U294 v294_4) : w_loop_J294 (fun u => u = uo) k264 U294 v294_4 := by
  unfold v_loop_J294 at h
  unfold w_loop_J294
  obtain ⟨v9, e9, h⟩ := h
  intro x9 d9
  have c9 : v9 = x9 := e9.trans d9.symm
  subst c9
  exact hk264 _ _ h
set_option maxRecDepth 100000 in
theorem vz_loop_J294 {uo : MS} {Q : MS → Prop} {k264 k264v : MS → Int32 → Prop} {U294 : MS} {v294_4 : Int32} (hk264 : ∀ (u : MS) (z0 : Int32), k264v u z0 → k264 u z0 → Q uo) (h : v_loop_J294 uo k264v U294 v294_4) (w : w_loop_J294 Q k264 U294 v294_4) : Q uo := by
  unfold v_loop_J294 at h
  unfold w_loop_J294 at w
  obtain ⟨v9, e9, h⟩ := h
  replace w := w v9 e9
  exact hk264 _ _ h w
set_option maxRecDepth 100000 in
theorem vw_loop_J252 {uo : MS} {k137 k137v : MS → Int32 → Int32 → Int32 → Prop} {U252 : MS} {v252_1 : Int32} {v252_3 : Int32} {v252_4 : Int32} (hk137 : ∀ (u : MS) (z0 : Int32) (z1 : Int32) (z2 : Int32), k137v u z0 z1 z2 → k137 u z0 z1 z2) (h : v_loop_J252 uo k137v U252 v252_1 v252_3 v252_4) : w_loop_J252 (fun u => u = uo) k137 U252 v252_1 v252_3 v252_4 := by
  unfold v_loop_J252 at h
  unfold w_loop_J252
  obtain ⟨v9, e9, h⟩ := h
  intro x9 d9
  have c9 : v9 = x9 := e9.trans d9.symm
  subst c9
  exact hk137 _ _ _ _ h
set_option maxRecDepth 100000 in
theorem vz_loop_J252 {uo : MS} {Q : MS → Prop} {k137 k137v : MS → Int32 → Int32 → Int32 → Prop} {U252 : MS} {v252_1 : Int32} {v252_3 : Int32} {v252_4 : Int32} (hk137 : ∀ (u : MS) (z0 : Int32) (z1 : Int32) (z2 : Int32), k137v u z0 z1 z2 → k137 u z0 z1 z2 → Q uo) (h : v_loop_J252 uo k137v U252 v252_1 v252_3 v252_4) (w : w_loop_J252 Q k137 U252 v252_1 v252_3 v252_4) : Q uo := by
  unfold v_loop_J252 at h
  unfold w_loop_J252 at w
  obtain ⟨v9, e9, h⟩ := h
  replace w := w v9 e9
  exact hk137 _ _ _ _ h w
set_option maxRecDepth 100000 in
theorem vw_loop_J251 {uo : MS} {k137 k137v : MS → Int32 → Int32 → Int32 → Prop} {U251 : MS} {t251_0 : Int32} {v251_1 : Int32} {v251_4 : Int32} (hk137 : ∀ (u : MS) (z0 : Int32) (z1 : Int32) (z2 : Int32), k137v u z0 z1 z2 → k137 u z0 z1 z2) (h : v_loop_J251 uo k137v U251 t251_0 v251_1 v251_4) : w_loop_J251 (fun u => u = uo) k137 U251 t251_0 v251_1 v251_4 := by
  unfold v_loop_J251 at h
  unfold w_loop_J251
  exact vw_loop_J252 hk137 h
set_option maxRecDepth 100000 in
theorem vz_loop_J251 {uo : MS} {Q : MS → Prop} {k137 k137v : MS → Int32 → Int32 → Int32 → Prop} {U251 : MS} {t251_0 : Int32} {v251_1 : Int32} {v251_4 : Int32} (hk137 : ∀ (u : MS) (z0 : Int32) (z1 : Int32) (z2 : Int32), k137v u z0 z1 z2 → k137 u z0 z1 z2 → Q uo) (h : v_loop_J251 uo k137v U251 t251_0 v251_1 v251_4) (w : w_loop_J251 Q k137 U251 t251_0 v251_1 v251_4) : Q uo := by
  unfold v_loop_J251 at h
  unfold w_loop_J251 at w
  exact vz_loop_J252 hk137 h w
set_option maxRecDepth 100000 in
theorem vw_loop_J246 {uo : MS} {k137 k137v : MS → Int32 → Int32 → Int32 → Prop} {U246 : MS} {v246_1 : Int32} {v246_4 : Int32} (hk137 : ∀ (u : MS) (z0 : Int32) (z1 : Int32) (z2 : Int32), k137v u z0 z1 z2 → k137 u z0 z1 z2) (h : v_loop_J246 uo k137v U246 v246_1 v246_4) : w_loop_J246 (fun u => u = uo) k137 U246 v246_1 v246_4 := by
  unfold v_loop_J246 at h
  unfold w_loop_J246
  exact vw_loop_J251 hk137 h
set_option maxRecDepth 100000 in
theorem vz_loop_J246 {uo : MS} {Q : MS → Prop} {k137 k137v : MS → Int32 → Int32 → Int32 → Prop} {U246 : MS} {v246_1 : Int32} {v246_4 : Int32} (hk137 : ∀ (u : MS) (z0 : Int32) (z1 : Int32) (z2 : Int32), k137v u z0 z1 z2 → k137 u z0 z1 z2 → Q uo) (h : v_loop_J246 uo k137v U246 v246_1 v246_4) (w : w_loop_J246 Q k137 U246 v246_1 v246_4) : Q uo := by
  unfold v_loop_J246 at h
  unfold w_loop_J246 at w
  exact vz_loop_J251 hk137 h w
set_option maxRecDepth 100000 in
theorem vw_loop_J226 {uo : MS} {k178 k178v : MS → Int32 → Int32 → Int32 → Int32 → Prop} {U226 : MS} {v226_1 : Int32} {v226_3 : Int32} {v226_4 : Int32} {v226_5 : Int32} (hk178 : ∀ (u : MS) (z0 : Int32) (z1 : Int32) (z2 : Int32) (z3 : Int32), k178v u z0 z1 z2 z3 → k178 u z0 z1 z2 z3) (h : v_loop_J226 uo k178v U226 v226_1 v226_3 v226_4 v226_5) : w_loop_J226 (fun u => u = uo) k178 U226 v226_1 v226_3 v226_4 v226_5 := by
  unfold v_loop_J226 at h
  unfold w_loop_J226
  obtain ⟨v9, e9, h⟩ := h
  intro x9 d9
  have c9 : v9 = x9 := e9.trans d9.symm
  subst c9
  exact hk178 _ _ _ _ _ h
set_option maxRecDepth 100000 in
theorem vz_loop_J226 {uo : MS} {Q : MS → Prop} {k178 k178v : MS → Int32 → Int32 → Int32 → Int32 → Prop} {U226 : MS} {v226_1 : Int32} {v226_3 : Int32} {v226_4 : Int32} {v226_5 : Int32} (hk178 : ∀ (u : MS) (z0 : Int32) (z1 : Int32) (z2 : Int32) (z3 : Int32), k178v u z0 z1 z2 z3 → k178 u z0 z1 z2 z3 → Q uo) (h : v_loop_J226 uo k178v U226 v226_1 v226_3 v226_4 v226_5) (w : w_loop_J226 Q k178 U226 v226_1 v226_3 v226_4 v226_5) : Q uo := by
  unfold v_loop_J226 at h
  unfold w_loop_J226 at w
  obtain ⟨v9, e9, h⟩ := h
  replace w := w v9 e9
  exact hk178 _ _ _ _ _ h w
set_option maxRecDepth 100000 in
theorem vw_loop_J100 {uo : MS} {k4 k4v : MS → Int32 → Int32 → Int32 → Prop} {U100 : MS} {t100_0 : Int32} {v100_1 : Int32} {v100_3 : Int32} (hk4 : ∀ (u : MS) (z0 : Int32) (z1 : Int32) (z2 : Int32), k4v u z0 z1 z2 → k4 u z0 z1 z2) (h : v_loop_J100 uo k4v U100 t100_0 v100_1 v100_3) : w_loop_J100 (fun u => u = uo) k4 U100 t100_0 v100_1 v100_3 := by
  unfold v_loop_J100 at h
  unfold w_loop_J100
  obtain ⟨v9, e9, h⟩ := h
  intro x9 d9
  have c9 : v9 = x9 := e9.trans d9.symm
  subst c9
  exact hk4 _ _ _ _ h
set_option maxRecDepth 100000 in
theorem vz_loop_J100 {uo : MS} {Q : MS → Prop} {k4 k4v : MS → Int32 → Int32 → Int32 → Prop} {U100 : MS} {t100_0 : Int32} {v100_1 : Int32} {v100_3 : Int32} (hk4 : ∀ (u : MS) (z0 : Int32) (z1 : Int32) (z2 : Int32), k4v u z0 z1 z2 → k4 u z0 z1 z2 → Q uo) (h : v_loop_J100 uo k4v U100 t100_0 v100_1 v100_3) (w : w_loop_J100 Q k4 U100 t100_0 v100_1 v100_3) : Q uo := by
  unfold v_loop_J100 at h
  unfold w_loop_J100 at w
  obtain ⟨v9, e9, h⟩ := h
  replace w := w v9 e9
  exact hk4 _ _ _ _ h w
set_option maxRecDepth 100000 in
theorem vw_loop_J95 {uo : MS} {k4 k4v : MS → Int32 → Int32 → Int32 → Prop} {U95 : MS} {v95_1 : Int32} {v95_3 : Int32} (hk4 : ∀ (u : MS) (z0 : Int32) (z1 : Int32) (z2 : Int32), k4v u z0 z1 z2 → k4 u z0 z1 z2) (h : v_loop_J95 uo k4v U95 v95_1 v95_3) : w_loop_J95 (fun u => u = uo) k4 U95 v95_1 v95_3 := by
  unfold v_loop_J95 at h
  unfold w_loop_J95
  exact vw_loop_J100 hk4 h
set_option maxRecDepth 100000 in
theorem vz_loop_J95 {uo : MS} {Q : MS → Prop} {k4 k4v : MS → Int32 → Int32 → Int32 → Prop} {U95 : MS} {v95_1 : Int32} {v95_3 : Int32} (hk4 : ∀ (u : MS) (z0 : Int32) (z1 : Int32) (z2 : Int32), k4v u z0 z1 z2 → k4 u z0 z1 z2 → Q uo) (h : v_loop_J95 uo k4v U95 v95_1 v95_3) (w : w_loop_J95 Q k4 U95 v95_1 v95_3) : Q uo := by
  unfold v_loop_J95 at h
  unfold w_loop_J95 at w
  exact vz_loop_J100 hk4 h w
set_option maxRecDepth 100000 in
theorem vw_loop_J82 {uo : MS} {k4 k4v : MS → Int32 → Int32 → Int32 → Prop} {U82 : MS} {v82_1 : Int32} {v82_2 : Int32} {v82_3 : Int32} (hk4 : ∀ (u : MS) (z0 : Int32) (z1 : Int32) (z2 : Int32), k4v u z0 z1 z2 → k4 u z0 z1 z2) (h : v_loop_J82 uo k4v U82 v82_1 v82_2 v82_3) : w_loop_J82 (fun u => u = uo) k4 U82 v82_1 v82_2 v82_3 := by
  unfold v_loop_J82 at h
  unfold w_loop_J82
  rcases h with ⟨c, h⟩ | ⟨c, h⟩
  · refine ⟨fun _ => ?_, fun c2 => absurd c c2⟩
    obtain ⟨g9, h⟩ := h
    refine ⟨g9, ?_⟩
    rcases h with ⟨c, h⟩ | ⟨c, h⟩
    · refine ⟨fun _ => ?_, fun c2 => absurd c c2⟩
      exact vw_loop_J100 hk4 h
    · refine ⟨fun c2 => absurd c2 c, fun _ => ?_⟩
      exact vw_loop_J95 hk4 h
  · refine ⟨fun c2 => absurd c2 c, fun _ => ?_⟩
    exact vw_loop_J95 hk4 h
set_option maxRecDepth 100000 in
theorem vz_loop_J82 {uo : MS} {Q : MS → Prop} {k4 k4v : MS → Int32 → Int32 → Int32 → Prop} {U82 : MS} {v82_1 : Int32} {v82_2 : Int32} {v82_3 : Int32} (hk4 : ∀ (u : MS) (z0 : Int32) (z1 : Int32) (z2 : Int32), k4v u z0 z1 z2 → k4 u z0 z1 z2 → Q uo) (h : v_loop_J82 uo k4v U82 v82_1 v82_2 v82_3) (w : w_loop_J82 Q k4 U82 v82_1 v82_2 v82_3) : Q uo := by
  unfold v_loop_J82 at h
  unfold w_loop_J82 at w
  rcases h with ⟨c, h⟩ | ⟨c, h⟩
  · replace w := w.1 c
    replace h := h.2
    replace w := w.2
    rcases h with ⟨c, h⟩ | ⟨c, h⟩
    · replace w := w.1 c
      exact vz_loop_J100 hk4 h w
    · replace w := w.2 c
      exact vz_loop_J95 hk4 h w
  · replace w := w.2 c
    exact vz_loop_J95 hk4 h w
set_option maxRecDepth 100000 in
theorem vw_loop_J76 {uo : MS} {k27 k27v : MS → Int32 → Int32 → Int32 → Int32 → Prop} {U76 : MS} {v76_1 : Int32} {v76_2 : Int32} {v76_3 : Int32} {v76_4 : Int32} (hk27 : ∀ (u : MS) (z0 : Int32) (z1 : Int32) (z2 : Int32) (z3 : Int32), k27v u z0 z1 z2 z3 → k27 u z0 z1 z2 z3) (h : v_loop_J76 uo k27v U76 v76_1 v76_2 v76_3 v76_4) : w_loop_J76 (fun u => u = uo) k27 U76 v76_1 v76_2 v76_3 v76_4 := by
  unfold v_loop_J76 at h
  unfold w_loop_J76
  obtain ⟨v9, e9, h⟩ := h
  intro x9 d9
  have c9 : v9 = x9 := e9.trans d9.symm
  subst c9
  exact hk27 _ _ _ _ _ h
set_option maxRecDepth 100000 in
theorem vz_loop_J76 {uo : MS} {Q : MS → Prop} {k27 k27v : MS → Int32 → Int32 → Int32 → Int32 → Prop} {U76 : MS} {v76_1 : Int32} {v76_2 : Int32} {v76_3 : Int32} {v76_4 : Int32} (hk27 : ∀ (u : MS) (z0 : Int32) (z1 : Int32) (z2 : Int32) (z3 : Int32), k27v u z0 z1 z2 z3 → k27 u z0 z1 z2 z3 → Q uo) (h : v_loop_J76 uo k27v U76 v76_1 v76_2 v76_3 v76_4) (w : w_loop_J76 Q k27 U76 v76_1 v76_2 v76_3 v76_4) : Q uo := by
  unfold v_loop_J76 at h
  unfold w_loop_J76 at w
  obtain ⟨v9, e9, h⟩ := h
  replace w := w v9 e9
  exact hk27 _ _ _ _ _ h w
set_option maxRecDepth 100000 in
theorem vw_loop_L264 {uo : MS} : ∀ (n : Nat) {U264 : MS} {v264_4 : Int32}, v_loop_L264 uo n U264 v264_4 → w_loop_L264 (fun u => u = uo) n U264 v264_4 := by
  intro n
  induction n with
  | zero => intro U264 v264_4 h; unfold v_loop_L264 at h; exact h.elim
  | succ n ih =>
    intro U264 v264_4 h
    unfold v_loop_L264 at h
    unfold w_loop_L264
    rcases h with ⟨c, h⟩ | ⟨c, h⟩
    · refine ⟨fun _ => ?_, fun c2 => absurd c c2⟩
      exact h.symm
    · refine ⟨fun c2 => absurd c2 c, fun _ => ?_⟩
      obtain ⟨g9, h⟩ := h
      refine ⟨g9, ?_⟩
      rcases h with ⟨c, h⟩ | ⟨c, h⟩
      · refine ⟨fun _ => ?_, fun c2 => absurd c c2⟩
        exact vw_loop_J294 (fun _ _ h => ih h) h
      · refine ⟨fun c2 => absurd c2 c, fun _ => ?_⟩
        obtain ⟨g9, h⟩ := h
        refine ⟨g9, ?_⟩
        obtain ⟨g9, h⟩ := h
        refine ⟨g9, ?_⟩
        obtain ⟨v9, e9, h⟩ := h
        intro x9 d9
        have c9 : v9 = x9 := e9.trans d9.symm
        subst c9
        exact vw_loop_J294 (fun _ _ h => ih h) h
set_option maxRecDepth 100000 in
theorem vz_loop_L264 {uo : MS} {Q : MS → Prop} : ∀ (n m : Nat) {U264 : MS} {v264_4 : Int32}, v_loop_L264 uo n U264 v264_4 → w_loop_L264 Q m U264 v264_4 → Q uo := by
  intro n
  induction n with
  | zero => intro m U264 v264_4 h; unfold v_loop_L264 at h; exact h.elim
  | succ n ih =>
    intro m U264 v264_4 h w
    cases m with
    | zero => unfold w_loop_L264 at w; exact w.elim
    | succ m =>
      unfold v_loop_L264 at h
      unfold w_loop_L264 at w
      rcases h with ⟨c, h⟩ | ⟨c, h⟩
      · replace w := w.1 c
        rw [h]
        exact w
      · replace w := w.2 c
        replace h := h.2
        replace w := w.2
        rcases h with ⟨c, h⟩ | ⟨c, h⟩
        · replace w := w.1 c
          exact vz_loop_J294 (fun _ _ h w => ih m h w) h w
        · replace w := w.2 c
          replace h := h.2
          replace w := w.2
          replace h := h.2
          replace w := w.2
          obtain ⟨v9, e9, h⟩ := h
          replace w := w v9 e9
          exact vz_loop_J294 (fun _ _ h w => ih m h w) h w
set_option maxRecDepth 100000 in
theorem vw_loop_L178 {uo : MS} {k137 k137v : MS → Int32 → Int32 → Int32 → Prop} : ∀ (n : Nat) {U178 : MS} {v178_1 : Int32} {v178_3 : Int32} {v178_4 : Int32} {v178_5 : Int32} (hk137 : ∀ (u : MS) (z0 : Int32) (z1 : Int32) (z2 : Int32), k137v u z0 z1 z2 → k137 u z0 z1 z2), v_loop_L178 uo k137v n U178 v178_1 v178_3 v178_4 v178_5 → w_loop_L178 (fun u => u = uo) k137 n U178 v178_1 v178_3 v178_4 v178_5 := by
  intro n
  induction n with
  | zero => intro U178 v178_1 v178_3 v178_4 v178_5 hk137 h; unfold v_loop_L178 at h; exact h.elim
  | succ n ih =>
    intro U178 v178_1 v178_3 v178_4 v178_5 hk137 h
    unfold v_loop_L178 at h
    unfold w_loop_L178
    obtain ⟨g9, h⟩ := h
    refine ⟨g9, ?_⟩
    rcases h with ⟨c, h⟩ | ⟨c, h⟩
    · refine ⟨fun _ => ?_, fun c2 => absurd c c2⟩
      rcases h with ⟨c, h⟩ | ⟨c, h⟩
      · refine ⟨fun _ => ?_, fun c2 => absurd c c2⟩
        obtain ⟨g9, h⟩ := h
        refine ⟨g9, ?_⟩
        rcases h with ⟨c, h⟩ | ⟨c, h⟩
        · refine ⟨fun _ => ?_, fun c2 => absurd c c2⟩
          exact vw_loop_J251 hk137 h
        · refine ⟨fun c2 => absurd c2 c, fun _ => ?_⟩
          exact vw_loop_J246 hk137 h
      · refine ⟨fun c2 => absurd c2 c, fun _ => ?_⟩
        exact vw_loop_J246 hk137 h
    · refine ⟨fun c2 => absurd c2 c, fun _ => ?_⟩
      obtain ⟨g9, h⟩ := h
      refine ⟨g9, ?_⟩
      obtain ⟨g9, h⟩ := h
      refine ⟨g9, ?_⟩
      rcases h with ⟨c, h⟩ | ⟨c, h⟩
      · refine ⟨fun _ => ?_, fun c2 => absurd c c2⟩
        exact vw_loop_J226 (fun _ _ _ _ _ h => ih hk137 h) h
      · refine ⟨fun c2 => absurd c2 c, fun _ => ?_⟩
        obtain ⟨g9, h⟩ := h
        refine ⟨g9, ?_⟩
        rcases h with ⟨c, h⟩ | ⟨c, h⟩
        · refine ⟨fun _ => ?_, fun c2 => absurd c c2⟩
          exact vw_loop_J226 (fun _ _ _ _ _ h => ih hk137 h) h
        · refine ⟨fun c2 => absurd c2 c, fun _ => ?_⟩
          obtain ⟨g9, h⟩ := h
          refine ⟨g9, ?_⟩
          obtain ⟨v9, e9, h⟩ := h
          intro x9 d9
          have c9 : v9 = x9 := e9.trans d9.symm
          subst c9
          exact vw_loop_J226 (fun _ _ _ _ _ h => ih hk137 h) h
set_option maxRecDepth 100000 in
theorem vz_loop_L178 {uo : MS} {Q : MS → Prop} {k137 k137v : MS → Int32 → Int32 → Int32 → Prop} : ∀ (n m : Nat) {U178 : MS} {v178_1 : Int32} {v178_3 : Int32} {v178_4 : Int32} {v178_5 : Int32} (hk137 : ∀ (u : MS) (z0 : Int32) (z1 : Int32) (z2 : Int32), k137v u z0 z1 z2 → k137 u z0 z1 z2 → Q uo), v_loop_L178 uo k137v n U178 v178_1 v178_3 v178_4 v178_5 → w_loop_L178 Q k137 m U178 v178_1 v178_3 v178_4 v178_5 → Q uo := by
  intro n
  induction n with
  | zero => intro m U178 v178_1 v178_3 v178_4 v178_5 hk137 h; unfold v_loop_L178 at h; exact h.elim
  | succ n ih =>
    intro m U178 v178_1 v178_3 v178_4 v178_5 hk137 h w
    cases m with
    | zero => unfold w_loop_L178 at w; exact w.elim
    | succ m =>
      unfold v_loop_L178 at h
      unfold w_loop_L178 at w
      replace h := h.2
      replace w := w.2
      rcases h with ⟨c, h⟩ | ⟨c, h⟩
      · replace w := w.1 c
        rcases h with ⟨c, h⟩ | ⟨c, h⟩
        · replace w := w.1 c
          replace h := h.2
          replace w := w.2
          rcases h with ⟨c, h⟩ | ⟨c, h⟩
          · replace w := w.1 c
            exact vz_loop_J251 hk137 h w
          · replace w := w.2 c
            exact vz_loop_J246 hk137 h w
        · replace w := w.2 c
          exact vz_loop_J246 hk137 h w
      · replace w := w.2 c
        replace h := h.2
        replace w := w.2
        replace h := h.2
        replace w := w.2
        rcases h with ⟨c, h⟩ | ⟨c, h⟩
        · replace w := w.1 c
          exact vz_loop_J226 (fun _ _ _ _ _ h w => ih m hk137 h w) h w
        · replace w := w.2 c
          replace h := h.2
          replace w := w.2
          rcases h with ⟨c, h⟩ | ⟨c, h⟩
          · replace w := w.1 c
            exact vz_loop_J226 (fun _ _ _ _ _ h w => ih m hk137 h w) h w
          · replace w := w.2 c
            replace h := h.2
            replace w := w.2
            obtain ⟨v9, e9, h⟩ := h
            replace w := w v9 e9
            exact vz_loop_J226 (fun _ _ _ _ _ h w => ih m hk137 h w) h w
set_option maxRecDepth 100000 in
theorem vw_loop_L137 {uo : MS} {k128 k128v : MS → Int32 → Int32 → Prop} : ∀ (n : Nat) {U137 : MS} {v137_1 : Int32} {v137_3 : Int32} {v137_4 : Int32} (hk128 : ∀ (u : MS) (z0 : Int32) (z1 : Int32), k128v u z0 z1 → k128 u z0 z1), v_loop_L137 uo k128v n U137 v137_1 v137_3 v137_4 → w_loop_L137 (fun u => u = uo) k128 n U137 v137_1 v137_3 v137_4 := by
  intro n
  induction n with
  | zero => intro U137 v137_1 v137_3 v137_4 hk128 h; unfold v_loop_L137 at h; exact h.elim
  | succ n ih =>
    intro U137 v137_1 v137_3 v137_4 hk128 h
    unfold v_loop_L137 at h
    unfold w_loop_L137
    rcases h with ⟨c, h⟩ | ⟨c, h⟩
    · refine ⟨fun _ => ?_, fun c2 => absurd c c2⟩
      exact hk128 _ _ _ h
    · refine ⟨fun c2 => absurd c2 c, fun _ => ?_⟩
      obtain ⟨g9, h⟩ := h
      refine ⟨g9, ?_⟩
      rcases h with ⟨c, h⟩ | ⟨c, h⟩
      · refine ⟨fun _ => ?_, fun c2 => absurd c c2⟩
        obtain ⟨g9, h⟩ := h
        refine ⟨g9, ?_⟩
        rcases h with ⟨c, h⟩ | ⟨c, h⟩
        · refine ⟨fun _ => ?_, fun c2 => absurd c c2⟩
          exact vw_loop_J252 (fun _ _ _ _ h => ih hk128 h) h
        · refine ⟨fun c2 => absurd c2 c, fun _ => ?_⟩
          obtain ⟨g9, h⟩ := h
          refine ⟨g9, ?_⟩
          obtain ⟨v9, e9, h⟩ := h
          intro x9 d9
          have c9 : v9 = x9 := e9.trans d9.symm
          subst c9
          obtain ⟨n9, h⟩ := h
          exact ⟨n9, vw_loop_L178 n9 (fun _ _ _ _ h => ih hk128 h) h⟩
      · refine ⟨fun c2 => absurd c2 c, fun _ => ?_⟩
        exact vw_loop_J252 (fun _ _ _ _ h => ih hk128 h) h
set_option maxRecDepth 100000 in
theorem vz_loop_L137 {uo : MS} {Q : MS → Prop} {k128 k128v : MS → Int32 → Int32 → Prop} : ∀ (n m : Nat) {U137 : MS} {v137_1 : Int32} {v137_3 : Int32} {v137_4 : Int32} (hk128 : ∀ (u : MS) (z0 : Int32) (z1 : Int32), k128v u z0 z1 → k128 u z0 z1 → Q uo), v_loop_L137 uo k128v n U137 v137_1 v137_3 v137_4 → w_loop_L137 Q k128 m U137 v137_1 v137_3 v137_4 → Q uo := by
  intro n
  induction n with
  | zero => intro m U137 v137_1 v137_3 v137_4 hk128 h; unfold v_loop_L137 at h; exact h.elim
  | succ n ih =>
    intro m U137 v137_1 v137_3 v137_4 hk128 h w
    cases m with
    | zero => unfold w_loop_L137 at w; exact w.elim
    | succ m =>
      unfold v_loop_L137 at h
      unfold w_loop_L137 at w
      rcases h with ⟨c, h⟩ | ⟨c, h⟩
      · replace w := w.1 c
        exact hk128 _ _ _ h w
      · replace w := w.2 c
        replace h := h.2
        replace w := w.2
        rcases h with ⟨c, h⟩ | ⟨c, h⟩
        · replace w := w.1 c
          replace h := h.2
          replace w := w.2
          rcases h with ⟨c, h⟩ | ⟨c, h⟩
          · replace w := w.1 c
            exact vz_loop_J252 (fun _ _ _ _ h w => ih m hk128 h w) h w
          · replace w := w.2 c
            replace h := h.2
            replace w := w.2
            obtain ⟨v9, e9, h⟩ := h
            replace w := w v9 e9
            obtain ⟨n9, h⟩ := h
            obtain ⟨n8, w⟩ := w
            exact vz_loop_L178 n9 n8 (fun _ _ _ _ h w => ih m hk128 h w) h w
        · replace w := w.2 c
          exact vz_loop_J252 (fun _ _ _ _ h w => ih m hk128 h w) h w
set_option maxRecDepth 100000 in
theorem vw_loop_L128 {uo : MS} : ∀ (n : Nat) {U128 : MS} {v128_1 : Int32} {v128_3 : Int32}, v_loop_L128 uo n U128 v128_1 v128_3 → w_loop_L128 (fun u => u = uo) n U128 v128_1 v128_3 := by
  intro n
  induction n with
  | zero => intro U128 v128_1 v128_3 h; unfold v_loop_L128 at h; exact h.elim
  | succ n ih =>
    intro U128 v128_1 v128_3 h
    unfold v_loop_L128 at h
    unfold w_loop_L128
    rcases h with ⟨c, h⟩ | ⟨c, h⟩
    · refine ⟨fun _ => ?_, fun c2 => absurd c c2⟩
      obtain ⟨n9, h⟩ := h
      exact ⟨n9, vw_loop_L264 n9 h⟩
    · refine ⟨fun c2 => absurd c2 c, fun _ => ?_⟩
      obtain ⟨n9, h⟩ := h
      exact ⟨n9, vw_loop_L137 n9 (fun _ _ _ h => ih h) h⟩
set_option maxRecDepth 100000 in
theorem vz_loop_L128 {uo : MS} {Q : MS → Prop} : ∀ (n m : Nat) {U128 : MS} {v128_1 : Int32} {v128_3 : Int32}, v_loop_L128 uo n U128 v128_1 v128_3 → w_loop_L128 Q m U128 v128_1 v128_3 → Q uo := by
  intro n
  induction n with
  | zero => intro m U128 v128_1 v128_3 h; unfold v_loop_L128 at h; exact h.elim
  | succ n ih =>
    intro m U128 v128_1 v128_3 h w
    cases m with
    | zero => unfold w_loop_L128 at w; exact w.elim
    | succ m =>
      unfold v_loop_L128 at h
      unfold w_loop_L128 at w
      rcases h with ⟨c, h⟩ | ⟨c, h⟩
      · replace w := w.1 c
        obtain ⟨n9, h⟩ := h
        obtain ⟨n8, w⟩ := w
        exact vz_loop_L264 n9 n8 h w
      · replace w := w.2 c
        obtain ⟨n9, h⟩ := h
        obtain ⟨n8, w⟩ := w
        exact vz_loop_L137 n9 n8 (fun _ _ _ h w => ih m h w) h w
set_option maxRecDepth 100000 in
theorem vw_loop_L27 {uo : MS} {k4 k4v : MS → Int32 → Int32 → Int32 → Prop} : ∀ (n : Nat) {U27 : MS} {v27_1 : Int32} {v27_2 : Int32} {v27_3 : Int32} {v27_4 : Int32} (hk4 : ∀ (u : MS) (z0 : Int32) (z1 : Int32) (z2 : Int32), k4v u z0 z1 z2 → k4 u z0 z1 z2), v_loop_L27 uo k4v n U27 v27_1 v27_2 v27_3 v27_4 → w_loop_L27 (fun u => u = uo) k4 n U27 v27_1 v27_2 v27_3 v27_4 := by
  intro n
  induction n with
  | zero => intro U27 v27_1 v27_2 v27_3 v27_4 hk4 h; unfold v_loop_L27 at h; exact h.elim
  | succ n ih =>
    intro U27 v27_1 v27_2 v27_3 v27_4 hk4 h
    unfold v_loop_L27 at h
    unfold w_loop_L27
    obtain ⟨g9, h⟩ := h
    refine ⟨g9, ?_⟩
    rcases h with ⟨c, h⟩ | ⟨c, h⟩
    · refine ⟨fun _ => ?_, fun c2 => absurd c c2⟩
      exact vw_loop_J82 hk4 h
    · refine ⟨fun c2 => absurd c2 c, fun _ => ?_⟩
      obtain ⟨g9, h⟩ := h
      refine ⟨g9, ?_⟩
      rcases h with ⟨c, h⟩ | ⟨c, h⟩
      · refine ⟨fun _ => ?_, fun c2 => absurd c c2⟩
        exact vw_loop_J82 hk4 h
      · refine ⟨fun c2 => absurd c2 c, fun _ => ?_⟩
        obtain ⟨g9, h⟩ := h
        refine ⟨g9, ?_⟩
        rcases h with ⟨c, h⟩ | ⟨c, h⟩
        · refine ⟨fun _ => ?_, fun c2 => absurd c c2⟩
          obtain ⟨g9, h⟩ := h
          refine ⟨g9, ?_⟩
          rcases h with ⟨c, h⟩ | ⟨c, h⟩
          · refine ⟨fun _ => ?_, fun c2 => absurd c c2⟩
            exact vw_loop_J76 (fun _ _ _ _ _ h => ih hk4 h) h
          · refine ⟨fun c2 => absurd c2 c, fun _ => ?_⟩
            obtain ⟨g9, h⟩ := h
            refine ⟨g9, ?_⟩
            obtain ⟨v9, e9, h⟩ := h
            intro x9 d9
            have c9 : v9 = x9 := e9.trans d9.symm
            subst c9
            exact vw_loop_J76 (fun _ _ _ _ _ h => ih hk4 h) h
        · refine ⟨fun c2 => absurd c2 c, fun _ => ?_⟩
          exact vw_loop_J76 (fun _ _ _ _ _ h => ih hk4 h) h
set_option maxRecDepth 100000 in
theorem vz_loop_L27 {uo : MS} {Q : MS → Prop} {k4 k4v : MS → Int32 → Int32 → Int32 → Prop} : ∀ (n m : Nat) {U27 : MS} {v27_1 : Int32} {v27_2 : Int32} {v27_3 : Int32} {v27_4 : Int32} (hk4 : ∀ (u : MS) (z0 : Int32) (z1 : Int32) (z2 : Int32), k4v u z0 z1 z2 → k4 u z0 z1 z2 → Q uo), v_loop_L27 uo k4v n U27 v27_1 v27_2 v27_3 v27_4 → w_loop_L27 Q k4 m U27 v27_1 v27_2 v27_3 v27_4 → Q uo := by
  intro n
  induction n with
  | zero => intro m U27 v27_1 v27_2 v27_3 v27_4 hk4 h; unfold v_loop_L27 at h; exact h.elim
  | succ n ih =>
    intro m U27 v27_1 v27_2 v27_3 v27_4 hk4 h w
    cases m with
    | zero => unfold w_loop_L27 at w; exact w.elim
    | succ m =>
      unfold v_loop_L27 at h
      unfold w_loop_L27 at w
      replace h := h.2
      replace w := w.2
      rcases h with ⟨c, h⟩ | ⟨c, h⟩
      · replace w := w.1 c
        exact vz_loop_J82 hk4 h w
      · replace w := w.2 c
        replace h := h.2
        replace w := w.2
        rcases h with ⟨c, h⟩ | ⟨c, h⟩
        · replace w := w.1 c
          exact vz_loop_J82 hk4 h w
        · replace w := w.2 c
          replace h := h.2
          replace w := w.2
          rcases h with ⟨c, h⟩ | ⟨c, h⟩
          · replace w := w.1 c
            replace h := h.2
            replace w := w.2
            rcases h with ⟨c, h⟩ | ⟨c, h⟩
            · replace w := w.1 c
              exact vz_loop_J76 (fun _ _ _ _ _ h w => ih m hk4 h w) h w
            · replace w := w.2 c
              replace h := h.2
              replace w := w.2
              obtain ⟨v9, e9, h⟩ := h
              replace w := w v9 e9
              exact vz_loop_J76 (fun _ _ _ _ _ h w => ih m hk4 h w) h w
          · replace w := w.2 c
            exact vz_loop_J76 (fun _ _ _ _ _ h w => ih m hk4 h w) h w
set_option maxRecDepth 100000 in
theorem vw_loop_L4 {uo : MS} : ∀ (n : Nat) {U4 : MS} {v4_1 : Int32} {v4_2 : Int32} {v4_3 : Int32}, v_loop_L4 uo n U4 v4_1 v4_2 v4_3 → w_loop_L4 (fun u => u = uo) n U4 v4_1 v4_2 v4_3 := by
  intro n
  induction n with
  | zero => intro U4 v4_1 v4_2 v4_3 h; unfold v_loop_L4 at h; exact h.elim
  | succ n ih =>
    intro U4 v4_1 v4_2 v4_3 h
    unfold v_loop_L4 at h
    unfold w_loop_L4
    rcases h with ⟨c, h⟩ | ⟨c, h⟩
    · refine ⟨fun _ => ?_, fun c2 => absurd c c2⟩
      rcases h with ⟨c, h⟩ | ⟨c, h⟩
      · refine ⟨fun _ => ?_, fun c2 => absurd c c2⟩
        exact h.symm
      · refine ⟨fun c2 => absurd c2 c, fun _ => ?_⟩
        obtain ⟨g9, h⟩ := h
        refine ⟨g9, ?_⟩
        obtain ⟨v9, e9, h⟩ := h
        intro x9 d9
        have c9 : v9 = x9 := e9.trans d9.symm
        subst c9
        obtain ⟨g9, h⟩ := h
        refine ⟨g9, ?_⟩
        obtain ⟨v9, e9, h⟩ := h
        intro x9 d9
        have c9 : v9 = x9 := e9.trans d9.symm
        subst c9
        obtain ⟨n9, h⟩ := h
        exact ⟨n9, vw_loop_L128 n9 h⟩
    · refine ⟨fun c2 => absurd c2 c, fun _ => ?_⟩
      obtain ⟨g9, h⟩ := h
      refine ⟨g9, ?_⟩
      obtain ⟨v9, e9, h⟩ := h
      intro x9 d9
      have c9 : v9 = x9 := e9.trans d9.symm
      subst c9
      obtain ⟨g9, h⟩ := h
      refine ⟨g9, ?_⟩
      obtain ⟨v9, e9, h⟩ := h
      intro x9 d9
      have c9 : v9 = x9 := e9.trans d9.symm
      subst c9
      obtain ⟨n9, h⟩ := h
      exact ⟨n9, vw_loop_L27 n9 (fun _ _ _ _ h => ih h) h⟩
set_option maxRecDepth 100000 in
theorem vz_loop_L4 {uo : MS} {Q : MS → Prop} : ∀ (n m : Nat) {U4 : MS} {v4_1 : Int32} {v4_2 : Int32} {v4_3 : Int32}, v_loop_L4 uo n U4 v4_1 v4_2 v4_3 → w_loop_L4 Q m U4 v4_1 v4_2 v4_3 → Q uo := by
  intro n
  induction n with
  | zero => intro m U4 v4_1 v4_2 v4_3 h; unfold v_loop_L4 at h; exact h.elim
  | succ n ih =>
    intro m U4 v4_1 v4_2 v4_3 h w
    cases m with
    | zero => unfold w_loop_L4 at w; exact w.elim
    | succ m =>
      unfold v_loop_L4 at h
      unfold w_loop_L4 at w
      rcases h with ⟨c, h⟩ | ⟨c, h⟩
      · replace w := w.1 c
        rcases h with ⟨c, h⟩ | ⟨c, h⟩
        · replace w := w.1 c
          rw [h]
          exact w
        · replace w := w.2 c
          replace h := h.2
          replace w := w.2
          obtain ⟨v9, e9, h⟩ := h
          replace w := w v9 e9
          replace h := h.2
          replace w := w.2
          obtain ⟨v9, e9, h⟩ := h
          replace w := w v9 e9
          obtain ⟨n9, h⟩ := h
          obtain ⟨n8, w⟩ := w
          exact vz_loop_L128 n9 n8 h w
      · replace w := w.2 c
        replace h := h.2
        replace w := w.2
        obtain ⟨v9, e9, h⟩ := h
        replace w := w v9 e9
        replace h := h.2
        replace w := w.2
        obtain ⟨v9, e9, h⟩ := h
        replace w := w v9 e9
        obtain ⟨n9, h⟩ := h
        obtain ⟨n8, w⟩ := w
        exact vz_loop_L27 n9 n8 (fun _ _ _ _ h w => ih m h w) h w
set_option maxRecDepth 100000 in
theorem vw_loop {S : MS} {x1 : Int32} {uo : MS} (h : v_loop S x1 uo) : w_loop S x1 (fun u => u = uo) := by
  unfold v_loop at h
  unfold w_loop
  obtain ⟨n9, h⟩ := h
  exact ⟨n9, vw_loop_L4 n9 h⟩
set_option maxRecDepth 100000 in
theorem vz_loop {S : MS} {x1 : Int32} {uo : MS} {Q : MS → Prop} (h : v_loop S x1 uo) (w : w_loop S x1 Q) : Q uo := by
  unfold v_loop at h
  unfold w_loop at w
  obtain ⟨n9, h⟩ := h
  obtain ⟨n8, w⟩ := w
  exact vz_loop_L4 n9 n8 h w
