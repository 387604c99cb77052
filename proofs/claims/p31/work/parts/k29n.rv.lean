def v_sweep_J146 (ro : Int32) (uo : MS) (k98 : MS → Int32 → Int32 → Prop) (U146 : MS) (v146_2 : Int32) (v146_3 : Int32) : Prop := (∃ a18 : Int32, a18 = (v146_3 + Int32.ofInt 1) ∧ (k98 U146 v146_2 a18))
def v_sweep_J85 (ro : Int32) (uo : MS) (k41 : MS → Int32 → Int32 → Prop) (U85 : MS) (v85_1 : Int32) (v85_2 : Int32) : Prop := (∃ a31 : Int32, a31 = (v85_2 + Int32.ofInt 1) ∧ (k41 U85 v85_1 a31))
def v_sweep_J84 (ro : Int32) (uo : MS) (k41 : MS → Int32 → Int32 → Prop) (U84 : MS) (t84_0 : Int32) (v84_2 : Int32) : Prop := (v_sweep_J85 ro uo k41 U84 t84_0 v84_2)
def v_sweep_J79 (ro : Int32) (uo : MS) (k41 : MS → Int32 → Int32 → Prop) (U79 : MS) (v79_2 : Int32) : Prop := (v_sweep_J84 ro uo k41 U79 1 v79_2)
def v_sweep_L98 (ro : Int32) (uo : MS) : Nat → MS → Int32 → Int32 → Prop
  | 0, _, _, _ => False
  | n98 + 1, U98, v98_2, v98_3 => (((qI U98 0 129).toInt ≤ v98_3.toInt ∧ (∃ (S13 : MS), v_mark U98 S13 ∧ ((v98_2 = 0 ∨ v98_2 = 1) ∧ (ro = v98_2 ∧ uo = S13)))) ∨ (¬ (qI U98 0 129).toInt ≤ v98_3.toInt ∧ (((0 : Int) ≤ v98_3.toInt ∧ v98_3.toInt < 1200) ∧ (((qI U98 81 v98_3.toInt.toNat).toInt = 0 ∧ (((0 : Int) ≤ v98_3.toInt ∧ v98_3.toInt < 1200) ∧ (((qI U98 88 v98_3.toInt.toNat).toInt = 0 ∧ (((0 : Int) ≤ v98_3.toInt ∧ v98_3.toInt < 1200) ∧ (∃ S24 : MS, S24 = wI U98 81 v98_3.toInt.toNat (vp_nar .boolean (1 : Int32)) ∧ (∃ S27 : MS, S27 = wI S24 77 1 ((qI S24 77 1) + (1 : Int32)) ∧ (v_sweep_J146 ro uo (v_sweep_L98 ro uo n98) S27 1 v98_3))))) ∨ (¬ (qI U98 88 v98_3.toInt.toNat).toInt = 0 ∧ (v_sweep_J146 ro uo (v_sweep_L98 ro uo n98) U98 v98_2 v98_3))))) ∨ (¬ (qI U98 81 v98_3.toInt.toNat).toInt = 0 ∧ (v_sweep_J146 ro uo (v_sweep_L98 ro uo n98) U98 v98_2 v98_3))))))
def v_sweep_L41 (ro : Int32) (uo : MS) (k33 : MS → Int32 → Prop) : Nat → MS → Int32 → Int32 → Prop
  | 0, _, _, _ => False
  | n41 + 1, U41, v41_1, v41_2 => (((qI U41 0 129).toInt ≤ v41_2.toInt ∧ (k33 U41 v41_1)) ∨ (¬ (qI U41 0 129).toInt ≤ v41_2.toInt ∧ (((0 : Int) ≤ v41_2.toInt ∧ v41_2.toInt < 1200) ∧ (((qI U41 81 v41_2.toInt.toNat).toInt = 0 ∧ (((0 : Int) ≤ v41_2.toInt ∧ v41_2.toInt < 1200) ∧ (((qI U41 88 v41_2.toInt.toNat).toInt = 0 ∧ (v_sweep_J85 ro uo (v_sweep_L41 ro uo k33 n41) U41 v41_1 v41_2)) ∨ (¬ (qI U41 88 v41_2.toInt.toNat).toInt = 0 ∧ (∃ (r37 : Int32) (S38 : MS), v_meetFrom U41 v41_2 r37 S38 ∧ ((r37.toInt = 0 ∧ ((v41_1.toInt = 0 ∧ (v_sweep_J84 ro uo (v_sweep_L41 ro uo k33 n41) S38 0 v41_2)) ∨ (¬ v41_1.toInt = 0 ∧ (v_sweep_J79 ro uo (v_sweep_L41 ro uo k33 n41) S38 v41_2)))) ∨ (¬ r37.toInt = 0 ∧ (v_sweep_J79 ro uo (v_sweep_L41 ro uo k33 n41) S38 v41_2)))))))) ∨ (¬ (qI U41 81 v41_2.toInt.toNat).toInt = 0 ∧ (v_sweep_J85 ro uo (v_sweep_L41 ro uo k33 n41) U41 v41_1 v41_2))))))
def v_sweep_L33 (ro : Int32) (uo : MS) : Nat → MS → Int32 → Prop
  | 0, _, _ => False
  | n33 + 1, U33, v33_1 => ((v33_1.toInt = 0 ∧ (∃ n, v_sweep_L98 ro uo n U33 0 0)) ∨ (¬ v33_1.toInt = 0 ∧ (∃ n, v_sweep_L41 ro uo (v_sweep_L33 ro uo n33) n U33 0 0)))
def v_sweep_L2 (ro : Int32) (uo : MS) : Nat → MS → Int32 → Prop
  | 0, _, _ => False
  | n2 + 1, U2, v2_1 => (((qI U2 0 129).toInt ≤ v2_1.toInt ∧ (∃ (r3 : Int32) (S4 : MS), v_here U2 (0 : Int32) r3 S4 ∧ (∃ (r7 : Int32) (S8 : MS), v_meet S4 r3 r7 S8 ∧ (∃ n, v_sweep_L33 ro uo n S8 r7)))) ∨ (¬ (qI U2 0 129).toInt ≤ v2_1.toInt ∧ (((0 : Int) ≤ v2_1.toInt ∧ v2_1.toInt < 1200) ∧ (∃ S43 : MS, S43 = wI U2 88 v2_1.toInt.toNat (vp_nar .boolean (0 : Int32)) ∧ (∃ a44 : Int32, a44 = (v2_1 + Int32.ofInt 1) ∧ ((v_sweep_L2 ro uo n2) S43 a44))))))
def v_sweep (S : MS) (ro : Int32) (uo : MS) : Prop := (∃ n, v_sweep_L2 ro uo n S 0)
set_option maxRecDepth 100000 in
theorem ru_sweep_J146 {ι : Type} {P : Int32 → MS → Prop} {Q : Int32 → MS → Prop} {k98 : MS → Int32 → Int32 → Prop} {k98v : ι → Int32 → MS → MS → Int32 → Int32 → Prop} {U146 : MS} {v146_2 : Int32} {v146_3 : Int32} (i0 : ι) (hk98 : ∀ (u : MS) (z0 : Int32) (z1 : Int32), k98 u z0 z1 → (∀ (i : ι) (ro : Int32) (uo : MS), k98v i ro uo u z0 z1 → P ro uo) → ∃ ro uo, P ro uo ∧ Q ro uo) (K : ∀ (i : ι) (ro : Int32) (uo : MS), v_sweep_J146 ro uo (k98v i ro uo) U146 v146_2 v146_3 → P ro uo) (h : w_sweep_J146 Q k98 U146 v146_2 v146_3) : ∃ ro uo, P ro uo ∧ Q ro uo := by
  unfold w_sweep_J146 at h
  obtain ⟨a18, ea18⟩ : ∃ x9 : Int32, x9 = (v146_3 + Int32.ofInt 1) := ⟨_, rfl⟩
  replace h := h a18 ea18
  replace K := fun i ro uo z => K i ro uo ⟨a18, ea18, z⟩
  exact hk98 _ _ _ h K
set_option maxRecDepth 100000 in
theorem ru_sweep_J85 {ι : Type} {P : Int32 → MS → Prop} {Q : Int32 → MS → Prop} {k41 : MS → Int32 → Int32 → Prop} {k41v : ι → Int32 → MS → MS → Int32 → Int32 → Prop} {U85 : MS} {v85_1 : Int32} {v85_2 : Int32} (i0 : ι) (hk41 : ∀ (u : MS) (z0 : Int32) (z1 : Int32), k41 u z0 z1 → (∀ (i : ι) (ro : Int32) (uo : MS), k41v i ro uo u z0 z1 → P ro uo) → ∃ ro uo, P ro uo ∧ Q ro uo) (K : ∀ (i : ι) (ro : Int32) (uo : MS), v_sweep_J85 ro uo (k41v i ro uo) U85 v85_1 v85_2 → P ro uo) (h : w_sweep_J85 Q k41 U85 v85_1 v85_2) : ∃ ro uo, P ro uo ∧ Q ro uo := by
  unfold w_sweep_J85 at h
  obtain ⟨a31, ea31⟩ : ∃ x9 : Int32, x9 = (v85_2 + Int32.ofInt 1) := ⟨_, rfl⟩
  replace h := h a31 ea31
  replace K := fun i ro uo z => K i ro uo ⟨a31, ea31, z⟩
  exact hk41 _ _ _ h K
set_option maxRecDepth 100000 in
theorem ru_sweep_J84 {ι : Type} {P : Int32 → MS → Prop} {Q : Int32 → MS → Prop} {k41 : MS → Int32 → Int32 → Prop} {k41v : ι → Int32 → MS → MS → Int32 → Int32 → Prop} {U84 : MS} {t84_0 : Int32} {v84_2 : Int32} (i0 : ι) (hk41 : ∀ (u : MS) (z0 : Int32) (z1 : Int32), k41 u z0 z1 → (∀ (i : ι) (ro : Int32) (uo : MS), k41v i ro uo u z0 z1 → P ro uo) → ∃ ro uo, P ro uo ∧ Q ro uo) (K : ∀ (i : ι) (ro : Int32) (uo : MS), v_sweep_J84 ro uo (k41v i ro uo) U84 t84_0 v84_2 → P ro uo) (h : w_sweep_J84 Q k41 U84 t84_0 v84_2) : ∃ ro uo, P ro uo ∧ Q ro uo := by
  unfold w_sweep_J84 at h
  exact ru_sweep_J85 i0 hk41 K h
set_option maxRecDepth 100000 in
theorem ru_sweep_J79 {ι : Type} {P : Int32 → MS → Prop} {Q : Int32 → MS → Prop} {k41 : MS → Int32 → Int32 → Prop} {k41v : ι → Int32 → MS → MS → Int32 → Int32 → Prop} {U79 : MS} {v79_2 : Int32} (i0 : ι) (hk41 : ∀ (u : MS) (z0 : Int32) (z1 : Int32), k41 u z0 z1 → (∀ (i : ι) (ro : Int32) (uo : MS), k41v i ro uo u z0 z1 → P ro uo) → ∃ ro uo, P ro uo ∧ Q ro uo) (K : ∀ (i : ι) (ro : Int32) (uo : MS), v_sweep_J79 ro uo (k41v i ro uo) U79 v79_2 → P ro uo) (h : w_sweep_J79 Q k41 U79 v79_2) : ∃ ro uo, P ro uo ∧ Q ro uo := by
  unfold w_sweep_J79 at h
  exact ru_sweep_J84 i0 hk41 K h
set_option maxRecDepth 100000 in
theorem ru_sweep_L98 {ι : Type} {P : Int32 → MS → Prop} {Q : Int32 → MS → Prop} : ∀ (n : Nat) {U98 : MS} {v98_2 : Int32} {v98_3 : Int32} (i0 : ι), (∀ (i : ι) (ro : Int32) (uo : MS), (∃ n8, v_sweep_L98 ro uo n8 U98 v98_2 v98_3) → P ro uo) → w_sweep_L98 Q n U98 v98_2 v98_3 → ∃ ro uo, P ro uo ∧ Q ro uo := by
  intro n
  induction n with
  | zero => intro U98 v98_2 v98_3 i0 K h; unfold w_sweep_L98 at h; exact h.elim
  | succ n ih =>
    intro U98 v98_2 v98_3 i0 K h
    unfold w_sweep_L98 at h
    replace K := fun (i : ι × Nat) ro uo (z : v_sweep_L98 ro uo (i.2 + 1) U98 v98_2 v98_3) => K i.1 ro uo ⟨i.2 + 1, z⟩
    have i00 := i0
    replace i0 : ι × Nat := (i0, 0)
    by_cases c : (qI U98 0 129).toInt ≤ v98_3.toInt
    · replace h := h.1 c
      replace K := fun i ro uo z => K i ro uo (Or.inl ⟨c, z⟩)
      obtain ⟨Q9, h0, h⟩ := h
      obtain ⟨S13, z9, g9⟩ := ru_mark h0
      replace h := h S13 g9
      replace K := fun i ro uo z => K i ro uo ⟨S13, z9, z⟩
      obtain ⟨g1_, h⟩ := h
      replace K := fun i ro uo z => K i ro uo ⟨g1_, z⟩
      exact ⟨_, _, K i0 _ _ ⟨rfl, rfl⟩, h⟩
    · replace h := h.2 c
      replace K := fun i ro uo z => K i ro uo (Or.inr ⟨c, z⟩)
      obtain ⟨g2_, h⟩ := h
      replace K := fun i ro uo z => K i ro uo ⟨g2_, z⟩
      by_cases c : (qI U98 81 v98_3.toInt.toNat).toInt = 0
      · replace h := h.1 c
        replace K := fun i ro uo z => K i ro uo (Or.inl ⟨c, z⟩)
        obtain ⟨g3_, h⟩ := h
        replace K := fun i ro uo z => K i ro uo ⟨g3_, z⟩
        by_cases c : (qI U98 88 v98_3.toInt.toNat).toInt = 0
        · replace h := h.1 c
          replace K := fun i ro uo z => K i ro uo (Or.inl ⟨c, z⟩)
          obtain ⟨g4_, h⟩ := h
          replace K := fun i ro uo z => K i ro uo ⟨g4_, z⟩
          obtain ⟨S24, eS24⟩ : ∃ x9 : MS, x9 = wI U98 81 v98_3.toInt.toNat (vp_nar .boolean (1 : Int32)) := ⟨_, rfl⟩
          replace h := h S24 eS24
          replace K := fun i ro uo z => K i ro uo ⟨S24, eS24, z⟩
          obtain ⟨S27, eS27⟩ : ∃ x9 : MS, x9 = wI S24 77 1 ((qI S24 77 1) + (1 : Int32)) := ⟨_, rfl⟩
          replace h := h S27 eS27
          replace K := fun i ro uo z => K i ro uo ⟨S27, eS27, z⟩
          exact ru_sweep_J146 i0 (fun _ _ _ h K => ih i00 (fun i ro uo ⟨n8, z⟩ => K (i, n8) ro uo z) h) K h
        · replace h := h.2 c
          replace K := fun i ro uo z => K i ro uo (Or.inr ⟨c, z⟩)
          exact ru_sweep_J146 i0 (fun _ _ _ h K => ih i00 (fun i ro uo ⟨n8, z⟩ => K (i, n8) ro uo z) h) K h
      · replace h := h.2 c
        replace K := fun i ro uo z => K i ro uo (Or.inr ⟨c, z⟩)
        exact ru_sweep_J146 i0 (fun _ _ _ h K => ih i00 (fun i ro uo ⟨n8, z⟩ => K (i, n8) ro uo z) h) K h
set_option maxRecDepth 100000 in
theorem ru_sweep_L41 {ι : Type} {P : Int32 → MS → Prop} {Q : Int32 → MS → Prop} {k33 : MS → Int32 → Prop} {k33v : ι → Int32 → MS → MS → Int32 → Prop} : ∀ (n : Nat) {U41 : MS} {v41_1 : Int32} {v41_2 : Int32} (i0 : ι) (hk33 : ∀ (u : MS) (z0 : Int32), k33 u z0 → (∀ (i : ι) (ro : Int32) (uo : MS), k33v i ro uo u z0 → P ro uo) → ∃ ro uo, P ro uo ∧ Q ro uo), (∀ (i : ι) (ro : Int32) (uo : MS), (∃ n8, v_sweep_L41 ro uo (k33v i ro uo) n8 U41 v41_1 v41_2) → P ro uo) → w_sweep_L41 Q k33 n U41 v41_1 v41_2 → ∃ ro uo, P ro uo ∧ Q ro uo := by
  intro n
  induction n with
  | zero => intro U41 v41_1 v41_2 i0 hk33 K h; unfold w_sweep_L41 at h; exact h.elim
  | succ n ih =>
    intro U41 v41_1 v41_2 i0 hk33 K h
    unfold w_sweep_L41 at h
    replace K := fun (i : ι × Nat) ro uo (z : v_sweep_L41 ro uo (k33v i.1 ro uo) (i.2 + 1) U41 v41_1 v41_2) => K i.1 ro uo ⟨i.2 + 1, z⟩
    have i00 := i0
    replace i0 : ι × Nat := (i0, 0)
    by_cases c : (qI U41 0 129).toInt ≤ v41_2.toInt
    · replace h := h.1 c
      replace K := fun i ro uo z => K i ro uo (Or.inl ⟨c, z⟩)
      exact hk33 _ _ h (fun i ro uo z => K (i, 0) ro uo z)
    · replace h := h.2 c
      replace K := fun i ro uo z => K i ro uo (Or.inr ⟨c, z⟩)
      obtain ⟨g5_, h⟩ := h
      replace K := fun i ro uo z => K i ro uo ⟨g5_, z⟩
      by_cases c : (qI U41 81 v41_2.toInt.toNat).toInt = 0
      · replace h := h.1 c
        replace K := fun i ro uo z => K i ro uo (Or.inl ⟨c, z⟩)
        obtain ⟨g6_, h⟩ := h
        replace K := fun i ro uo z => K i ro uo ⟨g6_, z⟩
        by_cases c : (qI U41 88 v41_2.toInt.toNat).toInt = 0
        · replace h := h.1 c
          replace K := fun i ro uo z => K i ro uo (Or.inl ⟨c, z⟩)
          exact ru_sweep_J85 i0 (fun _ _ _ h K => ih i00 hk33 (fun i ro uo ⟨n8, z⟩ => K (i, n8) ro uo z) h) K h
        · replace h := h.2 c
          replace K := fun i ro uo z => K i ro uo (Or.inr ⟨c, z⟩)
          obtain ⟨Q9, h0, h⟩ := h
          obtain ⟨r37, S38, z9, g9⟩ := ru_meetFrom h0
          replace h := h r37 S38 g9
          replace K := fun i ro uo z => K i ro uo ⟨r37, S38, z9, z⟩
          by_cases c : r37.toInt = 0
          · replace h := h.1 c
            replace K := fun i ro uo z => K i ro uo (Or.inl ⟨c, z⟩)
            by_cases c : v41_1.toInt = 0
            · replace h := h.1 c
              replace K := fun i ro uo z => K i ro uo (Or.inl ⟨c, z⟩)
              exact ru_sweep_J84 i0 (fun _ _ _ h K => ih i00 hk33 (fun i ro uo ⟨n8, z⟩ => K (i, n8) ro uo z) h) K h
            · replace h := h.2 c
              replace K := fun i ro uo z => K i ro uo (Or.inr ⟨c, z⟩)
              exact ru_sweep_J79 i0 (fun _ _ _ h K => ih i00 hk33 (fun i ro uo ⟨n8, z⟩ => K (i, n8) ro uo z) h) K h
          · replace h := h.2 c
            replace K := fun i ro uo z => K i ro uo (Or.inr ⟨c, z⟩)
            exact ru_sweep_J79 i0 (fun _ _ _ h K => ih i00 hk33 (fun i ro uo ⟨n8, z⟩ => K (i, n8) ro uo z) h) K h
      · replace h := h.2 c
        replace K := fun i ro uo z => K i ro uo (Or.inr ⟨c, z⟩)
        exact ru_sweep_J85 i0 (fun _ _ _ h K => ih i00 hk33 (fun i ro uo ⟨n8, z⟩ => K (i, n8) ro uo z) h) K h
set_option maxRecDepth 100000 in
theorem ru_sweep_L33 {ι : Type} {P : Int32 → MS → Prop} {Q : Int32 → MS → Prop} : ∀ (n : Nat) {U33 : MS} {v33_1 : Int32} (i0 : ι), (∀ (i : ι) (ro : Int32) (uo : MS), (∃ n8, v_sweep_L33 ro uo n8 U33 v33_1) → P ro uo) → w_sweep_L33 Q n U33 v33_1 → ∃ ro uo, P ro uo ∧ Q ro uo := by
  intro n
  induction n with
  | zero => intro U33 v33_1 i0 K h; unfold w_sweep_L33 at h; exact h.elim
  | succ n ih =>
    intro U33 v33_1 i0 K h
    unfold w_sweep_L33 at h
    replace K := fun (i : ι × Nat) ro uo (z : v_sweep_L33 ro uo (i.2 + 1) U33 v33_1) => K i.1 ro uo ⟨i.2 + 1, z⟩
    have i00 := i0
    replace i0 : ι × Nat := (i0, 0)
    by_cases c : v33_1.toInt = 0
    · replace h := h.1 c
      replace K := fun i ro uo z => K i ro uo (Or.inl ⟨c, z⟩)
      obtain ⟨n9, h⟩ := h
      exact ru_sweep_L98 n9 i0 K h
    · replace h := h.2 c
      replace K := fun i ro uo z => K i ro uo (Or.inr ⟨c, z⟩)
      obtain ⟨n9, h⟩ := h
      exact ru_sweep_L41 n9 i0 (fun _ _ h K => ih i00 (fun i ro uo ⟨n8, z⟩ => K (i, n8) ro uo z) h) K h
set_option maxRecDepth 100000 in
theorem ru_sweep_L2 {ι : Type} {P : Int32 → MS → Prop} {Q : Int32 → MS → Prop} : ∀ (n : Nat) {U2 : MS} {v2_1 : Int32} (i0 : ι), (∀ (i : ι) (ro : Int32) (uo : MS), (∃ n8, v_sweep_L2 ro uo n8 U2 v2_1) → P ro uo) → w_sweep_L2 Q n U2 v2_1 → ∃ ro uo, P ro uo ∧ Q ro uo := by
  intro n
  induction n with
  | zero => intro U2 v2_1 i0 K h; unfold w_sweep_L2 at h; exact h.elim
  | succ n ih =>
    intro U2 v2_1 i0 K h
    unfold w_sweep_L2 at h
    replace K := fun (i : ι × Nat) ro uo (z : v_sweep_L2 ro uo (i.2 + 1) U2 v2_1) => K i.1 ro uo ⟨i.2 + 1, z⟩
    have i00 := i0
    replace i0 : ι × Nat := (i0, 0)
    by_cases c : (qI U2 0 129).toInt ≤ v2_1.toInt
    · replace h := h.1 c
      replace K := fun i ro uo z => K i ro uo (Or.inl ⟨c, z⟩)
      obtain ⟨Q9, h0, h⟩ := h
      obtain ⟨r3, S4, z9, g9⟩ := ru_here h0
      replace h := h r3 S4 g9
      replace K := fun i ro uo z => K i ro uo ⟨r3, S4, z9, z⟩
      obtain ⟨Q9, h0, h⟩ := h
      obtain ⟨r7, S8, z9, g9⟩ := ru_meet h0
      replace h := h r7 S8 g9
      replace K := fun i ro uo z => K i ro uo ⟨r7, S8, z9, z⟩
      obtain ⟨n9, h⟩ := h
      exact ru_sweep_L33 n9 i0 K h
    · replace h := h.2 c
      replace K := fun i ro uo z => K i ro uo (Or.inr ⟨c, z⟩)
      obtain ⟨g7_, h⟩ := h
      replace K := fun i ro uo z => K i ro uo ⟨g7_, z⟩
      obtain ⟨S43, eS43⟩ : ∃ x9 : MS, x9 = wI U2 88 v2_1.toInt.toNat (vp_nar .boolean (0 : Int32)) := ⟨_, rfl⟩
      replace h := h S43 eS43
      replace K := fun i ro uo z => K i ro uo ⟨S43, eS43, z⟩
      obtain ⟨a44, ea44⟩ : ∃ x9 : Int32, x9 = (v2_1 + Int32.ofInt 1) := ⟨_, rfl⟩
      replace h := h a44 ea44
      replace K := fun i ro uo z => K i ro uo ⟨a44, ea44, z⟩
      exact ih i00 (fun i ro uo ⟨n8, z⟩ => K (i, n8) ro uo z) h
set_option maxRecDepth 100000 in
theorem ru_sweep {S : MS} {Q : Int32 → MS → Prop} (h : w_sweep S Q) : ∃ ro uo, v_sweep S ro uo ∧ Q ro uo := by
  have i0 : Unit := ()
  have K : ∀ (i : Unit) (ro : Int32) (uo : MS), v_sweep S ro uo → v_sweep S ro uo := fun _ _ _ z => z
  unfold w_sweep at h
  obtain ⟨n9, h⟩ := h
  exact ru_sweep_L2 n9 i0 K h
set_option maxRecDepth 100000 in
theorem vw_sweep_J146 {ro : Int32} {uo : MS} {k98 k98v : MS → Int32 → Int32 → Prop} {U146 : MS} {v146_2 : Int32} {v146_3 : Int32} (hk98 : ∀ (u : MS) (z0 : Int32) (z1 : Int32), k98v u z0 z1 → k98 u z0 z1) (h : v_sweep_J146 ro uo k98v U146 v146_2 v146_3) : w_sweep_J146 (fun r u => r = ro ∧ u = uo) k98 U146 v146_2 v146_3 := by
  unfold v_sweep_J146 at h
  unfold w_sweep_J146
  obtain ⟨v9, e9, h⟩ := h
  intro x9 d9
  have c9 : v9 = x9 := e9.trans d9.symm
  subst c9
  exact hk98 _ _ _ h
set_option maxRecDepth 100000 in
theorem vz_sweep_J146 {ro : Int32} {uo : MS} {Q : Int32 → MS → Prop} {k98 k98v : MS → Int32 → Int32 → Prop} {U146 : MS} {v146_2 : Int32} {v146_3 : Int32} (hk98 : ∀ (u : MS) (z0 : Int32) (z1 : Int32), k98v u z0 z1 → k98 u z0 z1 → Q ro uo) (h : v_sweep_J146 ro uo k98v U146 v146_2 v146_3) (w : w_sweep_J146 Q k98 U146 v146_2 v146_3) : Q ro uo := by
  unfold v_sweep_J146 at h
  unfold w_sweep_J146 at w
  obtain ⟨v9, e9, h⟩ := h
  replace w := w v9 e9
  exact hk98 _ _ _ h w
set_option maxRecDepth 100000 in
theorem vw_sweep_J85 {ro : Int32} {uo : MS} {k41 k41v : MS → Int32 → Int32 → Prop} {U85 : MS} {v85_1 : Int32} {v85_2 : Int32} (hk41 : ∀ (u : MS) (z0 : Int32) (z1 : Int32), k41v u z0 z1 → k41 u z0 z1) (h : v_sweep_J85 ro uo k41v U85 v85_1 v85_2) : w_sweep_J85 (fun r u => r = ro ∧ u = uo) k41 U85 v85_1 v85_2 := by
  unfold v_sweep_J85 at h
  unfold w_sweep_J85
  obtain ⟨v9, e9, h⟩ := h
  intro x9 d9
  have c9 : v9 = x9 := e9.trans d9.symm
  subst c9
  exact hk41 _ _ _ h
set_option maxRecDepth 100000 in
theorem vz_sweep_J85 {ro : Int32} {uo : MS} {Q : Int32 → MS → Prop} {k41 k41v : MS → Int32 → Int32 → Prop} {U85 : MS} {v85_1 : Int32} {v85_2 : Int32} (hk41 : ∀ (u : MS) (z0 : Int32) (z1 : Int32), k41v u z0 z1 → k41 u z0 z1 → Q ro uo) (h : v_sweep_J85 ro uo k41v U85 v85_1 v85_2) (w : w_sweep_J85 Q k41 U85 v85_1 v85_2) : Q ro uo := by
  unfold v_sweep_J85 at h
  unfold w_sweep_J85 at w
  obtain ⟨v9, e9, h⟩ := h
  replace w := w v9 e9
  exact hk41 _ _ _ h w
set_option maxRecDepth 100000 in
theorem vw_sweep_J84 {ro : Int32} {uo : MS} {k41 k41v : MS → Int32 → Int32 → Prop} {U84 : MS} {t84_0 : Int32} {v84_2 : Int32} (hk41 : ∀ (u : MS) (z0 : Int32) (z1 : Int32), k41v u z0 z1 → k41 u z0 z1) (h : v_sweep_J84 ro uo k41v U84 t84_0 v84_2) : w_sweep_J84 (fun r u => r = ro ∧ u = uo) k41 U84 t84_0 v84_2 := by
  unfold v_sweep_J84 at h
  unfold w_sweep_J84
  exact vw_sweep_J85 hk41 h
set_option maxRecDepth 100000 in
theorem vz_sweep_J84 {ro : Int32} {uo : MS} {Q : Int32 → MS → Prop} {k41 k41v : MS → Int32 → Int32 → Prop} {U84 : MS} {t84_0 : Int32} {v84_2 : Int32} (hk41 : ∀ (u : MS) (z0 : Int32) (z1 : Int32), k41v u z0 z1 → k41 u z0 z1 → Q ro uo) (h : v_sweep_J84 ro uo k41v U84 t84_0 v84_2) (w : w_sweep_J84 Q k41 U84 t84_0 v84_2) : Q ro uo := by
  unfold v_sweep_J84 at h
  unfold w_sweep_J84 at w
  exact vz_sweep_J85 hk41 h w
set_option maxRecDepth 100000 in
theorem vw_sweep_J79 {ro : Int32} {uo : MS} {k41 k41v : MS → Int32 → Int32 → Prop} {U79 : MS} {v79_2 : Int32} (hk41 : ∀ (u : MS) (z0 : Int32) (z1 : Int32), k41v u z0 z1 → k41 u z0 z1) (h : v_sweep_J79 ro uo k41v U79 v79_2) : w_sweep_J79 (fun r u => r = ro ∧ u = uo) k41 U79 v79_2 := by
  unfold v_sweep_J79 at h
  unfold w_sweep_J79
  exact vw_sweep_J84 hk41 h
set_option maxRecDepth 100000 in
theorem vz_sweep_J79 {ro : Int32} {uo : MS} {Q : Int32 → MS → Prop} {k41 k41v : MS → Int32 → Int32 → Prop} {U79 : MS} {v79_2 : Int32} (hk41 : ∀ (u : MS) (z0 : Int32) (z1 : Int32), k41v u z0 z1 → k41 u z0 z1 → Q ro uo) (h : v_sweep_J79 ro uo k41v U79 v79_2) (w : w_sweep_J79 Q k41 U79 v79_2) : Q ro uo := by
  unfold v_sweep_J79 at h
  unfold w_sweep_J79 at w
  exact vz_sweep_J84 hk41 h w
set_option maxRecDepth 100000 in
theorem vw_sweep_L98 {ro : Int32} {uo : MS} : ∀ (n : Nat) {U98 : MS} {v98_2 : Int32} {v98_3 : Int32}, v_sweep_L98 ro uo n U98 v98_2 v98_3 → w_sweep_L98 (fun r u => r = ro ∧ u = uo) n U98 v98_2 v98_3 := by
  intro n
  induction n with
  | zero => intro U98 v98_2 v98_3 h; unfold v_sweep_L98 at h; exact h.elim
  | succ n ih =>
    intro U98 v98_2 v98_3 h
    unfold v_sweep_L98 at h
    unfold w_sweep_L98
    rcases h with ⟨c, h⟩ | ⟨c, h⟩
    · refine ⟨fun _ => ?_, fun c2 => absurd c c2⟩
      obtain ⟨q9, z9, h⟩ := h
      refine ⟨_, vw_mark z9, ?_⟩
      intro q8 d9
      subst d9
      obtain ⟨g9, h⟩ := h
      refine ⟨g9, ?_⟩
      exact ⟨h.1.symm, h.2.symm⟩
    · refine ⟨fun c2 => absurd c2 c, fun _ => ?_⟩
      obtain ⟨g9, h⟩ := h
      refine ⟨g9, ?_⟩
      rcases h with ⟨c, h⟩ | ⟨c, h⟩
      · refine ⟨fun _ => ?_, fun c2 => absurd c c2⟩
        obtain ⟨g9, h⟩ := h
        refine ⟨g9, ?_⟩
        rcases h with ⟨c, h⟩ | ⟨c, h⟩
        · refine ⟨fun _ => ?_, fun c2 => absurd c c2⟩
          obtain ⟨g9, h⟩ := h
          refine ⟨g9, ?_⟩
          obtain ⟨v9, e9, h⟩ := h
          intro x9 d9
          have c9 : v9 = x9 := e9.trans d9.symm
          subst c9
          obtain ⟨v9, e9, h⟩ := h
          intro x9 d9
          have c9 : v9 = x9 := e9.trans d9.symm
          subst c9
          exact vw_sweep_J146 (fun _ _ _ h => ih h) h
        · refine ⟨fun c2 => absurd c2 c, fun _ => ?_⟩
          exact vw_sweep_J146 (fun _ _ _ h => ih h) h
      · refine ⟨fun c2 => absurd c2 c, fun _ => ?_⟩
        exact vw_sweep_J146 (fun _ _ _ h => ih h) h
set_option maxRecDepth 100000 in
theorem vz_sweep_L98 {ro : Int32} {uo : MS} {Q : Int32 → MS → Prop} : ∀ (n m : Nat) {U98 : MS} {v98_2 : Int32} {v98_3 : Int32}, v_sweep_L98 ro uo n U98 v98_2 v98_3 → w_sweep_L98 Q m U98 v98_2 v98_3 → Q ro uo := by
  intro n
  induction n with
  | zero => intro m U98 v98_2 v98_3 h; unfold v_sweep_L98 at h; exact h.elim
  | succ n ih =>
    intro m U98 v98_2 v98_3 h w
    cases m with
    | zero => unfold w_sweep_L98 at w; exact w.elim
    | succ m =>
      unfold v_sweep_L98 at h
      unfold w_sweep_L98 at w
      rcases h with ⟨c, h⟩ | ⟨c, h⟩
      · replace w := w.1 c
        obtain ⟨q9, z9, h⟩ := h
        obtain ⟨Q9, w0, w⟩ := w
        replace w := w q9 (vz_mark z9 w0)
        replace h := h.2
        replace w := w.2
        rw [h.1, h.2]
        exact w
      · replace w := w.2 c
        replace h := h.2
        replace w := w.2
        rcases h with ⟨c, h⟩ | ⟨c, h⟩
        · replace w := w.1 c
          replace h := h.2
          replace w := w.2
          rcases h with ⟨c, h⟩ | ⟨c, h⟩
          · replace w := w.1 c
            replace h := h.2
            replace w := w.2
            obtain ⟨v9, e9, h⟩ := h
            replace w := w v9 e9
            obtain ⟨v9, e9, h⟩ := h
            replace w := w v9 e9
            exact vz_sweep_J146 (fun _ _ _ h w => ih m h w) h w
          · replace w := w.2 c
            exact vz_sweep_J146 (fun _ _ _ h w => ih m h w) h w
        · replace w := w.2 c
          exact vz_sweep_J146 (fun _ _ _ h w => ih m h w) h w
set_option maxRecDepth 100000 in
theorem vw_sweep_L41 {ro : Int32} {uo : MS} {k33 k33v : MS → Int32 → Prop} : ∀ (n : Nat) {U41 : MS} {v41_1 : Int32} {v41_2 : Int32} (hk33 : ∀ (u : MS) (z0 : Int32), k33v u z0 → k33 u z0), v_sweep_L41 ro uo k33v n U41 v41_1 v41_2 → w_sweep_L41 (fun r u => r = ro ∧ u = uo) k33 n U41 v41_1 v41_2 := by
  intro n
  induction n with
  | zero => intro U41 v41_1 v41_2 hk33 h; unfold v_sweep_L41 at h; exact h.elim
  | succ n ih =>
    intro U41 v41_1 v41_2 hk33 h
    unfold v_sweep_L41 at h
    unfold w_sweep_L41
    rcases h with ⟨c, h⟩ | ⟨c, h⟩
    · refine ⟨fun _ => ?_, fun c2 => absurd c c2⟩
      exact hk33 _ _ h
    · refine ⟨fun c2 => absurd c2 c, fun _ => ?_⟩
      obtain ⟨g9, h⟩ := h
      refine ⟨g9, ?_⟩
      rcases h with ⟨c, h⟩ | ⟨c, h⟩
      · refine ⟨fun _ => ?_, fun c2 => absurd c c2⟩
        obtain ⟨g9, h⟩ := h
        refine ⟨g9, ?_⟩
        rcases h with ⟨c, h⟩ | ⟨c, h⟩
        · refine ⟨fun _ => ?_, fun c2 => absurd c c2⟩
          exact vw_sweep_J85 (fun _ _ _ h => ih hk33 h) h
        · refine ⟨fun c2 => absurd c2 c, fun _ => ?_⟩
          obtain ⟨p9, q9, z9, h⟩ := h
          refine ⟨_, vw_meetFrom z9, ?_⟩
          rintro p8 q8 ⟨d8, d9⟩
          subst d8
          subst d9
          rcases h with ⟨c, h⟩ | ⟨c, h⟩
          · refine ⟨fun _ => ?_, fun c2 => absurd c c2⟩
            rcases h with ⟨c, h⟩ | ⟨c, h⟩
            · refine ⟨fun _ => ?_, fun c2 => absurd c c2⟩
              exact vw_sweep_J84 (fun _ _ _ h => ih hk33 h) h
            · refine ⟨fun c2 => absurd c2 c, fun _ => ?_⟩
              exact vw_sweep_J79 (fun _ _ _ h => ih hk33 h) h
          · refine ⟨fun c2 => absurd c2 c, fun _ => ?_⟩
            exact vw_sweep_J79 (fun _ _ _ h => ih hk33 h) h
      · refine ⟨fun c2 => absurd c2 c, fun _ => ?_⟩
        exact vw_sweep_J85 (fun _ _ _ h => ih hk33 h) h
set_option maxRecDepth 100000 in
theorem vz_sweep_L41 {ro : Int32} {uo : MS} {Q : Int32 → MS → Prop} {k33 k33v : MS → Int32 → Prop} : ∀ (n m : Nat) {U41 : MS} {v41_1 : Int32} {v41_2 : Int32} (hk33 : ∀ (u : MS) (z0 : Int32), k33v u z0 → k33 u z0 → Q ro uo), v_sweep_L41 ro uo k33v n U41 v41_1 v41_2 → w_sweep_L41 Q k33 m U41 v41_1 v41_2 → Q ro uo := by
  intro n
  induction n with
  | zero => intro m U41 v41_1 v41_2 hk33 h; unfold v_sweep_L41 at h; exact h.elim
  | succ n ih =>
    intro m U41 v41_1 v41_2 hk33 h w
    cases m with
    | zero => unfold w_sweep_L41 at w; exact w.elim
    | succ m =>
      unfold v_sweep_L41 at h
      unfold w_sweep_L41 at w
      rcases h with ⟨c, h⟩ | ⟨c, h⟩
      · replace w := w.1 c
        exact hk33 _ _ h w
      · replace w := w.2 c
        replace h := h.2
        replace w := w.2
        rcases h with ⟨c, h⟩ | ⟨c, h⟩
        · replace w := w.1 c
          replace h := h.2
          replace w := w.2
          rcases h with ⟨c, h⟩ | ⟨c, h⟩
          · replace w := w.1 c
            exact vz_sweep_J85 (fun _ _ _ h w => ih m hk33 h w) h w
          · replace w := w.2 c
            obtain ⟨p9, q9, z9, h⟩ := h
            obtain ⟨Q9, w0, w⟩ := w
            replace w := w p9 q9 (vz_meetFrom z9 w0)
            rcases h with ⟨c, h⟩ | ⟨c, h⟩
            · replace w := w.1 c
              rcases h with ⟨c, h⟩ | ⟨c, h⟩
              · replace w := w.1 c
                exact vz_sweep_J84 (fun _ _ _ h w => ih m hk33 h w) h w
              · replace w := w.2 c
                exact vz_sweep_J79 (fun _ _ _ h w => ih m hk33 h w) h w
            · replace w := w.2 c
              exact vz_sweep_J79 (fun _ _ _ h w => ih m hk33 h w) h w
        · replace w := w.2 c
          exact vz_sweep_J85 (fun _ _ _ h w => ih m hk33 h w) h w
set_option maxRecDepth 100000 in
theorem vw_sweep_L33 {ro : Int32} {uo : MS} : ∀ (n : Nat) {U33 : MS} {v33_1 : Int32}, v_sweep_L33 ro uo n U33 v33_1 → w_sweep_L33 (fun r u => r = ro ∧ u = uo) n U33 v33_1 := by
  intro n
  induction n with
  | zero => intro U33 v33_1 h; unfold v_sweep_L33 at h; exact h.elim
  | succ n ih =>
    intro U33 v33_1 h
    unfold v_sweep_L33 at h
    unfold w_sweep_L33
    rcases h with ⟨c, h⟩ | ⟨c, h⟩
    · refine ⟨fun _ => ?_, fun c2 => absurd c c2⟩
      obtain ⟨n9, h⟩ := h
      exact ⟨n9, vw_sweep_L98 n9 h⟩
    · refine ⟨fun c2 => absurd c2 c, fun _ => ?_⟩
      obtain ⟨n9, h⟩ := h
      exact ⟨n9, vw_sweep_L41 n9 (fun _ _ h => ih h) h⟩
set_option maxRecDepth 100000 in
theorem vz_sweep_L33 {ro : Int32} {uo : MS} {Q : Int32 → MS → Prop} : ∀ (n m : Nat) {U33 : MS} {v33_1 : Int32}, v_sweep_L33 ro uo n U33 v33_1 → w_sweep_L33 Q m U33 v33_1 → Q ro uo := by
  intro n
  induction n with
  | zero => intro m U33 v33_1 h; unfold v_sweep_L33 at h; exact h.elim
  | succ n ih =>
    intro m U33 v33_1 h w
    cases m with
    | zero => unfold w_sweep_L33 at w; exact w.elim
    | succ m =>
      unfold v_sweep_L33 at h
      unfold w_sweep_L33 at w
      rcases h with ⟨c, h⟩ | ⟨c, h⟩
      · replace w := w.1 c
        obtain ⟨n9, h⟩ := h
        obtain ⟨n8, w⟩ := w
        exact vz_sweep_L98 n9 n8 h w
      · replace w := w.2 c
        obtain ⟨n9, h⟩ := h
        obtain ⟨n8, w⟩ := w
        exact vz_sweep_L41 n9 n8 (fun _ _ h w => ih m h w) h w
set_option maxRecDepth 100000 in
theorem vw_sweep_L2 {ro : Int32} {uo : MS} : ∀ (n : Nat) {U2 : MS} {v2_1 : Int32}, v_sweep_L2 ro uo n U2 v2_1 → w_sweep_L2 (fun r u => r = ro ∧ u = uo) n U2 v2_1 := by
  intro n
  induction n with
  | zero => intro U2 v2_1 h; unfold v_sweep_L2 at h; exact h.elim
  | succ n ih =>
    intro U2 v2_1 h
    unfold v_sweep_L2 at h
    unfold w_sweep_L2
    rcases h with ⟨c, h⟩ | ⟨c, h⟩
    · refine ⟨fun _ => ?_, fun c2 => absurd c c2⟩
      obtain ⟨p9, q9, z9, h⟩ := h
      refine ⟨_, vw_here z9, ?_⟩
      rintro p8 q8 ⟨d8, d9⟩
      subst d8
      subst d9
      obtain ⟨p9, q9, z9, h⟩ := h
      refine ⟨_, vw_meet z9, ?_⟩
      rintro p8 q8 ⟨d8, d9⟩
      subst d8
      subst d9
      obtain ⟨n9, h⟩ := h
      exact ⟨n9, vw_sweep_L33 n9 h⟩
    · refine ⟨fun c2 => absurd c2 c, fun _ => ?_⟩
      obtain ⟨g9, h⟩ := h
      refine ⟨g9, ?_⟩
      obtain ⟨v9, e9, h⟩ := h
      intro x9 d9
      have c9 : v9 = x9 := e9.trans d9.symm
      subst c9
      obtain ⟨v9, e9, h⟩ := h
      intro x9 d9
      have c9 : v9 = x9 := e9.trans d9.symm
      subst c9
      exact ih h
set_option maxRecDepth 100000 in
theorem vz_sweep_L2 {ro : Int32} {uo : MS} {Q : Int32 → MS → Prop} : ∀ (n m : Nat) {U2 : MS} {v2_1 : Int32}, v_sweep_L2 ro uo n U2 v2_1 → w_sweep_L2 Q m U2 v2_1 → Q ro uo := by
  intro n
  induction n with
  | zero => intro m U2 v2_1 h; unfold v_sweep_L2 at h; exact h.elim
  | succ n ih =>
    intro m U2 v2_1 h w
    cases m with
    | zero => unfold w_sweep_L2 at w; exact w.elim
    | succ m =>
      unfold v_sweep_L2 at h
      unfold w_sweep_L2 at w
      rcases h with ⟨c, h⟩ | ⟨c, h⟩
      · replace w := w.1 c
        obtain ⟨p9, q9, z9, h⟩ := h
        obtain ⟨Q9, w0, w⟩ := w
        replace w := w p9 q9 (vz_here z9 w0)
        obtain ⟨p9, q9, z9, h⟩ := h
        obtain ⟨Q9, w0, w⟩ := w
        replace w := w p9 q9 (vz_meet z9 w0)
        obtain ⟨n9, h⟩ := h
        obtain ⟨n8, w⟩ := w
        exact vz_sweep_L33 n9 n8 h w
      · replace w := w.2 c
        replace h := h.2
        replace w := w.2
        obtain ⟨v9, e9, h⟩ := h
        replace w := w v9 e9
        obtain ⟨v9, e9, h⟩ := h
        replace w := w v9 e9
        exact ih m h w
set_option maxRecDepth 100000 in
theorem vw_sweep {S : MS} {ro : Int32} {uo : MS} (h : v_sweep S ro uo) : w_sweep S (fun r u => r = ro ∧ u = uo) := by
  unfold v_sweep at h
  unfold w_sweep
  obtain ⟨n9, h⟩ := h
  exact ⟨n9, vw_sweep_L2 n9 h⟩
set_option maxRecDepth 100000 in
theorem vz_sweep {S : MS} {ro : Int32} {uo : MS} {Q : Int32 → MS → Prop} (h : v_sweep S ro uo) (w : w_sweep S Q) : Q ro uo := by
  unfold v_sweep at h
  unfold w_sweep at w
  obtain ⟨n9, h⟩ := h
  obtain ⟨n8, w⟩ := w
  exact vz_sweep_L2 n9 n8 h w
def v_pass_J65 (ro : Int32) (uo : MS) (k32 : MS → Int32 → Int32 → Int32 → Prop) (U65 : MS) (v65_1 : Int32) (v65_2 : Int32) (v65_3 : Int32) : Prop := (∃ (r23 : Int32) (S24 : MS), v_here U65 v65_3 r23 S24 ∧ (k32 S24 v65_1 v65_2 r23))
def v_pass_L32 (ro : Int32) (uo : MS) : Nat → MS → Int32 → Int32 → Int32 → Prop
  | 0, _, _, _, _ => False
  | n32 + 1, U32, v32_1, v32_2, v32_3 => (((qI U32 0 129).toInt ≤ v32_3.toInt ∧ (ro = v32_2 ∧ uo = U32)) ∨ (¬ (qI U32 0 129).toInt ≤ v32_3.toInt ∧ (∃ (r11 : Int32) (S12 : MS), v_apply U32 v32_1 v32_3 r11 S12 ∧ ((r11.toInt = 0 ∧ (∃ (r16 : Int32) (S17 : MS), v_behind S12 v32_3 r16 S17 ∧ ((v_pass_L32 ro uo n32) S17 v32_1 v32_2 r16))) ∨ (¬ r11.toInt = 0 ∧ (∃ (S20 : MS), v_mark S12 S20 ∧ ((v32_1.toInt < 10 ∧ (v_pass_J65 ro uo (v_pass_L32 ro uo n32) S20 v32_1 1 v32_3)) ∨ (¬ v32_1.toInt < 10 ∧ (∃ (S28 : MS), v_findLive S20 S28 ∧ (v_pass_J65 ro uo (v_pass_L32 ro uo n32) S28 v32_1 1 v32_3))))))))))
def v_pass_J24 (ro : Int32) (uo : MS) (U24 : MS) (v24_1 : Int32) : Prop := (∃ (r6 : Int32) (S7 : MS), v_here U24 (0 : Int32) r6 S7 ∧ (∃ n, v_pass_L32 ro uo n S7 v24_1 0 r6))
def v_pass (S : MS) (x1 : Int32) (ro : Int32) (uo : MS) : Prop := (∃ (S2 : MS), v_mark S S2 ∧ ((x1.toInt = 1 ∧ (∃ (r35 : Int32) (S36 : MS), v_sweep S2 r35 S36 ∧ (ro = r35 ∧ uo = S36))) ∨ (¬ x1.toInt = 1 ∧ ((x1.toInt < 10 ∧ (v_pass_J24 ro uo S2 x1)) ∨ (¬ x1.toInt < 10 ∧ (∃ (S32 : MS), v_findLive S2 S32 ∧ (v_pass_J24 ro uo S32 x1)))))))
set_option maxRecDepth 100000 in
theorem ru_pass_J65 {ι : Type} {P : Int32 → MS → Prop} {Q : Int32 → MS → Prop} {k32 : MS → Int32 → Int32 → Int32 → Prop} {k32v : ι → Int32 → MS → MS → Int32 → Int32 → Int32 → Prop} {U65 : MS} {v65_1 : Int32} {v65_2 : Int32} {v65_3 : Int32} (i0 : ι) (hk32 : ∀ (u : MS) (z0 : Int32) (z1 : Int32) (z2 : Int32), k32 u z0 z1 z2 → (∀ (i : ι) (ro : Int32) (uo : MS), k32v i ro uo u z0 z1 z2 → P ro uo) → ∃ ro uo, P ro uo ∧ Q ro uo) (K : ∀ (i : ι) (ro : Int32) (uo : MS), v_pass_J65 ro uo (k32v i ro uo) U65 v65_1 v65_2 v65_3 → P ro uo) (h : w_pass_J65 Q k32 U65 v65_1 v65_2 v65_3) : ∃ ro uo, P ro uo ∧ Q ro uo := by
  unfold w_pass_J65 at h
  obtain ⟨Q9, h0, h⟩ := h
  obtain ⟨r23, S24, z9, g9⟩ := ru_here h0
  replace h := h r23 S24 g9
  replace K := fun i ro uo z => K i ro uo ⟨r23, S24, z9, z⟩
  exact hk32 _ _ _ _ h K
set_option maxRecDepth 100000 in
theorem ru_pass_L32 {ι : Type} {P : Int32 → MS → Prop} {Q : Int32 → MS → Prop} : ∀ (n : Nat) {U32 : MS} {v32_1 : Int32} {v32_2 : Int32} {v32_3 : Int32} (i0 : ι), (∀ (i : ι) (ro : Int32) (uo : MS), (∃ n8, v_pass_L32 ro uo n8 U32 v32_1 v32_2 v32_3) → P ro uo) → w_pass_L32 Q n U32 v32_1 v32_2 v32_3 → ∃ ro uo, P ro uo ∧ Q ro uo := by
  intro n
  induction n with
  | zero => intro U32 v32_1 v32_2 v32_3 i0 K h; unfold w_pass_L32 at h; exact h.elim
  | succ n ih =>
    intro U32 v32_1 v32_2 v32_3 i0 K h
    unfold w_pass_L32 at h
    replace K := fun (i : ι × Nat) ro uo (z : v_pass_L32 ro uo (i.2 + 1) U32 v32_1 v32_2 v32_3) => K i.1 ro uo ⟨i.2 + 1, z⟩
    have i00 := i0
    replace i0 : ι × Nat := (i0, 0)
    by_cases c : (qI U32 0 129).toInt ≤ v32_3.toInt
    · replace h := h.1 c
      replace K := fun i ro uo z => K i ro uo (Or.inl ⟨c, z⟩)
      exact ⟨_, _, K i0 _ _ ⟨rfl, rfl⟩, h⟩
    · replace h := h.2 c
      replace K := fun i ro uo z => K i ro uo (Or.inr ⟨c, z⟩)
      obtain ⟨Q9, h0, h⟩ := h
      obtain ⟨r11, S12, z9, g9⟩ := ru_apply h0
      replace h := h r11 S12 g9
      replace K := fun i ro uo z => K i ro uo ⟨r11, S12, z9, z⟩
      by_cases c : r11.toInt = 0
      · replace h := h.1 c
        replace K := fun i ro uo z => K i ro uo (Or.inl ⟨c, z⟩)
        obtain ⟨Q9, h0, h⟩ := h
        obtain ⟨r16, S17, z9, g9⟩ := ru_behind h0
        replace h := h r16 S17 g9
        replace K := fun i ro uo z => K i ro uo ⟨r16, S17, z9, z⟩
        exact ih i00 (fun i ro uo ⟨n8, z⟩ => K (i, n8) ro uo z) h
      · replace h := h.2 c
        replace K := fun i ro uo z => K i ro uo (Or.inr ⟨c, z⟩)
        obtain ⟨Q9, h0, h⟩ := h
        obtain ⟨S20, z9, g9⟩ := ru_mark h0
        replace h := h S20 g9
        replace K := fun i ro uo z => K i ro uo ⟨S20, z9, z⟩
        by_cases c : v32_1.toInt < 10
        · replace h := h.1 c
          replace K := fun i ro uo z => K i ro uo (Or.inl ⟨c, z⟩)
          exact ru_pass_J65 i0 (fun _ _ _ _ h K => ih i00 (fun i ro uo ⟨n8, z⟩ => K (i, n8) ro uo z) h) K h
        · replace h := h.2 c
          replace K := fun i ro uo z => K i ro uo (Or.inr ⟨c, z⟩)
          obtain ⟨Q9, h0, h⟩ := h
          obtain ⟨S28, z9, g9⟩ := ru_findLive h0
          replace h := h S28 g9
          replace K := fun i ro uo z => K i ro uo ⟨S28, z9, z⟩
          exact ru_pass_J65 i0 (fun _ _ _ _ h K => ih i00 (fun i ro uo ⟨n8, z⟩ => K (i, n8) ro uo z) h) K h
set_option maxRecDepth 100000 in
theorem ru_pass_J24 {ι : Type} {P : Int32 → MS → Prop} {Q : Int32 → MS → Prop} {U24 : MS} {v24_1 : Int32} (i0 : ι) (K : ∀ (i : ι) (ro : Int32) (uo : MS), v_pass_J24 ro uo U24 v24_1 → P ro uo) (h : w_pass_J24 Q U24 v24_1) : ∃ ro uo, P ro uo ∧ Q ro uo := by
  unfold w_pass_J24 at h
  obtain ⟨Q9, h0, h⟩ := h
  obtain ⟨r6, S7, z9, g9⟩ := ru_here h0
  replace h := h r6 S7 g9
  replace K := fun i ro uo z => K i ro uo ⟨r6, S7, z9, z⟩
  obtain ⟨n9, h⟩ := h
  exact ru_pass_L32 n9 i0 K h
set_option maxRecDepth 100000 in
theorem ru_pass {S : MS} {x1 : Int32} {Q : Int32 → MS → Prop} (h : w_pass S x1 Q) : ∃ ro uo, v_pass S x1 ro uo ∧ Q ro uo := by
  have i0 : Unit := ()
  have K : ∀ (i : Unit) (ro : Int32) (uo : MS), v_pass S x1 ro uo → v_pass S x1 ro uo := fun _ _ _ z => z
  unfold w_pass at h
  obtain ⟨Q9, h0, h⟩ := h
  obtain ⟨S2, z9, g9⟩ := ru_mark h0
  replace h := h S2 g9
  replace K := fun i ro uo z => K i ro uo ⟨S2, z9, z⟩
  by_cases c : x1.toInt = 1
  · replace h := h.1 c
    replace K := fun i ro uo z => K i ro uo (Or.inl ⟨c, z⟩)
    obtain ⟨Q9, h0, h⟩ := h
    obtain ⟨r35, S36, z9, g9⟩ := ru_sweep h0
    replace h := h r35 S36 g9
    replace K := fun i ro uo z => K i ro uo ⟨r35, S36, z9, z⟩
    exact ⟨_, _, K i0 _ _ ⟨rfl, rfl⟩, h⟩
  · replace h := h.2 c
    replace K := fun i ro uo z => K i ro uo (Or.inr ⟨c, z⟩)
    by_cases c : x1.toInt < 10
    · replace h := h.1 c
      replace K := fun i ro uo z => K i ro uo (Or.inl ⟨c, z⟩)
      exact ru_pass_J24 i0 K h
    · replace h := h.2 c
      replace K := fun i ro uo z => K i ro uo (Or.inr ⟨c, z⟩)
      obtain ⟨Q9, h0, h⟩ := h
      obtain ⟨S32, z9, g9⟩ := ru_findLive h0
      replace h := h S32 g9
      replace K := fun i ro uo z => K i ro uo ⟨S32, z9, z⟩
      exact ru_pass_J24 i0 K h
set_option maxRecDepth 100000 in
theorem vw_pass_J65 {ro : Int32} {uo : MS} {k32 k32v : MS → Int32 → Int32 → Int32 → Prop} {U65 : MS} {v65_1 : Int32} {v65_2 : Int32} {v65_3 : Int32} (hk32 : ∀ (u : MS) (z0 : Int32) (z1 : Int32) (z2 : Int32), k32v u z0 z1 z2 → k32 u z0 z1 z2) (h : v_pass_J65 ro uo k32v U65 v65_1 v65_2 v65_3) : w_pass_J65 (fun r u => r = ro ∧ u = uo) k32 U65 v65_1 v65_2 v65_3 := by
  unfold v_pass_J65 at h
  unfold w_pass_J65
  obtain ⟨p9, q9, z9, h⟩ := h
  refine ⟨_, vw_here z9, ?_⟩
  rintro p8 q8 ⟨d8, d9⟩
  subst d8
  subst d9
  exact hk32 _ _ _ _ h
set_option maxRecDepth 100000 in
theorem vz_pass_J65 {ro : Int32} {uo : MS} {Q : Int32 → MS → Prop} {k32 k32v : MS → Int32 → Int32 → Int32 → Prop} {U65 : MS} {v65_1 : Int32} {v65_2 : Int32} {v65_3 : Int32} (hk32 : ∀ (u : MS) (z0 : Int32) (z1 : Int32) (z2 : Int32), k32v u z0 z1 z2 → k32 u z0 z1 z2 → Q ro uo) (h : v_pass_J65 ro uo k32v U65 v65_1 v65_2 v65_3) (w : w_pass_J65 Q k32 U65 v65_1 v65_2 v65_3) : Q ro uo := by
  unfold v_pass_J65 at h
  unfold w_pass_J65 at w
  obtain ⟨p9, q9, z9, h⟩ := h
  obtain ⟨Q9, w0, w⟩ := w
  replace w := w p9 q9 (vz_here z9 w0)
  exact hk32 _ _ _ _ h w
set_option maxRecDepth 100000 in
theorem vw_pass_L32 {ro : Int32} {uo : MS} : ∀ (n : Nat) {U32 : MS} {v32_1 : Int32} {v32_2 : Int32} {v32_3 : Int32}, v_pass_L32 ro uo n U32 v32_1 v32_2 v32_3 → w_pass_L32 (fun r u => r = ro ∧ u = uo) n U32 v32_1 v32_2 v32_3 := by
  intro n
  induction n with
  | zero => intro U32 v32_1 v32_2 v32_3 h; unfold v_pass_L32 at h; exact h.elim
  | succ n ih =>
    intro U32 v32_1 v32_2 v32_3 h
    unfold v_pass_L32 at h
    unfold w_pass_L32
    rcases h with ⟨c, h⟩ | ⟨c, h⟩
    · refine ⟨fun _ => ?_, fun c2 => absurd c c2⟩
      exact ⟨h.1.symm, h.2.symm⟩
    · refine ⟨fun c2 => absurd c2 c, fun _ => ?_⟩
      obtain ⟨p9, q9, z9, h⟩ := h
      refine ⟨_, vw_apply z9, ?_⟩
      rintro p8 q8 ⟨d8, d9⟩
      subst d8
      subst d9
      rcases h with ⟨c, h⟩ | ⟨c, h⟩
      · refine ⟨fun _ => ?_, fun c2 => absurd c c2⟩
        obtain ⟨p9, q9, z9, h⟩ := h
        refine ⟨_, vw_behind z9, ?_⟩
        rintro p8 q8 ⟨d8, d9⟩
        subst d8
        subst d9
        exact ih h
      · refine ⟨fun c2 => absurd c2 c, fun _ => ?_⟩
        obtain ⟨q9, z9, h⟩ := h
        refine ⟨_, vw_mark z9, ?_⟩
        intro q8 d9
        subst d9
        rcases h with ⟨c, h⟩ | ⟨c, h⟩
        · refine ⟨fun _ => ?_, fun c2 => absurd c c2⟩
          exact vw_pass_J65 (fun _ _ _ _ h => ih h) h
        · refine ⟨fun c2 => absurd c2 c, fun _ => ?_⟩
          obtain ⟨q9, z9, h⟩ := h
          refine ⟨_, vw_findLive z9, ?_⟩
          intro q8 d9
          subst d9
          exact vw_pass_J65 (fun _ _ _ _ h => ih h) h
set_option maxRecDepth 100000 in
theorem vz_pass_L32 {ro : Int32} {uo : MS} {Q : Int32 → MS → Prop} : ∀ (n m : Nat) {U32 : MS} {v32_1 : Int32} {v32_2 : Int32} {v32_3 : Int32}, v_pass_L32 ro uo n U32 v32_1 v32_2 v32_3 → w_pass_L32 Q m U32 v32_1 v32_2 v32_3 → Q ro uo := by
  intro n
  induction n with
  | zero => intro m U32 v32_1 v32_2 v32_3 h; unfold v_pass_L32 at h; exact h.elim
  | succ n ih =>
    intro m U32 v32_1 v32_2 v32_3 h w
    cases m with
    | zero => unfold w_pass_L32 at w; exact w.elim
    | succ m =>
      unfold v_pass_L32 at h
      unfold w_pass_L32 at w
      rcases h with ⟨c, h⟩ | ⟨c, h⟩
      · replace w := w.1 c
        rw [h.1, h.2]
        exact w
      · replace w := w.2 c
        obtain ⟨p9, q9, z9, h⟩ := h
        obtain ⟨Q9, w0, w⟩ := w
        replace w := w p9 q9 (vz_apply z9 w0)
        rcases h with ⟨c, h⟩ | ⟨c, h⟩
        · replace w := w.1 c
          obtain ⟨p9, q9, z9, h⟩ := h
          obtain ⟨Q9, w0, w⟩ := w
          replace w := w p9 q9 (vz_behind z9 w0)
          exact ih m h w
        · replace w := w.2 c
          obtain ⟨q9, z9, h⟩ := h
          obtain ⟨Q9, w0, w⟩ := w
          replace w := w q9 (vz_mark z9 w0)
          rcases h with ⟨c, h⟩ | ⟨c, h⟩
          · replace w := w.1 c
            exact vz_pass_J65 (fun _ _ _ _ h w => ih m h w) h w
          · replace w := w.2 c
            obtain ⟨q9, z9, h⟩ := h
            obtain ⟨Q9, w0, w⟩ := w
            replace w := w q9 (vz_findLive z9 w0)
            exact vz_pass_J65 (fun _ _ _ _ h w => ih m h w) h w
set_option maxRecDepth 100000 in
theorem vw_pass_J24 {ro : Int32} {uo : MS} {U24 : MS} {v24_1 : Int32} (h : v_pass_J24 ro uo U24 v24_1) : w_pass_J24 (fun r u => r = ro ∧ u = uo) U24 v24_1 := by
  unfold v_pass_J24 at h
  unfold w_pass_J24
  obtain ⟨p9, q9, z9, h⟩ := h
  refine ⟨_, vw_here z9, ?_⟩
  rintro p8 q8 ⟨d8, d9⟩
  subst d8
  subst d9
  obtain ⟨n9, h⟩ := h
  exact ⟨n9, vw_pass_L32 n9 h⟩
set_option maxRecDepth 100000 in
theorem vz_pass_J24 {ro : Int32} {uo : MS} {Q : Int32 → MS → Prop} {U24 : MS} {v24_1 : Int32} (h : v_pass_J24 ro uo U24 v24_1) (w : w_pass_J24 Q U24 v24_1) : Q ro uo := by
  unfold v_pass_J24 at h
  unfold w_pass_J24 at w
  obtain ⟨p9, q9, z9, h⟩ := h
  obtain ⟨Q9, w0, w⟩ := w
  replace w := w p9 q9 (vz_here z9 w0)
  obtain ⟨n9, h⟩ := h
  obtain ⟨n8, w⟩ := w
  exact vz_pass_L32 n9 n8 h w
set_option maxRecDepth 100000 in
theorem vw_pass {S : MS} {x1 : Int32} {ro : Int32} {uo : MS} (h : v_pass S x1 ro uo) : w_pass S x1 (fun r u => r = ro ∧ u = uo) := by
  unfold v_pass at h
  unfold w_pass
  obtain ⟨q9, z9, h⟩ := h
  refine ⟨_, vw_mark z9, ?_⟩
  intro q8 d9
  subst d9
  rcases h with ⟨c, h⟩ | ⟨c, h⟩
  · refine ⟨fun _ => ?_, fun c2 => absurd c c2⟩
    obtain ⟨p9, q9, z9, h⟩ := h
    refine ⟨_, vw_sweep z9, ?_⟩
    rintro p8 q8 ⟨d8, d9⟩
    subst d8
    subst d9
    exact ⟨h.1.symm, h.2.symm⟩
  · refine ⟨fun c2 => absurd c2 c, fun _ => ?_⟩
    rcases h with ⟨c, h⟩ | ⟨c, h⟩
    · refine ⟨fun _ => ?_, fun c2 => absurd c c2⟩
      exact vw_pass_J24 h
    · refine ⟨fun c2 => absurd c2 c, fun _ => ?_⟩
      obtain ⟨q9, z9, h⟩ := h
      refine ⟨_, vw_findLive z9, ?_⟩
      intro q8 d9
      subst d9
      exact vw_pass_J24 h
set_option maxRecDepth 100000 in
theorem vz_pass {S : MS} {x1 : Int32} {ro : Int32} {uo : MS} {Q : Int32 → MS → Prop} (h : v_pass S x1 ro uo) (w : w_pass S x1 Q) : Q ro uo := by
  unfold v_pass at h
  unfold w_pass at w
  obtain ⟨q9, z9, h⟩ := h
  obtain ⟨Q9, w0, w⟩ := w
  replace w := w q9 (vz_mark z9 w0)
  rcases h with ⟨c, h⟩ | ⟨c, h⟩
  · replace w := w.1 c
    obtain ⟨p9, q9, z9, h⟩ := h
    obtain ⟨Q9, w0, w⟩ := w
    replace w := w p9 q9 (vz_sweep z9 w0)
    rw [h.1, h.2]
    exact w
  · replace w := w.2 c
    rcases h with ⟨c, h⟩ | ⟨c, h⟩
    · replace w := w.1 c
      exact vz_pass_J24 h w
    · replace w := w.2 c
      obtain ⟨q9, z9, h⟩ := h
      obtain ⟨Q9, w0, w⟩ := w
      replace w := w q9 (vz_findLive z9 w0)
      exact vz_pass_J24 h w
def v_rounds_J57 (uo : MS) (k19 : MS → Int32 → Int32 → Int32 → Int32 → Prop) (U57 : MS) (v57_1 : Int32) (v57_2 : Int32) (v57_3 : Int32) (v57_4 : Int32) : Prop := (∃ a8 : Int32, a8 = (v57_4 + Int32.ofInt 1) ∧ (k19 U57 v57_1 v57_2 v57_3 a8))
def v_rounds_J56 (uo : MS) (k19 : MS → Int32 → Int32 → Int32 → Int32 → Prop) (U56 : MS) (t56_0 : Int32) (v56_1 : Int32) (v56_3 : Int32) (v56_4 : Int32) : Prop := (v_rounds_J57 uo k19 U56 v56_1 t56_0 v56_3 v56_4)
def v_rounds_J51 (uo : MS) (k19 : MS → Int32 → Int32 → Int32 → Int32 → Prop) (U51 : MS) (v51_1 : Int32) (v51_3 : Int32) (v51_4 : Int32) : Prop := (v_rounds_J56 uo k19 U51 1 v51_1 v51_3 v51_4)
def v_rounds_L19 (uo : MS) (k4 : MS → Int32 → Int32 → Int32 → Prop) : Nat → MS → Int32 → Int32 → Int32 → Int32 → Prop
  | 0, _, _, _, _, _ => False
  | n19 + 1, U19, v19_1, v19_2, v19_3, v19_4 => ((11 < v19_4.toInt ∧ (∃ a4 : Int32, a4 = (v19_3 + Int32.ofInt 1) ∧ (k4 U19 v19_1 v19_2 a4))) ∨ (¬ 11 < v19_4.toInt ∧ ((((v19_1 >>> ((v19_4 - (1 : Int32)) &&& 31)) &&& (1 : Int32)).toInt = 1 ∧ (∃ (r11 : Int32) (S12 : MS), v_pass U19 v19_4 r11 S12 ∧ ((r11.toInt = 0 ∧ ((v19_2.toInt = 0 ∧ (v_rounds_J56 uo (v_rounds_L19 uo k4 n19) S12 0 v19_1 v19_3 v19_4)) ∨ (¬ v19_2.toInt = 0 ∧ (v_rounds_J51 uo (v_rounds_L19 uo k4 n19) S12 v19_1 v19_3 v19_4)))) ∨ (¬ r11.toInt = 0 ∧ (v_rounds_J51 uo (v_rounds_L19 uo k4 n19) S12 v19_1 v19_3 v19_4))))) ∨ (¬ ((v19_1 >>> ((v19_4 - (1 : Int32)) &&& 31)) &&& (1 : Int32)).toInt = 1 ∧ (v_rounds_J57 uo (v_rounds_L19 uo k4 n19) U19 v19_1 v19_2 v19_3 v19_4)))))
def v_rounds_L4 (uo : MS) : Nat → MS → Int32 → Int32 → Int32 → Prop
  | 0, _, _, _, _ => False
  | n4 + 1, U4, v4_1, v4_2, v4_3 => ((v4_2.toInt = 0 ∧ (uo = U4)) ∨ (¬ v4_2.toInt = 0 ∧ ((50 ≤ v4_3.toInt ∧ (uo = U4)) ∨ (¬ 50 ≤ v4_3.toInt ∧ (∃ n, v_rounds_L19 uo (v_rounds_L4 uo n4) n U4 v4_1 0 v4_3 1)))))
def v_rounds (S : MS) (x1 : Int32) (uo : MS) : Prop := (∃ n, v_rounds_L4 uo n S x1 1 0)
set_option maxRecDepth 100000 in
theorem ru_rounds_J57 {ι : Type} {P : MS → Prop} {Q : MS → Prop} {k19 : MS → Int32 → Int32 → Int32 → Int32 → Prop} {k19v : ι → MS → MS → Int32 → Int32 → Int32 → Int32 → Prop} {U57 : MS} {v57_1 : Int32} {v57_2 : Int32} {v57_3 : Int32} {v57_4 : Int32} (i0 : ι) (hk19 : ∀ (u : MS) (z0 : Int32) (z1 : Int32) (z2 : Int32) (z3 : Int32), k19 u z0 z1 z2 z3 → (∀ (i : ι) (uo : MS), k19v i uo u z0 z1 z2 z3 → P uo) → ∃ uo, P uo ∧ Q uo) (K : ∀ (i : ι) (uo : MS), v_rounds_J57 uo (k19v i uo) U57 v57_1 v57_2 v57_3 v57_4 → P uo) (h : w_rounds_J57 Q k19 U57 v57_1 v57_2 v57_3 v57_4) : ∃ uo, P uo ∧ Q uo := by
  unfold w_rounds_J57 at h
  obtain ⟨a8, ea8⟩ : ∃ x9 : Int32, x9 = (v57_4 + Int32.ofInt 1) := ⟨_, rfl⟩
  replace h := h a8 ea8
  replace K := fun i uo z => K i uo ⟨a8, ea8, z⟩
  exact hk19 _ _ _ _ _ h K
set_option maxRecDepth 100000 in
theorem ru_rounds_J56 {ι : Type} {P : MS → Prop} {Q : MS → Prop} {k19 : MS → Int32 → Int32 → Int32 → Int32 → Prop} {k19v : ι → MS → MS → Int32 → Int32 → Int32 → Int32 → Prop} {U56 : MS} {t56_0 : Int32} {v56_1 : Int32} {v56_3 : Int32} {v56_4 : Int32} (i0 : ι) (hk19 : ∀ (u : MS) (z0 : Int32) (z1 : Int32) (z2 : Int32) (z3 : Int32), k19 u z0 z1 z2 z3 → (∀ (i : ι) (uo : MS), k19v i uo u z0 z1 z2 z3 → P uo) → ∃ uo, P uo ∧ Q uo) (K : ∀ (i : ι) (uo : MS), v_rounds_J56 uo (k19v i uo) U56 t56_0 v56_1 v56_3 v56_4 → P uo) (h : w_rounds_J56 Q k19 U56 t56_0 v56_1 v56_3 v56_4) : ∃ uo, P uo ∧ Q uo := by
  unfold w_rounds_J56 at h
  exact ru_rounds_J57 i0 hk19 K h
set_option maxRecDepth 100000 in
theorem ru_rounds_J51 {ι : Type} {P : MS → Prop} {Q : MS → Prop} {k19 : MS → Int32 → Int32 → Int32 → Int32 → Prop} {k19v : ι → MS → MS → Int32 → Int32 → Int32 → Int32 → Prop} {U51 : MS} {v51_1 : Int32} {v51_3 : Int32} {v51_4 : Int32} (i0 : ι) (hk19 : ∀ (u : MS) (z0 : Int32) (z1 : Int32) (z2 : Int32) (z3 : Int32), k19 u z0 z1 z2 z3 → (∀ (i : ι) (uo : MS), k19v i uo u z0 z1 z2 z3 → P uo) → ∃ uo, P uo ∧ Q uo) (K : ∀ (i : ι) (uo : MS), v_rounds_J51 uo (k19v i uo) U51 v51_1 v51_3 v51_4 → P uo) (h : w_rounds_J51 Q k19 U51 v51_1 v51_3 v51_4) : ∃ uo, P uo ∧ Q uo := by
  unfold w_rounds_J51 at h
  exact ru_rounds_J56 i0 hk19 K h
set_option maxRecDepth 100000 in
theorem ru_rounds_L19 {ι : Type} {P : MS → Prop} {Q : MS → Prop} {k4 : MS → Int32 → Int32 → Int32 → Prop} {k4v : ι → MS → MS → Int32 → Int32 → Int32 → Prop} : ∀ (n : Nat) {U19 : MS} {v19_1 : Int32} {v19_2 : Int32} {v19_3 : Int32} {v19_4 : Int32} (i0 : ι) (hk4 : ∀ (u : MS) (z0 : Int32) (z1 : Int32) (z2 : Int32), k4 u z0 z1 z2 → (∀ (i : ι) (uo : MS), k4v i uo u z0 z1 z2 → P uo) → ∃ uo, P uo ∧ Q uo), (∀ (i : ι) (uo : MS), (∃ n8, v_rounds_L19 uo (k4v i uo) n8 U19 v19_1 v19_2 v19_3 v19_4) → P uo) → w_rounds_L19 Q k4 n U19 v19_1 v19_2 v19_3 v19_4 → ∃ uo, P uo ∧ Q uo := by
  intro n
  induction n with
  | zero => intro U19 v19_1 v19_2 v19_3 v19_4 i0 hk4 K h; unfold w_rounds_L19 at h; exact h.elim
  | succ n ih =>
    intro U19 v19_1 v19_2 v19_3 v19_4 i0 hk4 K h
    unfold w_rounds_L19 at h
    replace K := fun (i : ι × Nat) uo (z : v_rounds_L19 uo (k4v i.1 uo) (i.2 + 1) U19 v19_1 v19_2 v19_3 v19_4) => K i.1 uo ⟨i.2 + 1, z⟩
    have i00 := i0
    replace i0 : ι × Nat := (i0, 0)
    by_cases c : 11 < v19_4.toInt
    · replace h := h.1 c
      replace K := fun i uo z => K i uo (Or.inl ⟨c, z⟩)
      obtain ⟨a4, ea4⟩ : ∃ x9 : Int32, x9 = (v19_3 + Int32.ofInt 1) := ⟨_, rfl⟩
      replace h := h a4 ea4
      replace K := fun i uo z => K i uo ⟨a4, ea4, z⟩
      exact hk4 _ _ _ _ h (fun i uo z => K (i, 0) uo z)
    · replace h := h.2 c
      replace K := fun i uo z => K i uo (Or.inr ⟨c, z⟩)
      by_cases c : ((v19_1 >>> ((v19_4 - (1 : Int32)) &&& 31)) &&& (1 : Int32)).toInt = 1
      · replace h := h.1 c
        replace K := fun i uo z => K i uo (Or.inl ⟨c, z⟩)
        obtain ⟨Q9, h0, h⟩ := h
        obtain ⟨r11, S12, z9, g9⟩ := ru_pass h0
        replace h := h r11 S12 g9
        replace K := fun i uo z => K i uo ⟨r11, S12, z9, z⟩
        by_cases c : r11.toInt = 0
        · replace h := h.1 c
          replace K := fun i uo z => K i uo (Or.inl ⟨c, z⟩)
          by_cases c : v19_2.toInt = 0
          · replace h := h.1 c
            replace K := fun i uo z => K i uo (Or.inl ⟨c, z⟩)
            exact ru_rounds_J56 i0 (fun _ _ _ _ _ h K => ih i00 hk4 (fun i uo ⟨n8, z⟩ => K (i, n8) uo z) h) K h
          · replace h := h.2 c
            replace K := fun i uo z => K i uo (Or.inr ⟨c, z⟩)
            exact ru_rounds_J51 i0 (fun _ _ _ _ _ h K => ih i00 hk4 (fun i uo ⟨n8, z⟩ => K (i, n8) uo z) h) K h
        · replace h := h.2 c
          replace K := fun i uo z => K i uo (Or.inr ⟨c, z⟩)
          exact ru_rounds_J51 i0 (fun _ _ _ _ _ h K => ih i00 hk4 (fun i uo ⟨n8, z⟩ => K (i, n8) uo z) h) K h
      · replace h := h.2 c
        replace K := fun i uo z => K i uo (Or.inr ⟨c, z⟩)
        exact ru_rounds_J57 i0 (fun _ _ _ _ _ h K => ih i00 hk4 (fun i uo ⟨n8, z⟩ => K (i, n8) uo z) h) K h
set_option maxRecDepth 100000 in
theorem ru_rounds_L4 {ι : Type} {P : MS → Prop} {Q : MS → Prop} : ∀ (n : Nat) {U4 : MS} {v4_1 : Int32} {v4_2 : Int32} {v4_3 : Int32} (i0 : ι), (∀ (i : ι) (uo : MS), (∃ n8, v_rounds_L4 uo n8 U4 v4_1 v4_2 v4_3) → P uo) → w_rounds_L4 Q n U4 v4_1 v4_2 v4_3 → ∃ uo, P uo ∧ Q uo := by
  intro n
  induction n with
  | zero => intro U4 v4_1 v4_2 v4_3 i0 K h; unfold w_rounds_L4 at h; exact h.elim
  | succ n ih =>
    intro U4 v4_1 v4_2 v4_3 i0 K h
    unfold w_rounds_L4 at h
    replace K := fun (i : ι × Nat) uo (z : v_rounds_L4 uo (i.2 + 1) U4 v4_1 v4_2 v4_3) => K i.1 uo ⟨i.2 + 1, z⟩
    have i00 := i0
    replace i0 : ι × Nat := (i0, 0)
    by_cases c : v4_2.toInt = 0
    · replace h := h.1 c
      replace K := fun i uo z => K i uo (Or.inl ⟨c, z⟩)
      exact ⟨_, K i0 _ rfl, h⟩
    · replace h := h.2 c
      replace K := fun i uo z => K i uo (Or.inr ⟨c, z⟩)
      by_cases c : 50 ≤ v4_3.toInt
      · replace h := h.1 c
        replace K := fun i uo z => K i uo (Or.inl ⟨c, z⟩)
        exact ⟨_, K i0 _ rfl, h⟩
      · replace h := h.2 c
        replace K := fun i uo z => K i uo (Or.inr ⟨c, z⟩)
        obtain ⟨n9, h⟩ := h
        exact ru_rounds_L19 n9 i0 (fun _ _ _ _ h K => ih i00 (fun i uo ⟨n8, z⟩ => K (i, n8) uo z) h) K h
set_option maxRecDepth 100000 in
theorem ru_rounds {S : MS} {x1 : Int32} {Q : MS → Prop} (h : w_rounds S x1 Q) : ∃ uo, v_rounds S x1 uo ∧ Q uo := by
  have i0 : Unit := ()
  have K : ∀ (i : Unit) (uo : MS), v_rounds S x1 uo → v_rounds S x1 uo := fun _ _ z => z
  unfold w_rounds at h
  obtain ⟨n9, h⟩ := h
  exact ru_rounds_L4 n9 i0 K h
set_option maxRecDepth 100000 in
theorem vw_rounds_J57 {uo : MS} {k19 k19v : MS → Int32 → Int32 → Int32 → Int32 → Prop} {U57 : MS} {v57_1 : Int32} {v57_2 : Int32} {v57_3 : Int32} {v57_4 : Int32} (hk19 : ∀ (u : MS) (z0 : Int32) (z1 : Int32) (z2 : Int32) (z3 : Int32), k19v u z0 z1 z2 z3 → k19 u z0 z1 z2 z3) (h : v_rounds_J57 uo k19v U57 v57_1 v57_2 v57_3 v57_4) : w_rounds_J57 (fun u => u = uo) k19 U57 v57_1 v57_2 v57_3 v57_4 := by
  unfold v_rounds_J57 at h
  unfold w_rounds_J57
  obtain ⟨v9, e9, h⟩ := h
  intro x9 d9
  have c9 : v9 = x9 := e9.trans d9.symm
  subst c9
  exact hk19 _ _ _ _ _ h
set_option maxRecDepth 100000 in
theorem vz_rounds_J57 {uo : MS} {Q : MS → Prop} {k19 k19v : MS → Int32 → Int32 → Int32 → Int32 → Prop} {U57 : MS} {v57_1 : Int32} {v57_2 : Int32} {v57_3 : Int32} {v57_4 : Int32} (hk19 : ∀ (u : MS) (z0 : Int32) (z1 : Int32) (z2 : Int32) (z3 : Int32), k19v u z0 z1 z2 z3 → k19 u z0 z1 z2 z3 → Q uo) (h : v_rounds_J57 uo k19v U57 v57_1 v57_2 v57_3 v57_4) (w : w_rounds_J57 Q k19 U57 v57_1 v57_2 v57_3 v57_4) : Q uo := by
  unfold v_rounds_J57 at h
  unfold w_rounds_J57 at w
  obtain ⟨v9, e9, h⟩ := h
  replace w := w v9 e9
  exact hk19 _ _ _ _ _ h w
set_option maxRecDepth 100000 in
theorem vw_rounds_J56 {uo : MS} {k19 k19v : MS → Int32 → Int32 → Int32 → Int32 → Prop} {U56 : MS} {t56_0 : Int32} {v56_1 : Int32} {v56_3 : Int32} {v56_4 : Int32} (hk19 : ∀ (u : MS) (z0 : Int32) (z1 : Int32) (z2 : Int32) (z3 : Int32), k19v u z0 z1 z2 z3 → k19 u z0 z1 z2 z3) (h : v_rounds_J56 uo k19v U56 t56_0 v56_1 v56_3 v56_4) : w_rounds_J56 (fun u => u = uo) k19 U56 t56_0 v56_1 v56_3 v56_4 := by
  unfold v_rounds_J56 at h
  unfold w_rounds_J56
  exact vw_rounds_J57 hk19 h
set_option maxRecDepth 100000 in
theorem vz_rounds_J56 {uo : MS} {Q : MS → Prop} {k19 k19v : MS → Int32 → Int32 → Int32 → Int32 → Prop} {U56 : MS} {t56_0 : Int32} {v56_1 : Int32} {v56_3 : Int32} {v56_4 : Int32} (hk19 : ∀ (u : MS) (z0 : Int32) (z1 : Int32) (z2 : Int32) (z3 : Int32), k19v u z0 z1 z2 z3 → k19 u z0 z1 z2 z3 → Q uo) (h : v_rounds_J56 uo k19v U56 t56_0 v56_1 v56_3 v56_4) (w : w_rounds_J56 Q k19 U56 t56_0 v56_1 v56_3 v56_4) : Q uo := by
  unfold v_rounds_J56 at h
  unfold w_rounds_J56 at w
  exact vz_rounds_J57 hk19 h w
set_option maxRecDepth 100000 in
theorem vw_rounds_J51 {uo : MS} {k19 k19v : MS → Int32 → Int32 → Int32 → Int32 → Prop} {U51 : MS} {v51_1 : Int32} {v51_3 : Int32} {v51_4 : Int32} (hk19 : ∀ (u : MS) (z0 : Int32) (z1 : Int32) (z2 : Int32) (z3 : Int32), k19v u z0 z1 z2 z3 → k19 u z0 z1 z2 z3) (h : v_rounds_J51 uo k19v U51 v51_1 v51_3 v51_4) : w_rounds_J51 (fun u => u = uo) k19 U51 v51_1 v51_3 v51_4 := by
  unfold v_rounds_J51 at h
  unfold w_rounds_J51
  exact vw_rounds_J56 hk19 h
set_option maxRecDepth 100000 in
theorem vz_rounds_J51 {uo : MS} {Q : MS → Prop} {k19 k19v : MS → Int32 → Int32 → Int32 → Int32 → Prop} {U51 : MS} {v51_1 : Int32} {v51_3 : Int32} {v51_4 : Int32} (hk19 : ∀ (u : MS) (z0 : Int32) (z1 : Int32) (z2 : Int32) (z3 : Int32), k19v u z0 z1 z2 z3 → k19 u z0 z1 z2 z3 → Q uo) (h : v_rounds_J51 uo k19v U51 v51_1 v51_3 v51_4) (w : w_rounds_J51 Q k19 U51 v51_1 v51_3 v51_4) : Q uo := by
  unfold v_rounds_J51 at h
  unfold w_rounds_J51 at w
  exact vz_rounds_J56 hk19 h w
set_option maxRecDepth 100000 in
theorem vw_rounds_L19 {uo : MS} {k4 k4v : MS → Int32 → Int32 → Int32 → Prop} : ∀ (n : Nat) {U19 : MS} {v19_1 : Int32} {v19_2 : Int32} {v19_3 : Int32} {v19_4 : Int32} (hk4 : ∀ (u : MS) (z0 : Int32) (z1 : Int32) (z2 : Int32), k4v u z0 z1 z2 → k4 u z0 z1 z2), v_rounds_L19 uo k4v n U19 v19_1 v19_2 v19_3 v19_4 → w_rounds_L19 (fun u => u = uo) k4 n U19 v19_1 v19_2 v19_3 v19_4 := by
  intro n
  induction n with
  | zero => intro U19 v19_1 v19_2 v19_3 v19_4 hk4 h; unfold v_rounds_L19 at h; exact h.elim
  | succ n ih =>
    intro U19 v19_1 v19_2 v19_3 v19_4 hk4 h
    unfold v_rounds_L19 at h
    unfold w_rounds_L19
    rcases h with ⟨c, h⟩ | ⟨c, h⟩
    · refine ⟨fun _ => ?_, fun c2 => absurd c c2⟩
      obtain ⟨v9, e9, h⟩ := h
      intro x9 d9
      have c9 : v9 = x9 := e9.trans d9.symm
      subst c9
      exact hk4 _ _ _ _ h
    · refine ⟨fun c2 => absurd c2 c, fun _ => ?_⟩
      rcases h with ⟨c, h⟩ | ⟨c, h⟩
      · refine ⟨fun _ => ?_, fun c2 => absurd c c2⟩
        obtain ⟨p9, q9, z9, h⟩ := h
        refine ⟨_, vw_pass z9, ?_⟩
        rintro p8 q8 ⟨d8, d9⟩
        subst d8
        subst d9
        rcases h with ⟨c, h⟩ | ⟨c, h⟩
        · refine ⟨fun _ => ?_, fun c2 => absurd c c2⟩
          rcases h with ⟨c, h⟩ | ⟨c, h⟩
          · refine ⟨fun _ => ?_, fun c2 => absurd c c2⟩
            exact vw_rounds_J56 (fun _ _ _ _ _ h => ih hk4 h) h
          · refine ⟨fun c2 => absurd c2 c, fun _ => ?_⟩
            exact vw_rounds_J51 (fun _ _ _ _ _ h => ih hk4 h) h
        · refine ⟨fun c2 => absurd c2 c, fun _ => ?_⟩
          exact vw_rounds_J51 (fun _ _ _ _ _ h => ih hk4 h) h
      · refine ⟨fun c2 => absurd c2 c, fun _ => ?_⟩
        exact vw_rounds_J57 (fun _ _ _ _ _ h => ih hk4 h) h
set_option maxRecDepth 100000 in
theorem vz_rounds_L19 {uo : MS} {Q : MS → Prop} {k4 k4v : MS → Int32 → Int32 → Int32 → Prop} : ∀ (n m : Nat) {U19 : MS} {v19_1 : Int32} {v19_2 : Int32} {v19_3 : Int32} {v19_4 : Int32} (hk4 : ∀ (u : MS) (z0 : Int32) (z1 : Int32) (z2 : Int32), k4v u z0 z1 z2 → k4 u z0 z1 z2 → Q uo), v_rounds_L19 uo k4v n U19 v19_1 v19_2 v19_3 v19_4 → w_rounds_L19 Q k4 m U19 v19_1 v19_2 v19_3 v19_4 → Q uo := by
  intro n
  induction n with
  | zero => intro m U19 v19_1 v19_2 v19_3 v19_4 hk4 h; unfold v_rounds_L19 at h; exact h.elim
  | succ n ih =>
    intro m U19 v19_1 v19_2 v19_3 v19_4 hk4 h w
    cases m with
    | zero => unfold w_rounds_L19 at w; exact w.elim
    | succ m =>
      unfold v_rounds_L19 at h
      unfold w_rounds_L19 at w
      rcases h with ⟨c, h⟩ | ⟨c, h⟩
      · replace w := w.1 c
        obtain ⟨v9, e9, h⟩ := h
        replace w := w v9 e9
        exact hk4 _ _ _ _ h w
      · replace w := w.2 c
        rcases h with ⟨c, h⟩ | ⟨c, h⟩
        · replace w := w.1 c
          obtain ⟨p9, q9, z9, h⟩ := h
          obtain ⟨Q9, w0, w⟩ := w
          replace w := w p9 q9 (vz_pass z9 w0)
          rcases h with ⟨c, h⟩ | ⟨c, h⟩
          · replace w := w.1 c
            rcases h with ⟨c, h⟩ | ⟨c, h⟩
            · replace w := w.1 c
              exact vz_rounds_J56 (fun _ _ _ _ _ h w => ih m hk4 h w) h w
            · replace w := w.2 c
              exact vz_rounds_J51 (fun _ _ _ _ _ h w => ih m hk4 h w) h w
          · replace w := w.2 c
            exact vz_rounds_J51 (fun _ _ _ _ _ h w => ih m hk4 h w) h w
        · replace w := w.2 c
          exact vz_rounds_J57 (fun _ _ _ _ _ h w => ih m hk4 h w) h w
set_option maxRecDepth 100000 in
theorem vw_rounds_L4 {uo : MS} : ∀ (n : Nat) {U4 : MS} {v4_1 : Int32} {v4_2 : Int32} {v4_3 : Int32}, v_rounds_L4 uo n U4 v4_1 v4_2 v4_3 → w_rounds_L4 (fun u => u = uo) n U4 v4_1 v4_2 v4_3 := by
  intro n
  induction n with
  | zero => intro U4 v4_1 v4_2 v4_3 h; unfold v_rounds_L4 at h; exact h.elim
  | succ n ih =>
    intro U4 v4_1 v4_2 v4_3 h
    unfold v_rounds_L4 at h
    unfold w_rounds_L4
    rcases h with ⟨c, h⟩ | ⟨c, h⟩
    · refine ⟨fun _ => ?_, fun c2 => absurd c c2⟩
      exact h.symm
    · refine ⟨fun c2 => absurd c2 c, fun _ => ?_⟩
      rcases h with ⟨c, h⟩ | ⟨c, h⟩
      · refine ⟨fun _ => ?_, fun c2 => absurd c c2⟩
        exact h.symm
      · refine ⟨fun c2 => absurd c2 c, fun _ => ?_⟩
        obtain ⟨n9, h⟩ := h
        exact ⟨n9, vw_rounds_L19 n9 (fun _ _ _ _ h => ih h) h⟩
set_option maxRecDepth 100000 in
theorem vz_rounds_L4 {uo : MS} {Q : MS → Prop} : ∀ (n m : Nat) {U4 : MS} {v4_1 : Int32} {v4_2 : Int32} {v4_3 : Int32}, v_rounds_L4 uo n U4 v4_1 v4_2 v4_3 → w_rounds_L4 Q m U4 v4_1 v4_2 v4_3 → Q uo := by
  intro n
  induction n with
  | zero => intro m U4 v4_1 v4_2 v4_3 h; unfold v_rounds_L4 at h; exact h.elim
  | succ n ih =>
    intro m U4 v4_1 v4_2 v4_3 h w
    cases m with
    | zero => unfold w_rounds_L4 at w; exact w.elim
    | succ m =>
      unfold v_rounds_L4 at h
      unfold w_rounds_L4 at w
      rcases h with ⟨c, h⟩ | ⟨c, h⟩
      · replace w := w.1 c
        rw [h]
        exact w
      · replace w := w.2 c
        rcases h with ⟨c, h⟩ | ⟨c, h⟩
        · replace w := w.1 c
          rw [h]
          exact w
        · replace w := w.2 c
          obtain ⟨n9, h⟩ := h
          obtain ⟨n8, w⟩ := w
          exact vz_rounds_L19 n9 n8 (fun _ _ _ _ h w => ih m h w) h w
set_option maxRecDepth 100000 in
theorem vw_rounds {S : MS} {x1 : Int32} {uo : MS} (h : v_rounds S x1 uo) : w_rounds S x1 (fun u => u = uo) := by
  unfold v_rounds at h
  unfold w_rounds
  obtain ⟨n9, h⟩ := h
  exact ⟨n9, vw_rounds_L4 n9 h⟩
set_option maxRecDepth 100000 in
theorem vz_rounds {S : MS} {x1 : Int32} {uo : MS} {Q : MS → Prop} (h : v_rounds S x1 uo) (w : w_rounds S x1 Q) : Q uo := by
  unfold v_rounds at h
  unfold w_rounds at w
  obtain ⟨n9, h⟩ := h
  obtain ⟨n8, w⟩ := w
  exact vz_rounds_L4 n9 n8 h w
def v_improve_L88 (ro : Int32) (uo : MS) : Nat → MS → Int32 → Nat → Int32 → Prop
  | 0, _, _, _, _ => False
  | n88 + 1, U88, v88_2, v88_3, v88_4 => (((qI U88 v88_3 4).toInt ≤ v88_4.toInt ∧ (∃ (r21 : Int32) (S22 : MS), v_keptDraft U88 r21 S22 ∧ (ro = r21 ∧ uo = S22))) ∨ (¬ (qI U88 v88_3 4).toInt ≤ v88_4.toInt ∧ (∃ (S26 : MS), v_takeMethod U88 v88_3 v88_4 S26 ∧ (∃ (S29 : MS), v_rounds S26 v88_2 S29 ∧ (∃ (S32 : MS), v_mark S29 S32 ∧ (∃ (S35 : MS), v_putMethod S32 v88_4 (-1 : Int32) S35 ∧ (∃ a37 : Int32, a37 = (v88_4 + Int32.ofInt 1) ∧ ((v_improve_L88 ro uo n88) S35 v88_2 v88_3 a37))))))))
def v_improve_L54 (ro : Int32) (uo : MS) : Nat → MS → Int32 → Int32 → Int32 → Prop
  | 0, _, _, _, _ => False
  | n54 + 1, U54, v54_1, v54_2, v54_3 => ((11 < v54_3.toInt ∧ (((0 : Int) ≤ v54_1.toInt ∧ v54_1.toInt < 12) ∧ ((qR U54 1 v54_1.toInt.toNat = some (qO U54 1 v54_1.toInt.toNat)) ∧ (∃ (S17 : MS), v_copyHead U54 (qO U54 1 v54_1.toInt.toNat) S17 ∧ (∃ n, v_improve_L88 ro uo n S17 v54_2 (qO U54 1 v54_1.toInt.toNat) 0))))) ∨ (¬ 11 < v54_3.toInt ∧ (((0 : Int) ≤ v54_3.toInt ∧ v54_3.toInt < 12) ∧ (∃ S39 : MS, S39 = wI U54 77 v54_3.toInt.toNat (0 : Int32) ∧ (∃ a40 : Int32, a40 = (v54_3 + Int32.ofInt 1) ∧ ((v_improve_L54 ro uo n54) S39 v54_1 v54_2 a40))))))
def v_improve (S : MS) (x1 : Int32) (x2 : Int32) (ro : Int32) (uo : MS) : Prop := (∃ (r2 : Int32) (S3 : MS), v_isRight S x1 r2 S3 ∧ ((r2.toInt = 0 ∧ (ro = (-1 : Int32) ∧ uo = S3)) ∨ (¬ r2.toInt = 0 ∧ ((x2.toInt < 0 ∧ (ro = (-1 : Int32) ∧ uo = S3)) ∨ (¬ x2.toInt < 0 ∧ ((x2.toInt ≤ 2047 ∧ (((qI S3 0 1).toInt = 12 ∧ (ro = (-2 : Int32) ∧ uo = S3)) ∨ (¬ (qI S3 0 1).toInt = 12 ∧ (((qI S3 0 2).toInt = 16 ∧ (ro = (-2 : Int32) ∧ uo = S3)) ∨ (¬ (qI S3 0 2).toInt = 16 ∧ (∃ S11 : MS, S11 = wI S3 0 2 ((qI S3 0 2) + (1 : Int32)) ∧ (∃ n, v_improve_L54 ro uo n S11 x1 x2 0))))))) ∨ (¬ x2.toInt ≤ 2047 ∧ (ro = (-1 : Int32) ∧ uo = S3))))))))
set_option maxRecDepth 100000 in
theorem ru_improve_L88 {ι : Type} {P : Int32 → MS → Prop} {Q : Int32 → MS → Prop} : ∀ (n : Nat) {U88 : MS} {v88_2 : Int32} {v88_3 : Nat} {v88_4 : Int32} (i0 : ι), (∀ (i : ι) (ro : Int32) (uo : MS), (∃ n8, v_improve_L88 ro uo n8 U88 v88_2 v88_3 v88_4) → P ro uo) → w_improve_L88 Q n U88 v88_2 v88_3 v88_4 → ∃ ro uo, P ro uo ∧ Q ro uo := by
  intro n
  induction n with
  | zero => intro U88 v88_2 v88_3 v88_4 i0 K h; unfold w_improve_L88 at h; exact h.elim
  | succ n ih =>
    intro U88 v88_2 v88_3 v88_4 i0 K h
    unfold w_improve_L88 at h
    replace K := fun (i : ι × Nat) ro uo (z : v_improve_L88 ro uo (i.2 + 1) U88 v88_2 v88_3 v88_4) => K i.1 ro uo ⟨i.2 + 1, z⟩
    have i00 := i0
    replace i0 : ι × Nat := (i0, 0)
    by_cases c : (qI U88 v88_3 4).toInt ≤ v88_4.toInt
    · replace h := h.1 c
      replace K := fun i ro uo z => K i ro uo (Or.inl ⟨c, z⟩)
      obtain ⟨Q9, h0, h⟩ := h
      obtain ⟨r21, S22, z9, g9⟩ := ru_keptDraft h0
      replace h := h r21 S22 g9
      replace K := fun i ro uo z => K i ro uo ⟨r21, S22, z9, z⟩
      exact ⟨_, _, K i0 _ _ ⟨rfl, rfl⟩, h⟩
    · replace h := h.2 c
      replace K := fun i ro uo z => K i ro uo (Or.inr ⟨c, z⟩)
      obtain ⟨Q9, h0, h⟩ := h
      obtain ⟨S26, z9, g9⟩ := ru_takeMethod h0
      replace h := h S26 g9
      replace K := fun i ro uo z => K i ro uo ⟨S26, z9, z⟩
      obtain ⟨Q9, h0, h⟩ := h
      obtain ⟨S29, z9, g9⟩ := ru_rounds h0
      replace h := h S29 g9
      replace K := fun i ro uo z => K i ro uo ⟨S29, z9, z⟩
      obtain ⟨Q9, h0, h⟩ := h
      obtain ⟨S32, z9, g9⟩ := ru_mark h0
      replace h := h S32 g9
      replace K := fun i ro uo z => K i ro uo ⟨S32, z9, z⟩
      obtain ⟨Q9, h0, h⟩ := h
      obtain ⟨S35, z9, g9⟩ := ru_putMethod h0
      replace h := h S35 g9
      replace K := fun i ro uo z => K i ro uo ⟨S35, z9, z⟩
      obtain ⟨a37, ea37⟩ : ∃ x9 : Int32, x9 = (v88_4 + Int32.ofInt 1) := ⟨_, rfl⟩
      replace h := h a37 ea37
      replace K := fun i ro uo z => K i ro uo ⟨a37, ea37, z⟩
      exact ih i00 (fun i ro uo ⟨n8, z⟩ => K (i, n8) ro uo z) h
set_option maxRecDepth 100000 in
theorem ru_improve_L54 {ι : Type} {P : Int32 → MS → Prop} {Q : Int32 → MS → Prop} : ∀ (n : Nat) {U54 : MS} {v54_1 : Int32} {v54_2 : Int32} {v54_3 : Int32} (i0 : ι), (∀ (i : ι) (ro : Int32) (uo : MS), (∃ n8, v_improve_L54 ro uo n8 U54 v54_1 v54_2 v54_3) → P ro uo) → w_improve_L54 Q n U54 v54_1 v54_2 v54_3 → ∃ ro uo, P ro uo ∧ Q ro uo := by
  intro n
  induction n with
  | zero => intro U54 v54_1 v54_2 v54_3 i0 K h; unfold w_improve_L54 at h; exact h.elim
  | succ n ih =>
    intro U54 v54_1 v54_2 v54_3 i0 K h
    unfold w_improve_L54 at h
    replace K := fun (i : ι × Nat) ro uo (z : v_improve_L54 ro uo (i.2 + 1) U54 v54_1 v54_2 v54_3) => K i.1 ro uo ⟨i.2 + 1, z⟩
    have i00 := i0
    replace i0 : ι × Nat := (i0, 0)
    by_cases c : 11 < v54_3.toInt
    · replace h := h.1 c
      replace K := fun i ro uo z => K i ro uo (Or.inl ⟨c, z⟩)
      obtain ⟨g1_, h⟩ := h
      replace K := fun i ro uo z => K i ro uo ⟨g1_, z⟩
      obtain ⟨g2_, h⟩ := h
      replace K := fun i ro uo z => K i ro uo ⟨g2_, z⟩
      obtain ⟨Q9, h0, h⟩ := h
      obtain ⟨S17, z9, g9⟩ := ru_copyHead h0
      replace h := h S17 g9
      replace K := fun i ro uo z => K i ro uo ⟨S17, z9, z⟩
      obtain ⟨n9, h⟩ := h
      exact ru_improve_L88 n9 i0 K h
    · replace h := h.2 c
      replace K := fun i ro uo z => K i ro uo (Or.inr ⟨c, z⟩)
      obtain ⟨g3_, h⟩ := h
      replace K := fun i ro uo z => K i ro uo ⟨g3_, z⟩
      obtain ⟨S39, eS39⟩ : ∃ x9 : MS, x9 = wI U54 77 v54_3.toInt.toNat (0 : Int32) := ⟨_, rfl⟩
      replace h := h S39 eS39
      replace K := fun i ro uo z => K i ro uo ⟨S39, eS39, z⟩
      obtain ⟨a40, ea40⟩ : ∃ x9 : Int32, x9 = (v54_3 + Int32.ofInt 1) := ⟨_, rfl⟩
      replace h := h a40 ea40
      replace K := fun i ro uo z => K i ro uo ⟨a40, ea40, z⟩
      exact ih i00 (fun i ro uo ⟨n8, z⟩ => K (i, n8) ro uo z) h
set_option maxRecDepth 100000 in
theorem ru_improve {S : MS} {x1 : Int32} {x2 : Int32} {Q : Int32 → MS → Prop} (h : w_improve S x1 x2 Q) : ∃ ro uo, v_improve S x1 x2 ro uo ∧ Q ro uo := by
  have i0 : Unit := ()
  have K : ∀ (i : Unit) (ro : Int32) (uo : MS), v_improve S x1 x2 ro uo → v_improve S x1 x2 ro uo := fun _ _ _ z => z
  unfold w_improve at h
  obtain ⟨Q9, h0, h⟩ := h
  obtain ⟨r2, S3, z9, g9⟩ := ru_isRight h0
  replace h := h r2 S3 g9
  replace K := fun i ro uo z => K i ro uo ⟨r2, S3, z9, z⟩
  by_cases c : r2.toInt = 0
  · replace h := h.1 c
    replace K := fun i ro uo z => K i ro uo (Or.inl ⟨c, z⟩)
    exact ⟨_, _, K i0 _ _ ⟨rfl, rfl⟩, h⟩
  · replace h := h.2 c
    replace K := fun i ro uo z => K i ro uo (Or.inr ⟨c, z⟩)
    by_cases c : x2.toInt < 0
    · replace h := h.1 c
      replace K := fun i ro uo z => K i ro uo (Or.inl ⟨c, z⟩)
      exact ⟨_, _, K i0 _ _ ⟨rfl, rfl⟩, h⟩
    · replace h := h.2 c
      replace K := fun i ro uo z => K i ro uo (Or.inr ⟨c, z⟩)
      by_cases c : x2.toInt ≤ 2047
      · replace h := h.1 c
        replace K := fun i ro uo z => K i ro uo (Or.inl ⟨c, z⟩)
        by_cases c : (qI S3 0 1).toInt = 12
        · replace h := h.1 c
          replace K := fun i ro uo z => K i ro uo (Or.inl ⟨c, z⟩)
          exact ⟨_, _, K i0 _ _ ⟨rfl, rfl⟩, h⟩
        · replace h := h.2 c
          replace K := fun i ro uo z => K i ro uo (Or.inr ⟨c, z⟩)
          by_cases c : (qI S3 0 2).toInt = 16
          · replace h := h.1 c
            replace K := fun i ro uo z => K i ro uo (Or.inl ⟨c, z⟩)
            exact ⟨_, _, K i0 _ _ ⟨rfl, rfl⟩, h⟩
          · replace h := h.2 c
            replace K := fun i ro uo z => K i ro uo (Or.inr ⟨c, z⟩)
            obtain ⟨S11, eS11⟩ : ∃ x9 : MS, x9 = wI S3 0 2 ((qI S3 0 2) + (1 : Int32)) := ⟨_, rfl⟩
            replace h := h S11 eS11
            replace K := fun i ro uo z => K i ro uo ⟨S11, eS11, z⟩
            obtain ⟨n9, h⟩ := h
            exact ru_improve_L54 n9 i0 K h
      · replace h := h.2 c
        replace K := fun i ro uo z => K i ro uo (Or.inr ⟨c, z⟩)
        exact ⟨_, _, K i0 _ _ ⟨rfl, rfl⟩, h⟩
set_option maxRecDepth 100000 in
theorem vw_improve_L88 {ro : Int32} {uo : MS} : ∀ (n : Nat) {U88 : MS} {v88_2 : Int32} {v88_3 : Nat} {v88_4 : Int32}, v_improve_L88 ro uo n U88 v88_2 v88_3 v88_4 → w_improve_L88 (fun r u => r = ro ∧ u = uo) n U88 v88_2 v88_3 v88_4 := by
  intro n
  induction n with
  | zero => intro U88 v88_2 v88_3 v88_4 h; unfold v_improve_L88 at h; exact h.elim
  | succ n ih =>
    intro U88 v88_2 v88_3 v88_4 h
    unfold v_improve_L88 at h
    unfold w_improve_L88
    rcases h with ⟨c, h⟩ | ⟨c, h⟩
    · refine ⟨fun _ => ?_, fun c2 => absurd c c2⟩
      obtain ⟨p9, q9, z9, h⟩ := h
      refine ⟨_, vw_keptDraft z9, ?_⟩
      rintro p8 q8 ⟨d8, d9⟩
      subst d8
      subst d9
      exact ⟨h.1.symm, h.2.symm⟩
    · refine ⟨fun c2 => absurd c2 c, fun _ => ?_⟩
      obtain ⟨q9, z9, h⟩ := h
      refine ⟨_, vw_takeMethod z9, ?_⟩
      intro q8 d9
      subst d9
      obtain ⟨q9, z9, h⟩ := h
      refine ⟨_, vw_rounds z9, ?_⟩
      intro q8 d9
      subst d9
      obtain ⟨q9, z9, h⟩ := h
      refine ⟨_, vw_mark z9, ?_⟩
      intro q8 d9
      subst d9
      obtain ⟨q9, z9, h⟩ := h
      refine ⟨_, vw_putMethod z9, ?_⟩
      intro q8 d9
      subst d9
      obtain ⟨v9, e9, h⟩ := h
      intro x9 d9
      have c9 : v9 = x9 := e9.trans d9.symm
      subst c9
      exact ih h
set_option maxRecDepth 100000 in
theorem vz_improve_L88 {ro : Int32} {uo : MS} {Q : Int32 → MS → Prop} : ∀ (n m : Nat) {U88 : MS} {v88_2 : Int32} {v88_3 : Nat} {v88_4 : Int32}, v_improve_L88 ro uo n U88 v88_2 v88_3 v88_4 → w_improve_L88 Q m U88 v88_2 v88_3 v88_4 → Q ro uo := by
  intro n
  induction n with
  | zero => intro m U88 v88_2 v88_3 v88_4 h; unfold v_improve_L88 at h; exact h.elim
  | succ n ih =>
    intro m U88 v88_2 v88_3 v88_4 h w
    cases m with
    | zero => unfold w_improve_L88 at w; exact w.elim
    | succ m =>
      unfold v_improve_L88 at h
      unfold w_improve_L88 at w
      rcases h with ⟨c, h⟩ | ⟨c, h⟩
      · replace w := w.1 c
        obtain ⟨p9, q9, z9, h⟩ := h
        obtain ⟨Q9, w0, w⟩ := w
        replace w := w p9 q9 (vz_keptDraft z9 w0)
        rw [h.1, h.2]
        exact w
      · replace w := w.2 c
        obtain ⟨q9, z9, h⟩ := h
        obtain ⟨Q9, w0, w⟩ := w
        replace w := w q9 (vz_takeMethod z9 w0)
        obtain ⟨q9, z9, h⟩ := h
        obtain ⟨Q9, w0, w⟩ := w
        replace w := w q9 (vz_rounds z9 w0)
        obtain ⟨q9, z9, h⟩ := h
        obtain ⟨Q9, w0, w⟩ := w
        replace w := w q9 (vz_mark z9 w0)
        obtain ⟨q9, z9, h⟩ := h
        obtain ⟨Q9, w0, w⟩ := w
        replace w := w q9 (vz_putMethod z9 w0)
        obtain ⟨v9, e9, h⟩ := h
        replace w := w v9 e9
        exact ih m h w
set_option maxRecDepth 100000 in
theorem vw_improve_L54 {ro : Int32} {uo : MS} : ∀ (n : Nat) {U54 : MS} {v54_1 : Int32} {v54_2 : Int32} {v54_3 : Int32}, v_improve_L54 ro uo n U54 v54_1 v54_2 v54_3 → w_improve_L54 (fun r u => r = ro ∧ u = uo) n U54 v54_1 v54_2 v54_3 := by
  intro n
  induction n with
  | zero => intro U54 v54_1 v54_2 v54_3 h; unfold v_improve_L54 at h; exact h.elim
  | succ n ih =>
    intro U54 v54_1 v54_2 v54_3 h
    unfold v_improve_L54 at h
    unfold w_improve_L54
    rcases h with ⟨c, h⟩ | ⟨c, h⟩
    · refine ⟨fun _ => ?_, fun c2 => absurd c c2⟩
      obtain ⟨g9, h⟩ := h
      refine ⟨g9, ?_⟩
      obtain ⟨g9, h⟩ := h
      refine ⟨g9, ?_⟩
      obtain ⟨q9, z9, h⟩ := h
      refine ⟨_, vw_copyHead z9, ?_⟩
      intro q8 d9
      subst d9
      obtain ⟨n9, h⟩ := h
      exact ⟨n9, vw_improve_L88 n9 h⟩
    · refine ⟨fun c2 => absurd c2 c, fun _ => ?_⟩
      obtain ⟨g9, h⟩ := h
      refine ⟨g9, ?_⟩
      obtain ⟨v9, e9, h⟩ := h
      intro x9 d9
      have c9 : v9 = x9 := e9.trans d9.symm
      subst c9
      obtain ⟨v9, e9, h⟩ := h
      intro x9 d9
      have c9 : v9 = x9 := e9.trans d9.symm
      subst c9
      exact ih h
set_option maxRecDepth 100000 in
theorem vz_improve_L54 {ro : Int32} {uo : MS} {Q : Int32 → MS → Prop} : ∀ (n m : Nat) {U54 : MS} {v54_1 : Int32} {v54_2 : Int32} {v54_3 : Int32}, v_improve_L54 ro uo n U54 v54_1 v54_2 v54_3 → w_improve_L54 Q m U54 v54_1 v54_2 v54_3 → Q ro uo := by
  intro n
  induction n with
  | zero => intro m U54 v54_1 v54_2 v54_3 h; unfold v_improve_L54 at h; exact h.elim
  | succ n ih =>
    intro m U54 v54_1 v54_2 v54_3 h w
    cases m with
    | zero => unfold w_improve_L54 at w; exact w.elim
    | succ m =>
      unfold v_improve_L54 at h
      unfold w_improve_L54 at w
      rcases h with ⟨c, h⟩ | ⟨c, h⟩
      · replace w := w.1 c
        replace h := h.2
        replace w := w.2
        replace h := h.2
        replace w := w.2
        obtain ⟨q9, z9, h⟩ := h
        obtain ⟨Q9, w0, w⟩ := w
        replace w := w q9 (vz_copyHead z9 w0)
        obtain ⟨n9, h⟩ := h
        obtain ⟨n8, w⟩ := w
        exact vz_improve_L88 n9 n8 h w
      · replace w := w.2 c
        replace h := h.2
        replace w := w.2
        obtain ⟨v9, e9, h⟩ := h
        replace w := w v9 e9
        obtain ⟨v9, e9, h⟩ := h
        replace w := w v9 e9
        exact ih m h w
set_option maxRecDepth 100000 in
theorem vw_improve {S : MS} {x1 : Int32} {x2 : Int32} {ro : Int32} {uo : MS} (h : v_improve S x1 x2 ro uo) : w_improve S x1 x2 (fun r u => r = ro ∧ u = uo) := by
  unfold v_improve at h
  unfold w_improve
  obtain ⟨p9, q9, z9, h⟩ := h
  refine ⟨_, vw_isRight z9, ?_⟩
  rintro p8 q8 ⟨d8, d9⟩
  subst d8
  subst d9
  rcases h with ⟨c, h⟩ | ⟨c, h⟩
  · refine ⟨fun _ => ?_, fun c2 => absurd c c2⟩
    exact ⟨h.1.symm, h.2.symm⟩
  · refine ⟨fun c2 => absurd c2 c, fun _ => ?_⟩
    rcases h with ⟨c, h⟩ | ⟨c, h⟩
    · refine ⟨fun _ => ?_, fun c2 => absurd c c2⟩
      exact ⟨h.1.symm, h.2.symm⟩
    · refine ⟨fun c2 => absurd c2 c, fun _ => ?_⟩
      rcases h with ⟨c, h⟩ | ⟨c, h⟩
      · refine ⟨fun _ => ?_, fun c2 => absurd c c2⟩
        rcases h with ⟨c, h⟩ | ⟨c, h⟩
        · refine ⟨fun _ => ?_, fun c2 => absurd c c2⟩
          exact ⟨h.1.symm, h.2.symm⟩
        · refine ⟨fun c2 => absurd c2 c, fun _ => ?_⟩
          rcases h with ⟨c, h⟩ | ⟨c, h⟩
          · refine ⟨fun _ => ?_, fun c2 => absurd c c2⟩
            exact ⟨h.1.symm, h.2.symm⟩
          · refine ⟨fun c2 => absurd c2 c, fun _ => ?_⟩
            obtain ⟨v9, e9, h⟩ := h
            intro x9 d9
            have c9 : v9 = x9 := e9.trans d9.symm
            subst c9
            obtain ⟨n9, h⟩ := h
            exact ⟨n9, vw_improve_L54 n9 h⟩
      · refine ⟨fun c2 => absurd c2 c, fun _ => ?_⟩
        exact ⟨h.1.symm, h.2.symm⟩
set_option maxRecDepth 100000 in
theorem vz_improve {S : MS} {x1 : Int32} {x2 : Int32} {ro : Int32} {uo : MS} {Q : Int32 → MS → Prop} (h : v_improve S x1 x2 ro uo) (w : w_improve S x1 x2 Q) : Q ro uo := by
  unfold v_improve at h
  unfold w_improve at w
  obtain ⟨p9, q9, z9, h⟩ := h
  obtain ⟨Q9, w0, w⟩ := w
  replace w := w p9 q9 (vz_isRight z9 w0)
  rcases h with ⟨c, h⟩ | ⟨c, h⟩
  · replace w := w.1 c
    rw [h.1, h.2]
    exact w
  · replace w := w.2 c
    rcases h with ⟨c, h⟩ | ⟨c, h⟩
    · replace w := w.1 c
      rw [h.1, h.2]
      exact w
    · replace w := w.2 c
      rcases h with ⟨c, h⟩ | ⟨c, h⟩
      · replace w := w.1 c
        rcases h with ⟨c, h⟩ | ⟨c, h⟩
        · replace w := w.1 c
          rw [h.1, h.2]
          exact w
        · replace w := w.2 c
          rcases h with ⟨c, h⟩ | ⟨c, h⟩
          · replace w := w.1 c
            rw [h.1, h.2]
            exact w
          · replace w := w.2 c
            obtain ⟨v9, e9, h⟩ := h
            replace w := w v9 e9
            obtain ⟨n9, h⟩ := h
            obtain ⟨n8, w⟩ := w
            exact vz_improve_L54 n9 n8 h w
      · replace w := w.2 c
        rw [h.1, h.2]
        exact w
def v_jump_J180 (uo : MS) (U180 : MS) (v180_1 : Int32) (v180_3 : Int32) (v180_4 : Int32) : Prop := ((v180_4.toInt = 0 ∧ (∃ (S4 : MS), v_goTo U180 (v180_1 + (1 : Int32)) S4 ∧ (uo = S4))) ∨ (¬ v180_4.toInt = 0 ∧ (∃ (S7 : MS), v_goTo U180 v180_3 S7 ∧ (uo = S7))))
def v_jump_J131 (uo : MS) (U131 : MS) (t131_0 : Int32) (v131_1 : Int32) (v131_3 : Int32) : Prop := (v_jump_J180 uo U131 v131_1 v131_3 t131_0)
def v_jump_J123 (uo : MS) (U123 : MS) (t123_0 : Int32) (t123_1 : Int32) (v123_1 : Int32) (v123_3 : Int32) : Prop := ((t123_1.toInt = t123_0.toInt ∧ (v_jump_J131 uo U123 1 v123_1 v123_3)) ∨ (¬ t123_1.toInt = t123_0.toInt ∧ (v_jump_J131 uo U123 0 v123_1 v123_3)))
def v_jump_J111 (uo : MS) (U111 : MS) (t111_0 : Int32) (v111_1 : Int32) (v111_2 : Int32) (v111_3 : Int32) : Prop := ((v111_2.toInt = 165 ∧ (v_jump_J123 uo U111 1 t111_0 v111_1 v111_3)) ∨ (¬ v111_2.toInt = 165 ∧ (v_jump_J123 uo U111 0 t111_0 v111_1 v111_3)))
def v_jump_J88 (uo : MS) (U88 : MS) (v88_1 : Int32) (v88_2 : Int32) (v88_3 : Int32) : Prop := (∃ (r10 : Int64) (S11 : MS), v_got U88 (1 : Int32) r10 S11 ∧ (∃ (r14 : Int64) (S15 : MS), v_got S11 (1 : Int32) r14 S15 ∧ (((lg_cmp r14 r10).toInt = 0 ∧ (v_jump_J111 uo S15 1 v88_1 v88_2 v88_3)) ∨ (¬ (lg_cmp r14 r10).toInt = 0 ∧ (v_jump_J111 uo S15 0 v88_1 v88_2 v88_3)))))
def v_jump_J178 (uo : MS) (U178 : MS) (t178_0 : Int32) (v178_1 : Int32) (v178_3 : Int32) : Prop := (v_jump_J180 uo U178 v178_1 v178_3 t178_0)
def v_jump_J170 (uo : MS) (U170 : MS) (t170_0 : Int32) (t170_1 : Int32) (v170_1 : Int32) (v170_3 : Int32) : Prop := ((t170_1.toInt = t170_0.toInt ∧ (v_jump_J178 uo U170 1 v170_1 v170_3)) ∨ (¬ t170_1.toInt = t170_0.toInt ∧ (v_jump_J178 uo U170 0 v170_1 v170_3)))
def v_jump_J158 (uo : MS) (U158 : MS) (t158_0 : Int32) (v158_1 : Int32) (v158_2 : Int32) (v158_3 : Int32) : Prop := ((v158_2.toInt = 198 ∧ (v_jump_J170 uo U158 1 t158_0 v158_1 v158_3)) ∨ (¬ v158_2.toInt = 198 ∧ (v_jump_J170 uo U158 0 t158_0 v158_1 v158_3)))
def v_jump_J74 (uo : MS) (U74 : MS) (v74_1 : Int32) (v74_2 : Int32) (v74_3 : Int32) (v74_4 : Int32) : Prop := ((v74_2.toInt = 165 ∧ (v_jump_J88 uo U74 v74_1 v74_2 v74_3)) ∨ (¬ v74_2.toInt = 165 ∧ ((v74_2.toInt = 166 ∧ (v_jump_J88 uo U74 v74_1 v74_2 v74_3)) ∨ (¬ v74_2.toInt = 166 ∧ ((v74_2.toInt = 167 ∧ (v_jump_J180 uo U74 v74_1 v74_3 v74_4)) ∨ (¬ v74_2.toInt = 167 ∧ (∃ (r25 : Int64) (S26 : MS), v_got U74 (1 : Int32) r25 S26 ∧ (((lg_cmp r25 0).toInt = 0 ∧ (v_jump_J158 uo S26 1 v74_1 v74_2 v74_3)) ∨ (¬ (lg_cmp r25 0).toInt = 0 ∧ (v_jump_J158 uo S26 0 v74_1 v74_2 v74_3))))))))))
def v_jump_J42 (uo : MS) (U42 : MS) (v42_1 : Int32) (v42_2 : Int32) (v42_3 : Int32) (v42_4 : Int32) : Prop := ((v42_2.toInt < 153 ∧ (v_jump_J74 uo U42 v42_1 v42_2 v42_3 v42_4)) ∨ (¬ v42_2.toInt < 153 ∧ ((158 < v42_2.toInt ∧ (v_jump_J74 uo U42 v42_1 v42_2 v42_3 v42_4)) ∨ (¬ 158 < v42_2.toInt ∧ (∃ (r36 : Int32) (S37 : MS), v_gotInt U42 r36 S37 ∧ (d_isSo S37 (v42_2 - (153 : Int32)) r36 (0 : Int32) ∧ (∃ a42 : Int32, a42 = (f_isSo S37 (v42_2 - (153 : Int32)) r36 (0 : Int32)) ∧ (v_jump_J180 uo S37 v42_1 v42_3 a42))))))))
def v_jump (S : MS) (x1 : Int32) (x2 : Int32) (x3 : Int32) (uo : MS) : Prop := ((x2.toInt < 159 ∧ (v_jump_J42 uo S x1 x2 x3 1)) ∨ (¬ x2.toInt < 159 ∧ ((164 < x2.toInt ∧ (v_jump_J42 uo S x1 x2 x3 1)) ∨ (¬ 164 < x2.toInt ∧ (∃ (r46 : Int32) (S47 : MS), v_gotInt S r46 S47 ∧ (∃ (r51 : Int32) (S52 : MS), v_gotInt S47 r51 S52 ∧ (d_isSo S52 (x2 - (159 : Int32)) r51 r46 ∧ (∃ a57 : Int32, a57 = (f_isSo S52 (x2 - (159 : Int32)) r51 r46) ∧ (v_jump_J180 uo S52 x1 x3 a57)))))))))
set_option maxRecDepth 100000 in
theorem ru_jump_J180 {ι : Type} {P : MS → Prop} {Q : MS → Prop} {U180 : MS} {v180_1 : Int32} {v180_3 : Int32} {v180_4 : Int32} (i0 : ι) (K : ∀ (i : ι) (uo : MS), v_jump_J180 uo U180 v180_1 v180_3 v180_4 → P uo) (h : w_jump_J180 Q U180 v180_1 v180_3 v180_4) : ∃ uo, P uo ∧ Q uo := by
  unfold w_jump_J180 at h
  by_cases c : v180_4.toInt = 0
  · replace h := h.1 c
    replace K := fun i uo z => K i uo (Or.inl ⟨c, z⟩)
    obtain ⟨Q9, h0, h⟩ := h
    obtain ⟨S4, z9, g9⟩ := ru_goTo h0
    replace h := h S4 g9
    replace K := fun i uo z => K i uo ⟨S4, z9, z⟩
    exact ⟨_, K i0 _ rfl, h⟩
  · replace h := h.2 c
    replace K := fun i uo z => K i uo (Or.inr ⟨c, z⟩)
    obtain ⟨Q9, h0, h⟩ := h
    obtain ⟨S7, z9, g9⟩ := ru_goTo h0
    replace h := h S7 g9
    replace K := fun i uo z => K i uo ⟨S7, z9, z⟩
    exact ⟨_, K i0 _ rfl, h⟩
set_option maxRecDepth 100000 in
theorem ru_jump_J131 {ι : Type} {P : MS → Prop} {Q : MS → Prop} {U131 : MS} {t131_0 : Int32} {v131_1 : Int32} {v131_3 : Int32} (i0 : ι) (K : ∀ (i : ι) (uo : MS), v_jump_J131 uo U131 t131_0 v131_1 v131_3 → P uo) (h : w_jump_J131 Q U131 t131_0 v131_1 v131_3) : ∃ uo, P uo ∧ Q uo := by
  unfold w_jump_J131 at h
  exact ru_jump_J180 i0 K h
set_option maxRecDepth 100000 in
theorem ru_jump_J123 {ι : Type} {P : MS → Prop} {Q : MS → Prop} {U123 : MS} {t123_0 : Int32} {t123_1 : Int32} {v123_1 : Int32} {v123_3 : Int32} (i0 : ι) (K : ∀ (i : ι) (uo : MS), v_jump_J123 uo U123 t123_0 t123_1 v123_1 v123_3 → P uo) (h : w_jump_J123 Q U123 t123_0 t123_1 v123_1 v123_3) : ∃ uo, P uo ∧ Q uo := by
  unfold w_jump_J123 at h
  by_cases c : t123_1.toInt = t123_0.toInt
  · replace h := h.1 c
    replace K := fun i uo z => K i uo (Or.inl ⟨c, z⟩)
    exact ru_jump_J131 i0 K h
  · replace h := h.2 c
    replace K := fun i uo z => K i uo (Or.inr ⟨c, z⟩)
    exact ru_jump_J131 i0 K h
set_option maxRecDepth 100000 in
theorem ru_jump_J111 {ι : Type} {P : MS → Prop} {Q : MS → Prop} {U111 : MS} {t111_0 : Int32} {v111_1 : Int32} {v111_2 : Int32} {v111_3 : Int32} (i0 : ι) (K : ∀ (i : ι) (uo : MS), v_jump_J111 uo U111 t111_0 v111_1 v111_2 v111_3 → P uo) (h : w_jump_J111 Q U111 t111_0 v111_1 v111_2 v111_3) : ∃ uo, P uo ∧ Q uo := by
  unfold w_jump_J111 at h
  by_cases c : v111_2.toInt = 165
  · replace h := h.1 c
    replace K := fun i uo z => K i uo (Or.inl ⟨c, z⟩)
    exact ru_jump_J123 i0 K h
  · replace h := h.2 c
    replace K := fun i uo z => K i uo (Or.inr ⟨c, z⟩)
    exact ru_jump_J123 i0 K h
set_option maxRecDepth 100000 in
theorem ru_jump_J88 {ι : Type} {P : MS → Prop} {Q : MS → Prop} {U88 : MS} {v88_1 : Int32} {v88_2 : Int32} {v88_3 : Int32} (i0 : ι) (K : ∀ (i : ι) (uo : MS), v_jump_J88 uo U88 v88_1 v88_2 v88_3 → P uo) (h : w_jump_J88 Q U88 v88_1 v88_2 v88_3) : ∃ uo, P uo ∧ Q uo := by
  unfold w_jump_J88 at h
  obtain ⟨Q9, h0, h⟩ := h
  obtain ⟨r10, S11, z9, g9⟩ := ru_got h0
  replace h := h r10 S11 g9
  replace K := fun i uo z => K i uo ⟨r10, S11, z9, z⟩
  obtain ⟨Q9, h0, h⟩ := h
  obtain ⟨r14, S15, z9, g9⟩ := ru_got h0
  replace h := h r14 S15 g9
  replace K := fun i uo z => K i uo ⟨r14, S15, z9, z⟩
  by_cases c : (lg_cmp r14 r10).toInt = 0
  · replace h := h.1 c
    replace K := fun i uo z => K i uo (Or.inl ⟨c, z⟩)
    exact ru_jump_J111 i0 K h
  · replace h := h.2 c
    replace K := fun i uo z => K i uo (Or.inr ⟨c, z⟩)
    exact ru_jump_J111 i0 K h
set_option maxRecDepth 100000 in
theorem ru_jump_J178 {ι : Type} {P : MS → Prop} {Q : MS → Prop} {U178 : MS} {t178_0 : Int32} {v178_1 : Int32} {v178_3 : Int32} (i0 : ι) (K : ∀ (i : ι) (uo : MS), v_jump_J178 uo U178 t178_0 v178_1 v178_3 → P uo) (h : w_jump_J178 Q U178 t178_0 v178_1 v178_3) : ∃ uo, P uo ∧ Q uo := by
  unfold w_jump_J178 at h
  exact ru_jump_J180 i0 K h
set_option maxRecDepth 100000 in
theorem ru_jump_J170 {ι : Type} {P : MS → Prop} {Q : MS → Prop} {U170 : MS} {t170_0 : Int32} {t170_1 : Int32} {v170_1 : Int32} {v170_3 : Int32} (i0 : ι) (K : ∀ (i : ι) (uo : MS), v_jump_J170 uo U170 t170_0 t170_1 v170_1 v170_3 → P uo) (h : w_jump_J170 Q U170 t170_0 t170_1 v170_1 v170_3) : ∃ uo, P uo ∧ Q uo := by
  unfold w_jump_J170 at h
  by_cases c : t170_1.toInt = t170_0.toInt
  · replace h := h.1 c
    replace K := fun i uo z => K i uo (Or.inl ⟨c, z⟩)
    exact ru_jump_J178 i0 K h
  · replace h := h.2 c
    replace K := fun i uo z => K i uo (Or.inr ⟨c, z⟩)
    exact ru_jump_J178 i0 K h
set_option maxRecDepth 100000 in
theorem ru_jump_J158 {ι : Type} {P : MS → Prop} {Q : MS → Prop} {U158 : MS} {t158_0 : Int32} {v158_1 : Int32} {v158_2 : Int32} {v158_3 : Int32} (i0 : ι) (K : ∀ (i : ι) (uo : MS), v_jump_J158 uo U158 t158_0 v158_1 v158_2 v158_3 → P uo) (h : w_jump_J158 Q U158 t158_0 v158_1 v158_2 v158_3) : ∃ uo, P uo ∧ Q uo := by
  unfold w_jump_J158 at h
  by_cases c : v158_2.toInt = 198
  · replace h := h.1 c
    replace K := fun i uo z => K i uo (Or.inl ⟨c, z⟩)
    exact ru_jump_J170 i0 K h
  · replace h := h.2 c
    replace K := fun i uo z => K i uo (Or.inr ⟨c, z⟩)
    exact ru_jump_J170 i0 K h
set_option maxRecDepth 100000 in
theorem ru_jump_J74 {ι : Type} {P : MS → Prop} {Q : MS → Prop} {U74 : MS} {v74_1 : Int32} {v74_2 : Int32} {v74_3 : Int32} {v74_4 : Int32} (i0 : ι) (K : ∀ (i : ι) (uo : MS), v_jump_J74 uo U74 v74_1 v74_2 v74_3 v74_4 → P uo) (h : w_jump_J74 Q U74 v74_1 v74_2 v74_3 v74_4) : ∃ uo, P uo ∧ Q uo := by
  unfold w_jump_J74 at h
  by_cases c : v74_2.toInt = 165
  · replace h := h.1 c
    replace K := fun i uo z => K i uo (Or.inl ⟨c, z⟩)
    exact ru_jump_J88 i0 K h
  · replace h := h.2 c
    replace K := fun i uo z => K i uo (Or.inr ⟨c, z⟩)
    by_cases c : v74_2.toInt = 166
    · replace h := h.1 c
      replace K := fun i uo z => K i uo (Or.inl ⟨c, z⟩)
      exact ru_jump_J88 i0 K h
    · replace h := h.2 c
      replace K := fun i uo z => K i uo (Or.inr ⟨c, z⟩)
      by_cases c : v74_2.toInt = 167
      · replace h := h.1 c
        replace K := fun i uo z => K i uo (Or.inl ⟨c, z⟩)
        exact ru_jump_J180 i0 K h
      · replace h := h.2 c
        replace K := fun i uo z => K i uo (Or.inr ⟨c, z⟩)
        obtain ⟨Q9, h0, h⟩ := h
        obtain ⟨r25, S26, z9, g9⟩ := ru_got h0
        replace h := h r25 S26 g9
        replace K := fun i uo z => K i uo ⟨r25, S26, z9, z⟩
        by_cases c : (lg_cmp r25 0).toInt = 0
        · replace h := h.1 c
          replace K := fun i uo z => K i uo (Or.inl ⟨c, z⟩)
          exact ru_jump_J158 i0 K h
        · replace h := h.2 c
          replace K := fun i uo z => K i uo (Or.inr ⟨c, z⟩)
          exact ru_jump_J158 i0 K h
set_option maxRecDepth 100000 in
theorem ru_jump_J42 {ι : Type} {P : MS → Prop} {Q : MS → Prop} {U42 : MS} {v42_1 : Int32} {v42_2 : Int32} {v42_3 : Int32} {v42_4 : Int32} (i0 : ι) (K : ∀ (i : ι) (uo : MS), v_jump_J42 uo U42 v42_1 v42_2 v42_3 v42_4 → P uo) (h : w_jump_J42 Q U42 v42_1 v42_2 v42_3 v42_4) : ∃ uo, P uo ∧ Q uo := by
  unfold w_jump_J42 at h
  by_cases c : v42_2.toInt < 153
  · replace h := h.1 c
    replace K := fun i uo z => K i uo (Or.inl ⟨c, z⟩)
    exact ru_jump_J74 i0 K h
  · replace h := h.2 c
    replace K := fun i uo z => K i uo (Or.inr ⟨c, z⟩)
    by_cases c : 158 < v42_2.toInt
    · replace h := h.1 c
      replace K := fun i uo z => K i uo (Or.inl ⟨c, z⟩)
      exact ru_jump_J74 i0 K h
    · replace h := h.2 c
      replace K := fun i uo z => K i uo (Or.inr ⟨c, z⟩)
      obtain ⟨Q9, h0, h⟩ := h
      obtain ⟨r36, S37, z9, g9⟩ := ru_gotInt h0
      replace h := h r36 S37 g9
      replace K := fun i uo z => K i uo ⟨r36, S37, z9, z⟩
      obtain ⟨g1_, h⟩ := h
      replace K := fun i uo z => K i uo ⟨g1_, z⟩
      obtain ⟨a42, ea42⟩ : ∃ x9 : Int32, x9 = (f_isSo S37 (v42_2 - (153 : Int32)) r36 (0 : Int32)) := ⟨_, rfl⟩
      replace h := h a42 ea42
      replace K := fun i uo z => K i uo ⟨a42, ea42, z⟩
      exact ru_jump_J180 i0 K h
set_option maxRecDepth 100000 in
theorem ru_jump {S : MS} {x1 : Int32} {x2 : Int32} {x3 : Int32} {Q : MS → Prop} (h : w_jump S x1 x2 x3 Q) : ∃ uo, v_jump S x1 x2 x3 uo ∧ Q uo := by
  have i0 : Unit := ()
  have K : ∀ (i : Unit) (uo : MS), v_jump S x1 x2 x3 uo → v_jump S x1 x2 x3 uo := fun _ _ z => z
  unfold w_jump at h
  by_cases c : x2.toInt < 159
  · replace h := h.1 c
    replace K := fun i uo z => K i uo (Or.inl ⟨c, z⟩)
    exact ru_jump_J42 i0 K h
  · replace h := h.2 c
    replace K := fun i uo z => K i uo (Or.inr ⟨c, z⟩)
    by_cases c : 164 < x2.toInt
    · replace h := h.1 c
      replace K := fun i uo z => K i uo (Or.inl ⟨c, z⟩)
      exact ru_jump_J42 i0 K h
    · replace h := h.2 c
      replace K := fun i uo z => K i uo (Or.inr ⟨c, z⟩)
      obtain ⟨Q9, h0, h⟩ := h
      obtain ⟨r46, S47, z9, g9⟩ := ru_gotInt h0
      replace h := h r46 S47 g9
      replace K := fun i uo z => K i uo ⟨r46, S47, z9, z⟩
      obtain ⟨Q9, h0, h⟩ := h
      obtain ⟨r51, S52, z9, g9⟩ := ru_gotInt h0
      replace h := h r51 S52 g9
      replace K := fun i uo z => K i uo ⟨r51, S52, z9, z⟩
      obtain ⟨g2_, h⟩ := h
      replace K := fun i uo z => K i uo ⟨g2_, z⟩
      obtain ⟨a57, ea57⟩ : ∃ x9 : Int32, x9 = (f_isSo S52 (x2 - (159 : Int32)) r51 r46) := ⟨_, rfl⟩
      replace h := h a57 ea57
      replace K := fun i uo z => K i uo ⟨a57, ea57, z⟩
      exact ru_jump_J180 i0 K h
set_option maxRecDepth 100000 in
theorem vw_jump_J180 {uo : MS} {U180 : MS} {v180_1 : Int32} {v180_3 : Int32} {v180_4 : Int32} (h : v_jump_J180 uo U180 v180_1 v180_3 v180_4) : w_jump_J180 (fun u => u = uo) U180 v180_1 v180_3 v180_4 := by
  unfold v_jump_J180 at h
  unfold w_jump_J180
  rcases h with ⟨c, h⟩ | ⟨c, h⟩
  · refine ⟨fun _ => ?_, fun c2 => absurd c c2⟩
    obtain ⟨q9, z9, h⟩ := h
    refine ⟨_, vw_goTo z9, ?_⟩
    intro q8 d9
    subst d9
    exact h.symm
  · refine ⟨fun c2 => absurd c2 c, fun _ => ?_⟩
    obtain ⟨q9, z9, h⟩ := h
    refine ⟨_, vw_goTo z9, ?_⟩
    intro q8 d9
    subst d9
    exact h.symm
set_option maxRecDepth 100000 in
theorem vz_jump_J180 {uo : MS} {Q : MS → Prop} {U180 : MS} {v180_1 : Int32} {v180_3 : Int32} {v180_4 : Int32} (h : v_jump_J180 uo U180 v180_1 v180_3 v180_4) (w : w_jump_J180 Q U180 v180_1 v180_3 v180_4) : Q uo := by
  unfold v_jump_J180 at h
  unfold w_jump_J180 at w
  rcases h with ⟨c, h⟩ | ⟨c, h⟩
  · replace w := w.1 c
    obtain ⟨q9, z9, h⟩ := h
    obtain ⟨Q9, w0, w⟩ := w
    replace w := w q9 (vz_goTo z9 w0)
    rw [h]
    exact w
  · replace w := w.2 c
    obtain ⟨q9, z9, h⟩ := h
    obtain ⟨Q9, w0, w⟩ := w
    replace w := w q9 (vz_goTo z9 w0)
    rw [h]
    exact w
set_option maxRecDepth 100000 in
theorem vw_jump_J131 {uo : MS} {U131 : MS} {t131_0 : Int32} {v131_1 : Int32} {v131_3 : Int32} (h : v_jump_J131 uo U131 t131_0 v131_1 v131_3) : w_jump_J131 (fun u => u = uo) U131 t131_0 v131_1 v131_3 := by
  unfold v_jump_J131 at h
  unfold w_jump_J131
  exact vw_jump_J180 h
set_option maxRecDepth 100000 in
theorem vz_jump_J131 {uo : MS} {Q : MS → Prop} {U131 : MS} {t131_0 : Int32} {v131_1 : Int32} {v131_3 : Int32} (h : v_jump_J131 uo U131 t131_0 v131_1 v131_3) (w : w_jump_J131 Q U131 t131_0 v131_1 v131_3) : Q uo := by
  unfold v_jump_J131 at h
  unfold w_jump_J131 at w
  exact vz_jump_J180 h w
set_option maxRecDepth 100000 in
theorem vw_jump_J123 {uo : MS} {U123 : MS} {t123_0 : Int32} {t123_1 : Int32} {v123_1 : Int32} {v123_3 : Int32} (h : v_jump_J123 uo U123 t123_0 t123_1 v123_1 v123_3) : w_jump_J123 (fun u => u = uo) U123 t123_0 t123_1 v123_1 v123_3 := by
  unfold v_jump_J123 at h
  unfold w_jump_J123
  rcases h with ⟨c, h⟩ | ⟨c, h⟩
  · refine ⟨fun _ => ?_, fun c2 => absurd c c2⟩
    exact vw_jump_J131 h
  · refine ⟨fun c2 => absurd c2 c, fun _ => ?_⟩
    exact vw_jump_J131 h
set_option maxRecDepth 100000 in
theorem vz_jump_J123 {uo : MS} {Q : MS → Prop} {U123 : MS} {t123_0 : Int32} {t123_1 : Int32} {v123_1 : Int32} {v123_3 : Int32} (h : v_jump_J123 uo U123 t123_0 t123_1 v123_1 v123_3) (w : w_jump_J123 Q U123 t123_0 t123_1 v123_1 v123_3) : Q uo := by
  unfold v_jump_J123 at h
  unfold w_jump_J123 at w
  rcases h with ⟨c, h⟩ | ⟨c, h⟩
  · replace w := w.1 c
    exact vz_jump_J131 h w
  · replace w := w.2 c
    exact vz_jump_J131 h w
set_option maxRecDepth 100000 in
theorem vw_jump_J111 {uo : MS} {U111 : MS} {t111_0 : Int32} {v111_1 : Int32} {v111_2 : Int32} {v111_3 : Int32} (h : v_jump_J111 uo U111 t111_0 v111_1 v111_2 v111_3) : w_jump_J111 (fun u => u = uo) U111 t111_0 v111_1 v111_2 v111_3 := by
  unfold v_jump_J111 at h
  unfold w_jump_J111
  rcases h with ⟨c, h⟩ | ⟨c, h⟩
  · refine ⟨fun _ => ?_, fun c2 => absurd c c2⟩
    exact vw_jump_J123 h
  · refine ⟨fun c2 => absurd c2 c, fun _ => ?_⟩
    exact vw_jump_J123 h
set_option maxRecDepth 100000 in
theorem vz_jump_J111 {uo : MS} {Q : MS → Prop} {U111 : MS} {t111_0 : Int32} {v111_1 : Int32} {v111_2 : Int32} {v111_3 : Int32} (h : v_jump_J111 uo U111 t111_0 v111_1 v111_2 v111_3) (w : w_jump_J111 Q U111 t111_0 v111_1 v111_2 v111_3) : Q uo := by
  unfold v_jump_J111 at h
  unfold w_jump_J111 at w
  rcases h with ⟨c, h⟩ | ⟨c, h⟩
  · replace w := w.1 c
    exact vz_jump_J123 h w
  · replace w := w.2 c
    exact vz_jump_J123 h w
set_option maxRecDepth 100000 in
theorem vw_jump_J88 {uo : MS} {U88 : MS} {v88_1 : Int32} {v88_2 : Int32} {v88_3 : Int32} (h : v_jump_J88 uo U88 v88_1 v88_2 v88_3) : w_jump_J88 (fun u => u = uo) U88 v88_1 v88_2 v88_3 := by
  unfold v_jump_J88 at h
  unfold w_jump_J88
  obtain ⟨p9, q9, z9, h⟩ := h
  refine ⟨_, vw_got z9, ?_⟩
  rintro p8 q8 ⟨d8, d9⟩
  subst d8
  subst d9
  obtain ⟨p9, q9, z9, h⟩ := h
  refine ⟨_, vw_got z9, ?_⟩
  rintro p8 q8 ⟨d8, d9⟩
  subst d8
  subst d9
  rcases h with ⟨c, h⟩ | ⟨c, h⟩
  · refine ⟨fun _ => ?_, fun c2 => absurd c c2⟩
    exact vw_jump_J111 h
  · refine ⟨fun c2 => absurd c2 c, fun _ => ?_⟩
    exact vw_jump_J111 h
set_option maxRecDepth 100000 in
theorem vz_jump_J88 {uo : MS} {Q : MS → Prop} {U88 : MS} {v88_1 : Int32} {v88_2 : Int32} {v88_3 : Int32} (h : v_jump_J88 uo U88 v88_1 v88_2 v88_3) (w : w_jump_J88 Q U88 v88_1 v88_2 v88_3) : Q uo := by
  unfold v_jump_J88 at h
  unfold w_jump_J88 at w
  obtain ⟨p9, q9, z9, h⟩ := h
  obtain ⟨Q9, w0, w⟩ := w
  replace w := w p9 q9 (vz_got z9 w0)
  obtain ⟨p9, q9, z9, h⟩ := h
  obtain ⟨Q9, w0, w⟩ := w
  replace w := w p9 q9 (vz_got z9 w0)
  rcases h with ⟨c, h⟩ | ⟨c, h⟩
  · replace w := w.1 c
    exact vz_jump_J111 h w
  · replace w := w.2 c
    exact vz_jump_J111 h w
set_option maxRecDepth 100000 in
theorem vw_jump_J178 {uo : MS} {U178 : MS} {t178_0 : Int32} {v178_1 : Int32} {v178_3 : Int32} (h : v_jump_J178 uo U178 t178_0 v178_1 v178_3) : w_jump_J178 (fun u => u = uo) U178 t178_0 v178_1 v178_3 := by
  unfold v_jump_J178 at h
  unfold w_jump_J178
  exact vw_jump_J180 h
set_option maxRecDepth 100000 in
theorem vz_jump_J178 {uo : MS} {Q : MS → Prop} {U178 : MS} {t178_0 : Int32} {v178_1 : Int32} {v178_3 : Int32} (h : v_jump_J178 uo U178 t178_0 v178_1 v178_3) (w : w_jump_J178 Q U178 t178_0 v178_1 v178_3) : Q uo := by
  unfold v_jump_J178 at h
  unfold w_jump_J178 at w
  exact vz_jump_J180 h w
set_option maxRecDepth 100000 in
theorem vw_jump_J170 {uo : MS} {U170 : MS} {t170_0 : Int32} {t170_1 : Int32} {v170_1 : Int32} {v170_3 : Int32} (h : v_jump_J170 uo U170 t170_0 t170_1 v170_1 v170_3) : w_jump_J170 (fun u => u = uo) U170 t170_0 t170_1 v170_1 v170_3 := by
  unfold v_jump_J170 at h
  unfold w_jump_J170
  rcases h with ⟨c, h⟩ | ⟨c, h⟩
  · refine ⟨fun _ => ?_, fun c2 => absurd c c2⟩
    exact vw_jump_J178 h
  · refine ⟨fun c2 => absurd c2 c, fun _ => ?_⟩
    exact vw_jump_J178 h
set_option maxRecDepth 100000 in
theorem vz_jump_J170 {uo : MS} {Q : MS → Prop} {U170 : MS} {t170_0 : Int32} {t170_1 : Int32} {v170_1 : Int32} {v170_3 : Int32} (h : v_jump_J170 uo U170 t170_0 t170_1 v170_1 v170_3) (w : w_jump_J170 Q U170 t170_0 t170_1 v170_1 v170_3) : Q uo := by
  unfold v_jump_J170 at h
  unfold w_jump_J170 at w
  rcases h with ⟨c, h⟩ | ⟨c, h⟩
  · replace w := w.1 c
    exact vz_jump_J178 h w
  · replace w := w.2 c
    exact vz_jump_J178 h w
set_option maxRecDepth 100000 in
theorem vw_jump_J158 {uo : MS} {U158 : MS} {t158_0 : Int32} {v158_1 : Int32} {v158_2 : Int32} {v158_3 : Int32} (h : v_jump_J158 uo U158 t158_0 v158_1 v158_2 v158_3) : w_jump_J158 (fun u => u = uo) U158 t158_0 v158_1 v158_2 v158_3 := by
  unfold v_jump_J158 at h
  unfold w_jump_J158
  rcases h with ⟨c, h⟩ | ⟨c, h⟩
  · refine ⟨fun _ => ?_, fun c2 => absurd c c2⟩
    exact vw_jump_J170 h
  · refine ⟨fun c2 => absurd c2 c, fun _ => ?_⟩
    exact vw_jump_J170 h
set_option maxRecDepth 100000 in
theorem vz_jump_J158 {uo : MS} {Q : MS → Prop} {U158 : MS} {t158_0 : Int32} {v158_1 : Int32} {v158_2 : Int32} {v158_3 : Int32} (h : v_jump_J158 uo U158 t158_0 v158_1 v158_2 v158_3) (w : w_jump_J158 Q U158 t158_0 v158_1 v158_2 v158_3) : Q uo := by
  unfold v_jump_J158 at h
  unfold w_jump_J158 at w
  rcases h with ⟨c, h⟩ | ⟨c, h⟩
  · replace w := w.1 c
    exact vz_jump_J170 h w
  · replace w := w.2 c
    exact vz_jump_J170 h w
set_option maxRecDepth 100000 in
theorem vw_jump_J74 {uo : MS} {U74 : MS} {v74_1 : Int32} {v74_2 : Int32} {v74_3 : Int32} {v74_4 : Int32} (h : v_jump_J74 uo U74 v74_1 v74_2 v74_3 v74_4) : w_jump_J74 (fun u => u = uo) U74 v74_1 v74_2 v74_3 v74_4 := by
  unfold v_jump_J74 at h
  unfold w_jump_J74
  rcases h with ⟨c, h⟩ | ⟨c, h⟩
  · refine ⟨fun _ => ?_, fun c2 => absurd c c2⟩
    exact vw_jump_J88 h
  · refine ⟨fun c2 => absurd c2 c, fun _ => ?_⟩
    rcases h with ⟨c, h⟩ | ⟨c, h⟩
    · refine ⟨fun _ => ?_, fun c2 => absurd c c2⟩
      exact vw_jump_J88 h
    · refine ⟨fun c2 => absurd c2 c, fun _ => ?_⟩
      rcases h with ⟨c, h⟩ | ⟨c, h⟩
      · refine ⟨fun _ => ?_, fun c2 => absurd c c2⟩
        exact vw_jump_J180 h
      · refine ⟨fun c2 => absurd c2 c, fun _ => ?_⟩
        obtain ⟨p9, q9, z9, h⟩ := h
        refine ⟨_, vw_got z9, ?_⟩
        rintro p8 q8 ⟨d8, d9⟩
        subst d8
        subst d9
        rcases h with ⟨c, h⟩ | ⟨c, h⟩
        · refine ⟨fun _ => ?_, fun c2 => absurd c c2⟩
          exact vw_jump_J158 h
        · refine ⟨fun c2 => absurd c2 c, fun _ => ?_⟩
          exact vw_jump_J158 h
set_option maxRecDepth 100000 in
theorem vz_jump_J74 {uo : MS} {Q : MS → Prop} {U74 : MS} {v74_1 : Int32} {v74_2 : Int32} {v74_3 : Int32} {v74_4 : Int32} (h : v_jump_J74 uo U74 v74_1 v74_2 v74_3 v74_4) (w : w_jump_J74 Q U74 v74_1 v74_2 v74_3 v74_4) : Q uo := by
  unfold v_jump_J74 at h
  unfold w_jump_J74 at w
  rcases h with ⟨c, h⟩ | ⟨c, h⟩
  · replace w := w.1 c
    exact vz_jump_J88 h w
  · replace w := w.2 c
    rcases h with ⟨c, h⟩ | ⟨c, h⟩
    · replace w := w.1 c
      exact vz_jump_J88 h w
    · replace w := w.2 c
      rcases h with ⟨c, h⟩ | ⟨c, h⟩
      · replace w := w.1 c
        exact vz_jump_J180 h w
      · replace w := w.2 c
        obtain ⟨p9, q9, z9, h⟩ := h
        obtain ⟨Q9, w0, w⟩ := w
        replace w := w p9 q9 (vz_got z9 w0)
        rcases h with ⟨c, h⟩ | ⟨c, h⟩
        · replace w := w.1 c
          exact vz_jump_J158 h w
        · replace w := w.2 c
          exact vz_jump_J158 h w
set_option maxRecDepth 100000 in
theorem vw_jump_J42 {uo : MS} {U42 : MS} {v42_1 : Int32} {v42_2 : Int32} {v42_3 : Int32} {v42_4 : Int32} (h : v_jump_J42 uo U42 v42_1 v42_2 v42_3 v42_4) : w_jump_J42 (fun u => u = uo) U42 v42_1 v42_2 v42_3 v42_4 := by
  unfold v_jump_J42 at h
  unfold w_jump_J42
  rcases h with ⟨c, h⟩ | ⟨c, h⟩
  · refine ⟨fun _ => ?_, fun c2 => absurd c c2⟩
    exact vw_jump_J74 h
  · refine ⟨fun c2 => absurd c2 c, fun _ => ?_⟩
    rcases h with ⟨c, h⟩ | ⟨c, h⟩
    · refine ⟨fun _ => ?_, fun c2 => absurd c c2⟩
      exact vw_jump_J74 h
    · refine ⟨fun c2 => absurd c2 c, fun _ => ?_⟩
      obtain ⟨p9, q9, z9, h⟩ := h
      refine ⟨_, vw_gotInt z9, ?_⟩
      rintro p8 q8 ⟨d8, d9⟩
      subst d8
      subst d9
      obtain ⟨g9, h⟩ := h
      refine ⟨g9, ?_⟩
      obtain ⟨v9, e9, h⟩ := h
      intro x9 d9
      have c9 : v9 = x9 := e9.trans d9.symm
      subst c9
      exact vw_jump_J180 h
set_option maxRecDepth 100000 in
theorem vz_jump_J42 {uo : MS} {Q : MS → Prop} {U42 : MS} {v42_1 : Int32} {v42_2 : Int32} {v42_3 : Int32} {v42_4 : Int32} (h : v_jump_J42 uo U42 v42_1 v42_2 v42_3 v42_4) (w : w_jump_J42 Q U42 v42_1 v42_2 v42_3 v42_4) : Q uo := by
  unfold v_jump_J42 at h
  unfold w_jump_J42 at w
  rcases h with ⟨c, h⟩ | ⟨c, h⟩
  · replace w := w.1 c
    exact vz_jump_J74 h w
  · replace w := w.2 c
    rcases h with ⟨c, h⟩ | ⟨c, h⟩
    · replace w := w.1 c
      exact vz_jump_J74 h w
    · replace w := w.2 c
      obtain ⟨p9, q9, z9, h⟩ := h
      obtain ⟨Q9, w0, w⟩ := w
      replace w := w p9 q9 (vz_gotInt z9 w0)
      replace h := h.2
      replace w := w.2
      obtain ⟨v9, e9, h⟩ := h
      replace w := w v9 e9
      exact vz_jump_J180 h w
set_option maxRecDepth 100000 in
theorem vw_jump {S : MS} {x1 : Int32} {x2 : Int32} {x3 : Int32} {uo : MS} (h : v_jump S x1 x2 x3 uo) : w_jump S x1 x2 x3 (fun u => u = uo) := by
  unfold v_jump at h
  unfold w_jump
  rcases h with ⟨c, h⟩ | ⟨c, h⟩
  · refine ⟨fun _ => ?_, fun c2 => absurd c c2⟩
    exact vw_jump_J42 h
  · refine ⟨fun c2 => absurd c2 c, fun _ => ?_⟩
    rcases h with ⟨c, h⟩ | ⟨c, h⟩
    · refine ⟨fun _ => ?_, fun c2 => absurd c c2⟩
      exact vw_jump_J42 h
    · refine ⟨fun c2 => absurd c2 c, fun _ => ?_⟩
      obtain ⟨p9, q9, z9, h⟩ := h
      refine ⟨_, vw_gotInt z9, ?_⟩
      rintro p8 q8 ⟨d8, d9⟩
      subst d8
      subst d9
      obtain ⟨p9, q9, z9, h⟩ := h
      refine ⟨_, vw_gotInt z9, ?_⟩
      rintro p8 q8 ⟨d8, d9⟩
      subst d8
      subst d9
      obtain ⟨g9, h⟩ := h
      refine ⟨g9, ?_⟩
      obtain ⟨v9, e9, h⟩ := h
      intro x9 d9
      have c9 : v9 = x9 := e9.trans d9.symm
      subst c9
      exact vw_jump_J180 h
set_option maxRecDepth 100000 in
theorem vz_jump {S : MS} {x1 : Int32} {x2 : Int32} {x3 : Int32} {uo : MS} {Q : MS → Prop} (h : v_jump S x1 x2 x3 uo) (w : w_jump S x1 x2 x3 Q) : Q uo := by
  unfold v_jump at h
  unfold w_jump at w
  rcases h with ⟨c, h⟩ | ⟨c, h⟩
  · replace w := w.1 c
    exact vz_jump_J42 h w
  · replace w := w.2 c
    rcases h with ⟨c, h⟩ | ⟨c, h⟩
    · replace w := w.1 c
      exact vz_jump_J42 h w
    · replace w := w.2 c
      obtain ⟨p9, q9, z9, h⟩ := h
      obtain ⟨Q9, w0, w⟩ := w
      replace w := w p9 q9 (vz_gotInt z9 w0)
      obtain ⟨p9, q9, z9, h⟩ := h
      obtain ⟨Q9, w0, w⟩ := w
      replace w := w p9 q9 (vz_gotInt z9 w0)
      replace h := h.2
      replace w := w.2
      obtain ⟨v9, e9, h⟩ := h
      replace w := w v9 e9
      exact vz_jump_J180 h w
def v_keep_L37 (uo : MS) (k26 : MS → Int32 → Int32 → Int32 → Prop) : Nat → MS → Int32 → Int32 → Int32 → Int32 → Int32 → Prop
  | 0, _, _, _, _, _, _ => False
  | n37 + 1, U37, v37_1, v37_2, v37_3, v37_4, v37_5 => ((8 ≤ v37_5.toInt ∧ (((0 : Int) ≤ ((v37_1 + (1 : Int32)) + v37_3).toInt ∧ ((v37_1 + (1 : Int32)) + v37_3).toInt < 115200) ∧ (∃ S10 : MS, S10 = wI U37 27 ((((v37_1 + (1 : Int32)) + v37_3).toInt).toNat) v37_4 ∧ (∃ a11 : Int32, a11 = (v37_3 + Int32.ofInt 1) ∧ (k26 S10 v37_1 v37_2 a11))))) ∨ (¬ 8 ≤ v37_5.toInt ∧ (((0 : Int) ≤ ((((48 : Int32) * v37_2) + ((8 : Int32) * v37_3)) + v37_5).toInt ∧ ((((48 : Int32) * v37_2) + ((8 : Int32) * v37_3)) + v37_5).toInt < 57600) ∧ (∃ a21 : Int32, a21 = (v37_4 ||| ((qI U37 23 ((((((48 : Int32) * v37_2) + ((8 : Int32) * v37_3)) + v37_5).toInt).toNat)) <<< (((4 : Int32) * v37_5) &&& 31))) ∧ (∃ a22 : Int32, a22 = (v37_5 + Int32.ofInt 1) ∧ ((v_keep_L37 uo k26 n37) U37 v37_1 v37_2 v37_3 a21 a22))))))
def v_keep_L26 (uo : MS) : Nat → MS → Int32 → Int32 → Int32 → Prop
  | 0, _, _, _, _ => False
  | n26 + 1, U26, v26_1, v26_2, v26_3 => ((3 ≤ v26_3.toInt ∧ (uo = U26)) ∨ (¬ 3 ≤ v26_3.toInt ∧ (∃ n, v_keep_L37 uo (v_keep_L26 uo n26) n U26 v26_1 v26_2 v26_3 0 0)))
def v_keep_J23 (uo : MS) (U23 : MS) (t23_0 : Int32) (t23_1 : Int32) (v23_1 : Int32) (v23_2 : Int32) : Prop := (((0 : Int) ≤ t23_1.toInt ∧ t23_1.toInt < 115200) ∧ (∃ S4 : MS, S4 = wI U23 27 t23_1.toInt.toNat t23_0 ∧ (∃ n, v_keep_L26 uo n S4 v23_1 v23_2 0)))
def v_keep (S : MS) (x1 : Int32) (x2 : Int32) (uo : MS) : Prop := (((0 : Int) ≤ x2.toInt ∧ x2.toInt < 1200) ∧ (((qI S 24 x2.toInt.toNat).toInt = 0 ∧ (v_keep_J23 uo S (-1) x1 x1 x2)) ∨ (¬ (qI S 24 x2.toInt.toNat).toInt = 0 ∧ (∃ (r25 : Int32) (S26 : MS), v_heightAt S x2 r25 S26 ∧ (v_keep_J23 uo S26 r25 x1 x1 x2)))))
set_option maxRecDepth 100000 in
theorem ru_keep_L37 {ι : Type} {P : MS → Prop} {Q : MS → Prop} {k26 : MS → Int32 → Int32 → Int32 → Prop} {k26v : ι → MS → MS → Int32 → Int32 → Int32 → Prop} : ∀ (n : Nat) {U37 : MS} {v37_1 : Int32} {v37_2 : Int32} {v37_3 : Int32} {v37_4 : Int32} {v37_5 : Int32} (i0 : ι) (hk26 : ∀ (u : MS) (z0 : Int32) (z1 : Int32) (z2 : Int32), k26 u z0 z1 z2 → (∀ (i : ι) (uo : MS), k26v i uo u z0 z1 z2 → P uo) → ∃ uo, P uo ∧ Q uo), (∀ (i : ι) (uo : MS), (∃ n8, v_keep_L37 uo (k26v i uo) n8 U37 v37_1 v37_2 v37_3 v37_4 v37_5) → P uo) → w_keep_L37 Q k26 n U37 v37_1 v37_2 v37_3 v37_4 v37_5 → ∃ uo, P uo ∧ Q uo := by
  intro n
  induction n with
  | zero => intro U37 v37_1 v37_2 v37_3 v37_4 v37_5 i0 hk26 K h; unfold w_keep_L37 at h; exact h.elim
  | succ n ih =>
    intro U37 v37_1 v37_2 v37_3 v37_4 v37_5 i0 hk26 K h
    unfold w_keep_L37 at h
    replace K := fun (i : ι × Nat) uo (z : v_keep_L37 uo (k26v i.1 uo) (i.2 + 1) U37 v37_1 v37_2 v37_3 v37_4 v37_5) => K i.1 uo ⟨i.2 + 1, z⟩
    have i00 := i0
    replace i0 : ι × Nat := (i0, 0)
    by_cases c : 8 ≤ v37_5.toInt
    · replace h := h.1 c
      replace K := fun i uo z => K i uo (Or.inl ⟨c, z⟩)
      obtain ⟨g1_, h⟩ := h
      replace K := fun i uo z => K i uo ⟨g1_, z⟩
      obtain ⟨S10, eS10⟩ : ∃ x9 : MS, x9 = wI U37 27 ((((v37_1 + (1 : Int32)) + v37_3).toInt).toNat) v37_4 := ⟨_, rfl⟩
      replace h := h S10 eS10
      replace K := fun i uo z => K i uo ⟨S10, eS10, z⟩
      obtain ⟨a11, ea11⟩ : ∃ x9 : Int32, x9 = (v37_3 + Int32.ofInt 1) := ⟨_, rfl⟩
      replace h := h a11 ea11
      replace K := fun i uo z => K i uo ⟨a11, ea11, z⟩
      exact hk26 _ _ _ _ h (fun i uo z => K (i, 0) uo z)
    · replace h := h.2 c
      replace K := fun i uo z => K i uo (Or.inr ⟨c, z⟩)
      obtain ⟨g2_, h⟩ := h
      replace K := fun i uo z => K i uo ⟨g2_, z⟩
      obtain ⟨a21, ea21⟩ : ∃ x9 : Int32, x9 = (v37_4 ||| ((qI U37 23 ((((((48 : Int32) * v37_2) + ((8 : Int32) * v37_3)) + v37_5).toInt).toNat)) <<< (((4 : Int32) * v37_5) &&& 31))) := ⟨_, rfl⟩
      replace h := h a21 ea21
      replace K := fun i uo z => K i uo ⟨a21, ea21, z⟩
      obtain ⟨a22, ea22⟩ : ∃ x9 : Int32, x9 = (v37_5 + Int32.ofInt 1) := ⟨_, rfl⟩
      replace h := h a22 ea22
      replace K := fun i uo z => K i uo ⟨a22, ea22, z⟩
      exact ih i00 hk26 (fun i uo ⟨n8, z⟩ => K (i, n8) uo z) h
set_option maxRecDepth 100000 in
theorem ru_keep_L26 {ι : Type} {P : MS → Prop} {Q : MS → Prop} : ∀ (n : Nat) {U26 : MS} {v26_1 : Int32} {v26_2 : Int32} {v26_3 : Int32} (i0 : ι), (∀ (i : ι) (uo : MS), (∃ n8, v_keep_L26 uo n8 U26 v26_1 v26_2 v26_3) → P uo) → w_keep_L26 Q n U26 v26_1 v26_2 v26_3 → ∃ uo, P uo ∧ Q uo := by
  intro n
  induction n with
  | zero => intro U26 v26_1 v26_2 v26_3 i0 K h; unfold w_keep_L26 at h; exact h.elim
  | succ n ih =>
    intro U26 v26_1 v26_2 v26_3 i0 K h
    unfold w_keep_L26 at h
    replace K := fun (i : ι × Nat) uo (z : v_keep_L26 uo (i.2 + 1) U26 v26_1 v26_2 v26_3) => K i.1 uo ⟨i.2 + 1, z⟩
    have i00 := i0
    replace i0 : ι × Nat := (i0, 0)
    by_cases c : 3 ≤ v26_3.toInt
    · replace h := h.1 c
      replace K := fun i uo z => K i uo (Or.inl ⟨c, z⟩)
      exact ⟨_, K i0 _ rfl, h⟩
    · replace h := h.2 c
      replace K := fun i uo z => K i uo (Or.inr ⟨c, z⟩)
      obtain ⟨n9, h⟩ := h
      exact ru_keep_L37 n9 i0 (fun _ _ _ _ h K => ih i00 (fun i uo ⟨n8, z⟩ => K (i, n8) uo z) h) K h
set_option maxRecDepth 100000 in
theorem ru_keep_J23 {ι : Type} {P : MS → Prop} {Q : MS → Prop} {U23 : MS} {t23_0 : Int32} {t23_1 : Int32} {v23_1 : Int32} {v23_2 : Int32} (i0 : ι) (K : ∀ (i : ι) (uo : MS), v_keep_J23 uo U23 t23_0 t23_1 v23_1 v23_2 → P uo) (h : w_keep_J23 Q U23 t23_0 t23_1 v23_1 v23_2) : ∃ uo, P uo ∧ Q uo := by
  unfold w_keep_J23 at h
  obtain ⟨g3_, h⟩ := h
  replace K := fun i uo z => K i uo ⟨g3_, z⟩
  obtain ⟨S4, eS4⟩ : ∃ x9 : MS, x9 = wI U23 27 t23_1.toInt.toNat t23_0 := ⟨_, rfl⟩
  replace h := h S4 eS4
  replace K := fun i uo z => K i uo ⟨S4, eS4, z⟩
  obtain ⟨n9, h⟩ := h
  exact ru_keep_L26 n9 i0 K h
set_option maxRecDepth 100000 in
theorem ru_keep {S : MS} {x1 : Int32} {x2 : Int32} {Q : MS → Prop} (h : w_keep S x1 x2 Q) : ∃ uo, v_keep S x1 x2 uo ∧ Q uo := by
  have i0 : Unit := ()
  have K : ∀ (i : Unit) (uo : MS), v_keep S x1 x2 uo → v_keep S x1 x2 uo := fun _ _ z => z
  unfold w_keep at h
  obtain ⟨g4_, h⟩ := h
  replace K := fun i uo z => K i uo ⟨g4_, z⟩
  by_cases c : (qI S 24 x2.toInt.toNat).toInt = 0
  · replace h := h.1 c
    replace K := fun i uo z => K i uo (Or.inl ⟨c, z⟩)
    exact ru_keep_J23 i0 K h
  · replace h := h.2 c
    replace K := fun i uo z => K i uo (Or.inr ⟨c, z⟩)
    obtain ⟨Q9, h0, h⟩ := h
    obtain ⟨r25, S26, z9, g9⟩ := ru_heightAt h0
    replace h := h r25 S26 g9
    replace K := fun i uo z => K i uo ⟨r25, S26, z9, z⟩
    exact ru_keep_J23 i0 K h
set_option maxRecDepth 100000 in
theorem vw_keep_L37 {uo : MS} {k26 k26v : MS → Int32 → Int32 → Int32 → Prop} : ∀ (n : Nat) {U37 : MS} {v37_1 : Int32} {v37_2 : Int32} {v37_3 : Int32} {v37_4 : Int32} {v37_5 : Int32} (hk26 : ∀ (u : MS) (z0 : Int32) (z1 : Int32) (z2 : Int32), k26v u z0 z1 z2 → k26 u z0 z1 z2), v_keep_L37 uo k26v n U37 v37_1 v37_2 v37_3 v37_4 v37_5 → w_keep_L37 (fun u => u = uo) k26 n U37 v37_1 v37_2 v37_3 v37_4 v37_5 := by
  intro n
  induction n with
  | zero => intro U37 v37_1 v37_2 v37_3 v37_4 v37_5 hk26 h; unfold v_keep_L37 at h; exact h.elim
  | succ n ih =>
    intro U37 v37_1 v37_2 v37_3 v37_4 v37_5 hk26 h
    unfold v_keep_L37 at h
    unfold w_keep_L37
    rcases h with ⟨c, h⟩ | ⟨c, h⟩
    · refine ⟨fun _ => ?_, fun c2 => absurd c c2⟩
      obtain ⟨g9, h⟩ := h
      refine ⟨g9, ?_⟩
      obtain ⟨v9, e9, h⟩ := h
      intro x9 d9
      have c9 : v9 = x9 := e9.trans d9.symm
      subst c9
      obtain ⟨v9, e9, h⟩ := h
      intro x9 d9
      have c9 : v9 = x9 := e9.trans d9.symm
      subst c9
      exact hk26 _ _ _ _ h
    · refine ⟨fun c2 => absurd c2 c, fun _ => ?_⟩
      obtain ⟨g9, h⟩ := h
      refine ⟨g9, ?_⟩
      obtain ⟨v9, e9, h⟩ := h
      intro x9 d9
      have c9 : v9 = x9 := e9.trans d9.symm
      subst c9
      obtain ⟨v9, e9, h⟩ := h
      intro x9 d9
      have c9 : v9 = x9 := e9.trans d9.symm
      subst c9
      exact ih hk26 h
set_option maxRecDepth 100000 in
theorem vz_keep_L37 {uo : MS} {Q : MS → Prop} {k26 k26v : MS → Int32 → Int32 → Int32 → Prop} : ∀ (n m : Nat) {U37 : MS} {v37_1 : Int32} {v37_2 : Int32} {v37_3 : Int32} {v37_4 : Int32} {v37_5 : Int32} (hk26 : ∀ (u : MS) (z0 : Int32) (z1 : Int32) (z2 : Int32), k26v u z0 z1 z2 → k26 u z0 z1 z2 → Q uo), v_keep_L37 uo k26v n U37 v37_1 v37_2 v37_3 v37_4 v37_5 → w_keep_L37 Q k26 m U37 v37_1 v37_2 v37_3 v37_4 v37_5 → Q uo := by
  intro n
  induction n with
  | zero => intro m U37 v37_1 v37_2 v37_3 v37_4 v37_5 hk26 h; unfold v_keep_L37 at h; exact h.elim
  | succ n ih =>
    intro m U37 v37_1 v37_2 v37_3 v37_4 v37_5 hk26 h w
    cases m with
    | zero => unfold w_keep_L37 at w; exact w.elim
    | succ m =>
      unfold v_keep_L37 at h
      unfold w_keep_L37 at w
      rcases h with ⟨c, h⟩ | ⟨c, h⟩
      · replace w := w.1 c
        replace h := h.2
        replace w := w.2
        obtain ⟨v9, e9, h⟩ := h
        replace w := w v9 e9
        obtain ⟨v9, e9, h⟩ := h
        replace w := w v9 e9
        exact hk26 _ _ _ _ h w
      · replace w := w.2 c
        replace h := h.2
        replace w := w.2
        obtain ⟨v9, e9, h⟩ := h
        replace w := w v9 e9
        obtain ⟨v9, e9, h⟩ := h
        replace w := w v9 e9
        exact ih m hk26 h w
set_option maxRecDepth 100000 in
theorem vw_keep_L26 {uo : MS} : ∀ (n : Nat) {U26 : MS} {v26_1 : Int32} {v26_2 : Int32} {v26_3 : Int32}, v_keep_L26 uo n U26 v26_1 v26_2 v26_3 → w_keep_L26 (fun u => u = uo) n U26 v26_1 v26_2 v26_3 := by
  intro n
  induction n with
  | zero => intro U26 v26_1 v26_2 v26_3 h; unfold v_keep_L26 at h; exact h.elim
  | succ n ih =>
    intro U26 v26_1 v26_2 v26_3 h
    unfold v_keep_L26 at h
    unfold w_keep_L26
    rcases h with ⟨c, h⟩ | ⟨c, h⟩
    · refine ⟨fun _ => ?_, fun c2 => absurd c c2⟩
      exact h.symm
    · refine ⟨fun c2 => absurd c2 c, fun _ => ?_⟩
      obtain ⟨n9, h⟩ := h
      exact ⟨n9, vw_keep_L37 n9 (fun _ _ _ _ h => ih h) h⟩
set_option maxRecDepth 100000 in
theorem vz_keep_L26 {uo : MS} {Q : MS → Prop} : ∀ (n m : Nat) {U26 : MS} {v26_1 : Int32} {v26_2 : Int32} {v26_3 : Int32}, v_keep_L26 uo n U26 v26_1 v26_2 v26_3 → w_keep_L26 Q m U26 v26_1 v26_2 v26_3 → Q uo := by
  intro n
  induction n with
  | zero => intro m U26 v26_1 v26_2 v26_3 h; unfold v_keep_L26 at h; exact h.elim
  | succ n ih =>
    intro m U26 v26_1 v26_2 v26_3 h w
    cases m with
    | zero => unfold w_keep_L26 at w; exact w.elim
    | succ m =>
      unfold v_keep_L26 at h
      unfold w_keep_L26 at w
      rcases h with ⟨c, h⟩ | ⟨c, h⟩
      · replace w := w.1 c
        rw [h]
        exact w
      · replace w := w.2 c
        obtain ⟨n9, h⟩ := h
        obtain ⟨n8, w⟩ := w
        exact vz_keep_L37 n9 n8 (fun _ _ _ _ h w => ih m h w) h w
set_option maxRecDepth 100000 in
theorem vw_keep_J23 {uo : MS} {U23 : MS} {t23_0 : Int32} {t23_1 : Int32} {v23_1 : Int32} {v23_2 : Int32} (h : v_keep_J23 uo U23 t23_0 t23_1 v23_1 v23_2) : w_keep_J23 (fun u => u = uo) U23 t23_0 t23_1 v23_1 v23_2 := by
  unfold v_keep_J23 at h
  unfold w_keep_J23
  obtain ⟨g9, h⟩ := h
  refine ⟨g9, ?_⟩
  obtain ⟨v9, e9, h⟩ := h
  intro x9 d9
  have c9 : v9 = x9 := e9.trans d9.symm
  subst c9
  obtain ⟨n9, h⟩ := h
  exact ⟨n9, vw_keep_L26 n9 h⟩
set_option maxRecDepth 100000 in
theorem vz_keep_J23 {uo : MS} {Q : MS → Prop} {U23 : MS} {t23_0 : Int32} {t23_1 : Int32} {v23_1 : Int32} {v23_2 : Int32} (h : v_keep_J23 uo U23 t23_0 t23_1 v23_1 v23_2) (w : w_keep_J23 Q U23 t23_0 t23_1 v23_1 v23_2) : Q uo := by
  unfold v_keep_J23 at h
  unfold w_keep_J23 at w
  replace h := h.2
  replace w := w.2
  obtain ⟨v9, e9, h⟩ := h
  replace w := w v9 e9
  obtain ⟨n9, h⟩ := h
  obtain ⟨n8, w⟩ := w
  exact vz_keep_L26 n9 n8 h w
set_option maxRecDepth 100000 in
theorem vw_keep {S : MS} {x1 : Int32} {x2 : Int32} {uo : MS} (h : v_keep S x1 x2 uo) : w_keep S x1 x2 (fun u => u = uo) := by
  unfold v_keep at h
  unfold w_keep
  obtain ⟨g9, h⟩ := h
  refine ⟨g9, ?_⟩
  rcases h with ⟨c, h⟩ | ⟨c, h⟩
  · refine ⟨fun _ => ?_, fun c2 => absurd c c2⟩
    exact vw_keep_J23 h
  · refine ⟨fun c2 => absurd c2 c, fun _ => ?_⟩
    obtain ⟨p9, q9, z9, h⟩ := h
    refine ⟨_, vw_heightAt z9, ?_⟩
    rintro p8 q8 ⟨d8, d9⟩
    subst d8
    subst d9
    exact vw_keep_J23 h
set_option maxRecDepth 100000 in
theorem vz_keep {S : MS} {x1 : Int32} {x2 : Int32} {uo : MS} {Q : MS → Prop} (h : v_keep S x1 x2 uo) (w : w_keep S x1 x2 Q) : Q uo := by
  unfold v_keep at h
  unfold w_keep at w
  replace h := h.2
  replace w := w.2
  rcases h with ⟨c, h⟩ | ⟨c, h⟩
  · replace w := w.1 c
    exact vz_keep_J23 h w
  · replace w := w.2 c
    obtain ⟨p9, q9, z9, h⟩ := h
    obtain ⟨Q9, w0, w⟩ := w
    replace w := w p9 q9 (vz_heightAt z9 w0)
    exact vz_keep_J23 h w
def v_putTagged_J55 (uo : MS) (U55 : MS) (v55_4 : Int32) : Prop := (((0 : Int) ≤ ((qI U55 0 97) - (1 : Int32)).toInt ∧ ((qI U55 0 97) - (1 : Int32)).toInt < 60) ∧ (((0 : Int) ≤ ((qI U55 0 97) - (1 : Int32)).toInt ∧ ((qI U55 0 97) - (1 : Int32)).toInt < 60) ∧ (∃ S17 : MS, S17 = wI U55 44 ((((qI U55 0 97) - (1 : Int32)).toInt).toNat) ((qI U55 44 ((((qI U55 0 97) - (1 : Int32)).toInt).toNat)) + v55_4) ∧ (uo = S17))))
def v_putTagged (S : MS) (y1 : Int64) (x3 : Int32) (x4 : Int32) (uo : MS) : Prop := (((0 : Int) ≤ ((qI S 0 97) - (1 : Int32)).toInt ∧ ((qI S 0 97) - (1 : Int32)).toInt < 60) ∧ (∃ a7 : Int32, a7 = (((24 : Int32) * ((qI S 0 97) - (1 : Int32))) + (qI S 44 ((((qI S 0 97) - (1 : Int32)).toInt).toNat))) ∧ (((0 : Int) ≤ a7.toInt ∧ a7.toInt < 1440) ∧ (∃ S9 : MS, S9 = wJ S 46 a7.toInt.toNat y1 ∧ (((0 : Int) ≤ a7.toInt ∧ a7.toInt < 1440) ∧ (∃ S11 : MS, S11 = wI S9 48 a7.toInt.toNat (vp_nar .byte x3) ∧ ((x4.toInt = 2 ∧ (((0 : Int) ≤ (a7 + (1 : Int32)).toInt ∧ (a7 + (1 : Int32)).toInt < 1440) ∧ (∃ S21 : MS, S21 = wI S11 48 (((a7 + (1 : Int32)).toInt).toNat) (vp_nar .byte (3 : Int32)) ∧ (v_putTagged_J55 uo S21 x4)))) ∨ (¬ x4.toInt = 2 ∧ (v_putTagged_J55 uo S11 x4)))))))))
set_option maxRecDepth 100000 in
theorem ru_putTagged_J55 {ι : Type} {P : MS → Prop} {Q : MS → Prop} {U55 : MS} {v55_4 : Int32} (i0 : ι) (K : ∀ (i : ι) (uo : MS), v_putTagged_J55 uo U55 v55_4 → P uo) (h : w_putTagged_J55 Q U55 v55_4) : ∃ uo, P uo ∧ Q uo := by
  unfold w_putTagged_J55 at h
  obtain ⟨g1_, h⟩ := h
  replace K := fun i uo z => K i uo ⟨g1_, z⟩
  obtain ⟨g2_, h⟩ := h
  replace K := fun i uo z => K i uo ⟨g2_, z⟩
  obtain ⟨S17, eS17⟩ : ∃ x9 : MS, x9 = wI U55 44 ((((qI U55 0 97) - (1 : Int32)).toInt).toNat) ((qI U55 44 ((((qI U55 0 97) - (1 : Int32)).toInt).toNat)) + v55_4) := ⟨_, rfl⟩
  replace h := h S17 eS17
  replace K := fun i uo z => K i uo ⟨S17, eS17, z⟩
  exact ⟨_, K i0 _ rfl, h⟩
set_option maxRecDepth 100000 in
theorem ru_putTagged {S : MS} {y1 : Int64} {x3 : Int32} {x4 : Int32} {Q : MS → Prop} (h : w_putTagged S y1 x3 x4 Q) : ∃ uo, v_putTagged S y1 x3 x4 uo ∧ Q uo := by
  have i0 : Unit := ()
  have K : ∀ (i : Unit) (uo : MS), v_putTagged S y1 x3 x4 uo → v_putTagged S y1 x3 x4 uo := fun _ _ z => z
  unfold w_putTagged at h
  obtain ⟨g3_, h⟩ := h
  replace K := fun i uo z => K i uo ⟨g3_, z⟩
  obtain ⟨a7, ea7⟩ : ∃ x9 : Int32, x9 = (((24 : Int32) * ((qI S 0 97) - (1 : Int32))) + (qI S 44 ((((qI S 0 97) - (1 : Int32)).toInt).toNat))) := ⟨_, rfl⟩
  replace h := h a7 ea7
  replace K := fun i uo z => K i uo ⟨a7, ea7, z⟩
  obtain ⟨g4_, h⟩ := h
  replace K := fun i uo z => K i uo ⟨g4_, z⟩
  obtain ⟨S9, eS9⟩ : ∃ x9 : MS, x9 = wJ S 46 a7.toInt.toNat y1 := ⟨_, rfl⟩
  replace h := h S9 eS9
  replace K := fun i uo z => K i uo ⟨S9, eS9, z⟩
  obtain ⟨g5_, h⟩ := h
  replace K := fun i uo z => K i uo ⟨g5_, z⟩
  obtain ⟨S11, eS11⟩ : ∃ x9 : MS, x9 = wI S9 48 a7.toInt.toNat (vp_nar .byte x3) := ⟨_, rfl⟩
  replace h := h S11 eS11
  replace K := fun i uo z => K i uo ⟨S11, eS11, z⟩
  by_cases c : x4.toInt = 2
  · replace h := h.1 c
    replace K := fun i uo z => K i uo (Or.inl ⟨c, z⟩)
    obtain ⟨g6_, h⟩ := h
    replace K := fun i uo z => K i uo ⟨g6_, z⟩
    obtain ⟨S21, eS21⟩ : ∃ x9 : MS, x9 = wI S11 48 (((a7 + (1 : Int32)).toInt).toNat) (vp_nar .byte (3 : Int32)) := ⟨_, rfl⟩
    replace h := h S21 eS21
    replace K := fun i uo z => K i uo ⟨S21, eS21, z⟩
    exact ru_putTagged_J55 i0 K h
  · replace h := h.2 c
    replace K := fun i uo z => K i uo (Or.inr ⟨c, z⟩)
    exact ru_putTagged_J55 i0 K h
set_option maxRecDepth 100000 in
theorem vw_putTagged_J55 {uo : MS} {U55 : MS} {v55_4 : Int32} (h : v_putTagged_J55 uo U55 v55_4) : w_putTagged_J55 (fun u => u = uo) U55 v55_4 := by
  unfold v_putTagged_J55 at h
  unfold w_putTagged_J55
  obtain ⟨g9, h⟩ := h
  refine ⟨g9, ?_⟩
  obtain ⟨g9, h⟩ := h
  refine ⟨g9, ?_⟩
  obtain ⟨v9, e9, h⟩ := h
  intro x9 d9
  have c9 : v9 = x9 := e9.trans d9.symm
  subst c9
  exact h.symm
set_option maxRecDepth 100000 in
theorem vz_putTagged_J55 {uo : MS} {Q : MS → Prop} {U55 : MS} {v55_4 : Int32} (h : v_putTagged_J55 uo U55 v55_4) (w : w_putTagged_J55 Q U55 v55_4) : Q uo := by
  unfold v_putTagged_J55 at h
  unfold w_putTagged_J55 at w
  replace h := h.2
  replace w := w.2
  replace h := h.2
  replace w := w.2
  obtain ⟨v9, e9, h⟩ := h
  replace w := w v9 e9
  rw [h]
  exact w
set_option maxRecDepth 100000 in
theorem vw_putTagged {S : MS} {y1 : Int64} {x3 : Int32} {x4 : Int32} {uo : MS} (h : v_putTagged S y1 x3 x4 uo) : w_putTagged S y1 x3 x4 (fun u => u = uo) := by
  unfold v_putTagged at h
  unfold w_putTagged
  obtain ⟨g9, h⟩ := h
  refine ⟨g9, ?_⟩
  obtain ⟨v9, e9, h⟩ := h
  intro x9 d9
  have c9 : v9 = x9 := e9.trans d9.symm
  subst c9
  obtain ⟨g9, h⟩ := h
  refine ⟨g9, ?_⟩
  obtain ⟨v9, e9, h⟩ := h
  intro x9 d9
  have c9 : v9 = x9 := e9.trans d9.symm
  subst c9
  obtain ⟨g9, h⟩ := h
  refine ⟨g9, ?_⟩
  obtain ⟨v9, e9, h⟩ := h
  intro x9 d9
  have c9 : v9 = x9 := e9.trans d9.symm
  subst c9
  rcases h with ⟨c, h⟩ | ⟨c, h⟩
  · refine ⟨fun _ => ?_, fun c2 => absurd c c2⟩
    obtain ⟨g9, h⟩ := h
    refine ⟨g9, ?_⟩
    obtain ⟨v9, e9, h⟩ := h
    intro x9 d9
    have c9 : v9 = x9 := e9.trans d9.symm
    subst c9
    exact vw_putTagged_J55 h
  · refine ⟨fun c2 => absurd c2 c, fun _ => ?_⟩
    exact vw_putTagged_J55 h
set_option maxRecDepth 100000 in
theorem vz_putTagged {S : MS} {y1 : Int64} {x3 : Int32} {x4 : Int32} {uo : MS} {Q : MS → Prop} (h : v_putTagged S y1 x3 x4 uo) (w : w_putTagged S y1 x3 x4 Q) : Q uo := by
  unfold v_putTagged at h
  unfold w_putTagged at w
  replace h := h.2
  replace w := w.2
  obtain ⟨v9, e9, h⟩ := h
  replace w := w v9 e9
  replace h := h.2
  replace w := w.2
  obtain ⟨v9, e9, h⟩ := h
  replace w := w v9 e9
  replace h := h.2
  replace w := w.2
  obtain ⟨v9, e9, h⟩ := h
  replace w := w v9 e9
  rcases h with ⟨c, h⟩ | ⟨c, h⟩
  · replace w := w.1 c
    replace h := h.2
    replace w := w.2
    obtain ⟨v9, e9, h⟩ := h
    replace w := w v9 e9
    exact vz_putTagged_J55 h w
  · replace w := w.2 c
    exact vz_putTagged_J55 h w
def v_put (S : MS) (y1 : Int64) (x3 : Int32) (uo : MS) : Prop := ((x3.toInt = 2 ∧ (∃ (S9 : MS), v_putTagged S y1 (2 : Int32) x3 S9 ∧ (uo = S9))) ∨ (¬ x3.toInt = 2 ∧ (d_thingTag S y1 ∧ (∃ (S6 : MS), v_putTagged S y1 (f_thingTag S y1) x3 S6 ∧ (uo = S6)))))
set_option maxRecDepth 100000 in
theorem ru_put {S : MS} {y1 : Int64} {x3 : Int32} {Q : MS → Prop} (h : w_put S y1 x3 Q) : ∃ uo, v_put S y1 x3 uo ∧ Q uo := by
  have i0 : Unit := ()
  have K : ∀ (i : Unit) (uo : MS), v_put S y1 x3 uo → v_put S y1 x3 uo := fun _ _ z => z
  unfold w_put at h
  by_cases c : x3.toInt = 2
  · replace h := h.1 c
    replace K := fun i uo z => K i uo (Or.inl ⟨c, z⟩)
    obtain ⟨Q9, h0, h⟩ := h
    obtain ⟨S9, z9, g9⟩ := ru_putTagged h0
    replace h := h S9 g9
    replace K := fun i uo z => K i uo ⟨S9, z9, z⟩
    exact ⟨_, K i0 _ rfl, h⟩
  · replace h := h.2 c
    replace K := fun i uo z => K i uo (Or.inr ⟨c, z⟩)
    obtain ⟨g1_, h⟩ := h
    replace K := fun i uo z => K i uo ⟨g1_, z⟩
    obtain ⟨Q9, h0, h⟩ := h
    obtain ⟨S6, z9, g9⟩ := ru_putTagged h0
    replace h := h S6 g9
    replace K := fun i uo z => K i uo ⟨S6, z9, z⟩
    exact ⟨_, K i0 _ rfl, h⟩
set_option maxRecDepth 100000 in
theorem vw_put {S : MS} {y1 : Int64} {x3 : Int32} {uo : MS} (h : v_put S y1 x3 uo) : w_put S y1 x3 (fun u => u = uo) := by
  unfold v_put at h
  unfold w_put
  rcases h with ⟨c, h⟩ | ⟨c, h⟩
  · refine ⟨fun _ => ?_, fun c2 => absurd c c2⟩
    obtain ⟨q9, z9, h⟩ := h
    refine ⟨_, vw_putTagged z9, ?_⟩
    intro q8 d9
    subst d9
    exact h.symm
  · refine ⟨fun c2 => absurd c2 c, fun _ => ?_⟩
    obtain ⟨g9, h⟩ := h
    refine ⟨g9, ?_⟩
    obtain ⟨q9, z9, h⟩ := h
    refine ⟨_, vw_putTagged z9, ?_⟩
    intro q8 d9
    subst d9
    exact h.symm
set_option maxRecDepth 100000 in
theorem vz_put {S : MS} {y1 : Int64} {x3 : Int32} {uo : MS} {Q : MS → Prop} (h : v_put S y1 x3 uo) (w : w_put S y1 x3 Q) : Q uo := by
  unfold v_put at h
  unfold w_put at w
  rcases h with ⟨c, h⟩ | ⟨c, h⟩
  · replace w := w.1 c
    obtain ⟨q9, z9, h⟩ := h
    obtain ⟨Q9, w0, w⟩ := w
    replace w := w q9 (vz_putTagged z9 w0)
    rw [h]
    exact w
  · replace w := w.2 c
    replace h := h.2
    replace w := w.2
    obtain ⟨q9, z9, h⟩ := h
    obtain ⟨Q9, w0, w⟩ := w
    replace w := w q9 (vz_putTagged z9 w0)
    rw [h]
    exact w
def v_putInt (S : MS) (x1 : Int32) (uo : MS) : Prop := (∃ (S2 : MS), v_putTagged S (x1.toInt64) (1 : Int32) (1 : Int32) S2 ∧ (uo = S2))
set_option maxRecDepth 100000 in
theorem ru_putInt {S : MS} {x1 : Int32} {Q : MS → Prop} (h : w_putInt S x1 Q) : ∃ uo, v_putInt S x1 uo ∧ Q uo := by
  have i0 : Unit := ()
  have K : ∀ (i : Unit) (uo : MS), v_putInt S x1 uo → v_putInt S x1 uo := fun _ _ z => z
  unfold w_putInt at h
  obtain ⟨Q9, h0, h⟩ := h
  obtain ⟨S2, z9, g9⟩ := ru_putTagged h0
  replace h := h S2 g9
  replace K := fun i uo z => K i uo ⟨S2, z9, z⟩
  exact ⟨_, K i0 _ rfl, h⟩
set_option maxRecDepth 100000 in
theorem vw_putInt {S : MS} {x1 : Int32} {uo : MS} (h : v_putInt S x1 uo) : w_putInt S x1 (fun u => u = uo) := by
  unfold v_putInt at h
  unfold w_putInt
  obtain ⟨q9, z9, h⟩ := h
  refine ⟨_, vw_putTagged z9, ?_⟩
  intro q8 d9
  subst d9
  exact h.symm
set_option maxRecDepth 100000 in
theorem vz_putInt {S : MS} {x1 : Int32} {uo : MS} {Q : MS → Prop} (h : v_putInt S x1 uo) (w : w_putInt S x1 Q) : Q uo := by
  unfold v_putInt at h
  unfold w_putInt at w
  obtain ⟨q9, z9, h⟩ := h
  obtain ⟨Q9, w0, w⟩ := w
  replace w := w q9 (vz_putTagged z9 w0)
  rw [h]
  exact w
def v_leave_J96 (uo : MS) (U96 : MS) : Prop := (((0 : Int) ≤ ((qI U96 0 97) - (1 : Int32)).toInt ∧ ((qI U96 0 97) - (1 : Int32)).toInt < 60) ∧ (∃ (S9 : MS), v_goTo U96 ((qI U96 43 ((((qI U96 0 97) - (1 : Int32)).toInt).toNat)) + (1 : Int32)) S9 ∧ (uo = S9)))
def v_leave_J93 (uo : MS) (U93 : MS) (t93_0 : Int32) (t93_1 : Int64) : Prop := (∃ (S14 : MS), v_put U93 t93_1 t93_0 S14 ∧ (v_leave_J96 uo S14))
def v_leave_J27 (uo : MS) (U27 : MS) (t27_0 : Int64) (v27_1 : Int32) : Prop := (∃ S2 : MS, S2 = wI U27 0 97 ((qI U27 0 97) - (1 : Int32)) ∧ (((qI S2 0 97).toInt = 0 ∧ (∃ S20 : MS, S20 = wI S2 0 98 0 ∧ (∃ S21 : MS, S21 = wJ S20 0 101 t27_0 ∧ (uo = S21)))) ∨ (¬ (qI S2 0 97).toInt = 0 ∧ ((v27_1.toInt = 172 ∧ (∃ (S18 : MS), v_putInt S2 (t27_0.toInt32) S18 ∧ (v_leave_J96 uo S18))) ∨ (¬ v27_1.toInt = 172 ∧ ((v27_1.toInt = 177 ∧ (v_leave_J96 uo S2)) ∨ (¬ v27_1.toInt = 177 ∧ ((v27_1.toInt = 173 ∧ (v_leave_J93 uo S2 2 t27_0)) ∨ (¬ v27_1.toInt = 173 ∧ (v_leave_J93 uo S2 1 t27_0))))))))))
def v_leave_J24 (uo : MS) (U24 : MS) (t24_0 : Int32) (v24_1 : Int32) : Prop := (∃ (r24 : Int64) (S25 : MS), v_got U24 t24_0 r24 S25 ∧ (v_leave_J27 uo S25 r24 v24_1))
def v_leave (S : MS) (x1 : Int32) (uo : MS) : Prop := ((x1.toInt = 177 ∧ (v_leave_J27 uo S 0 x1)) ∨ (¬ x1.toInt = 177 ∧ ((x1.toInt = 173 ∧ (v_leave_J24 uo S 2 x1)) ∨ (¬ x1.toInt = 173 ∧ (v_leave_J24 uo S 1 x1)))))
set_option maxRecDepth 100000 in
theorem ru_leave_J96 {ι : Type} {P : MS → Prop} {Q : MS → Prop} {U96 : MS} (i0 : ι) (K : ∀ (i : ι) (uo : MS), v_leave_J96 uo U96 → P uo) (h : w_leave_J96 Q U96) : ∃ uo, P uo ∧ Q uo := by
  unfold w_leave_J96 at h
  obtain ⟨g1_, h⟩ := h
  replace K := fun i uo z => K i uo ⟨g1_, z⟩
  obtain ⟨Q9, h0, h⟩ := h
  obtain ⟨S9, z9, g9⟩ := ru_goTo h0
  replace h := h S9 g9
  replace K := fun i uo z => K i uo ⟨S9, z9, z⟩
  exact ⟨_, K i0 _ rfl, h⟩
set_option maxRecDepth 100000 in
theorem ru_leave_J93 {ι : Type} {P : MS → Prop} {Q : MS → Prop} {U93 : MS} {t93_0 : Int32} {t93_1 : Int64} (i0 : ι) (K : ∀ (i : ι) (uo : MS), v_leave_J93 uo U93 t93_0 t93_1 → P uo) (h : w_leave_J93 Q U93 t93_0 t93_1) : ∃ uo, P uo ∧ Q uo := by
  unfold w_leave_J93 at h
  obtain ⟨Q9, h0, h⟩ := h
  obtain ⟨S14, z9, g9⟩ := ru_put h0
  replace h := h S14 g9
  replace K := fun i uo z => K i uo ⟨S14, z9, z⟩
  exact ru_leave_J96 i0 K h
set_option maxRecDepth 100000 in
theorem ru_leave_J27 {ι : Type} {P : MS → Prop} {Q : MS → Prop} {U27 : MS} {t27_0 : Int64} {v27_1 : Int32} (i0 : ι) (K : ∀ (i : ι) (uo : MS), v_leave_J27 uo U27 t27_0 v27_1 → P uo) (h : w_leave_J27 Q U27 t27_0 v27_1) : ∃ uo, P uo ∧ Q uo := by
  unfold w_leave_J27 at h
  obtain ⟨S2, eS2⟩ : ∃ x9 : MS, x9 = wI U27 0 97 ((qI U27 0 97) - (1 : Int32)) := ⟨_, rfl⟩
  replace h := h S2 eS2
  replace K := fun i uo z => K i uo ⟨S2, eS2, z⟩
  by_cases c : (qI S2 0 97).toInt = 0
  · replace h := h.1 c
    replace K := fun i uo z => K i uo (Or.inl ⟨c, z⟩)
    obtain ⟨S20, eS20⟩ : ∃ x9 : MS, x9 = wI S2 0 98 0 := ⟨_, rfl⟩
    replace h := h S20 eS20
    replace K := fun i uo z => K i uo ⟨S20, eS20, z⟩
    obtain ⟨S21, eS21⟩ : ∃ x9 : MS, x9 = wJ S20 0 101 t27_0 := ⟨_, rfl⟩
    replace h := h S21 eS21
    replace K := fun i uo z => K i uo ⟨S21, eS21, z⟩
    exact ⟨_, K i0 _ rfl, h⟩
  · replace h := h.2 c
    replace K := fun i uo z => K i uo (Or.inr ⟨c, z⟩)
    by_cases c : v27_1.toInt = 172
    · replace h := h.1 c
      replace K := fun i uo z => K i uo (Or.inl ⟨c, z⟩)
      obtain ⟨Q9, h0, h⟩ := h
      obtain ⟨S18, z9, g9⟩ := ru_putInt h0
      replace h := h S18 g9
      replace K := fun i uo z => K i uo ⟨S18, z9, z⟩
      exact ru_leave_J96 i0 K h
    · replace h := h.2 c
      replace K := fun i uo z => K i uo (Or.inr ⟨c, z⟩)
      by_cases c : v27_1.toInt = 177
      · replace h := h.1 c
        replace K := fun i uo z => K i uo (Or.inl ⟨c, z⟩)
        exact ru_leave_J96 i0 K h
      · replace h := h.2 c
        replace K := fun i uo z => K i uo (Or.inr ⟨c, z⟩)
        by_cases c : v27_1.toInt = 173
        · replace h := h.1 c
          replace K := fun i uo z => K i uo (Or.inl ⟨c, z⟩)
          exact ru_leave_J93 i0 K h
        · replace h := h.2 c
          replace K := fun i uo z => K i uo (Or.inr ⟨c, z⟩)
          exact ru_leave_J93 i0 K h
set_option maxRecDepth 100000 in
theorem ru_leave_J24 {ι : Type} {P : MS → Prop} {Q : MS → Prop} {U24 : MS} {t24_0 : Int32} {v24_1 : Int32} (i0 : ι) (K : ∀ (i : ι) (uo : MS), v_leave_J24 uo U24 t24_0 v24_1 → P uo) (h : w_leave_J24 Q U24 t24_0 v24_1) : ∃ uo, P uo ∧ Q uo := by
  unfold w_leave_J24 at h
  obtain ⟨Q9, h0, h⟩ := h
  obtain ⟨r24, S25, z9, g9⟩ := ru_got h0
  replace h := h r24 S25 g9
  replace K := fun i uo z => K i uo ⟨r24, S25, z9, z⟩
  exact ru_leave_J27 i0 K h
set_option maxRecDepth 100000 in
theorem ru_leave {S : MS} {x1 : Int32} {Q : MS → Prop} (h : w_leave S x1 Q) : ∃ uo, v_leave S x1 uo ∧ Q uo := by
  have i0 : Unit := ()
  have K : ∀ (i : Unit) (uo : MS), v_leave S x1 uo → v_leave S x1 uo := fun _ _ z => z
  unfold w_leave at h
  by_cases c : x1.toInt = 177
  · replace h := h.1 c
    replace K := fun i uo z => K i uo (Or.inl ⟨c, z⟩)
    exact ru_leave_J27 i0 K h
  · replace h := h.2 c
    replace K := fun i uo z => K i uo (Or.inr ⟨c, z⟩)
    by_cases c : x1.toInt = 173
    · replace h := h.1 c
      replace K := fun i uo z => K i uo (Or.inl ⟨c, z⟩)
      exact ru_leave_J24 i0 K h
    · replace h := h.2 c
      replace K := fun i uo z => K i uo (Or.inr ⟨c, z⟩)
      exact ru_leave_J24 i0 K h
set_option maxRecDepth 100000 in
theorem vw_leave_J96 {uo : MS} {U96 : MS} (h : v_leave_J96 uo U96) : w_leave_J96 (fun u => u = uo) U96 := by
  unfold v_leave_J96 at h
  unfold w_leave_J96
  obtain ⟨g9, h⟩ := h
  refine ⟨g9, ?_⟩
  obtain ⟨q9, z9, h⟩ := h
  refine ⟨_, vw_goTo z9, ?_⟩
  intro q8 d9
  subst d9
  exact h.symm
set_option maxRecDepth 100000 in
theorem vz_leave_J96 {uo : MS} {Q : MS → Prop} {U96 : MS} (h : v_leave_J96 uo U96) (w : w_leave_J96 Q U96) : Q uo := by
  unfold v_leave_J96 at h
  unfold w_leave_J96 at w
  replace h := h.2
  replace w := w.2
  obtain ⟨q9, z9, h⟩ := h
  obtain ⟨Q9, w0, w⟩ := w
  replace w := w q9 (vz_goTo z9 w0)
  rw [h]
  exact w
set_option maxRecDepth 100000 in
theorem vw_leave_J93 {uo : MS} {U93 : MS} {t93_0 : Int32} {t93_1 : Int64} (h : v_leave_J93 uo U93 t93_0 t93_1) : w_leave_J93 (fun u => u = uo) U93 t93_0 t93_1 := by
  unfold v_leave_J93 at h
  unfold w_leave_J93
  obtain ⟨q9, z9, h⟩ := h
  refine ⟨_, vw_put z9, ?_⟩
  intro q8 d9
  subst d9
  exact vw_leave_J96 h
set_option maxRecDepth 100000 in
theorem vz_leave_J93 {uo : MS} {Q : MS → Prop} {U93 : MS} {t93_0 : Int32} {t93_1 : Int64} (h : v_leave_J93 uo U93 t93_0 t93_1) (w : w_leave_J93 Q U93 t93_0 t93_1) : Q uo := by
  unfold v_leave_J93 at h
  unfold w_leave_J93 at w
  obtain ⟨q9, z9, h⟩ := h
  obtain ⟨Q9, w0, w⟩ := w
  replace w := w q9 (vz_put z9 w0)
  exact vz_leave_J96 h w
set_option maxRecDepth 100000 in
theorem vw_leave_J27 {uo : MS} {U27 : MS} {t27_0 : Int64} {v27_1 : Int32} (h : v_leave_J27 uo U27 t27_0 v27_1) : w_leave_J27 (fun u => u = uo) U27 t27_0 v27_1 := by
  unfold v_leave_J27 at h
  unfold w_leave_J27
  obtain ⟨v9, e9, h⟩ := h
  intro x9 d9
  have c9 : v9 = x9 := e9.trans d9.symm
  subst c9
  rcases h with ⟨c, h⟩ | ⟨c, h⟩
  · refine ⟨fun _ => ?_, fun c2 => absurd c c2⟩
    obtain ⟨v9, e9, h⟩ := h
    intro x9 d9
    have c9 : v9 = x9 := e9.trans d9.symm
    subst c9
    obtain ⟨v9, e9, h⟩ := h
    intro x9 d9
    have c9 : v9 = x9 := e9.trans d9.symm
    subst c9
    exact h.symm
  · refine ⟨fun c2 => absurd c2 c, fun _ => ?_⟩
    rcases h with ⟨c, h⟩ | ⟨c, h⟩
    · refine ⟨fun _ => ?_, fun c2 => absurd c c2⟩
      obtain ⟨q9, z9, h⟩ := h
      refine ⟨_, vw_putInt z9, ?_⟩
      intro q8 d9
      subst d9
      exact vw_leave_J96 h
    · refine ⟨fun c2 => absurd c2 c, fun _ => ?_⟩
      rcases h with ⟨c, h⟩ | ⟨c, h⟩
      · refine ⟨fun _ => ?_, fun c2 => absurd c c2⟩
        exact vw_leave_J96 h
      · refine ⟨fun c2 => absurd c2 c, fun _ => ?_⟩
        rcases h with ⟨c, h⟩ | ⟨c, h⟩
        · refine ⟨fun _ => ?_, fun c2 => absurd c c2⟩
          exact vw_leave_J93 h
        · refine ⟨fun c2 => absurd c2 c, fun _ => ?_⟩
          exact vw_leave_J93 h
set_option maxRecDepth 100000 in
theorem vz_leave_J27 {uo : MS} {Q : MS → Prop} {U27 : MS} {t27_0 : Int64} {v27_1 : Int32} (h : v_leave_J27 uo U27 t27_0 v27_1) (w : w_leave_J27 Q U27 t27_0 v27_1) : Q uo := by
  unfold v_leave_J27 at h
  unfold w_leave_J27 at w
  obtain ⟨v9, e9, h⟩ := h
  replace w := w v9 e9
  rcases h with ⟨c, h⟩ | ⟨c, h⟩
  · replace w := w.1 c
    obtain ⟨v9, e9, h⟩ := h
    replace w := w v9 e9
    obtain ⟨v9, e9, h⟩ := h
    replace w := w v9 e9
    rw [h]
    exact w
  · replace w := w.2 c
    rcases h with ⟨c, h⟩ | ⟨c, h⟩
    · replace w := w.1 c
      obtain ⟨q9, z9, h⟩ := h
      obtain ⟨Q9, w0, w⟩ := w
      replace w := w q9 (vz_putInt z9 w0)
      exact vz_leave_J96 h w
    · replace w := w.2 c
      rcases h with ⟨c, h⟩ | ⟨c, h⟩
      · replace w := w.1 c
        exact vz_leave_J96 h w
      · replace w := w.2 c
        rcases h with ⟨c, h⟩ | ⟨c, h⟩
        · replace w := w.1 c
          exact vz_leave_J93 h w
        · replace w := w.2 c
          exact vz_leave_J93 h w
set_option maxRecDepth 100000 in
theorem vw_leave_J24 {uo : MS} {U24 : MS} {t24_0 : Int32} {v24_1 : Int32} (h : v_leave_J24 uo U24 t24_0 v24_1) : w_leave_J24 (fun u => u = uo) U24 t24_0 v24_1 := by
  unfold v_leave_J24 at h
  unfold w_leave_J24
  obtain ⟨p9, q9, z9, h⟩ := h
  refine ⟨_, vw_got z9, ?_⟩
  rintro p8 q8 ⟨d8, d9⟩
  subst d8
  subst d9
  exact vw_leave_J27 h
set_option maxRecDepth 100000 in
theorem vz_leave_J24 {uo : MS} {Q : MS → Prop} {U24 : MS} {t24_0 : Int32} {v24_1 : Int32} (h : v_leave_J24 uo U24 t24_0 v24_1) (w : w_leave_J24 Q U24 t24_0 v24_1) : Q uo := by
  unfold v_leave_J24 at h
  unfold w_leave_J24 at w
  obtain ⟨p9, q9, z9, h⟩ := h
  obtain ⟨Q9, w0, w⟩ := w
  replace w := w p9 q9 (vz_got z9 w0)
  exact vz_leave_J27 h w
set_option maxRecDepth 100000 in
theorem vw_leave {S : MS} {x1 : Int32} {uo : MS} (h : v_leave S x1 uo) : w_leave S x1 (fun u => u = uo) := by
  unfold v_leave at h
  unfold w_leave
  rcases h with ⟨c, h⟩ | ⟨c, h⟩
  · refine ⟨fun _ => ?_, fun c2 => absurd c c2⟩
    exact vw_leave_J27 h
  · refine ⟨fun c2 => absurd c2 c, fun _ => ?_⟩
    rcases h with ⟨c, h⟩ | ⟨c, h⟩
    · refine ⟨fun _ => ?_, fun c2 => absurd c c2⟩
      exact vw_leave_J24 h
    · refine ⟨fun c2 => absurd c2 c, fun _ => ?_⟩
      exact vw_leave_J24 h
set_option maxRecDepth 100000 in
theorem vz_leave {S : MS} {x1 : Int32} {uo : MS} {Q : MS → Prop} (h : v_leave S x1 uo) (w : w_leave S x1 Q) : Q uo := by
  unfold v_leave at h
  unfold w_leave at w
  rcases h with ⟨c, h⟩ | ⟨c, h⟩
  · replace w := w.1 c
    exact vz_leave_J27 h w
  · replace w := w.2 c
    rcases h with ⟨c, h⟩ | ⟨c, h⟩
    · replace w := w.1 c
      exact vz_leave_J24 h w
    · replace w := w.2 c
      exact vz_leave_J24 h w
def v_length (S : MS) (x1 : Int32) (x2 : Int32) (ro : Int32) (uo : MS) : Prop := (∃ (r2 : Int32) (S3 : MS), v_isMethod S x1 x2 r2 S3 ∧ ((r2.toInt = 0 ∧ (ro = (-1 : Int32) ∧ uo = S3)) ∨ (¬ r2.toInt = 0 ∧ (((0 : Int) ≤ x1.toInt ∧ x1.toInt < 12) ∧ ((qR S3 1 x1.toInt.toNat = some (qO S3 1 x1.toInt.toNat)) ∧ ((qR S3 (qO S3 1 x1.toInt.toNat) 15 = some (qO S3 (qO S3 1 x1.toInt.toNat) 15)) ∧ (((0 : Int) ≤ x2.toInt ∧ x2.toInt < (qN S3 (qO S3 (qO S3 1 x1.toInt.toNat) 15) : Int)) ∧ (ro = (qI S3 (qO S3 (qO S3 1 x1.toInt.toNat) 15) x2.toInt.toNat) ∧ uo = S3))))))))
set_option maxRecDepth 100000 in
theorem ru_length {S : MS} {x1 : Int32} {x2 : Int32} {Q : Int32 → MS → Prop} (h : w_length S x1 x2 Q) : ∃ ro uo, v_length S x1 x2 ro uo ∧ Q ro uo := by
  have i0 : Unit := ()
  have K : ∀ (i : Unit) (ro : Int32) (uo : MS), v_length S x1 x2 ro uo → v_length S x1 x2 ro uo := fun _ _ _ z => z
  unfold w_length at h
  obtain ⟨Q9, h0, h⟩ := h
  obtain ⟨r2, S3, z9, g9⟩ := ru_isMethod h0
  replace h := h r2 S3 g9
  replace K := fun i ro uo z => K i ro uo ⟨r2, S3, z9, z⟩
  by_cases c : r2.toInt = 0
  · replace h := h.1 c
    replace K := fun i ro uo z => K i ro uo (Or.inl ⟨c, z⟩)
    exact ⟨_, _, K i0 _ _ ⟨rfl, rfl⟩, h⟩
  · replace h := h.2 c
    replace K := fun i ro uo z => K i ro uo (Or.inr ⟨c, z⟩)
    obtain ⟨g1_, h⟩ := h
    replace K := fun i ro uo z => K i ro uo ⟨g1_, z⟩
    obtain ⟨g2_, h⟩ := h
    replace K := fun i ro uo z => K i ro uo ⟨g2_, z⟩
    obtain ⟨g3_, h⟩ := h
    replace K := fun i ro uo z => K i ro uo ⟨g3_, z⟩
    obtain ⟨g4_, h⟩ := h
    replace K := fun i ro uo z => K i ro uo ⟨g4_, z⟩
    exact ⟨_, _, K i0 _ _ ⟨rfl, rfl⟩, h⟩
set_option maxRecDepth 100000 in
theorem vw_length {S : MS} {x1 : Int32} {x2 : Int32} {ro : Int32} {uo : MS} (h : v_length S x1 x2 ro uo) : w_length S x1 x2 (fun r u => r = ro ∧ u = uo) := by
  unfold v_length at h
  unfold w_length
  obtain ⟨p9, q9, z9, h⟩ := h
  refine ⟨_, vw_isMethod z9, ?_⟩
  rintro p8 q8 ⟨d8, d9⟩
  subst d8
  subst d9
  rcases h with ⟨c, h⟩ | ⟨c, h⟩
  · refine ⟨fun _ => ?_, fun c2 => absurd c c2⟩
    exact ⟨h.1.symm, h.2.symm⟩
  · refine ⟨fun c2 => absurd c2 c, fun _ => ?_⟩
    obtain ⟨g9, h⟩ := h
    refine ⟨g9, ?_⟩
    obtain ⟨g9, h⟩ := h
    refine ⟨g9, ?_⟩
    obtain ⟨g9, h⟩ := h
    refine ⟨g9, ?_⟩
    obtain ⟨g9, h⟩ := h
    refine ⟨g9, ?_⟩
    exact ⟨h.1.symm, h.2.symm⟩
set_option maxRecDepth 100000 in
theorem vz_length {S : MS} {x1 : Int32} {x2 : Int32} {ro : Int32} {uo : MS} {Q : Int32 → MS → Prop} (h : v_length S x1 x2 ro uo) (w : w_length S x1 x2 Q) : Q ro uo := by
  unfold v_length at h
  unfold w_length at w
  obtain ⟨p9, q9, z9, h⟩ := h
  obtain ⟨Q9, w0, w⟩ := w
  replace w := w p9 q9 (vz_isMethod z9 w0)
  rcases h with ⟨c, h⟩ | ⟨c, h⟩
  · replace w := w.1 c
    rw [h.1, h.2]
    exact w
  · replace w := w.2 c
    replace h := h.2
    replace w := w.2
    replace h := h.2
    replace w := w.2
    replace h := h.2
    replace w := w.2
    replace h := h.2
    replace w := w.2
    rw [h.1, h.2]
    exact w
def v_local (S : MS) (x1 : Int32) (x2 : Int32) (x3 : Int32) (x4 : Int32) (ro : Int32) (uo : MS) : Prop := (∃ (r2 : Int32) (S3 : MS), v_stateAt S x1 x2 x3 r2 S3 ∧ ((r2.toInt < 0 ∧ (ro = (-1 : Int32) ∧ uo = S3)) ∨ (¬ r2.toInt < 0 ∧ (((0 : Int) ≤ x1.toInt ∧ x1.toInt < 12) ∧ ((qR S3 1 x1.toInt.toNat = some (qO S3 1 x1.toInt.toNat)) ∧ ((qR S3 (qO S3 1 x1.toInt.toNat) 22 = some (qO S3 (qO S3 1 x1.toInt.toNat) 22)) ∧ (((0 : Int) ≤ r2.toInt ∧ r2.toInt < (qN S3 (qO S3 (qO S3 1 x1.toInt.toNat) 22) : Int)) ∧ (((qI S3 (qO S3 (qO S3 1 x1.toInt.toNat) 22) r2.toInt.toNat).toInt < 0 ∧ (ro = (-1 : Int32) ∧ uo = S3)) ∨ (¬ (qI S3 (qO S3 (qO S3 1 x1.toInt.toNat) 22) r2.toInt.toNat).toInt < 0 ∧ ((x4.toInt < 0 ∧ (ro = (-1 : Int32) ∧ uo = S3)) ∨ (¬ x4.toInt < 0 ∧ ((x4.toInt < 24 ∧ (((0 : Int) ≤ x1.toInt ∧ x1.toInt < 12) ∧ ((qR S3 1 x1.toInt.toNat = some (qO S3 1 x1.toInt.toNat)) ∧ ((qR S3 (qO S3 1 x1.toInt.toNat) 22 = some (qO S3 (qO S3 1 x1.toInt.toNat) 22)) ∧ (((0 : Int) ≤ ((r2 + (1 : Int32)) + (x4 / (8 : Int32))).toInt ∧ ((r2 + (1 : Int32)) + (x4 / (8 : Int32))).toInt < (qN S3 (qO S3 (qO S3 1 x1.toInt.toNat) 22) : Int)) ∧ (ro = (((qI S3 (qO S3 (qO S3 1 x1.toInt.toNat) 22) ((((r2 + (1 : Int32)) + (x4 / (8 : Int32))).toInt).toNat)) >>> (((4 : Int32) * (x4 - x4 / (8 : Int32) * (8 : Int32))) &&& 31)) &&& (15 : Int32)) ∧ uo = S3)))))) ∨ (¬ x4.toInt < 24 ∧ (ro = (-1 : Int32) ∧ uo = S3))))))))))))))
set_option maxRecDepth 100000 in
theorem ru_local {S : MS} {x1 : Int32} {x2 : Int32} {x3 : Int32} {x4 : Int32} {Q : Int32 → MS → Prop} (h : w_local S x1 x2 x3 x4 Q) : ∃ ro uo, v_local S x1 x2 x3 x4 ro uo ∧ Q ro uo := by
  have i0 : Unit := ()
  have K : ∀ (i : Unit) (ro : Int32) (uo : MS), v_local S x1 x2 x3 x4 ro uo → v_local S x1 x2 x3 x4 ro uo := fun _ _ _ z => z
  unfold w_local at h
  obtain ⟨Q9, h0, h⟩ := h
  obtain ⟨r2, S3, z9, g9⟩ := ru_stateAt h0
  replace h := h r2 S3 g9
  replace K := fun i ro uo z => K i ro uo ⟨r2, S3, z9, z⟩
  by_cases c : r2.toInt < 0
  · replace h := h.1 c
    replace K := fun i ro uo z => K i ro uo (Or.inl ⟨c, z⟩)
    exact ⟨_, _, K i0 _ _ ⟨rfl, rfl⟩, h⟩
  · replace h := h.2 c
    replace K := fun i ro uo z => K i ro uo (Or.inr ⟨c, z⟩)
    obtain ⟨g1_, h⟩ := h
    replace K := fun i ro uo z => K i ro uo ⟨g1_, z⟩
    obtain ⟨g2_, h⟩ := h
    replace K := fun i ro uo z => K i ro uo ⟨g2_, z⟩
    obtain ⟨g3_, h⟩ := h
    replace K := fun i ro uo z => K i ro uo ⟨g3_, z⟩
    obtain ⟨g4_, h⟩ := h
    replace K := fun i ro uo z => K i ro uo ⟨g4_, z⟩
    by_cases c : (qI S3 (qO S3 (qO S3 1 x1.toInt.toNat) 22) r2.toInt.toNat).toInt < 0
    · replace h := h.1 c
      replace K := fun i ro uo z => K i ro uo (Or.inl ⟨c, z⟩)
      exact ⟨_, _, K i0 _ _ ⟨rfl, rfl⟩, h⟩
    · replace h := h.2 c
      replace K := fun i ro uo z => K i ro uo (Or.inr ⟨c, z⟩)
      by_cases c : x4.toInt < 0
      · replace h := h.1 c
        replace K := fun i ro uo z => K i ro uo (Or.inl ⟨c, z⟩)
        exact ⟨_, _, K i0 _ _ ⟨rfl, rfl⟩, h⟩
      · replace h := h.2 c
        replace K := fun i ro uo z => K i ro uo (Or.inr ⟨c, z⟩)
        by_cases c : x4.toInt < 24
        · replace h := h.1 c
          replace K := fun i ro uo z => K i ro uo (Or.inl ⟨c, z⟩)
          obtain ⟨g5_, h⟩ := h
          replace K := fun i ro uo z => K i ro uo ⟨g5_, z⟩
          obtain ⟨g6_, h⟩ := h
          replace K := fun i ro uo z => K i ro uo ⟨g6_, z⟩
          obtain ⟨g7_, h⟩ := h
          replace K := fun i ro uo z => K i ro uo ⟨g7_, z⟩
          obtain ⟨g8_, h⟩ := h
          replace K := fun i ro uo z => K i ro uo ⟨g8_, z⟩
          exact ⟨_, _, K i0 _ _ ⟨rfl, rfl⟩, h⟩
        · replace h := h.2 c
          replace K := fun i ro uo z => K i ro uo (Or.inr ⟨c, z⟩)
          exact ⟨_, _, K i0 _ _ ⟨rfl, rfl⟩, h⟩
set_option maxRecDepth 100000 in
theorem vw_local {S : MS} {x1 : Int32} {x2 : Int32} {x3 : Int32} {x4 : Int32} {ro : Int32} {uo : MS} (h : v_local S x1 x2 x3 x4 ro uo) : w_local S x1 x2 x3 x4 (fun r u => r = ro ∧ u = uo) := by
  unfold v_local at h
  unfold w_local
  obtain ⟨p9, q9, z9, h⟩ := h
  refine ⟨_, vw_stateAt z9, ?_⟩
  rintro p8 q8 ⟨d8, d9⟩
  subst d8
  subst d9
  rcases h with ⟨c, h⟩ | ⟨c, h⟩
  · refine ⟨fun _ => ?_, fun c2 => absurd c c2⟩
    exact ⟨h.1.symm, h.2.symm⟩
  · refine ⟨fun c2 => absurd c2 c, fun _ => ?_⟩
    obtain ⟨g9, h⟩ := h
    refine ⟨g9, ?_⟩
    obtain ⟨g9, h⟩ := h
    refine ⟨g9, ?_⟩
    obtain ⟨g9, h⟩ := h
    refine ⟨g9, ?_⟩
    obtain ⟨g9, h⟩ := h
    refine ⟨g9, ?_⟩
    rcases h with ⟨c, h⟩ | ⟨c, h⟩
    · refine ⟨fun _ => ?_, fun c2 => absurd c c2⟩
      exact ⟨h.1.symm, h.2.symm⟩
    · refine ⟨fun c2 => absurd c2 c, fun _ => ?_⟩
      rcases h with ⟨c, h⟩ | ⟨c, h⟩
      · refine ⟨fun _ => ?_, fun c2 => absurd c c2⟩
        exact ⟨h.1.symm, h.2.symm⟩
      · refine ⟨fun c2 => absurd c2 c, fun _ => ?_⟩
        rcases h with ⟨c, h⟩ | ⟨c, h⟩
        · refine ⟨fun _ => ?_, fun c2 => absurd c c2⟩
          obtain ⟨g9, h⟩ := h
          refine ⟨g9, ?_⟩
          obtain ⟨g9, h⟩ := h
          refine ⟨g9, ?_⟩
          obtain ⟨g9, h⟩ := h
          refine ⟨g9, ?_⟩
          obtain ⟨g9, h⟩ := h
          refine ⟨g9, ?_⟩
          exact ⟨h.1.symm, h.2.symm⟩
        · refine ⟨fun c2 => absurd c2 c, fun _ => ?_⟩
          exact ⟨h.1.symm, h.2.symm⟩
set_option maxRecDepth 100000 in
theorem vz_local {S : MS} {x1 : Int32} {x2 : Int32} {x3 : Int32} {x4 : Int32} {ro : Int32} {uo : MS} {Q : Int32 → MS → Prop} (h : v_local S x1 x2 x3 x4 ro uo) (w : w_local S x1 x2 x3 x4 Q) : Q ro uo := by
  unfold v_local at h
  unfold w_local at w
  obtain ⟨p9, q9, z9, h⟩ := h
  obtain ⟨Q9, w0, w⟩ := w
  replace w := w p9 q9 (vz_stateAt z9 w0)
  rcases h with ⟨c, h⟩ | ⟨c, h⟩
  · replace w := w.1 c
    rw [h.1, h.2]
    exact w
  · replace w := w.2 c
    replace h := h.2
    replace w := w.2
    replace h := h.2
    replace w := w.2
    replace h := h.2
    replace w := w.2
    replace h := h.2
    replace w := w.2
    rcases h with ⟨c, h⟩ | ⟨c, h⟩
    · replace w := w.1 c
      rw [h.1, h.2]
      exact w
    · replace w := w.2 c
      rcases h with ⟨c, h⟩ | ⟨c, h⟩
      · replace w := w.1 c
        rw [h.1, h.2]
        exact w
      · replace w := w.2 c
        rcases h with ⟨c, h⟩ | ⟨c, h⟩
        · replace w := w.1 c
          replace h := h.2
          replace w := w.2
          replace h := h.2
          replace w := w.2
          replace h := h.2
          replace w := w.2
          replace h := h.2
          replace w := w.2
          rw [h.1, h.2]
          exact w
        · replace w := w.2 c
          rw [h.1, h.2]
          exact w
def v_throwError_J111 (uo : MS) (k40 : MS → Int32 → Int32 → Int32 → Prop) (U111 : MS) (v111_1 : Int32) (v111_2 : Int32) (v111_3 : Int32) : Prop := (∃ a22 : Int32, a22 = (v111_3 + Int32.ofInt 1) ∧ (k40 U111 v111_1 v111_2 a22))
def v_throwError_J79 (uo : MS) (U79 : MS) (v79_1 : Int32) (v79_3 : Int32) : Prop := (((0 : Int) ≤ ((qI U79 0 97) - (1 : Int32)).toInt ∧ ((qI U79 0 97) - (1 : Int32)).toInt < 60) ∧ (∃ S29 : MS, S29 = wI U79 44 ((((qI U79 0 97) - (1 : Int32)).toInt).toNat) (0 : Int32) ∧ (∃ (S32 : MS), v_put S29 (((-1 : Int32) - v79_1).toInt64) (1 : Int32) S32 ∧ (d_catchWord S32 v79_3 (2 : Int32) ∧ (∃ (S38 : MS), v_goTo S32 (f_catchWord S32 v79_3 (2 : Int32)) S38 ∧ (uo = S38))))))
def v_throwError_L40 (uo : MS) (k0 : MS → Int32 → Prop) : Nat → MS → Int32 → Int32 → Int32 → Prop
  | 0, _, _, _, _ => False
  | n40 + 1, U40, v40_1, v40_2, v40_3 => (((qI U40 0 54).toInt ≤ v40_3.toInt ∧ (∃ S18 : MS, S18 = wI U40 0 97 ((qI U40 0 97) - (1 : Int32)) ∧ (k0 S18 v40_1))) ∨ (¬ (qI U40 0 54).toInt ≤ v40_3.toInt ∧ (d_isCaught U40 v40_2 v40_3 ∧ (((f_isCaught U40 v40_2 v40_3).toInt = 0 ∧ (v_throwError_J111 uo (v_throwError_L40 uo k0 n40) U40 v40_1 v40_2 v40_3)) ∨ (¬ (f_isCaught U40 v40_2 v40_3).toInt = 0 ∧ (d_catchWord U40 v40_3 (3 : Int32) ∧ (((f_catchWord U40 v40_3 (3 : Int32)).toInt < 0 ∧ (v_throwError_J79 uo U40 v40_1 v40_3)) ∨ (¬ (f_catchWord U40 v40_3 (3 : Int32)).toInt < 0 ∧ (d_catchWord U40 v40_3 (3 : Int32) ∧ (((f_catchWord U40 v40_3 (3 : Int32)).toInt = v40_1.toInt ∧ (v_throwError_J79 uo U40 v40_1 v40_3)) ∨ (¬ (f_catchWord U40 v40_3 (3 : Int32)).toInt = v40_1.toInt ∧ (v_throwError_J111 uo (v_throwError_L40 uo k0 n40) U40 v40_1 v40_2 v40_3))))))))))))
def v_throwError_L0 (uo : MS) : Nat → MS → Int32 → Prop
  | 0, _, _ => False
  | n0 + 1, U0, v0_1 => (((qI U0 0 97).toInt ≤ 0 ∧ (∃ S2 : MS, S2 = wI U0 0 98 1 ∧ (∃ S3 : MS, S3 = wI S2 0 102 v0_1 ∧ (uo = S3)))) ∨ (¬ (qI U0 0 97).toInt ≤ 0 ∧ ((qR U0 0 80 = some (qO U0 0 80)) ∧ (((0 : Int) ≤ ((qI U0 0 97) - (1 : Int32)).toInt ∧ ((qI U0 0 97) - (1 : Int32)).toInt < 60) ∧ (∃ (S10 : MS), v_look U0 (qO U0 0 80) (qI U0 42 ((((qI U0 0 97) - (1 : Int32)).toInt).toNat)) S10 ∧ (((0 : Int) ≤ ((qI S10 0 97) - (1 : Int32)).toInt ∧ ((qI S10 0 97) - (1 : Int32)).toInt < 60) ∧ (∃ a15 : Int32, a15 = (qI S10 43 ((((qI S10 0 97) - (1 : Int32)).toInt).toNat)) ∧ (∃ n, v_throwError_L40 uo (v_throwError_L0 uo n0) n S10 v0_1 a15 0))))))))
def v_throwError (S : MS) (x1 : Int32) (uo : MS) : Prop := (∃ n, v_throwError_L0 uo n S x1)
set_option maxRecDepth 100000 in
theorem ru_throwError_J111 {ι : Type} {P : MS → Prop} {Q : MS → Prop} {k40 : MS → Int32 → Int32 → Int32 → Prop} {k40v : ι → MS → MS → Int32 → Int32 → Int32 → Prop} {U111 : MS} {v111_1 : Int32} {v111_2 : Int32} {v111_3 : Int32} (i0 : ι) (hk40 : ∀ (u : MS) (z0 : Int32) (z1 : Int32) (z2 : Int32), k40 u z0 z1 z2 → (∀ (i : ι) (uo : MS), k40v i uo u z0 z1 z2 → P uo) → ∃ uo, P uo ∧ Q uo) (K : ∀ (i : ι) (uo : MS), v_throwError_J111 uo (k40v i uo) U111 v111_1 v111_2 v111_3 → P uo) (h : w_throwError_J111 Q k40 U111 v111_1 v111_2 v111_3) : ∃ uo, P uo ∧ Q uo := by
  unfold w_throwError_J111 at h
  obtain ⟨a22, ea22⟩ : ∃ x9 : Int32, x9 = (v111_3 + Int32.ofInt 1) := ⟨_, rfl⟩
  replace h := h a22 ea22
  replace K := fun i uo z => K i uo ⟨a22, ea22, z⟩
  exact hk40 _ _ _ _ h K
set_option maxRecDepth 100000 in
theorem ru_throwError_J79 {ι : Type} {P : MS → Prop} {Q : MS → Prop} {U79 : MS} {v79_1 : Int32} {v79_3 : Int32} (i0 : ι) (K : ∀ (i : ι) (uo : MS), v_throwError_J79 uo U79 v79_1 v79_3 → P uo) (h : w_throwError_J79 Q U79 v79_1 v79_3) : ∃ uo, P uo ∧ Q uo := by
  unfold w_throwError_J79 at h
  obtain ⟨g1_, h⟩ := h
  replace K := fun i uo z => K i uo ⟨g1_, z⟩
  obtain ⟨S29, eS29⟩ : ∃ x9 : MS, x9 = wI U79 44 ((((qI U79 0 97) - (1 : Int32)).toInt).toNat) (0 : Int32) := ⟨_, rfl⟩
  replace h := h S29 eS29
  replace K := fun i uo z => K i uo ⟨S29, eS29, z⟩
  obtain ⟨Q9, h0, h⟩ := h
  obtain ⟨S32, z9, g9⟩ := ru_put h0
  replace h := h S32 g9
  replace K := fun i uo z => K i uo ⟨S32, z9, z⟩
  obtain ⟨g2_, h⟩ := h
  replace K := fun i uo z => K i uo ⟨g2_, z⟩
  obtain ⟨Q9, h0, h⟩ := h
  obtain ⟨S38, z9, g9⟩ := ru_goTo h0
  replace h := h S38 g9
  replace K := fun i uo z => K i uo ⟨S38, z9, z⟩
  exact ⟨_, K i0 _ rfl, h⟩
set_option maxRecDepth 100000 in
theorem ru_throwError_L40 {ι : Type} {P : MS → Prop} {Q : MS → Prop} {k0 : MS → Int32 → Prop} {k0v : ι → MS → MS → Int32 → Prop} : ∀ (n : Nat) {U40 : MS} {v40_1 : Int32} {v40_2 : Int32} {v40_3 : Int32} (i0 : ι) (hk0 : ∀ (u : MS) (z0 : Int32), k0 u z0 → (∀ (i : ι) (uo : MS), k0v i uo u z0 → P uo) → ∃ uo, P uo ∧ Q uo), (∀ (i : ι) (uo : MS), (∃ n8, v_throwError_L40 uo (k0v i uo) n8 U40 v40_1 v40_2 v40_3) → P uo) → w_throwError_L40 Q k0 n U40 v40_1 v40_2 v40_3 → ∃ uo, P uo ∧ Q uo := by
  intro n
  induction n with
  | zero => intro U40 v40_1 v40_2 v40_3 i0 hk0 K h; unfold w_throwError_L40 at h; exact h.elim
  | succ n ih =>
    intro U40 v40_1 v40_2 v40_3 i0 hk0 K h
    unfold w_throwError_L40 at h
    replace K := fun (i : ι × Nat) uo (z : v_throwError_L40 uo (k0v i.1 uo) (i.2 + 1) U40 v40_1 v40_2 v40_3) => K i.1 uo ⟨i.2 + 1, z⟩
    have i00 := i0
    replace i0 : ι × Nat := (i0, 0)
    by_cases c : (qI U40 0 54).toInt ≤ v40_3.toInt
    · replace h := h.1 c
      replace K := fun i uo z => K i uo (Or.inl ⟨c, z⟩)
      obtain ⟨S18, eS18⟩ : ∃ x9 : MS, x9 = wI U40 0 97 ((qI U40 0 97) - (1 : Int32)) := ⟨_, rfl⟩
      replace h := h S18 eS18
      replace K := fun i uo z => K i uo ⟨S18, eS18, z⟩
      exact hk0 _ _ h (fun i uo z => K (i, 0) uo z)
    · replace h := h.2 c
      replace K := fun i uo z => K i uo (Or.inr ⟨c, z⟩)
      obtain ⟨g3_, h⟩ := h
      replace K := fun i uo z => K i uo ⟨g3_, z⟩
      by_cases c : (f_isCaught U40 v40_2 v40_3).toInt = 0
      · replace h := h.1 c
        replace K := fun i uo z => K i uo (Or.inl ⟨c, z⟩)
        exact ru_throwError_J111 i0 (fun _ _ _ _ h K => ih i00 hk0 (fun i uo ⟨n8, z⟩ => K (i, n8) uo z) h) K h
      · replace h := h.2 c
        replace K := fun i uo z => K i uo (Or.inr ⟨c, z⟩)
        obtain ⟨g4_, h⟩ := h
        replace K := fun i uo z => K i uo ⟨g4_, z⟩
        by_cases c : (f_catchWord U40 v40_3 (3 : Int32)).toInt < 0
        · replace h := h.1 c
          replace K := fun i uo z => K i uo (Or.inl ⟨c, z⟩)
          exact ru_throwError_J79 i0 K h
        · replace h := h.2 c
          replace K := fun i uo z => K i uo (Or.inr ⟨c, z⟩)
          obtain ⟨g5_, h⟩ := h
          replace K := fun i uo z => K i uo ⟨g5_, z⟩
          by_cases c : (f_catchWord U40 v40_3 (3 : Int32)).toInt = v40_1.toInt
          · replace h := h.1 c
            replace K := fun i uo z => K i uo (Or.inl ⟨c, z⟩)
            exact ru_throwError_J79 i0 K h
          · replace h := h.2 c
            replace K := fun i uo z => K i uo (Or.inr ⟨c, z⟩)
            exact ru_throwError_J111 i0 (fun _ _ _ _ h K => ih i00 hk0 (fun i uo ⟨n8, z⟩ => K (i, n8) uo z) h) K h
set_option maxRecDepth 100000 in
theorem ru_throwError_L0 {ι : Type} {P : MS → Prop} {Q : MS → Prop} : ∀ (n : Nat) {U0 : MS} {v0_1 : Int32} (i0 : ι), (∀ (i : ι) (uo : MS), (∃ n8, v_throwError_L0 uo n8 U0 v0_1) → P uo) → w_throwError_L0 Q n U0 v0_1 → ∃ uo, P uo ∧ Q uo := by
  intro n
  induction n with
  | zero => intro U0 v0_1 i0 K h; unfold w_throwError_L0 at h; exact h.elim
  | succ n ih =>
    intro U0 v0_1 i0 K h
    unfold w_throwError_L0 at h
    replace K := fun (i : ι × Nat) uo (z : v_throwError_L0 uo (i.2 + 1) U0 v0_1) => K i.1 uo ⟨i.2 + 1, z⟩
    have i00 := i0
    replace i0 : ι × Nat := (i0, 0)
    by_cases c : (qI U0 0 97).toInt ≤ 0
    · replace h := h.1 c
      replace K := fun i uo z => K i uo (Or.inl ⟨c, z⟩)
      obtain ⟨S2, eS2⟩ : ∃ x9 : MS, x9 = wI U0 0 98 1 := ⟨_, rfl⟩
      replace h := h S2 eS2
      replace K := fun i uo z => K i uo ⟨S2, eS2, z⟩
      obtain ⟨S3, eS3⟩ : ∃ x9 : MS, x9 = wI S2 0 102 v0_1 := ⟨_, rfl⟩
      replace h := h S3 eS3
      replace K := fun i uo z => K i uo ⟨S3, eS3, z⟩
      exact ⟨_, K i0 _ rfl, h⟩
    · replace h := h.2 c
      replace K := fun i uo z => K i uo (Or.inr ⟨c, z⟩)
      obtain ⟨g6_, h⟩ := h
      replace K := fun i uo z => K i uo ⟨g6_, z⟩
      obtain ⟨g7_, h⟩ := h
      replace K := fun i uo z => K i uo ⟨g7_, z⟩
      obtain ⟨Q9, h0, h⟩ := h
      obtain ⟨S10, z9, g9⟩ := ru_look h0
      replace h := h S10 g9
      replace K := fun i uo z => K i uo ⟨S10, z9, z⟩
      obtain ⟨g8_, h⟩ := h
      replace K := fun i uo z => K i uo ⟨g8_, z⟩
      obtain ⟨a15, ea15⟩ : ∃ x9 : Int32, x9 = (qI S10 43 ((((qI S10 0 97) - (1 : Int32)).toInt).toNat)) := ⟨_, rfl⟩
      replace h := h a15 ea15
      replace K := fun i uo z => K i uo ⟨a15, ea15, z⟩
      obtain ⟨n9, h⟩ := h
      exact ru_throwError_L40 n9 i0 (fun _ _ h K => ih i00 (fun i uo ⟨n8, z⟩ => K (i, n8) uo z) h) K h
set_option maxRecDepth 100000 in
theorem ru_throwError {S : MS} {x1 : Int32} {Q : MS → Prop} (h : w_throwError S x1 Q) : ∃ uo, v_throwError S x1 uo ∧ Q uo := by
  have i0 : Unit := ()
  have K : ∀ (i : Unit) (uo : MS), v_throwError S x1 uo → v_throwError S x1 uo := fun _ _ z => z
  unfold w_throwError at h
  obtain ⟨n9, h⟩ := h
  exact ru_throwError_L0 n9 i0 K h
set_option maxRecDepth 100000 in
theorem vw_throwError_J111 {uo : MS} {k40 k40v : MS → Int32 → Int32 → Int32 → Prop} {U111 : MS} {v111_1 : Int32} {v111_2 : Int32} {v111_3 : Int32} (hk40 : ∀ (u : MS) (z0 : Int32) (z1 : Int32) (z2 : Int32), k40v u z0 z1 z2 → k40 u z0 z1 z2) (h : v_throwError_J111 uo k40v U111 v111_1 v111_2 v111_3) : w_throwError_J111 (fun u => u = uo) k40 U111 v111_1 v111_2 v111_3 := by
  unfold v_throwError_J111 at h
  unfold w_throwError_J111
  obtain ⟨v9, e9, h⟩ := h
  intro x9 d9
  have c9 : v9 = x9 := e9.trans d9.symm
  subst c9
  exact hk40 _ _ _ _ h
set_option maxRecDepth 100000 in
theorem vz_throwError_J111 {uo : MS} {Q : MS → Prop} {k40 k40v : MS → Int32 → Int32 → Int32 → Prop} {U111 : MS} {v111_1 : Int32} {v111_2 : Int32} {v111_3 : Int32} (hk40 : ∀ (u : MS) (z0 : Int32) (z1 : Int32) (z2 : Int32), k40v u z0 z1 z2 → k40 u z0 z1 z2 → Q uo) (h : v_throwError_J111 uo k40v U111 v111_1 v111_2 v111_3) (w : w_throwError_J111 Q k40 U111 v111_1 v111_2 v111_3) : Q uo := by
  unfold v_throwError_J111 at h
  unfold w_throwError_J111 at w
  obtain ⟨v9, e9, h⟩ := h
  replace w := w v9 e9
  exact hk40 _ _ _ _ h w
set_option maxRecDepth 100000 in
theorem vw_throwError_J79 {uo : MS} {U79 : MS} {v79_1 : Int32} {v79_3 : Int32} (h : v_throwError_J79 uo U79 v79_1 v79_3) : w_throwError_J79 (fun u => u = uo) U79 v79_1 v79_3 := by
  unfold v_throwError_J79 at h
  unfold w_throwError_J79
  obtain ⟨g9, h⟩ := h
  refine ⟨g9, ?_⟩
  obtain ⟨v9, e9, h⟩ := h
  intro x9 d9
  have c9 : v9 = x9 := e9.trans d9.symm
  subst c9
  obtain ⟨q9, z9, h⟩ := h
  refine ⟨_, vw_put z9, ?_⟩
  intro q8 d9
  subst d9
  obtain ⟨g9, h⟩ := h
  refine ⟨g9, ?_⟩
  obtain ⟨q9, z9, h⟩ := h
  refine ⟨_, vw_goTo z9, ?_⟩
  intro q8 d9
  subst d9
  exact h.symm
set_option maxRecDepth 100000 in
theorem vz_throwError_J79 {uo : MS} {Q : MS → Prop} {U79 : MS} {v79_1 : Int32} {v79_3 : Int32} (h : v_throwError_J79 uo U79 v79_1 v79_3) (w : w_throwError_J79 Q U79 v79_1 v79_3) : Q uo := by
  unfold v_throwError_J79 at h
  unfold w_throwError_J79 at w
  replace h := h.2
  replace w := w.2
  obtain ⟨v9, e9, h⟩ := h
  replace w := w v9 e9
  obtain ⟨q9, z9, h⟩ := h
  obtain ⟨Q9, w0, w⟩ := w
  replace w := w q9 (vz_put z9 w0)
  replace h := h.2
  replace w := w.2
  obtain ⟨q9, z9, h⟩ := h
  obtain ⟨Q9, w0, w⟩ := w
  replace w := w q9 (vz_goTo z9 w0)
  rw [h]
  exact w
set_option maxRecDepth 100000 in
theorem vw_throwError_L40 {uo : MS} {k0 k0v : MS → Int32 → Prop} : ∀ (n : Nat) {U40 : MS} {v40_1 : Int32} {v40_2 : Int32} {v40_3 : Int32} (hk0 : ∀ (u : MS) (z0 : Int32), k0v u z0 → k0 u z0), v_throwError_L40 uo k0v n U40 v40_1 v40_2 v40_3 → w_throwError_L40 (fun u => u = uo) k0 n U40 v40_1 v40_2 v40_3 := by
  intro n
  induction n with
  | zero => intro U40 v40_1 v40_2 v40_3 hk0 h; unfold v_throwError_L40 at h; exact h.elim
  | succ n ih =>
    intro U40 v40_1 v40_2 v40_3 hk0 h
    unfold v_throwError_L40 at h
    unfold w_throwError_L40
    rcases h with ⟨c, h⟩ | ⟨c, h⟩
    · refine ⟨fun _ => ?_, fun c2 => absurd c c2⟩
      obtain ⟨v9, e9, h⟩ := h
      intro x9 d9
      have c9 : v9 = x9 := e9.trans d9.symm
      subst c9
      exact hk0 _ _ h
    · refine ⟨fun c2 => absurd c2 c, fun _ => ?_⟩
      obtain ⟨g9, h⟩ := h
      refine ⟨g9, ?_⟩
      rcases h with ⟨c, h⟩ | ⟨c, h⟩
      · refine ⟨fun _ => ?_, fun c2 => absurd c c2⟩
        exact vw_throwError_J111 (fun _ _ _ _ h => ih hk0 h) h
      · refine ⟨fun c2 => absurd c2 c, fun _ => ?_⟩
        obtain ⟨g9, h⟩ := h
        refine ⟨g9, ?_⟩
        rcases h with ⟨c, h⟩ | ⟨c, h⟩
        · refine ⟨fun _ => ?_, fun c2 => absurd c c2⟩
          exact vw_throwError_J79 h
        · refine ⟨fun c2 => absurd c2 c, fun _ => ?_⟩
          obtain ⟨g9, h⟩ := h
          refine ⟨g9, ?_⟩
          rcases h with ⟨c, h⟩ | ⟨c, h⟩
          · refine ⟨fun _ => ?_, fun c2 => absurd c c2⟩
            exact vw_throwError_J79 h
          · refine ⟨fun c2 => absurd c2 c, fun _ => ?_⟩
            exact vw_throwError_J111 (fun _ _ _ _ h => ih hk0 h) h
set_option maxRecDepth 100000 in
theorem vz_throwError_L40 {uo : MS} {Q : MS → Prop} {k0 k0v : MS → Int32 → Prop} : ∀ (n m : Nat) {U40 : MS} {v40_1 : Int32} {v40_2 : Int32} {v40_3 : Int32} (hk0 : ∀ (u : MS) (z0 : Int32), k0v u z0 → k0 u z0 → Q uo), v_throwError_L40 uo k0v n U40 v40_1 v40_2 v40_3 → w_throwError_L40 Q k0 m U40 v40_1 v40_2 v40_3 → Q uo := by
  intro n
  induction n with
  | zero => intro m U40 v40_1 v40_2 v40_3 hk0 h; unfold v_throwError_L40 at h; exact h.elim
  | succ n ih =>
    intro m U40 v40_1 v40_2 v40_3 hk0 h w
    cases m with
    | zero => unfold w_throwError_L40 at w; exact w.elim
    | succ m =>
      unfold v_throwError_L40 at h
      unfold w_throwError_L40 at w
      rcases h with ⟨c, h⟩ | ⟨c, h⟩
      · replace w := w.1 c
        obtain ⟨v9, e9, h⟩ := h
        replace w := w v9 e9
        exact hk0 _ _ h w
      · replace w := w.2 c
        replace h := h.2
        replace w := w.2
        rcases h with ⟨c, h⟩ | ⟨c, h⟩
        · replace w := w.1 c
          exact vz_throwError_J111 (fun _ _ _ _ h w => ih m hk0 h w) h w
        · replace w := w.2 c
          replace h := h.2
          replace w := w.2
          rcases h with ⟨c, h⟩ | ⟨c, h⟩
          · replace w := w.1 c
            exact vz_throwError_J79 h w
          · replace w := w.2 c
            replace h := h.2
            replace w := w.2
            rcases h with ⟨c, h⟩ | ⟨c, h⟩
            · replace w := w.1 c
              exact vz_throwError_J79 h w
            · replace w := w.2 c
              exact vz_throwError_J111 (fun _ _ _ _ h w => ih m hk0 h w) h w
set_option maxRecDepth 100000 in
theorem vw_throwError_L0 {uo : MS} : ∀ (n : Nat) {U0 : MS} {v0_1 : Int32}, v_throwError_L0 uo n U0 v0_1 → w_throwError_L0 (fun u => u = uo) n U0 v0_1 := by
  intro n
  induction n with
  | zero => intro U0 v0_1 h; unfold v_throwError_L0 at h; exact h.elim
  | succ n ih =>
    intro U0 v0_1 h
    unfold v_throwError_L0 at h
    unfold w_throwError_L0
    rcases h with ⟨c, h⟩ | ⟨c, h⟩
    · refine ⟨fun _ => ?_, fun c2 => absurd c c2⟩
      obtain ⟨v9, e9, h⟩ := h
      intro x9 d9
      have c9 : v9 = x9 := e9.trans d9.symm
      subst c9
      obtain ⟨v9, e9, h⟩ := h
      intro x9 d9
      have c9 : v9 = x9 := e9.trans d9.symm
      subst c9
      exact h.symm
    · refine ⟨fun c2 => absurd c2 c, fun _ => ?_⟩
      obtain ⟨g9, h⟩ := h
      refine ⟨g9, ?_⟩
      obtain ⟨g9, h⟩ := h
      refine ⟨g9, ?_⟩
      obtain ⟨q9, z9, h⟩ := h
      refine ⟨_, vw_look z9, ?_⟩
      intro q8 d9
      subst d9
      obtain ⟨g9, h⟩ := h
      refine ⟨g9, ?_⟩
      obtain ⟨v9, e9, h⟩ := h
      intro x9 d9
      have c9 : v9 = x9 := e9.trans d9.symm
      subst c9
      obtain ⟨n9, h⟩ := h
      exact ⟨n9, vw_throwError_L40 n9 (fun _ _ h => ih h) h⟩
set_option maxRecDepth 100000 in
theorem vz_throwError_L0 {uo : MS} {Q : MS → Prop} : ∀ (n m : Nat) {U0 : MS} {v0_1 : Int32}, v_throwError_L0 uo n U0 v0_1 → w_throwError_L0 Q m U0 v0_1 → Q uo := by
  intro n
  induction n with
  | zero => intro m U0 v0_1 h; unfold v_throwError_L0 at h; exact h.elim
  | succ n ih =>
    intro m U0 v0_1 h w
    cases m with
    | zero => unfold w_throwError_L0 at w; exact w.elim
    | succ m =>
      unfold v_throwError_L0 at h
      unfold w_throwError_L0 at w
      rcases h with ⟨c, h⟩ | ⟨c, h⟩
      · replace w := w.1 c
        obtain ⟨v9, e9, h⟩ := h
        replace w := w v9 e9
        obtain ⟨v9, e9, h⟩ := h
        replace w := w v9 e9
        rw [h]
        exact w
      · replace w := w.2 c
        replace h := h.2
        replace w := w.2
        replace h := h.2
        replace w := w.2
        obtain ⟨q9, z9, h⟩ := h
        obtain ⟨Q9, w0, w⟩ := w
        replace w := w q9 (vz_look z9 w0)
        replace h := h.2
        replace w := w.2
        obtain ⟨v9, e9, h⟩ := h
        replace w := w v9 e9
        obtain ⟨n9, h⟩ := h
        obtain ⟨n8, w⟩ := w
        exact vz_throwError_L40 n9 n8 (fun _ _ h w => ih m h w) h w
set_option maxRecDepth 100000 in
theorem vw_throwError {S : MS} {x1 : Int32} {uo : MS} (h : v_throwError S x1 uo) : w_throwError S x1 (fun u => u = uo) := by
  unfold v_throwError at h
  unfold w_throwError
  obtain ⟨n9, h⟩ := h
  exact ⟨n9, vw_throwError_L0 n9 h⟩
set_option maxRecDepth 100000 in
theorem vz_throwError {S : MS} {x1 : Int32} {uo : MS} {Q : MS → Prop} (h : v_throwError S x1 uo) (w : w_throwError S x1 Q) : Q uo := by
  unfold v_throwError at h
  unfold w_throwError at w
  obtain ⟨n9, h⟩ := h
  obtain ⟨n8, w⟩ := w
  exact vz_throwError_L0 n9 n8 h w
