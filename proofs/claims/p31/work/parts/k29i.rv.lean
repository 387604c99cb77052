def v_mustName (S : MS) (x1 : Int32) (oo : MS ⊕ MS) : Prop := (d_two S x1 ∧ (d_isEntry S (f_two S x1) (1 : Int32) ∧ ((∃ (S8 : MS), v_must S (f_isEntry S (f_two S x1) (1 : Int32)) (9 : Int32) x1 (.inl S8) ∧ (oo = .inl S8)) ∨ (∃ u9 : MS, v_must S (f_isEntry S (f_two S x1) (1 : Int32)) (9 : Int32) x1 (.inr u9) ∧ (oo = .inr u9)))))
set_option maxRecDepth 100000 in
theorem ru_mustName {S : MS} {x1 : Int32} {Q : MS → Prop} {E : MS → Prop} (h : w_mustName S x1 Q E) : ∃ oo, v_mustName S x1 oo ∧ oV Q E oo := by
  have i0 : Unit := ()
  have K : ∀ (i : Unit) (oo : MS ⊕ MS), v_mustName S x1 oo → v_mustName S x1 oo := fun _ _ z => z
  unfold w_mustName at h
  obtain ⟨g1_, h⟩ := h
  replace K := fun i oo z => K i oo ⟨g1_, z⟩
  obtain ⟨g2_, h⟩ := h
  replace K := fun i oo z => K i oo ⟨g2_, z⟩
  obtain ⟨Q9, E9, h0, h⟩ := h
  obtain ⟨o9, z9, g9⟩ := ru_must h0
  rcases o9 with S8 | u9
  · replace h := h.1 S8 g9
    replace K := fun i oo z => K i oo (Or.inl ⟨S8, z9, z⟩)
    exact ⟨.inl _, K i0 _ rfl, h⟩
  · replace h := h.2 u9 g9
    replace K := fun i oo z => K i oo (Or.inr ⟨u9, z9, z⟩)
    exact ⟨.inr u9, K i0 _ rfl, h⟩
set_option maxRecDepth 100000 in
theorem vw_mustName {S : MS} {x1 : Int32} {oo : MS ⊕ MS} (h : v_mustName S x1 oo) : w_mustName S x1 (fun u => oo = .inl u) (fun u => oo = .inr u) := by
  unfold v_mustName at h
  unfold w_mustName
  obtain ⟨g9, h⟩ := h
  refine ⟨g9, ?_⟩
  obtain ⟨g9, h⟩ := h
  refine ⟨g9, ?_⟩
  rcases h with ⟨q9, z9, h⟩ | ⟨q9, z9, h⟩
  · refine ⟨_, _, vw_must z9, ?_, ?_⟩
    · intro q8 d9
      injection d9 with d9
      subst d9
      exact h
    · intro q8 d9
      exact nomatch d9
  · refine ⟨_, _, vw_must z9, ?_, ?_⟩
    · intro q8 d9
      exact nomatch d9
    · intro q8 d9
      injection d9 with d9
      subst d9
      exact h
set_option maxRecDepth 100000 in
theorem vz_mustName {S : MS} {x1 : Int32} {oo : MS ⊕ MS} {Q : MS → Prop} {E : MS → Prop} (h : v_mustName S x1 oo) (w : w_mustName S x1 Q E) : oV Q E oo := by
  unfold v_mustName at h
  unfold w_mustName at w
  replace h := h.2
  replace w := w.2
  replace h := h.2
  replace w := w.2
  obtain ⟨Q9, E9, w0, w⟩ := w
  rcases h with ⟨q9, z9, h⟩ | ⟨q9, z9, h⟩
  · replace w := w.1 q9 (vz_must z9 w0)
    rw [h]
    exact w
  · replace w := w.2 q9 (vz_must z9 w0)
    rw [h]
    exact w
def v_names_J70 (oo : MS ⊕ MS) (k4 : MS → Int32 → Int32 → Prop) (U70 : MS) (v70_1 : Int32) (v70_2 : Int32) : Prop := (∃ a21 : Int32, a21 = (v70_2 + Int32.ofInt 1) ∧ (k4 U70 v70_1 a21))
def v_names_L76 (oo : MS ⊕ MS) : Nat → MS → Int32 → Prop
  | 0, _, _ => False
  | n76 + 1, U76, v76_1 => (((qI U76 0 25).toInt ≤ v76_1.toInt ∧ (oo = .inl U76)) ∨ (¬ (qI U76 0 25).toInt ≤ v76_1.toInt ∧ (((0 : Int) ≤ v76_1.toInt ∧ v76_1.toInt < 3000) ∧ ((∃ (S5 : MS), v_mustName U76 (qI U76 10 v76_1.toInt.toNat) (.inl S5) ∧ (∃ a7 : Int32, a7 = (v76_1 + Int32.ofInt 1) ∧ ((v_names_L76 oo n76) S5 a7))) ∨ (∃ u9 : MS, v_mustName U76 (qI U76 10 v76_1.toInt.toNat) (.inr u9) ∧ (oo = .inr u9))))))
def v_names_L36 (oo : MS ⊕ MS) (k4 : MS → Int32 → Int32 → Prop) : Nat → MS → Int32 → Int32 → Prop
  | 0, _, _, _ => False
  | n36 + 1, U36, v36_1, v36_2 => (((qI U36 0 25).toInt ≤ v36_1.toInt ∧ (v_names_J70 oo k4 U36 v36_1 v36_2)) ∨ (¬ (qI U36 0 25).toInt ≤ v36_1.toInt ∧ (((0 : Int) ≤ v36_1.toInt ∧ v36_1.toInt < 3000) ∧ (((qI U36 11 v36_1.toInt.toNat).toInt = v36_2.toInt ∧ (((0 : Int) ≤ v36_1.toInt ∧ v36_1.toInt < 3000) ∧ ((∃ (S29 : MS), v_mustName U36 (qI U36 10 v36_1.toInt.toNat) (.inl S29) ∧ (∃ a31 : Int32, a31 = (v36_1 + Int32.ofInt 1) ∧ ((v_names_L36 oo k4 n36) S29 a31 v36_2))) ∨ (∃ u9 : MS, v_mustName U36 (qI U36 10 v36_1.toInt.toNat) (.inr u9) ∧ (oo = .inr u9))))) ∨ (¬ (qI U36 11 v36_1.toInt.toNat).toInt = v36_2.toInt ∧ (v_names_J70 oo k4 U36 v36_1 v36_2))))))
def v_names_L4 (oo : MS ⊕ MS) : Nat → MS → Int32 → Int32 → Prop
  | 0, _, _, _ => False
  | n4 + 1, U4, v4_1, v4_2 => (((qI U4 0 21).toInt ≤ v4_2.toInt ∧ (∃ n, v_names_L76 oo n U4 v4_1)) ∨ (¬ (qI U4 0 21).toInt ≤ v4_2.toInt ∧ (((0 : Int) ≤ v4_2.toInt ∧ v4_2.toInt < 48) ∧ ((∃ (S13 : MS), v_mustName U4 ((qI U4 9 v4_2.toInt.toNat) + (2 : Int32)) (.inl S13) ∧ (((0 : Int) ≤ v4_2.toInt ∧ v4_2.toInt < 48) ∧ ((∃ (S19 : MS), v_mustName S13 ((qI S13 9 v4_2.toInt.toNat) + (4 : Int32)) (.inl S19) ∧ (∃ n, v_names_L36 oo (v_names_L4 oo n4) n S19 v4_1 v4_2)) ∨ (∃ u9 : MS, v_mustName S13 ((qI S13 9 v4_2.toInt.toNat) + (4 : Int32)) (.inr u9) ∧ (oo = .inr u9))))) ∨ (∃ u9 : MS, v_mustName U4 ((qI U4 9 v4_2.toInt.toNat) + (2 : Int32)) (.inr u9) ∧ (oo = .inr u9))))))
def v_names (S : MS) (oo : MS ⊕ MS) : Prop := (∃ n, v_names_L4 oo n S 0 0)
set_option maxRecDepth 100000 in
theorem ru_names_J70 {ι : Type} {P : MS ⊕ MS → Prop} {Q : MS → Prop} {E : MS → Prop} {k4 : MS → Int32 → Int32 → Prop} {k4v : ι → MS ⊕ MS → MS → Int32 → Int32 → Prop} {U70 : MS} {v70_1 : Int32} {v70_2 : Int32} (i0 : ι) (hk4 : ∀ (u : MS) (z0 : Int32) (z1 : Int32), k4 u z0 z1 → (∀ (i : ι) (oo : MS ⊕ MS), k4v i oo u z0 z1 → P oo) → ∃ oo, P oo ∧ oV Q E oo) (K : ∀ (i : ι) (oo : MS ⊕ MS), v_names_J70 oo (k4v i oo) U70 v70_1 v70_2 → P oo) (h : w_names_J70 Q E k4 U70 v70_1 v70_2) : ∃ oo, P oo ∧ oV Q E oo := by
  unfold w_names_J70 at h
  obtain ⟨a21, ea21⟩ : ∃ x9 : Int32, x9 = (v70_2 + Int32.ofInt 1) := ⟨_, rfl⟩
  replace h := h a21 ea21
  replace K := fun i oo z => K i oo ⟨a21, ea21, z⟩
  exact hk4 _ _ _ h K
set_option maxRecDepth 100000 in
theorem ru_names_L76 {ι : Type} {P : MS ⊕ MS → Prop} {Q : MS → Prop} {E : MS → Prop} : ∀ (n : Nat) {U76 : MS} {v76_1 : Int32} (i0 : ι), (∀ (i : ι) (oo : MS ⊕ MS), (∃ n8, v_names_L76 oo n8 U76 v76_1) → P oo) → w_names_L76 Q E n U76 v76_1 → ∃ oo, P oo ∧ oV Q E oo := by
  intro n
  induction n with
  | zero => intro U76 v76_1 i0 K h; unfold w_names_L76 at h; exact h.elim
  | succ n ih =>
    intro U76 v76_1 i0 K h
    unfold w_names_L76 at h
    replace K := fun (i : ι × Nat) oo (z : v_names_L76 oo (i.2 + 1) U76 v76_1) => K i.1 oo ⟨i.2 + 1, z⟩
    have i00 := i0
    replace i0 : ι × Nat := (i0, 0)
    by_cases c : (qI U76 0 25).toInt ≤ v76_1.toInt
    · replace h := h.1 c
      replace K := fun i oo z => K i oo (Or.inl ⟨c, z⟩)
      exact ⟨.inl _, K i0 _ rfl, h⟩
    · replace h := h.2 c
      replace K := fun i oo z => K i oo (Or.inr ⟨c, z⟩)
      obtain ⟨g1_, h⟩ := h
      replace K := fun i oo z => K i oo ⟨g1_, z⟩
      obtain ⟨Q9, E9, h0, h⟩ := h
      obtain ⟨o9, z9, g9⟩ := ru_mustName h0
      rcases o9 with S5 | u9
      · replace h := h.1 S5 g9
        replace K := fun i oo z => K i oo (Or.inl ⟨S5, z9, z⟩)
        obtain ⟨a7, ea7⟩ : ∃ x9 : Int32, x9 = (v76_1 + Int32.ofInt 1) := ⟨_, rfl⟩
        replace h := h a7 ea7
        replace K := fun i oo z => K i oo ⟨a7, ea7, z⟩
        exact ih i00 (fun i oo ⟨n8, z⟩ => K (i, n8) oo z) h
      · replace h := h.2 u9 g9
        replace K := fun i oo z => K i oo (Or.inr ⟨u9, z9, z⟩)
        exact ⟨.inr u9, K i0 _ rfl, h⟩
set_option maxRecDepth 100000 in
theorem ru_names_L36 {ι : Type} {P : MS ⊕ MS → Prop} {Q : MS → Prop} {E : MS → Prop} {k4 : MS → Int32 → Int32 → Prop} {k4v : ι → MS ⊕ MS → MS → Int32 → Int32 → Prop} : ∀ (n : Nat) {U36 : MS} {v36_1 : Int32} {v36_2 : Int32} (i0 : ι) (hk4 : ∀ (u : MS) (z0 : Int32) (z1 : Int32), k4 u z0 z1 → (∀ (i : ι) (oo : MS ⊕ MS), k4v i oo u z0 z1 → P oo) → ∃ oo, P oo ∧ oV Q E oo), (∀ (i : ι) (oo : MS ⊕ MS), (∃ n8, v_names_L36 oo (k4v i oo) n8 U36 v36_1 v36_2) → P oo) → w_names_L36 Q E k4 n U36 v36_1 v36_2 → ∃ oo, P oo ∧ oV Q E oo := by
  intro n
  induction n with
  | zero => intro U36 v36_1 v36_2 i0 hk4 K h; unfold w_names_L36 at h; exact h.elim
  | succ n ih =>
    intro U36 v36_1 v36_2 i0 hk4 K h
    unfold w_names_L36 at h
    replace K := fun (i : ι × Nat) oo (z : v_names_L36 oo (k4v i.1 oo) (i.2 + 1) U36 v36_1 v36_2) => K i.1 oo ⟨i.2 + 1, z⟩
    have i00 := i0
    replace i0 : ι × Nat := (i0, 0)
    by_cases c : (qI U36 0 25).toInt ≤ v36_1.toInt
    · replace h := h.1 c
      replace K := fun i oo z => K i oo (Or.inl ⟨c, z⟩)
      exact ru_names_J70 i0 (fun _ _ _ h K => hk4 _ _ _ h (fun i oo z => K (i, 0) oo z)) K h
    · replace h := h.2 c
      replace K := fun i oo z => K i oo (Or.inr ⟨c, z⟩)
      obtain ⟨g2_, h⟩ := h
      replace K := fun i oo z => K i oo ⟨g2_, z⟩
      by_cases c : (qI U36 11 v36_1.toInt.toNat).toInt = v36_2.toInt
      · replace h := h.1 c
        replace K := fun i oo z => K i oo (Or.inl ⟨c, z⟩)
        obtain ⟨g3_, h⟩ := h
        replace K := fun i oo z => K i oo ⟨g3_, z⟩
        obtain ⟨Q9, E9, h0, h⟩ := h
        obtain ⟨o9, z9, g9⟩ := ru_mustName h0
        rcases o9 with S29 | u9
        · replace h := h.1 S29 g9
          replace K := fun i oo z => K i oo (Or.inl ⟨S29, z9, z⟩)
          obtain ⟨a31, ea31⟩ : ∃ x9 : Int32, x9 = (v36_1 + Int32.ofInt 1) := ⟨_, rfl⟩
          replace h := h a31 ea31
          replace K := fun i oo z => K i oo ⟨a31, ea31, z⟩
          exact ih i00 hk4 (fun i oo ⟨n8, z⟩ => K (i, n8) oo z) h
        · replace h := h.2 u9 g9
          replace K := fun i oo z => K i oo (Or.inr ⟨u9, z9, z⟩)
          exact ⟨.inr u9, K i0 _ rfl, h⟩
      · replace h := h.2 c
        replace K := fun i oo z => K i oo (Or.inr ⟨c, z⟩)
        exact ru_names_J70 i0 (fun _ _ _ h K => hk4 _ _ _ h (fun i oo z => K (i, 0) oo z)) K h
set_option maxRecDepth 100000 in
theorem ru_names_L4 {ι : Type} {P : MS ⊕ MS → Prop} {Q : MS → Prop} {E : MS → Prop} : ∀ (n : Nat) {U4 : MS} {v4_1 : Int32} {v4_2 : Int32} (i0 : ι), (∀ (i : ι) (oo : MS ⊕ MS), (∃ n8, v_names_L4 oo n8 U4 v4_1 v4_2) → P oo) → w_names_L4 Q E n U4 v4_1 v4_2 → ∃ oo, P oo ∧ oV Q E oo := by
  intro n
  induction n with
  | zero => intro U4 v4_1 v4_2 i0 K h; unfold w_names_L4 at h; exact h.elim
  | succ n ih =>
    intro U4 v4_1 v4_2 i0 K h
    unfold w_names_L4 at h
    replace K := fun (i : ι × Nat) oo (z : v_names_L4 oo (i.2 + 1) U4 v4_1 v4_2) => K i.1 oo ⟨i.2 + 1, z⟩
    have i00 := i0
    replace i0 : ι × Nat := (i0, 0)
    by_cases c : (qI U4 0 21).toInt ≤ v4_2.toInt
    · replace h := h.1 c
      replace K := fun i oo z => K i oo (Or.inl ⟨c, z⟩)
      obtain ⟨n9, h⟩ := h
      exact ru_names_L76 n9 i0 K h
    · replace h := h.2 c
      replace K := fun i oo z => K i oo (Or.inr ⟨c, z⟩)
      obtain ⟨g4_, h⟩ := h
      replace K := fun i oo z => K i oo ⟨g4_, z⟩
      obtain ⟨Q9, E9, h0, h⟩ := h
      obtain ⟨o9, z9, g9⟩ := ru_mustName h0
      rcases o9 with S13 | u9
      · replace h := h.1 S13 g9
        replace K := fun i oo z => K i oo (Or.inl ⟨S13, z9, z⟩)
        obtain ⟨g5_, h⟩ := h
        replace K := fun i oo z => K i oo ⟨g5_, z⟩
        obtain ⟨Q9, E9, h0, h⟩ := h
        obtain ⟨o9, z9, g9⟩ := ru_mustName h0
        rcases o9 with S19 | u9
        · replace h := h.1 S19 g9
          replace K := fun i oo z => K i oo (Or.inl ⟨S19, z9, z⟩)
          obtain ⟨n9, h⟩ := h
          exact ru_names_L36 n9 i0 (fun _ _ _ h K => ih i00 (fun i oo ⟨n8, z⟩ => K (i, n8) oo z) h) K h
        · replace h := h.2 u9 g9
          replace K := fun i oo z => K i oo (Or.inr ⟨u9, z9, z⟩)
          exact ⟨.inr u9, K i0 _ rfl, h⟩
      · replace h := h.2 u9 g9
        replace K := fun i oo z => K i oo (Or.inr ⟨u9, z9, z⟩)
        exact ⟨.inr u9, K i0 _ rfl, h⟩
set_option maxRecDepth 100000 in
theorem ru_names {S : MS} {Q : MS → Prop} {E : MS → Prop} (h : w_names S Q E) : ∃ oo, v_names S oo ∧ oV Q E oo := by
  have i0 : Unit := ()
  have K : ∀ (i : Unit) (oo : MS ⊕ MS), v_names S oo → v_names S oo := fun _ _ z => z
  unfold w_names at h
  obtain ⟨n9, h⟩ := h
  exact ru_names_L4 n9 i0 K h
set_option maxRecDepth 100000 in
theorem vw_names_J70 {oo : MS ⊕ MS} {k4 k4v : MS → Int32 → Int32 → Prop} {U70 : MS} {v70_1 : Int32} {v70_2 : Int32} (hk4 : ∀ (u : MS) (z0 : Int32) (z1 : Int32), k4v u z0 z1 → k4 u z0 z1) (h : v_names_J70 oo k4v U70 v70_1 v70_2) : w_names_J70 (fun u => oo = .inl u) (fun u => oo = .inr u) k4 U70 v70_1 v70_2 := by
  unfold v_names_J70 at h
  unfold w_names_J70
  obtain ⟨v9, e9, h⟩ := h
  intro x9 d9
  have c9 : v9 = x9 := e9.trans d9.symm
  subst c9
  exact hk4 _ _ _ h
set_option maxRecDepth 100000 in
theorem vz_names_J70 {oo : MS ⊕ MS} {Q : MS → Prop} {E : MS → Prop} {k4 k4v : MS → Int32 → Int32 → Prop} {U70 : MS} {v70_1 : Int32} {v70_2 : Int32} (hk4 : ∀ (u : MS) (z0 : Int32) (z1 : Int32), k4v u z0 z1 → k4 u z0 z1 → oV Q E oo) (h : v_names_J70 oo k4v U70 v70_1 v70_2) (w : w_names_J70 Q E k4 U70 v70_1 v70_2) : oV Q E oo := by
  unfold v_names_J70 at h
  unfold w_names_J70 at w
  obtain ⟨v9, e9, h⟩ := h
  replace w := w v9 e9
  exact hk4 _ _ _ h w
set_option maxRecDepth 100000 in
theorem vw_names_L76 {oo : MS ⊕ MS} : ∀ (n : Nat) {U76 : MS} {v76_1 : Int32}, v_names_L76 oo n U76 v76_1 → w_names_L76 (fun u => oo = .inl u) (fun u => oo = .inr u) n U76 v76_1 := by
  intro n
  induction n with
  | zero => intro U76 v76_1 h; unfold v_names_L76 at h; exact h.elim
  | succ n ih =>
    intro U76 v76_1 h
    unfold v_names_L76 at h
    unfold w_names_L76
    rcases h with ⟨c, h⟩ | ⟨c, h⟩
    · refine ⟨fun _ => ?_, fun c2 => absurd c c2⟩
      exact h
    · refine ⟨fun c2 => absurd c2 c, fun _ => ?_⟩
      obtain ⟨g9, h⟩ := h
      refine ⟨g9, ?_⟩
      rcases h with ⟨q9, z9, h⟩ | ⟨q9, z9, h⟩
      · refine ⟨_, _, vw_mustName z9, ?_, ?_⟩
        · intro q8 d9
          injection d9 with d9
          subst d9
          obtain ⟨v9, e9, h⟩ := h
          intro x9 d9
          have c9 : v9 = x9 := e9.trans d9.symm
          subst c9
          exact ih h
        · intro q8 d9
          exact nomatch d9
      · refine ⟨_, _, vw_mustName z9, ?_, ?_⟩
        · intro q8 d9
          exact nomatch d9
        · intro q8 d9
          injection d9 with d9
          subst d9
          exact h
set_option maxRecDepth 100000 in
theorem vz_names_L76 {oo : MS ⊕ MS} {Q : MS → Prop} {E : MS → Prop} : ∀ (n m : Nat) {U76 : MS} {v76_1 : Int32}, v_names_L76 oo n U76 v76_1 → w_names_L76 Q E m U76 v76_1 → oV Q E oo := by
  intro n
  induction n with
  | zero => intro m U76 v76_1 h; unfold v_names_L76 at h; exact h.elim
  | succ n ih =>
    intro m U76 v76_1 h w
    cases m with
    | zero => unfold w_names_L76 at w; exact w.elim
    | succ m =>
      unfold v_names_L76 at h
      unfold w_names_L76 at w
      rcases h with ⟨c, h⟩ | ⟨c, h⟩
      · replace w := w.1 c
        rw [h]
        exact w
      · replace w := w.2 c
        replace h := h.2
        replace w := w.2
        obtain ⟨Q9, E9, w0, w⟩ := w
        rcases h with ⟨q9, z9, h⟩ | ⟨q9, z9, h⟩
        · replace w := w.1 q9 (vz_mustName z9 w0)
          obtain ⟨v9, e9, h⟩ := h
          replace w := w v9 e9
          exact ih m h w
        · replace w := w.2 q9 (vz_mustName z9 w0)
          rw [h]
          exact w
set_option maxRecDepth 100000 in
theorem vw_names_L36 {oo : MS ⊕ MS} {k4 k4v : MS → Int32 → Int32 → Prop} : ∀ (n : Nat) {U36 : MS} {v36_1 : Int32} {v36_2 : Int32} (hk4 : ∀ (u : MS) (z0 : Int32) (z1 : Int32), k4v u z0 z1 → k4 u z0 z1), v_names_L36 oo k4v n U36 v36_1 v36_2 → w_names_L36 (fun u => oo = .inl u) (fun u => oo = .inr u) k4 n U36 v36_1 v36_2 := by
  intro n
  induction n with
  | zero => intro U36 v36_1 v36_2 hk4 h; unfold v_names_L36 at h; exact h.elim
  | succ n ih =>
    intro U36 v36_1 v36_2 hk4 h
    unfold v_names_L36 at h
    unfold w_names_L36
    rcases h with ⟨c, h⟩ | ⟨c, h⟩
    · refine ⟨fun _ => ?_, fun c2 => absurd c c2⟩
      exact vw_names_J70 hk4 h
    · refine ⟨fun c2 => absurd c2 c, fun _ => ?_⟩
      obtain ⟨g9, h⟩ := h
      refine ⟨g9, ?_⟩
      rcases h with ⟨c, h⟩ | ⟨c, h⟩
      · refine ⟨fun _ => ?_, fun c2 => absurd c c2⟩
        obtain ⟨g9, h⟩ := h
        refine ⟨g9, ?_⟩
        rcases h with ⟨q9, z9, h⟩ | ⟨q9, z9, h⟩
        · refine ⟨_, _, vw_mustName z9, ?_, ?_⟩
          · intro q8 d9
            injection d9 with d9
            subst d9
            obtain ⟨v9, e9, h⟩ := h
            intro x9 d9
            have c9 : v9 = x9 := e9.trans d9.symm
            subst c9
            exact ih hk4 h
          · intro q8 d9
            exact nomatch d9
        · refine ⟨_, _, vw_mustName z9, ?_, ?_⟩
          · intro q8 d9
            exact nomatch d9
          · intro q8 d9
            injection d9 with d9
            subst d9
            exact h
      · refine ⟨fun c2 => absurd c2 c, fun _ => ?_⟩
        exact vw_names_J70 hk4 h
set_option maxRecDepth 100000 in
theorem vz_names_L36 {oo : MS ⊕ MS} {Q : MS → Prop} {E : MS → Prop} {k4 k4v : MS → Int32 → Int32 → Prop} : ∀ (n m : Nat) {U36 : MS} {v36_1 : Int32} {v36_2 : Int32} (hk4 : ∀ (u : MS) (z0 : Int32) (z1 : Int32), k4v u z0 z1 → k4 u z0 z1 → oV Q E oo), v_names_L36 oo k4v n U36 v36_1 v36_2 → w_names_L36 Q E k4 m U36 v36_1 v36_2 → oV Q E oo := by
  intro n
  induction n with
  | zero => intro m U36 v36_1 v36_2 hk4 h; unfold v_names_L36 at h; exact h.elim
  | succ n ih =>
    intro m U36 v36_1 v36_2 hk4 h w
    cases m with
    | zero => unfold w_names_L36 at w; exact w.elim
    | succ m =>
      unfold v_names_L36 at h
      unfold w_names_L36 at w
      rcases h with ⟨c, h⟩ | ⟨c, h⟩
      · replace w := w.1 c
        exact vz_names_J70 hk4 h w
      · replace w := w.2 c
        replace h := h.2
        replace w := w.2
        rcases h with ⟨c, h⟩ | ⟨c, h⟩
        · replace w := w.1 c
          replace h := h.2
          replace w := w.2
          obtain ⟨Q9, E9, w0, w⟩ := w
          rcases h with ⟨q9, z9, h⟩ | ⟨q9, z9, h⟩
          · replace w := w.1 q9 (vz_mustName z9 w0)
            obtain ⟨v9, e9, h⟩ := h
            replace w := w v9 e9
            exact ih m hk4 h w
          · replace w := w.2 q9 (vz_mustName z9 w0)
            rw [h]
            exact w
        · replace w := w.2 c
          exact vz_names_J70 hk4 h w
set_option maxRecDepth 100000 in
theorem vw_names_L4 {oo : MS ⊕ MS} : ∀ (n : Nat) {U4 : MS} {v4_1 : Int32} {v4_2 : Int32}, v_names_L4 oo n U4 v4_1 v4_2 → w_names_L4 (fun u => oo = .inl u) (fun u => oo = .inr u) n U4 v4_1 v4_2 := by
  intro n
  induction n with
  | zero => intro U4 v4_1 v4_2 h; unfold v_names_L4 at h; exact h.elim
  | succ n ih =>
    intro U4 v4_1 v4_2 h
    unfold v_names_L4 at h
    unfold w_names_L4
    rcases h with ⟨c, h⟩ | ⟨c, h⟩
    · refine ⟨fun _ => ?_, fun c2 => absurd c c2⟩
      obtain ⟨n9, h⟩ := h
      exact ⟨n9, vw_names_L76 n9 h⟩
    · refine ⟨fun c2 => absurd c2 c, fun _ => ?_⟩
      obtain ⟨g9, h⟩ := h
      refine ⟨g9, ?_⟩
      rcases h with ⟨q9, z9, h⟩ | ⟨q9, z9, h⟩
      · refine ⟨_, _, vw_mustName z9, ?_, ?_⟩
        · intro q8 d9
          injection d9 with d9
          subst d9
          obtain ⟨g9, h⟩ := h
          refine ⟨g9, ?_⟩
          rcases h with ⟨q9, z9, h⟩ | ⟨q9, z9, h⟩
          · refine ⟨_, _, vw_mustName z9, ?_, ?_⟩
            · intro q8 d9
              injection d9 with d9
              subst d9
              obtain ⟨n9, h⟩ := h
              exact ⟨n9, vw_names_L36 n9 (fun _ _ _ h => ih h) h⟩
            · intro q8 d9
              exact nomatch d9
          · refine ⟨_, _, vw_mustName z9, ?_, ?_⟩
            · intro q8 d9
              exact nomatch d9
            · intro q8 d9
              injection d9 with d9
              subst d9
              exact h
        · intro q8 d9
          exact nomatch d9
      · refine ⟨_, _, vw_mustName z9, ?_, ?_⟩
        · intro q8 d9
          exact nomatch d9
        · intro q8 d9
          injection d9 with d9
          subst d9
          exact h
set_option maxRecDepth 100000 in
theorem vz_names_L4 {oo : MS ⊕ MS} {Q : MS → Prop} {E : MS → Prop} : ∀ (n m : Nat) {U4 : MS} {v4_1 : Int32} {v4_2 : Int32}, v_names_L4 oo n U4 v4_1 v4_2 → w_names_L4 Q E m U4 v4_1 v4_2 → oV Q E oo := by
  intro n
  induction n with
  | zero => intro m U4 v4_1 v4_2 h; unfold v_names_L4 at h; exact h.elim
  | succ n ih =>
    intro m U4 v4_1 v4_2 h w
    cases m with
    | zero => unfold w_names_L4 at w; exact w.elim
    | succ m =>
      unfold v_names_L4 at h
      unfold w_names_L4 at w
      rcases h with ⟨c, h⟩ | ⟨c, h⟩
      · replace w := w.1 c
        obtain ⟨n9, h⟩ := h
        obtain ⟨n8, w⟩ := w
        exact vz_names_L76 n9 n8 h w
      · replace w := w.2 c
        replace h := h.2
        replace w := w.2
        obtain ⟨Q9, E9, w0, w⟩ := w
        rcases h with ⟨q9, z9, h⟩ | ⟨q9, z9, h⟩
        · replace w := w.1 q9 (vz_mustName z9 w0)
          replace h := h.2
          replace w := w.2
          obtain ⟨Q9, E9, w0, w⟩ := w
          rcases h with ⟨q9, z9, h⟩ | ⟨q9, z9, h⟩
          · replace w := w.1 q9 (vz_mustName z9 w0)
            obtain ⟨n9, h⟩ := h
            obtain ⟨n8, w⟩ := w
            exact vz_names_L36 n9 n8 (fun _ _ _ h w => ih m h w) h w
          · replace w := w.2 q9 (vz_mustName z9 w0)
            rw [h]
            exact w
        · replace w := w.2 q9 (vz_mustName z9 w0)
          rw [h]
          exact w
set_option maxRecDepth 100000 in
theorem vw_names {S : MS} {oo : MS ⊕ MS} (h : v_names S oo) : w_names S (fun u => oo = .inl u) (fun u => oo = .inr u) := by
  unfold v_names at h
  unfold w_names
  obtain ⟨n9, h⟩ := h
  exact ⟨n9, vw_names_L4 n9 h⟩
set_option maxRecDepth 100000 in
theorem vz_names {S : MS} {oo : MS ⊕ MS} {Q : MS → Prop} {E : MS → Prop} (h : v_names S oo) (w : w_names S Q E) : oV Q E oo := by
  unfold v_names at h
  unfold w_names at w
  obtain ⟨n9, h⟩ := h
  obtain ⟨n8, w⟩ := w
  exact vz_names_L4 n9 n8 h w
def v_point (S : MS) (x1 : Int32) (x2 : Int32) (oo : MS ⊕ MS) : Prop := ((∃ (S3 : MS), v_must S x1 (16 : Int32) ((qI S 0 36) + x2) (.inl S3) ∧ (oo = .inl S3)) ∨ (∃ u9 : MS, v_must S x1 (16 : Int32) ((qI S 0 36) + x2) (.inr u9) ∧ (oo = .inr u9)))
set_option maxRecDepth 100000 in
theorem ru_point {S : MS} {x1 : Int32} {x2 : Int32} {Q : MS → Prop} {E : MS → Prop} (h : w_point S x1 x2 Q E) : ∃ oo, v_point S x1 x2 oo ∧ oV Q E oo := by
  have i0 : Unit := ()
  have K : ∀ (i : Unit) (oo : MS ⊕ MS), v_point S x1 x2 oo → v_point S x1 x2 oo := fun _ _ z => z
  unfold w_point at h
  obtain ⟨Q9, E9, h0, h⟩ := h
  obtain ⟨o9, z9, g9⟩ := ru_must h0
  rcases o9 with S3 | u9
  · replace h := h.1 S3 g9
    replace K := fun i oo z => K i oo (Or.inl ⟨S3, z9, z⟩)
    exact ⟨.inl _, K i0 _ rfl, h⟩
  · replace h := h.2 u9 g9
    replace K := fun i oo z => K i oo (Or.inr ⟨u9, z9, z⟩)
    exact ⟨.inr u9, K i0 _ rfl, h⟩
set_option maxRecDepth 100000 in
theorem vw_point {S : MS} {x1 : Int32} {x2 : Int32} {oo : MS ⊕ MS} (h : v_point S x1 x2 oo) : w_point S x1 x2 (fun u => oo = .inl u) (fun u => oo = .inr u) := by
  unfold v_point at h
  unfold w_point
  rcases h with ⟨q9, z9, h⟩ | ⟨q9, z9, h⟩
  · refine ⟨_, _, vw_must z9, ?_, ?_⟩
    · intro q8 d9
      injection d9 with d9
      subst d9
      exact h
    · intro q8 d9
      exact nomatch d9
  · refine ⟨_, _, vw_must z9, ?_, ?_⟩
    · intro q8 d9
      exact nomatch d9
    · intro q8 d9
      injection d9 with d9
      subst d9
      exact h
set_option maxRecDepth 100000 in
theorem vz_point {S : MS} {x1 : Int32} {x2 : Int32} {oo : MS ⊕ MS} {Q : MS → Prop} {E : MS → Prop} (h : v_point S x1 x2 oo) (w : w_point S x1 x2 Q E) : oV Q E oo := by
  unfold v_point at h
  unfold w_point at w
  obtain ⟨Q9, E9, w0, w⟩ := w
  rcases h with ⟨q9, z9, h⟩ | ⟨q9, z9, h⟩
  · replace w := w.1 q9 (vz_must z9 w0)
    rw [h]
    exact w
  · replace w := w.2 q9 (vz_must z9 w0)
    rw [h]
    exact w
def v_row (S : MS) (x1 : Int32) (x2 : Int32) (x3 : Int32) (uo : MS) : Prop := (((0 : Int) ≤ ((3 : Int32) * (qI S 0 41)).toInt ∧ ((3 : Int32) * (qI S 0 41)).toInt < 86400) ∧ (∃ S3 : MS, S3 = wI S 19 ((((3 : Int32) * (qI S 0 41)).toInt).toNat) x1 ∧ (((0 : Int) ≤ (((3 : Int32) * (qI S3 0 41)) + (1 : Int32)).toInt ∧ (((3 : Int32) * (qI S3 0 41)) + (1 : Int32)).toInt < 86400) ∧ (∃ S7 : MS, S7 = wI S3 19 (((((3 : Int32) * (qI S3 0 41)) + (1 : Int32)).toInt).toNat) x2 ∧ (((0 : Int) ≤ (((3 : Int32) * (qI S7 0 41)) + (2 : Int32)).toInt ∧ (((3 : Int32) * (qI S7 0 41)) + (2 : Int32)).toInt < 86400) ∧ (∃ S11 : MS, S11 = wI S7 19 (((((3 : Int32) * (qI S7 0 41)) + (2 : Int32)).toInt).toNat) x3 ∧ (∃ S13 : MS, S13 = wI S11 0 41 ((qI S11 0 41) + (1 : Int32)) ∧ (uo = S13))))))))
set_option maxRecDepth 100000 in
theorem ru_row {S : MS} {x1 : Int32} {x2 : Int32} {x3 : Int32} {Q : MS → Prop} (h : w_row S x1 x2 x3 Q) : ∃ uo, v_row S x1 x2 x3 uo ∧ Q uo := by
  have i0 : Unit := ()
  have K : ∀ (i : Unit) (uo : MS), v_row S x1 x2 x3 uo → v_row S x1 x2 x3 uo := fun _ _ z => z
  unfold w_row at h
  obtain ⟨g1_, h⟩ := h
  replace K := fun i uo z => K i uo ⟨g1_, z⟩
  obtain ⟨S3, eS3⟩ : ∃ x9 : MS, x9 = wI S 19 ((((3 : Int32) * (qI S 0 41)).toInt).toNat) x1 := ⟨_, rfl⟩
  replace h := h S3 eS3
  replace K := fun i uo z => K i uo ⟨S3, eS3, z⟩
  obtain ⟨g2_, h⟩ := h
  replace K := fun i uo z => K i uo ⟨g2_, z⟩
  obtain ⟨S7, eS7⟩ : ∃ x9 : MS, x9 = wI S3 19 (((((3 : Int32) * (qI S3 0 41)) + (1 : Int32)).toInt).toNat) x2 := ⟨_, rfl⟩
  replace h := h S7 eS7
  replace K := fun i uo z => K i uo ⟨S7, eS7, z⟩
  obtain ⟨g3_, h⟩ := h
  replace K := fun i uo z => K i uo ⟨g3_, z⟩
  obtain ⟨S11, eS11⟩ : ∃ x9 : MS, x9 = wI S7 19 (((((3 : Int32) * (qI S7 0 41)) + (2 : Int32)).toInt).toNat) x3 := ⟨_, rfl⟩
  replace h := h S11 eS11
  replace K := fun i uo z => K i uo ⟨S11, eS11, z⟩
  obtain ⟨S13, eS13⟩ : ∃ x9 : MS, x9 = wI S11 0 41 ((qI S11 0 41) + (1 : Int32)) := ⟨_, rfl⟩
  replace h := h S13 eS13
  replace K := fun i uo z => K i uo ⟨S13, eS13, z⟩
  exact ⟨_, K i0 _ rfl, h⟩
set_option maxRecDepth 100000 in
theorem vw_row {S : MS} {x1 : Int32} {x2 : Int32} {x3 : Int32} {uo : MS} (h : v_row S x1 x2 x3 uo) : w_row S x1 x2 x3 (fun u => u = uo) := by
  unfold v_row at h
  unfold w_row
  obtain ⟨g9, h⟩ := h
  refine ⟨g9, ?_⟩
  obtain ⟨v9, e9, h⟩ := h
  intro x9 d9
  have c9 : v9 = x9 := e9.trans d9.symm
  subst c9
  obtain ⟨g9, h⟩ := h
  refine ⟨g9, ?_⟩
  obtain ⟨v9, e9, h⟩ := h
  intro x9 d9
  have c9 : v9 = x9 := e9.trans d9.symm
  subst c9
  obtain ⟨g9, h⟩ := h
  refine ⟨g9, ?_⟩
  obtain ⟨v9, e9, h⟩ := h
  intro x9 d9
  have c9 : v9 = x9 := e9.trans d9.symm
  subst c9
  obtain ⟨v9, e9, h⟩ := h
  intro x9 d9
  have c9 : v9 = x9 := e9.trans d9.symm
  subst c9
  exact h.symm
set_option maxRecDepth 100000 in
theorem vz_row {S : MS} {x1 : Int32} {x2 : Int32} {x3 : Int32} {uo : MS} {Q : MS → Prop} (h : v_row S x1 x2 x3 uo) (w : w_row S x1 x2 x3 Q) : Q uo := by
  unfold v_row at h
  unfold w_row at w
  replace h := h.2
  replace w := w.2
  obtain ⟨v9, e9, h⟩ := h
  replace w := w v9 e9
  replace h := h.2
  replace w := w.2
  obtain ⟨v9, e9, h⟩ := h
  replace w := w v9 e9
  replace h := h.2
  replace w := w.2
  obtain ⟨v9, e9, h⟩ := h
  replace w := w v9 e9
  obtain ⟨v9, e9, h⟩ := h
  replace w := w v9 e9
  rw [h]
  exact w
def v_grown_J14 (oo : MS ⊕ MS) (U14 : MS) (t14_0 : Int32) (v14_1 : Int32) (v14_2 : Int32) (v14_3 : Int32) : Prop := ((∃ (S2 : MS), v_point U14 t14_0 v14_1 (.inl S2) ∧ (∃ (S5 : MS), v_row S2 (132 : Int32) v14_2 v14_3 S5 ∧ (oo = .inl S5))) ∨ (∃ u9 : MS, v_point U14 t14_0 v14_1 (.inr u9) ∧ (oo = .inr u9)))
def v_grown (S : MS) (x1 : Int32) (x2 : Int32) (x3 : Int32) (oo : MS ⊕ MS) : Prop := (((qI S 0 46).toInt ≤ x2.toInt ∧ (v_grown_J14 oo S 0 x1 x2 x3)) ∨ (¬ (qI S 0 46).toInt ≤ x2.toInt ∧ (v_grown_J14 oo S 1 x1 x2 x3)))
set_option maxRecDepth 100000 in
theorem ru_grown_J14 {ι : Type} {P : MS ⊕ MS → Prop} {Q : MS → Prop} {E : MS → Prop} {U14 : MS} {t14_0 : Int32} {v14_1 : Int32} {v14_2 : Int32} {v14_3 : Int32} (i0 : ι) (K : ∀ (i : ι) (oo : MS ⊕ MS), v_grown_J14 oo U14 t14_0 v14_1 v14_2 v14_3 → P oo) (h : w_grown_J14 Q E U14 t14_0 v14_1 v14_2 v14_3) : ∃ oo, P oo ∧ oV Q E oo := by
  unfold w_grown_J14 at h
  obtain ⟨Q9, E9, h0, h⟩ := h
  obtain ⟨o9, z9, g9⟩ := ru_point h0
  rcases o9 with S2 | u9
  · replace h := h.1 S2 g9
    replace K := fun i oo z => K i oo (Or.inl ⟨S2, z9, z⟩)
    obtain ⟨Q9, h0, h⟩ := h
    obtain ⟨S5, z9, g9⟩ := ru_row h0
    replace h := h S5 g9
    replace K := fun i oo z => K i oo ⟨S5, z9, z⟩
    exact ⟨.inl _, K i0 _ rfl, h⟩
  · replace h := h.2 u9 g9
    replace K := fun i oo z => K i oo (Or.inr ⟨u9, z9, z⟩)
    exact ⟨.inr u9, K i0 _ rfl, h⟩
set_option maxRecDepth 100000 in
theorem ru_grown {S : MS} {x1 : Int32} {x2 : Int32} {x3 : Int32} {Q : MS → Prop} {E : MS → Prop} (h : w_grown S x1 x2 x3 Q E) : ∃ oo, v_grown S x1 x2 x3 oo ∧ oV Q E oo := by
  have i0 : Unit := ()
  have K : ∀ (i : Unit) (oo : MS ⊕ MS), v_grown S x1 x2 x3 oo → v_grown S x1 x2 x3 oo := fun _ _ z => z
  unfold w_grown at h
  by_cases c : (qI S 0 46).toInt ≤ x2.toInt
  · replace h := h.1 c
    replace K := fun i oo z => K i oo (Or.inl ⟨c, z⟩)
    exact ru_grown_J14 i0 K h
  · replace h := h.2 c
    replace K := fun i oo z => K i oo (Or.inr ⟨c, z⟩)
    exact ru_grown_J14 i0 K h
set_option maxRecDepth 100000 in
theorem vw_grown_J14 {oo : MS ⊕ MS} {U14 : MS} {t14_0 : Int32} {v14_1 : Int32} {v14_2 : Int32} {v14_3 : Int32} (h : v_grown_J14 oo U14 t14_0 v14_1 v14_2 v14_3) : w_grown_J14 (fun u => oo = .inl u) (fun u => oo = .inr u) U14 t14_0 v14_1 v14_2 v14_3 := by
  unfold v_grown_J14 at h
  unfold w_grown_J14
  rcases h with ⟨q9, z9, h⟩ | ⟨q9, z9, h⟩
  · refine ⟨_, _, vw_point z9, ?_, ?_⟩
    · intro q8 d9
      injection d9 with d9
      subst d9
      obtain ⟨q9, z9, h⟩ := h
      refine ⟨_, vw_row z9, ?_⟩
      intro q8 d9
      subst d9
      exact h
    · intro q8 d9
      exact nomatch d9
  · refine ⟨_, _, vw_point z9, ?_, ?_⟩
    · intro q8 d9
      exact nomatch d9
    · intro q8 d9
      injection d9 with d9
      subst d9
      exact h
set_option maxRecDepth 100000 in
theorem vz_grown_J14 {oo : MS ⊕ MS} {Q : MS → Prop} {E : MS → Prop} {U14 : MS} {t14_0 : Int32} {v14_1 : Int32} {v14_2 : Int32} {v14_3 : Int32} (h : v_grown_J14 oo U14 t14_0 v14_1 v14_2 v14_3) (w : w_grown_J14 Q E U14 t14_0 v14_1 v14_2 v14_3) : oV Q E oo := by
  unfold v_grown_J14 at h
  unfold w_grown_J14 at w
  obtain ⟨Q9, E9, w0, w⟩ := w
  rcases h with ⟨q9, z9, h⟩ | ⟨q9, z9, h⟩
  · replace w := w.1 q9 (vz_point z9 w0)
    obtain ⟨q9, z9, h⟩ := h
    obtain ⟨Q9, w0, w⟩ := w
    replace w := w q9 (vz_row z9 w0)
    rw [h]
    exact w
  · replace w := w.2 q9 (vz_point z9 w0)
    rw [h]
    exact w
set_option maxRecDepth 100000 in
theorem vw_grown {S : MS} {x1 : Int32} {x2 : Int32} {x3 : Int32} {oo : MS ⊕ MS} (h : v_grown S x1 x2 x3 oo) : w_grown S x1 x2 x3 (fun u => oo = .inl u) (fun u => oo = .inr u) := by
  unfold v_grown at h
  unfold w_grown
  rcases h with ⟨c, h⟩ | ⟨c, h⟩
  · refine ⟨fun _ => ?_, fun c2 => absurd c c2⟩
    exact vw_grown_J14 h
  · refine ⟨fun c2 => absurd c2 c, fun _ => ?_⟩
    exact vw_grown_J14 h
set_option maxRecDepth 100000 in
theorem vz_grown {S : MS} {x1 : Int32} {x2 : Int32} {x3 : Int32} {oo : MS ⊕ MS} {Q : MS → Prop} {E : MS → Prop} (h : v_grown S x1 x2 x3 oo) (w : w_grown S x1 x2 x3 Q E) : oV Q E oo := by
  unfold v_grown at h
  unfold w_grown at w
  rcases h with ⟨c, h⟩ | ⟨c, h⟩
  · replace w := w.1 c
    exact vz_grown_J14 h w
  · replace w := w.2 c
    exact vz_grown_J14 h w
def v_localRow_J36 (oo : MS ⊕ MS) (U36 : MS) (t36_0 : Int32) (v36_1 : Int32) (v36_2 : Int32) (v36_3 : Int32) : Prop := ((∃ (S3 : MS), v_point U36 t36_0 v36_1 (.inl S3) ∧ (∃ (S6 : MS), v_row S3 v36_2 v36_3 (0 : Int32) S6 ∧ (oo = .inl S6))) ∨ (∃ u9 : MS, v_point U36 t36_0 v36_1 (.inr u9) ∧ (oo = .inr u9)))
def v_localRow_J17 (oo : MS ⊕ MS) (U17 : MS) (t17_0 : Int32) (v17_1 : Int32) (v17_2 : Int32) (v17_3 : Int32) : Prop := (((qI U17 0 46).toInt < (v17_3 + t17_0).toInt ∧ (v_localRow_J36 oo U17 0 v17_1 v17_2 v17_3)) ∨ (¬ (qI U17 0 46).toInt < (v17_3 + t17_0).toInt ∧ (v_localRow_J36 oo U17 1 v17_1 v17_2 v17_3)))
def v_localRow_J12 (oo : MS ⊕ MS) (U12 : MS) (v12_1 : Int32) (v12_2 : Int32) (v12_3 : Int32) : Prop := (v_localRow_J17 oo U12 2 v12_1 v12_2 v12_3)
def v_localRow (S : MS) (x1 : Int32) (x2 : Int32) (x3 : Int32) (oo : MS ⊕ MS) : Prop := ((x2.toInt = 22 ∧ (v_localRow_J12 oo S x1 x2 x3)) ∨ (¬ x2.toInt = 22 ∧ ((x2.toInt = 55 ∧ (v_localRow_J12 oo S x1 x2 x3)) ∨ (¬ x2.toInt = 55 ∧ (v_localRow_J17 oo S 1 x1 x2 x3)))))
set_option maxRecDepth 100000 in
theorem ru_localRow_J36 {ι : Type} {P : MS ⊕ MS → Prop} {Q : MS → Prop} {E : MS → Prop} {U36 : MS} {t36_0 : Int32} {v36_1 : Int32} {v36_2 : Int32} {v36_3 : Int32} (i0 : ι) (K : ∀ (i : ι) (oo : MS ⊕ MS), v_localRow_J36 oo U36 t36_0 v36_1 v36_2 v36_3 → P oo) (h : w_localRow_J36 Q E U36 t36_0 v36_1 v36_2 v36_3) : ∃ oo, P oo ∧ oV Q E oo := by
  unfold w_localRow_J36 at h
  obtain ⟨Q9, E9, h0, h⟩ := h
  obtain ⟨o9, z9, g9⟩ := ru_point h0
  rcases o9 with S3 | u9
  · replace h := h.1 S3 g9
    replace K := fun i oo z => K i oo (Or.inl ⟨S3, z9, z⟩)
    obtain ⟨Q9, h0, h⟩ := h
    obtain ⟨S6, z9, g9⟩ := ru_row h0
    replace h := h S6 g9
    replace K := fun i oo z => K i oo ⟨S6, z9, z⟩
    exact ⟨.inl _, K i0 _ rfl, h⟩
  · replace h := h.2 u9 g9
    replace K := fun i oo z => K i oo (Or.inr ⟨u9, z9, z⟩)
    exact ⟨.inr u9, K i0 _ rfl, h⟩
set_option maxRecDepth 100000 in
theorem ru_localRow_J17 {ι : Type} {P : MS ⊕ MS → Prop} {Q : MS → Prop} {E : MS → Prop} {U17 : MS} {t17_0 : Int32} {v17_1 : Int32} {v17_2 : Int32} {v17_3 : Int32} (i0 : ι) (K : ∀ (i : ι) (oo : MS ⊕ MS), v_localRow_J17 oo U17 t17_0 v17_1 v17_2 v17_3 → P oo) (h : w_localRow_J17 Q E U17 t17_0 v17_1 v17_2 v17_3) : ∃ oo, P oo ∧ oV Q E oo := by
  unfold w_localRow_J17 at h
  by_cases c : (qI U17 0 46).toInt < (v17_3 + t17_0).toInt
  · replace h := h.1 c
    replace K := fun i oo z => K i oo (Or.inl ⟨c, z⟩)
    exact ru_localRow_J36 i0 K h
  · replace h := h.2 c
    replace K := fun i oo z => K i oo (Or.inr ⟨c, z⟩)
    exact ru_localRow_J36 i0 K h
set_option maxRecDepth 100000 in
theorem ru_localRow_J12 {ι : Type} {P : MS ⊕ MS → Prop} {Q : MS → Prop} {E : MS → Prop} {U12 : MS} {v12_1 : Int32} {v12_2 : Int32} {v12_3 : Int32} (i0 : ι) (K : ∀ (i : ι) (oo : MS ⊕ MS), v_localRow_J12 oo U12 v12_1 v12_2 v12_3 → P oo) (h : w_localRow_J12 Q E U12 v12_1 v12_2 v12_3) : ∃ oo, P oo ∧ oV Q E oo := by
  unfold w_localRow_J12 at h
  exact ru_localRow_J17 i0 K h
set_option maxRecDepth 100000 in
theorem ru_localRow {S : MS} {x1 : Int32} {x2 : Int32} {x3 : Int32} {Q : MS → Prop} {E : MS → Prop} (h : w_localRow S x1 x2 x3 Q E) : ∃ oo, v_localRow S x1 x2 x3 oo ∧ oV Q E oo := by
  have i0 : Unit := ()
  have K : ∀ (i : Unit) (oo : MS ⊕ MS), v_localRow S x1 x2 x3 oo → v_localRow S x1 x2 x3 oo := fun _ _ z => z
  unfold w_localRow at h
  by_cases c : x2.toInt = 22
  · replace h := h.1 c
    replace K := fun i oo z => K i oo (Or.inl ⟨c, z⟩)
    exact ru_localRow_J12 i0 K h
  · replace h := h.2 c
    replace K := fun i oo z => K i oo (Or.inr ⟨c, z⟩)
    by_cases c : x2.toInt = 55
    · replace h := h.1 c
      replace K := fun i oo z => K i oo (Or.inl ⟨c, z⟩)
      exact ru_localRow_J12 i0 K h
    · replace h := h.2 c
      replace K := fun i oo z => K i oo (Or.inr ⟨c, z⟩)
      exact ru_localRow_J17 i0 K h
set_option maxRecDepth 100000 in
theorem vw_localRow_J36 {oo : MS ⊕ MS} {U36 : MS} {t36_0 : Int32} {v36_1 : Int32} {v36_2 : Int32} {v36_3 : Int32} (h : v_localRow_J36 oo U36 t36_0 v36_1 v36_2 v36_3) : w_localRow_J36 (fun u => oo = .inl u) (fun u => oo = .inr u) U36 t36_0 v36_1 v36_2 v36_3 := by
  unfold v_localRow_J36 at h
  unfold w_localRow_J36
  rcases h with ⟨q9, z9, h⟩ | ⟨q9, z9, h⟩
  · refine ⟨_, _, vw_point z9, ?_, ?_⟩
    · intro q8 d9
      injection d9 with d9
      subst d9
      obtain ⟨q9, z9, h⟩ := h
      refine ⟨_, vw_row z9, ?_⟩
      intro q8 d9
      subst d9
      exact h
    · intro q8 d9
      exact nomatch d9
  · refine ⟨_, _, vw_point z9, ?_, ?_⟩
    · intro q8 d9
      exact nomatch d9
    · intro q8 d9
      injection d9 with d9
      subst d9
      exact h
set_option maxRecDepth 100000 in
theorem vz_localRow_J36 {oo : MS ⊕ MS} {Q : MS → Prop} {E : MS → Prop} {U36 : MS} {t36_0 : Int32} {v36_1 : Int32} {v36_2 : Int32} {v36_3 : Int32} (h : v_localRow_J36 oo U36 t36_0 v36_1 v36_2 v36_3) (w : w_localRow_J36 Q E U36 t36_0 v36_1 v36_2 v36_3) : oV Q E oo := by
  unfold v_localRow_J36 at h
  unfold w_localRow_J36 at w
  obtain ⟨Q9, E9, w0, w⟩ := w
  rcases h with ⟨q9, z9, h⟩ | ⟨q9, z9, h⟩
  · replace w := w.1 q9 (vz_point z9 w0)
    obtain ⟨q9, z9, h⟩ := h
    obtain ⟨Q9, w0, w⟩ := w
    replace w := w q9 (vz_row z9 w0)
    rw [h]
    exact w
  · replace w := w.2 q9 (vz_point z9 w0)
    rw [h]
    exact w
set_option maxRecDepth 100000 in
theorem vw_localRow_J17 {oo : MS ⊕ MS} {U17 : MS} {t17_0 : Int32} {v17_1 : Int32} {v17_2 : Int32} {v17_3 : Int32} (h : v_localRow_J17 oo U17 t17_0 v17_1 v17_2 v17_3) : w_localRow_J17 (fun u => oo = .inl u) (fun u => oo = .inr u) U17 t17_0 v17_1 v17_2 v17_3 := by
  unfold v_localRow_J17 at h
  unfold w_localRow_J17
  rcases h with ⟨c, h⟩ | ⟨c, h⟩
  · refine ⟨fun _ => ?_, fun c2 => absurd c c2⟩
    exact vw_localRow_J36 h
  · refine ⟨fun c2 => absurd c2 c, fun _ => ?_⟩
    exact vw_localRow_J36 h
set_option maxRecDepth 100000 in
theorem vz_localRow_J17 {oo : MS ⊕ MS} {Q : MS → Prop} {E : MS → Prop} {U17 : MS} {t17_0 : Int32} {v17_1 : Int32} {v17_2 : Int32} {v17_3 : Int32} (h : v_localRow_J17 oo U17 t17_0 v17_1 v17_2 v17_3) (w : w_localRow_J17 Q E U17 t17_0 v17_1 v17_2 v17_3) : oV Q E oo := by
  unfold v_localRow_J17 at h
  unfold w_localRow_J17 at w
  rcases h with ⟨c, h⟩ | ⟨c, h⟩
  · replace w := w.1 c
    exact vz_localRow_J36 h w
  · replace w := w.2 c
    exact vz_localRow_J36 h w
set_option maxRecDepth 100000 in
theorem vw_localRow_J12 {oo : MS ⊕ MS} {U12 : MS} {v12_1 : Int32} {v12_2 : Int32} {v12_3 : Int32} (h : v_localRow_J12 oo U12 v12_1 v12_2 v12_3) : w_localRow_J12 (fun u => oo = .inl u) (fun u => oo = .inr u) U12 v12_1 v12_2 v12_3 := by
  unfold v_localRow_J12 at h
  unfold w_localRow_J12
  exact vw_localRow_J17 h
set_option maxRecDepth 100000 in
theorem vz_localRow_J12 {oo : MS ⊕ MS} {Q : MS → Prop} {E : MS → Prop} {U12 : MS} {v12_1 : Int32} {v12_2 : Int32} {v12_3 : Int32} (h : v_localRow_J12 oo U12 v12_1 v12_2 v12_3) (w : w_localRow_J12 Q E U12 v12_1 v12_2 v12_3) : oV Q E oo := by
  unfold v_localRow_J12 at h
  unfold w_localRow_J12 at w
  exact vz_localRow_J17 h w
set_option maxRecDepth 100000 in
theorem vw_localRow {S : MS} {x1 : Int32} {x2 : Int32} {x3 : Int32} {oo : MS ⊕ MS} (h : v_localRow S x1 x2 x3 oo) : w_localRow S x1 x2 x3 (fun u => oo = .inl u) (fun u => oo = .inr u) := by
  unfold v_localRow at h
  unfold w_localRow
  rcases h with ⟨c, h⟩ | ⟨c, h⟩
  · refine ⟨fun _ => ?_, fun c2 => absurd c c2⟩
    exact vw_localRow_J12 h
  · refine ⟨fun c2 => absurd c2 c, fun _ => ?_⟩
    rcases h with ⟨c, h⟩ | ⟨c, h⟩
    · refine ⟨fun _ => ?_, fun c2 => absurd c c2⟩
      exact vw_localRow_J12 h
    · refine ⟨fun c2 => absurd c2 c, fun _ => ?_⟩
      exact vw_localRow_J17 h
set_option maxRecDepth 100000 in
theorem vz_localRow {S : MS} {x1 : Int32} {x2 : Int32} {x3 : Int32} {oo : MS ⊕ MS} {Q : MS → Prop} {E : MS → Prop} (h : v_localRow S x1 x2 x3 oo) (w : w_localRow S x1 x2 x3 Q E) : oV Q E oo := by
  unfold v_localRow at h
  unfold w_localRow at w
  rcases h with ⟨c, h⟩ | ⟨c, h⟩
  · replace w := w.1 c
    exact vz_localRow_J12 h w
  · replace w := w.2 c
    rcases h with ⟨c, h⟩ | ⟨c, h⟩
    · replace w := w.1 c
      exact vz_localRow_J12 h w
    · replace w := w.2 c
      exact vz_localRow_J17 h w
def v_isSame_L19 (ro : Int32) (uo : MS) : Nat → MS → Int32 → Int32 → Int32 → Prop
  | 0, _, _, _, _ => False
  | n19 + 1, U19, v19_1, v19_2, v19_3 => (((0 : Int) ≤ v19_1.toInt ∧ v19_1.toInt < 502) ∧ (((qI U19 7 v19_1.toInt.toNat).toInt ≤ v19_3.toInt ∧ (ro = (1 : Int32) ∧ uo = U19)) ∨ (¬ (qI U19 7 v19_1.toInt.toNat).toInt ≤ v19_3.toInt ∧ (d_letter U19 v19_1 v19_3 ∧ (d_letter U19 v19_2 v19_3 ∧ (((f_letter U19 v19_1 v19_3).toInt = (f_letter U19 v19_2 v19_3).toInt ∧ (∃ a16 : Int32, a16 = (v19_3 + Int32.ofInt 1) ∧ ((v_isSame_L19 ro uo n19) U19 v19_1 v19_2 a16))) ∨ (¬ (f_letter U19 v19_1 v19_3).toInt = (f_letter U19 v19_2 v19_3).toInt ∧ (ro = (0 : Int32) ∧ uo = U19))))))))
def v_isSame (S : MS) (x1 : Int32) (x2 : Int32) (ro : Int32) (uo : MS) : Prop := (((0 : Int) ≤ x1.toInt ∧ x1.toInt < 502) ∧ (((0 : Int) ≤ x2.toInt ∧ x2.toInt < 502) ∧ (((qI S 7 x1.toInt.toNat).toInt = (qI S 7 x2.toInt.toNat).toInt ∧ (∃ n, v_isSame_L19 ro uo n S x1 x2 0)) ∨ (¬ (qI S 7 x1.toInt.toNat).toInt = (qI S 7 x2.toInt.toNat).toInt ∧ (ro = (0 : Int32) ∧ uo = S)))))
set_option maxRecDepth 100000 in
theorem ru_isSame_L19 {ι : Type} {P : Int32 → MS → Prop} {Q : Int32 → MS → Prop} : ∀ (n : Nat) {U19 : MS} {v19_1 : Int32} {v19_2 : Int32} {v19_3 : Int32} (i0 : ι), (∀ (i : ι) (ro : Int32) (uo : MS), (∃ n8, v_isSame_L19 ro uo n8 U19 v19_1 v19_2 v19_3) → P ro uo) → w_isSame_L19 Q n U19 v19_1 v19_2 v19_3 → ∃ ro uo, P ro uo ∧ Q ro uo := by
  intro n
  induction n with
  | zero => intro U19 v19_1 v19_2 v19_3 i0 K h; unfold w_isSame_L19 at h; exact h.elim
  | succ n ih =>
    intro U19 v19_1 v19_2 v19_3 i0 K h
    unfold w_isSame_L19 at h
    replace K := fun (i : ι × Nat) ro uo (z : v_isSame_L19 ro uo (i.2 + 1) U19 v19_1 v19_2 v19_3) => K i.1 ro uo ⟨i.2 + 1, z⟩
    have i00 := i0
    replace i0 : ι × Nat := (i0, 0)
    obtain ⟨g1_, h⟩ := h
    replace K := fun i ro uo z => K i ro uo ⟨g1_, z⟩
    by_cases c : (qI U19 7 v19_1.toInt.toNat).toInt ≤ v19_3.toInt
    · replace h := h.1 c
      replace K := fun i ro uo z => K i ro uo (Or.inl ⟨c, z⟩)
      exact ⟨_, _, K i0 _ _ ⟨rfl, rfl⟩, h⟩
    · replace h := h.2 c
      replace K := fun i ro uo z => K i ro uo (Or.inr ⟨c, z⟩)
      obtain ⟨g2_, h⟩ := h
      replace K := fun i ro uo z => K i ro uo ⟨g2_, z⟩
      obtain ⟨g3_, h⟩ := h
      replace K := fun i ro uo z => K i ro uo ⟨g3_, z⟩
      by_cases c : (f_letter U19 v19_1 v19_3).toInt = (f_letter U19 v19_2 v19_3).toInt
      · replace h := h.1 c
        replace K := fun i ro uo z => K i ro uo (Or.inl ⟨c, z⟩)
        obtain ⟨a16, ea16⟩ : ∃ x9 : Int32, x9 = (v19_3 + Int32.ofInt 1) := ⟨_, rfl⟩
        replace h := h a16 ea16
        replace K := fun i ro uo z => K i ro uo ⟨a16, ea16, z⟩
        exact ih i00 (fun i ro uo ⟨n8, z⟩ => K (i, n8) ro uo z) h
      · replace h := h.2 c
        replace K := fun i ro uo z => K i ro uo (Or.inr ⟨c, z⟩)
        exact ⟨_, _, K i0 _ _ ⟨rfl, rfl⟩, h⟩
set_option maxRecDepth 100000 in
theorem ru_isSame {S : MS} {x1 : Int32} {x2 : Int32} {Q : Int32 → MS → Prop} (h : w_isSame S x1 x2 Q) : ∃ ro uo, v_isSame S x1 x2 ro uo ∧ Q ro uo := by
  have i0 : Unit := ()
  have K : ∀ (i : Unit) (ro : Int32) (uo : MS), v_isSame S x1 x2 ro uo → v_isSame S x1 x2 ro uo := fun _ _ _ z => z
  unfold w_isSame at h
  obtain ⟨g4_, h⟩ := h
  replace K := fun i ro uo z => K i ro uo ⟨g4_, z⟩
  obtain ⟨g5_, h⟩ := h
  replace K := fun i ro uo z => K i ro uo ⟨g5_, z⟩
  by_cases c : (qI S 7 x1.toInt.toNat).toInt = (qI S 7 x2.toInt.toNat).toInt
  · replace h := h.1 c
    replace K := fun i ro uo z => K i ro uo (Or.inl ⟨c, z⟩)
    obtain ⟨n9, h⟩ := h
    exact ru_isSame_L19 n9 i0 K h
  · replace h := h.2 c
    replace K := fun i ro uo z => K i ro uo (Or.inr ⟨c, z⟩)
    exact ⟨_, _, K i0 _ _ ⟨rfl, rfl⟩, h⟩
set_option maxRecDepth 100000 in
theorem vw_isSame_L19 {ro : Int32} {uo : MS} : ∀ (n : Nat) {U19 : MS} {v19_1 : Int32} {v19_2 : Int32} {v19_3 : Int32}, v_isSame_L19 ro uo n U19 v19_1 v19_2 v19_3 → w_isSame_L19 (fun r u => r = ro ∧ u = uo) n U19 v19_1 v19_2 v19_3 := by
  intro n
  induction n with
  | zero => intro U19 v19_1 v19_2 v19_3 h; unfold v_isSame_L19 at h; exact h.elim
  | succ n ih =>
    intro U19 v19_1 v19_2 v19_3 h
    unfold v_isSame_L19 at h
    unfold w_isSame_L19
    obtain ⟨g9, h⟩ := h
    refine ⟨g9, ?_⟩
    rcases h with ⟨c, h⟩ | ⟨c, h⟩
    · refine ⟨fun _ => ?_, fun c2 => absurd c c2⟩
      exact ⟨h.1.symm, h.2.symm⟩
    · refine ⟨fun c2 => absurd c2 c, fun _ => ?_⟩
      obtain ⟨g9, h⟩ := h
      refine ⟨g9, ?_⟩
      obtain ⟨g9, h⟩ := h
      refine ⟨g9, ?_⟩
      rcases h with ⟨c, h⟩ | ⟨c, h⟩
      · refine ⟨fun _ => ?_, fun c2 => absurd c c2⟩
        obtain ⟨v9, e9, h⟩ := h
        intro x9 d9
        have c9 : v9 = x9 := e9.trans d9.symm
        subst c9
        exact ih h
      · refine ⟨fun c2 => absurd c2 c, fun _ => ?_⟩
        exact ⟨h.1.symm, h.2.symm⟩
set_option maxRecDepth 100000 in
theorem vz_isSame_L19 {ro : Int32} {uo : MS} {Q : Int32 → MS → Prop} : ∀ (n m : Nat) {U19 : MS} {v19_1 : Int32} {v19_2 : Int32} {v19_3 : Int32}, v_isSame_L19 ro uo n U19 v19_1 v19_2 v19_3 → w_isSame_L19 Q m U19 v19_1 v19_2 v19_3 → Q ro uo := by
  intro n
  induction n with
  | zero => intro m U19 v19_1 v19_2 v19_3 h; unfold v_isSame_L19 at h; exact h.elim
  | succ n ih =>
    intro m U19 v19_1 v19_2 v19_3 h w
    cases m with
    | zero => unfold w_isSame_L19 at w; exact w.elim
    | succ m =>
      unfold v_isSame_L19 at h
      unfold w_isSame_L19 at w
      replace h := h.2
      replace w := w.2
      rcases h with ⟨c, h⟩ | ⟨c, h⟩
      · replace w := w.1 c
        rw [h.1, h.2]
        exact w
      · replace w := w.2 c
        replace h := h.2
        replace w := w.2
        replace h := h.2
        replace w := w.2
        rcases h with ⟨c, h⟩ | ⟨c, h⟩
        · replace w := w.1 c
          obtain ⟨v9, e9, h⟩ := h
          replace w := w v9 e9
          exact ih m h w
        · replace w := w.2 c
          rw [h.1, h.2]
          exact w
set_option maxRecDepth 100000 in
theorem vw_isSame {S : MS} {x1 : Int32} {x2 : Int32} {ro : Int32} {uo : MS} (h : v_isSame S x1 x2 ro uo) : w_isSame S x1 x2 (fun r u => r = ro ∧ u = uo) := by
  unfold v_isSame at h
  unfold w_isSame
  obtain ⟨g9, h⟩ := h
  refine ⟨g9, ?_⟩
  obtain ⟨g9, h⟩ := h
  refine ⟨g9, ?_⟩
  rcases h with ⟨c, h⟩ | ⟨c, h⟩
  · refine ⟨fun _ => ?_, fun c2 => absurd c c2⟩
    obtain ⟨n9, h⟩ := h
    exact ⟨n9, vw_isSame_L19 n9 h⟩
  · refine ⟨fun c2 => absurd c2 c, fun _ => ?_⟩
    exact ⟨h.1.symm, h.2.symm⟩
set_option maxRecDepth 100000 in
theorem vz_isSame {S : MS} {x1 : Int32} {x2 : Int32} {ro : Int32} {uo : MS} {Q : Int32 → MS → Prop} (h : v_isSame S x1 x2 ro uo) (w : w_isSame S x1 x2 Q) : Q ro uo := by
  unfold v_isSame at h
  unfold w_isSame at w
  replace h := h.2
  replace w := w.2
  replace h := h.2
  replace w := w.2
  rcases h with ⟨c, h⟩ | ⟨c, h⟩
  · replace w := w.1 c
    obtain ⟨n9, h⟩ := h
    obtain ⟨n8, w⟩ := w
    exact vz_isSame_L19 n9 n8 h w
  · replace w := w.2 c
    rw [h.1, h.2]
    exact w
def v_member_J193 (oo : (Int32 × MS) ⊕ MS) (U193 : MS) (t193_0 : Int32) (v193_1 : Int32) (v193_7 : Int32) : Prop := ((∃ (S35 : MS), v_point U193 t193_0 v193_1 (.inl S35) ∧ (oo = .inl (v193_7, S35))) ∨ (∃ u9 : MS, v_point U193 t193_0 v193_1 (.inr u9) ∧ (oo = .inr u9)))
def v_member_J176 (oo : (Int32 × MS) ⊕ MS) (k108 : MS → Int32 → Int32 → Int32 → Int32 → Int32 → Int32 → Prop) (U176 : MS) (v176_1 : Int32) (v176_4 : Int32) (v176_5 : Int32) (v176_6 : Int32) (v176_7 : Int32) (v176_8 : Int32) : Prop := (∃ a50 : Int32, a50 = (v176_8 + Int32.ofInt 1) ∧ (k108 U176 v176_1 v176_4 v176_5 v176_6 v176_7 a50))
def v_member_L108 (oo : (Int32 × MS) ⊕ MS) : Nat → MS → Int32 → Int32 → Int32 → Int32 → Int32 → Int32 → Prop
  | 0, _, _, _, _, _, _, _ => False
  | n108 + 1, U108, v108_1, v108_4, v108_5, v108_6, v108_7, v108_8 => ((v108_6.toInt ≤ v108_8.toInt ∧ ((v108_7.toInt < 0 ∧ (v_member_J193 oo U108 0 v108_1 v108_7)) ∨ (¬ v108_7.toInt < 0 ∧ (v_member_J193 oo U108 1 v108_1 v108_7)))) ∨ (¬ v108_6.toInt ≤ v108_8.toInt ∧ (((0 : Int) ≤ v108_8.toInt ∧ v108_8.toInt < 48) ∧ (d_two U108 ((qI U108 9 v108_8.toInt.toNat) + (2 : Int32)) ∧ (((0 : Int) ≤ v108_4.toInt ∧ v108_4.toInt < 502) ∧ (∃ (r47 : Int32) (S48 : MS), v_isSame U108 (f_two U108 ((qI U108 9 v108_8.toInt.toNat) + (2 : Int32))) (qI U108 6 v108_4.toInt.toNat) r47 S48 ∧ ((r47.toInt = 0 ∧ (v_member_J176 oo (v_member_L108 oo n108) S48 v108_1 v108_4 v108_5 v108_6 v108_7 v108_8)) ∨ (¬ r47.toInt = 0 ∧ (((0 : Int) ≤ v108_8.toInt ∧ v108_8.toInt < 48) ∧ (d_two S48 ((qI S48 9 v108_8.toInt.toNat) + (4 : Int32)) ∧ (((0 : Int) ≤ v108_4.toInt ∧ v108_4.toInt < 502) ∧ (∃ (r61 : Int32) (S62 : MS), v_isSame S48 (f_two S48 ((qI S48 9 v108_8.toInt.toNat) + (4 : Int32))) (qI S48 7 v108_4.toInt.toNat) r61 S62 ∧ ((r61.toInt = 0 ∧ (v_member_J176 oo (v_member_L108 oo n108) S62 v108_1 v108_4 v108_5 v108_6 v108_7 v108_8)) ∨ (¬ r61.toInt = 0 ∧ (∃ a66 : Int32, a66 = (v108_8 - v108_5) ∧ (v_member_J176 oo (v_member_L108 oo n108) S62 v108_1 v108_4 v108_5 v108_6 a66 v108_8))))))))))))))))
def v_member_J99 (oo : (Int32 × MS) ⊕ MS) (U99 : MS) (t99_0 : Int32) (v99_1 : Int32) (v99_4 : Int32) (v99_5 : Int32) : Prop := (∃ n, v_member_L108 oo n U99 v99_1 v99_4 v99_5 t99_0 (-1) v99_5)
def v_member_J80 (oo : (Int32 × MS) ⊕ MS) (U80 : MS) (t80_0 : Int32) (v80_1 : Int32) (v80_2 : Int32) (v80_4 : Int32) : Prop := ((v80_2.toInt = 9 ∧ (v_member_J99 oo U80 (qI U80 0 22) v80_1 v80_4 t80_0)) ∨ (¬ v80_2.toInt = 9 ∧ (v_member_J99 oo U80 (qI U80 0 21) v80_1 v80_4 t80_0)))
def v_member (S : MS) (x1 : Int32) (x2 : Int32) (oo : (Int32 × MS) ⊕ MS) : Prop := (d_codeTwo S (x1 + (1 : Int32)) ∧ (∃ a6 : Int32, a6 = ((f_codeTwo S (x1 + (1 : Int32))) &&& (65535 : Int32)) ∧ (d_isEntry S a6 x2 ∧ ((∃ (S11 : MS), v_point S (f_isEntry S a6 x2) x1 (.inl S11) ∧ (((0 : Int) ≤ a6.toInt ∧ a6.toInt < 502) ∧ (∃ a15 : Int32, a15 = (qI S11 7 a6.toInt.toNat) ∧ (((0 : Int) ≤ a6.toInt ∧ a6.toInt < 502) ∧ (((0 : Int) ≤ (qI S11 6 a6.toInt.toNat).toInt ∧ (qI S11 6 a6.toInt.toNat).toInt < 502) ∧ (d_two S11 ((qI S11 0 20) + (2 : Int32)) ∧ (((0 : Int) ≤ (f_two S11 ((qI S11 0 20) + (2 : Int32))).toInt ∧ (f_two S11 ((qI S11 0 20) + (2 : Int32))).toInt < 502) ∧ (∃ (r27 : Int32) (S28 : MS), v_isSame S11 (qI S11 6 (((qI S11 6 a6.toInt.toNat).toInt).toNat)) (qI S11 6 (((f_two S11 ((qI S11 0 20) + (2 : Int32))).toInt).toNat)) r27 S28 ∧ ((∃ (S31 : MS), v_point S28 r27 x1 (.inl S31) ∧ ((x2.toInt = 9 ∧ (v_member_J80 oo S31 0 x1 x2 a15)) ∨ (¬ x2.toInt = 9 ∧ (v_member_J80 oo S31 (qI S31 0 22) x1 x2 a15)))) ∨ (∃ u9 : MS, v_point S28 r27 x1 (.inr u9) ∧ (oo = .inr u9))))))))))) ∨ (∃ u9 : MS, v_point S (f_isEntry S a6 x2) x1 (.inr u9) ∧ (oo = .inr u9))))))
set_option maxRecDepth 100000 in
theorem ru_member_J193 {ι : Type} {P : (Int32 × MS) ⊕ MS → Prop} {Q : Int32 → MS → Prop} {E : MS → Prop} {U193 : MS} {t193_0 : Int32} {v193_1 : Int32} {v193_7 : Int32} (i0 : ι) (K : ∀ (i : ι) (oo : (Int32 × MS) ⊕ MS), v_member_J193 oo U193 t193_0 v193_1 v193_7 → P oo) (h : w_member_J193 Q E U193 t193_0 v193_1 v193_7) : ∃ oo, P oo ∧ oQ Q E oo := by
  unfold w_member_J193 at h
  obtain ⟨Q9, E9, h0, h⟩ := h
  obtain ⟨o9, z9, g9⟩ := ru_point h0
  rcases o9 with S35 | u9
  · replace h := h.1 S35 g9
    replace K := fun i oo z => K i oo (Or.inl ⟨S35, z9, z⟩)
    exact ⟨.inl (_, _), K i0 _ rfl, h⟩
  · replace h := h.2 u9 g9
    replace K := fun i oo z => K i oo (Or.inr ⟨u9, z9, z⟩)
    exact ⟨.inr u9, K i0 _ rfl, h⟩
set_option maxRecDepth 100000 in
theorem ru_member_J176 {ι : Type} {P : (Int32 × MS) ⊕ MS → Prop} {Q : Int32 → MS → Prop} {E : MS → Prop} {k108 : MS → Int32 → Int32 → Int32 → Int32 → Int32 → Int32 → Prop} {k108v : ι → (Int32 × MS) ⊕ MS → MS → Int32 → Int32 → Int32 → Int32 → Int32 → Int32 → Prop} {U176 : MS} {v176_1 : Int32} {v176_4 : Int32} {v176_5 : Int32} {v176_6 : Int32} {v176_7 : Int32} {v176_8 : Int32} (i0 : ι) (hk108 : ∀ (u : MS) (z0 : Int32) (z1 : Int32) (z2 : Int32) (z3 : Int32) (z4 : Int32) (z5 : Int32), k108 u z0 z1 z2 z3 z4 z5 → (∀ (i : ι) (oo : (Int32 × MS) ⊕ MS), k108v i oo u z0 z1 z2 z3 z4 z5 → P oo) → ∃ oo, P oo ∧ oQ Q E oo) (K : ∀ (i : ι) (oo : (Int32 × MS) ⊕ MS), v_member_J176 oo (k108v i oo) U176 v176_1 v176_4 v176_5 v176_6 v176_7 v176_8 → P oo) (h : w_member_J176 Q E k108 U176 v176_1 v176_4 v176_5 v176_6 v176_7 v176_8) : ∃ oo, P oo ∧ oQ Q E oo := by
  unfold w_member_J176 at h
  obtain ⟨a50, ea50⟩ : ∃ x9 : Int32, x9 = (v176_8 + Int32.ofInt 1) := ⟨_, rfl⟩
  replace h := h a50 ea50
  replace K := fun i oo z => K i oo ⟨a50, ea50, z⟩
  exact hk108 _ _ _ _ _ _ _ h K
set_option maxRecDepth 100000 in
theorem ru_member_L108 {ι : Type} {P : (Int32 × MS) ⊕ MS → Prop} {Q : Int32 → MS → Prop} {E : MS → Prop} : ∀ (n : Nat) {U108 : MS} {v108_1 : Int32} {v108_4 : Int32} {v108_5 : Int32} {v108_6 : Int32} {v108_7 : Int32} {v108_8 : Int32} (i0 : ι), (∀ (i : ι) (oo : (Int32 × MS) ⊕ MS), (∃ n8, v_member_L108 oo n8 U108 v108_1 v108_4 v108_5 v108_6 v108_7 v108_8) → P oo) → w_member_L108 Q E n U108 v108_1 v108_4 v108_5 v108_6 v108_7 v108_8 → ∃ oo, P oo ∧ oQ Q E oo := by
  intro n
  induction n with
  | zero => intro U108 v108_1 v108_4 v108_5 v108_6 v108_7 v108_8 i0 K h; unfold w_member_L108 at h; exact h.elim
  | succ n ih =>
    intro U108 v108_1 v108_4 v108_5 v108_6 v108_7 v108_8 i0 K h
    unfold w_member_L108 at h
    replace K := fun (i : ι × Nat) oo (z : v_member_L108 oo (i.2 + 1) U108 v108_1 v108_4 v108_5 v108_6 v108_7 v108_8) => K i.1 oo ⟨i.2 + 1, z⟩
    have i00 := i0
    replace i0 : ι × Nat := (i0, 0)
    by_cases c : v108_6.toInt ≤ v108_8.toInt
    · replace h := h.1 c
      replace K := fun i oo z => K i oo (Or.inl ⟨c, z⟩)
      by_cases c : v108_7.toInt < 0
      · replace h := h.1 c
        replace K := fun i oo z => K i oo (Or.inl ⟨c, z⟩)
        exact ru_member_J193 i0 K h
      · replace h := h.2 c
        replace K := fun i oo z => K i oo (Or.inr ⟨c, z⟩)
        exact ru_member_J193 i0 K h
    · replace h := h.2 c
      replace K := fun i oo z => K i oo (Or.inr ⟨c, z⟩)
      obtain ⟨g1_, h⟩ := h
      replace K := fun i oo z => K i oo ⟨g1_, z⟩
      obtain ⟨g2_, h⟩ := h
      replace K := fun i oo z => K i oo ⟨g2_, z⟩
      obtain ⟨g3_, h⟩ := h
      replace K := fun i oo z => K i oo ⟨g3_, z⟩
      obtain ⟨Q9, h0, h⟩ := h
      obtain ⟨r47, S48, z9, g9⟩ := ru_isSame h0
      replace h := h r47 S48 g9
      replace K := fun i oo z => K i oo ⟨r47, S48, z9, z⟩
      by_cases c : r47.toInt = 0
      · replace h := h.1 c
        replace K := fun i oo z => K i oo (Or.inl ⟨c, z⟩)
        exact ru_member_J176 i0 (fun _ _ _ _ _ _ _ h K => ih i00 (fun i oo ⟨n8, z⟩ => K (i, n8) oo z) h) K h
      · replace h := h.2 c
        replace K := fun i oo z => K i oo (Or.inr ⟨c, z⟩)
        obtain ⟨g4_, h⟩ := h
        replace K := fun i oo z => K i oo ⟨g4_, z⟩
        obtain ⟨g5_, h⟩ := h
        replace K := fun i oo z => K i oo ⟨g5_, z⟩
        obtain ⟨g6_, h⟩ := h
        replace K := fun i oo z => K i oo ⟨g6_, z⟩
        obtain ⟨Q9, h0, h⟩ := h
        obtain ⟨r61, S62, z9, g9⟩ := ru_isSame h0
        replace h := h r61 S62 g9
        replace K := fun i oo z => K i oo ⟨r61, S62, z9, z⟩
        by_cases c : r61.toInt = 0
        · replace h := h.1 c
          replace K := fun i oo z => K i oo (Or.inl ⟨c, z⟩)
          exact ru_member_J176 i0 (fun _ _ _ _ _ _ _ h K => ih i00 (fun i oo ⟨n8, z⟩ => K (i, n8) oo z) h) K h
        · replace h := h.2 c
          replace K := fun i oo z => K i oo (Or.inr ⟨c, z⟩)
          obtain ⟨a66, ea66⟩ : ∃ x9 : Int32, x9 = (v108_8 - v108_5) := ⟨_, rfl⟩
          replace h := h a66 ea66
          replace K := fun i oo z => K i oo ⟨a66, ea66, z⟩
          exact ru_member_J176 i0 (fun _ _ _ _ _ _ _ h K => ih i00 (fun i oo ⟨n8, z⟩ => K (i, n8) oo z) h) K h
set_option maxRecDepth 100000 in
theorem ru_member_J99 {ι : Type} {P : (Int32 × MS) ⊕ MS → Prop} {Q : Int32 → MS → Prop} {E : MS → Prop} {U99 : MS} {t99_0 : Int32} {v99_1 : Int32} {v99_4 : Int32} {v99_5 : Int32} (i0 : ι) (K : ∀ (i : ι) (oo : (Int32 × MS) ⊕ MS), v_member_J99 oo U99 t99_0 v99_1 v99_4 v99_5 → P oo) (h : w_member_J99 Q E U99 t99_0 v99_1 v99_4 v99_5) : ∃ oo, P oo ∧ oQ Q E oo := by
  unfold w_member_J99 at h
  obtain ⟨n9, h⟩ := h
  exact ru_member_L108 n9 i0 K h
set_option maxRecDepth 100000 in
theorem ru_member_J80 {ι : Type} {P : (Int32 × MS) ⊕ MS → Prop} {Q : Int32 → MS → Prop} {E : MS → Prop} {U80 : MS} {t80_0 : Int32} {v80_1 : Int32} {v80_2 : Int32} {v80_4 : Int32} (i0 : ι) (K : ∀ (i : ι) (oo : (Int32 × MS) ⊕ MS), v_member_J80 oo U80 t80_0 v80_1 v80_2 v80_4 → P oo) (h : w_member_J80 Q E U80 t80_0 v80_1 v80_2 v80_4) : ∃ oo, P oo ∧ oQ Q E oo := by
  unfold w_member_J80 at h
  by_cases c : v80_2.toInt = 9
  · replace h := h.1 c
    replace K := fun i oo z => K i oo (Or.inl ⟨c, z⟩)
    exact ru_member_J99 i0 K h
  · replace h := h.2 c
    replace K := fun i oo z => K i oo (Or.inr ⟨c, z⟩)
    exact ru_member_J99 i0 K h
set_option maxRecDepth 100000 in
theorem ru_member {S : MS} {x1 : Int32} {x2 : Int32} {Q : Int32 → MS → Prop} {E : MS → Prop} (h : w_member S x1 x2 Q E) : ∃ oo, v_member S x1 x2 oo ∧ oQ Q E oo := by
  have i0 : Unit := ()
  have K : ∀ (i : Unit) (oo : (Int32 × MS) ⊕ MS), v_member S x1 x2 oo → v_member S x1 x2 oo := fun _ _ z => z
  unfold w_member at h
  obtain ⟨g7_, h⟩ := h
  replace K := fun i oo z => K i oo ⟨g7_, z⟩
  obtain ⟨a6, ea6⟩ : ∃ x9 : Int32, x9 = ((f_codeTwo S (x1 + (1 : Int32))) &&& (65535 : Int32)) := ⟨_, rfl⟩
  replace h := h a6 ea6
  replace K := fun i oo z => K i oo ⟨a6, ea6, z⟩
  obtain ⟨g8_, h⟩ := h
  replace K := fun i oo z => K i oo ⟨g8_, z⟩
  obtain ⟨Q9, E9, h0, h⟩ := h
  obtain ⟨o9, z9, g9⟩ := ru_point h0
  rcases o9 with S11 | u9
  · replace h := h.1 S11 g9
    replace K := fun i oo z => K i oo (Or.inl ⟨S11, z9, z⟩)
    obtain ⟨g9_, h⟩ := h
    replace K := fun i oo z => K i oo ⟨g9_, z⟩
    obtain ⟨a15, ea15⟩ : ∃ x9 : Int32, x9 = (qI S11 7 a6.toInt.toNat) := ⟨_, rfl⟩
    replace h := h a15 ea15
    replace K := fun i oo z => K i oo ⟨a15, ea15, z⟩
    obtain ⟨g10_, h⟩ := h
    replace K := fun i oo z => K i oo ⟨g10_, z⟩
    obtain ⟨g11_, h⟩ := h
    replace K := fun i oo z => K i oo ⟨g11_, z⟩
    obtain ⟨g12_, h⟩ := h
    replace K := fun i oo z => K i oo ⟨g12_, z⟩
    obtain ⟨g13_, h⟩ := h
    replace K := fun i oo z => K i oo ⟨g13_, z⟩
    obtain ⟨Q9, h0, h⟩ := h
    obtain ⟨r27, S28, z9, g9⟩ := ru_isSame h0
    replace h := h r27 S28 g9
    replace K := fun i oo z => K i oo ⟨r27, S28, z9, z⟩
    obtain ⟨Q9, E9, h0, h⟩ := h
    obtain ⟨o9, z9, g9⟩ := ru_point h0
    rcases o9 with S31 | u9
    · replace h := h.1 S31 g9
      replace K := fun i oo z => K i oo (Or.inl ⟨S31, z9, z⟩)
      by_cases c : x2.toInt = 9
      · replace h := h.1 c
        replace K := fun i oo z => K i oo (Or.inl ⟨c, z⟩)
        exact ru_member_J80 i0 K h
      · replace h := h.2 c
        replace K := fun i oo z => K i oo (Or.inr ⟨c, z⟩)
        exact ru_member_J80 i0 K h
    · replace h := h.2 u9 g9
      replace K := fun i oo z => K i oo (Or.inr ⟨u9, z9, z⟩)
      exact ⟨.inr u9, K i0 _ rfl, h⟩
  · replace h := h.2 u9 g9
    replace K := fun i oo z => K i oo (Or.inr ⟨u9, z9, z⟩)
    exact ⟨.inr u9, K i0 _ rfl, h⟩
set_option maxRecDepth 100000 in
theorem vw_member_J193 {oo : (Int32 × MS) ⊕ MS} {U193 : MS} {t193_0 : Int32} {v193_1 : Int32} {v193_7 : Int32} (h : v_member_J193 oo U193 t193_0 v193_1 v193_7) : w_member_J193 (fun r u => oo = .inl (r, u)) (fun u => oo = .inr u) U193 t193_0 v193_1 v193_7 := by
  unfold v_member_J193 at h
  unfold w_member_J193
  rcases h with ⟨q9, z9, h⟩ | ⟨q9, z9, h⟩
  · refine ⟨_, _, vw_point z9, ?_, ?_⟩
    · intro q8 d9
      injection d9 with d9
      subst d9
      exact h
    · intro q8 d9
      exact nomatch d9
  · refine ⟨_, _, vw_point z9, ?_, ?_⟩
    · intro q8 d9
      exact nomatch d9
    · intro q8 d9
      injection d9 with d9
      subst d9
      exact h
set_option maxRecDepth 100000 in
theorem vz_member_J193 {oo : (Int32 × MS) ⊕ MS} {Q : Int32 → MS → Prop} {E : MS → Prop} {U193 : MS} {t193_0 : Int32} {v193_1 : Int32} {v193_7 : Int32} (h : v_member_J193 oo U193 t193_0 v193_1 v193_7) (w : w_member_J193 Q E U193 t193_0 v193_1 v193_7) : oQ Q E oo := by
  unfold v_member_J193 at h
  unfold w_member_J193 at w
  obtain ⟨Q9, E9, w0, w⟩ := w
  rcases h with ⟨q9, z9, h⟩ | ⟨q9, z9, h⟩
  · replace w := w.1 q9 (vz_point z9 w0)
    rw [h]
    exact w
  · replace w := w.2 q9 (vz_point z9 w0)
    rw [h]
    exact w
set_option maxRecDepth 100000 in
theorem vw_member_J176 {oo : (Int32 × MS) ⊕ MS} {k108 k108v : MS → Int32 → Int32 → Int32 → Int32 → Int32 → Int32 → Prop} {U176 : MS} {v176_1 : Int32} {v176_4 : Int32} {v176_5 : Int32} {v176_6 : Int32} {v176_7 : Int32} {v176_8 : Int32} (hk108 : ∀ (u : MS) (z0 : Int32) (z1 : Int32) (z2 : Int32) (z3 : Int32) (z4 : Int32) (z5 : Int32), k108v u z0 z1 z2 z3 z4 z5 → k108 u z0 z1 z2 z3 z4 z5) (h : v_member_J176 oo k108v U176 v176_1 v176_4 v176_5 v176_6 v176_7 v176_8) : w_member_J176 (fun r u => oo = .inl (r, u)) (fun u => oo = .inr u) k108 U176 v176_1 v176_4 v176_5 v176_6 v176_7 v176_8 := by
  unfold v_member_J176 at h
  unfold w_member_J176
  obtain ⟨v9, e9, h⟩ := h
  intro x9 d9
  have c9 : v9 = x9 := e9.trans d9.symm
  subst c9
  exact hk108 _ _ _ _ _ _ _ h
set_option maxRecDepth 100000 in
theorem vz_member_J176 {oo : (Int32 × MS) ⊕ MS} {Q : Int32 → MS → Prop} {E : MS → Prop} {k108 k108v : MS → Int32 → Int32 → Int32 → Int32 → Int32 → Int32 → Prop} {U176 : MS} {v176_1 : Int32} {v176_4 : Int32} {v176_5 : Int32} {v176_6 : Int32} {v176_7 : Int32} {v176_8 : Int32} (hk108 : ∀ (u : MS) (z0 : Int32) (z1 : Int32) (z2 : Int32) (z3 : Int32) (z4 : Int32) (z5 : Int32), k108v u z0 z1 z2 z3 z4 z5 → k108 u z0 z1 z2 z3 z4 z5 → oQ Q E oo) (h : v_member_J176 oo k108v U176 v176_1 v176_4 v176_5 v176_6 v176_7 v176_8) (w : w_member_J176 Q E k108 U176 v176_1 v176_4 v176_5 v176_6 v176_7 v176_8) : oQ Q E oo := by
  unfold v_member_J176 at h
  unfold w_member_J176 at w
  obtain ⟨v9, e9, h⟩ := h
  replace w := w v9 e9
  exact hk108 _ _ _ _ _ _ _ h w
set_option maxRecDepth 100000 in
theorem vw_member_L108 {oo : (Int32 × MS) ⊕ MS} : ∀ (n : Nat) {U108 : MS} {v108_1 : Int32} {v108_4 : Int32} {v108_5 : Int32} {v108_6 : Int32} {v108_7 : Int32} {v108_8 : Int32}, v_member_L108 oo n U108 v108_1 v108_4 v108_5 v108_6 v108_7 v108_8 → w_member_L108 (fun r u => oo = .inl (r, u)) (fun u => oo = .inr u) n U108 v108_1 v108_4 v108_5 v108_6 v108_7 v108_8 := by
  intro n
  induction n with
  | zero => intro U108 v108_1 v108_4 v108_5 v108_6 v108_7 v108_8 h; unfold v_member_L108 at h; exact h.elim
  | succ n ih =>
    intro U108 v108_1 v108_4 v108_5 v108_6 v108_7 v108_8 h
    unfold v_member_L108 at h
    unfold w_member_L108
    rcases h with ⟨c, h⟩ | ⟨c, h⟩
    · refine ⟨fun _ => ?_, fun c2 => absurd c c2⟩
      rcases h with ⟨c, h⟩ | ⟨c, h⟩
      · refine ⟨fun _ => ?_, fun c2 => absurd c c2⟩
        exact vw_member_J193 h
      · refine ⟨fun c2 => absurd c2 c, fun _ => ?_⟩
        exact vw_member_J193 h
    · refine ⟨fun c2 => absurd c2 c, fun _ => ?_⟩
      obtain ⟨g9, h⟩ := h
      refine ⟨g9, ?_⟩
      obtain ⟨g9, h⟩ := h
      refine ⟨g9, ?_⟩
      obtain ⟨g9, h⟩ := h
      refine ⟨g9, ?_⟩
      obtain ⟨p9, q9, z9, h⟩ := h
      refine ⟨_, vw_isSame z9, ?_⟩
      rintro p8 q8 ⟨d8, d9⟩
      subst d8
      subst d9
      rcases h with ⟨c, h⟩ | ⟨c, h⟩
      · refine ⟨fun _ => ?_, fun c2 => absurd c c2⟩
        exact vw_member_J176 (fun _ _ _ _ _ _ _ h => ih h) h
      · refine ⟨fun c2 => absurd c2 c, fun _ => ?_⟩
        obtain ⟨g9, h⟩ := h
        refine ⟨g9, ?_⟩
        obtain ⟨g9, h⟩ := h
        refine ⟨g9, ?_⟩
        obtain ⟨g9, h⟩ := h
        refine ⟨g9, ?_⟩
        obtain ⟨p9, q9, z9, h⟩ := h
        refine ⟨_, vw_isSame z9, ?_⟩
        rintro p8 q8 ⟨d8, d9⟩
        subst d8
        subst d9
        rcases h with ⟨c, h⟩ | ⟨c, h⟩
        · refine ⟨fun _ => ?_, fun c2 => absurd c c2⟩
          exact vw_member_J176 (fun _ _ _ _ _ _ _ h => ih h) h
        · refine ⟨fun c2 => absurd c2 c, fun _ => ?_⟩
          obtain ⟨v9, e9, h⟩ := h
          intro x9 d9
          have c9 : v9 = x9 := e9.trans d9.symm
          subst c9
          exact vw_member_J176 (fun _ _ _ _ _ _ _ h => ih h) h
set_option maxRecDepth 100000 in
theorem vz_member_L108 {oo : (Int32 × MS) ⊕ MS} {Q : Int32 → MS → Prop} {E : MS → Prop} : ∀ (n m : Nat) {U108 : MS} {v108_1 : Int32} {v108_4 : Int32} {v108_5 : Int32} {v108_6 : Int32} {v108_7 : Int32} {v108_8 : Int32}, v_member_L108 oo n U108 v108_1 v108_4 v108_5 v108_6 v108_7 v108_8 → w_member_L108 Q E m U108 v108_1 v108_4 v108_5 v108_6 v108_7 v108_8 → oQ Q E oo := by
  intro n
  induction n with
  | zero => intro m U108 v108_1 v108_4 v108_5 v108_6 v108_7 v108_8 h; unfold v_member_L108 at h; exact h.elim
  | succ n ih =>
    intro m U108 v108_1 v108_4 v108_5 v108_6 v108_7 v108_8 h w
    cases m with
    | zero => unfold w_member_L108 at w; exact w.elim
    | succ m =>
      unfold v_member_L108 at h
      unfold w_member_L108 at w
      rcases h with ⟨c, h⟩ | ⟨c, h⟩
      · replace w := w.1 c
        rcases h with ⟨c, h⟩ | ⟨c, h⟩
        · replace w := w.1 c
          exact vz_member_J193 h w
        · replace w := w.2 c
          exact vz_member_J193 h w
      · replace w := w.2 c
        replace h := h.2
        replace w := w.2
        replace h := h.2
        replace w := w.2
        replace h := h.2
        replace w := w.2
        obtain ⟨p9, q9, z9, h⟩ := h
        obtain ⟨Q9, w0, w⟩ := w
        replace w := w p9 q9 (vz_isSame z9 w0)
        rcases h with ⟨c, h⟩ | ⟨c, h⟩
        · replace w := w.1 c
          exact vz_member_J176 (fun _ _ _ _ _ _ _ h w => ih m h w) h w
        · replace w := w.2 c
          replace h := h.2
          replace w := w.2
          replace h := h.2
          replace w := w.2
          replace h := h.2
          replace w := w.2
          obtain ⟨p9, q9, z9, h⟩ := h
          obtain ⟨Q9, w0, w⟩ := w
          replace w := w p9 q9 (vz_isSame z9 w0)
          rcases h with ⟨c, h⟩ | ⟨c, h⟩
          · replace w := w.1 c
            exact vz_member_J176 (fun _ _ _ _ _ _ _ h w => ih m h w) h w
          · replace w := w.2 c
            obtain ⟨v9, e9, h⟩ := h
            replace w := w v9 e9
            exact vz_member_J176 (fun _ _ _ _ _ _ _ h w => ih m h w) h w
set_option maxRecDepth 100000 in
theorem vw_member_J99 {oo : (Int32 × MS) ⊕ MS} {U99 : MS} {t99_0 : Int32} {v99_1 : Int32} {v99_4 : Int32} {v99_5 : Int32} (h : v_member_J99 oo U99 t99_0 v99_1 v99_4 v99_5) : w_member_J99 (fun r u => oo = .inl (r, u)) (fun u => oo = .inr u) U99 t99_0 v99_1 v99_4 v99_5 := by
  unfold v_member_J99 at h
  unfold w_member_J99
  obtain ⟨n9, h⟩ := h
  exact ⟨n9, vw_member_L108 n9 h⟩
set_option maxRecDepth 100000 in
theorem vz_member_J99 {oo : (Int32 × MS) ⊕ MS} {Q : Int32 → MS → Prop} {E : MS → Prop} {U99 : MS} {t99_0 : Int32} {v99_1 : Int32} {v99_4 : Int32} {v99_5 : Int32} (h : v_member_J99 oo U99 t99_0 v99_1 v99_4 v99_5) (w : w_member_J99 Q E U99 t99_0 v99_1 v99_4 v99_5) : oQ Q E oo := by
  unfold v_member_J99 at h
  unfold w_member_J99 at w
  obtain ⟨n9, h⟩ := h
  obtain ⟨n8, w⟩ := w
  exact vz_member_L108 n9 n8 h w
set_option maxRecDepth 100000 in
theorem vw_member_J80 {oo : (Int32 × MS) ⊕ MS} {U80 : MS} {t80_0 : Int32} {v80_1 : Int32} {v80_2 : Int32} {v80_4 : Int32} (h : v_member_J80 oo U80 t80_0 v80_1 v80_2 v80_4) : w_member_J80 (fun r u => oo = .inl (r, u)) (fun u => oo = .inr u) U80 t80_0 v80_1 v80_2 v80_4 := by
  unfold v_member_J80 at h
  unfold w_member_J80
  rcases h with ⟨c, h⟩ | ⟨c, h⟩
  · refine ⟨fun _ => ?_, fun c2 => absurd c c2⟩
    exact vw_member_J99 h
  · refine ⟨fun c2 => absurd c2 c, fun _ => ?_⟩
    exact vw_member_J99 h
set_option maxRecDepth 100000 in
theorem vz_member_J80 {oo : (Int32 × MS) ⊕ MS} {Q : Int32 → MS → Prop} {E : MS → Prop} {U80 : MS} {t80_0 : Int32} {v80_1 : Int32} {v80_2 : Int32} {v80_4 : Int32} (h : v_member_J80 oo U80 t80_0 v80_1 v80_2 v80_4) (w : w_member_J80 Q E U80 t80_0 v80_1 v80_2 v80_4) : oQ Q E oo := by
  unfold v_member_J80 at h
  unfold w_member_J80 at w
  rcases h with ⟨c, h⟩ | ⟨c, h⟩
  · replace w := w.1 c
    exact vz_member_J99 h w
  · replace w := w.2 c
    exact vz_member_J99 h w
set_option maxRecDepth 100000 in
theorem vw_member {S : MS} {x1 : Int32} {x2 : Int32} {oo : (Int32 × MS) ⊕ MS} (h : v_member S x1 x2 oo) : w_member S x1 x2 (fun r u => oo = .inl (r, u)) (fun u => oo = .inr u) := by
  unfold v_member at h
  unfold w_member
  obtain ⟨g9, h⟩ := h
  refine ⟨g9, ?_⟩
  obtain ⟨v9, e9, h⟩ := h
  intro x9 d9
  have c9 : v9 = x9 := e9.trans d9.symm
  subst c9
  obtain ⟨g9, h⟩ := h
  refine ⟨g9, ?_⟩
  rcases h with ⟨q9, z9, h⟩ | ⟨q9, z9, h⟩
  · refine ⟨_, _, vw_point z9, ?_, ?_⟩
    · intro q8 d9
      injection d9 with d9
      subst d9
      obtain ⟨g9, h⟩ := h
      refine ⟨g9, ?_⟩
      obtain ⟨v9, e9, h⟩ := h
      intro x9 d9
      have c9 : v9 = x9 := e9.trans d9.symm
      subst c9
      obtain ⟨g9, h⟩ := h
      refine ⟨g9, ?_⟩
      obtain ⟨g9, h⟩ := h
      refine ⟨g9, ?_⟩
      obtain ⟨g9, h⟩ := h
      refine ⟨g9, ?_⟩
      obtain ⟨g9, h⟩ := h
      refine ⟨g9, ?_⟩
      obtain ⟨p9, q9, z9, h⟩ := h
      refine ⟨_, vw_isSame z9, ?_⟩
      rintro p8 q8 ⟨d8, d9⟩
      subst d8
      subst d9
      rcases h with ⟨q9, z9, h⟩ | ⟨q9, z9, h⟩
      · refine ⟨_, _, vw_point z9, ?_, ?_⟩
        · intro q8 d9
          injection d9 with d9
          subst d9
          rcases h with ⟨c, h⟩ | ⟨c, h⟩
          · refine ⟨fun _ => ?_, fun c2 => absurd c c2⟩
            exact vw_member_J80 h
          · refine ⟨fun c2 => absurd c2 c, fun _ => ?_⟩
            exact vw_member_J80 h
        · intro q8 d9
          exact nomatch d9
      · refine ⟨_, _, vw_point z9, ?_, ?_⟩
        · intro q8 d9
          exact nomatch d9
        · intro q8 d9
          injection d9 with d9
          subst d9
          exact h
    · intro q8 d9
      exact nomatch d9
  · refine ⟨_, _, vw_point z9, ?_, ?_⟩
    · intro q8 d9
      exact nomatch d9
    · intro q8 d9
      injection d9 with d9
      subst d9
      exact h
set_option maxRecDepth 100000 in
theorem vz_member {S : MS} {x1 : Int32} {x2 : Int32} {oo : (Int32 × MS) ⊕ MS} {Q : Int32 → MS → Prop} {E : MS → Prop} (h : v_member S x1 x2 oo) (w : w_member S x1 x2 Q E) : oQ Q E oo := by
  unfold v_member at h
  unfold w_member at w
  replace h := h.2
  replace w := w.2
  obtain ⟨v9, e9, h⟩ := h
  replace w := w v9 e9
  replace h := h.2
  replace w := w.2
  obtain ⟨Q9, E9, w0, w⟩ := w
  rcases h with ⟨q9, z9, h⟩ | ⟨q9, z9, h⟩
  · replace w := w.1 q9 (vz_point z9 w0)
    replace h := h.2
    replace w := w.2
    obtain ⟨v9, e9, h⟩ := h
    replace w := w v9 e9
    replace h := h.2
    replace w := w.2
    replace h := h.2
    replace w := w.2
    replace h := h.2
    replace w := w.2
    replace h := h.2
    replace w := w.2
    obtain ⟨p9, q9, z9, h⟩ := h
    obtain ⟨Q9, w0, w⟩ := w
    replace w := w p9 q9 (vz_isSame z9 w0)
    obtain ⟨Q9, E9, w0, w⟩ := w
    rcases h with ⟨q9, z9, h⟩ | ⟨q9, z9, h⟩
    · replace w := w.1 q9 (vz_point z9 w0)
      rcases h with ⟨c, h⟩ | ⟨c, h⟩
      · replace w := w.1 c
        exact vz_member_J80 h w
      · replace w := w.2 c
        exact vz_member_J80 h w
    · replace w := w.2 q9 (vz_point z9 w0)
      rw [h]
      exact w
  · replace w := w.2 q9 (vz_point z9 w0)
    rw [h]
    exact w
def v_pushed (S : MS) (x1 : Int32) (x2 : Int32) (x3 : Int32) (oo : MS ⊕ MS) : Prop := (d_isEntry S x2 x3 ∧ ((∃ (S5 : MS), v_point S (f_isEntry S x2 x3) x1 (.inl S5) ∧ ((x3.toInt = 3 ∧ (((0 : Int) ≤ x2.toInt ∧ x2.toInt < 502) ∧ (∃ (S18 : MS), v_row S5 (18 : Int32) ((qJ S5 8 x2.toInt.toNat).toInt32) (0 : Int32) S18 ∧ (oo = .inl S18)))) ∨ (¬ x3.toInt = 3 ∧ (((0 : Int) ≤ x2.toInt ∧ x2.toInt < 502) ∧ (((0 : Int) ≤ x2.toInt ∧ x2.toInt < 502) ∧ (∃ (S13 : MS), v_row S5 (20 : Int32) (((qJ S5 8 x2.toInt.toNat) >>> ((32 : Int32).toInt64 &&& 63)).toInt32) ((qJ S5 8 x2.toInt.toNat).toInt32) S13 ∧ (oo = .inl S13))))))) ∨ (∃ u9 : MS, v_point S (f_isEntry S x2 x3) x1 (.inr u9) ∧ (oo = .inr u9))))
set_option maxRecDepth 100000 in
theorem ru_pushed {S : MS} {x1 : Int32} {x2 : Int32} {x3 : Int32} {Q : MS → Prop} {E : MS → Prop} (h : w_pushed S x1 x2 x3 Q E) : ∃ oo, v_pushed S x1 x2 x3 oo ∧ oV Q E oo := by
  have i0 : Unit := ()
  have K : ∀ (i : Unit) (oo : MS ⊕ MS), v_pushed S x1 x2 x3 oo → v_pushed S x1 x2 x3 oo := fun _ _ z => z
  unfold w_pushed at h
  obtain ⟨g1_, h⟩ := h
  replace K := fun i oo z => K i oo ⟨g1_, z⟩
  obtain ⟨Q9, E9, h0, h⟩ := h
  obtain ⟨o9, z9, g9⟩ := ru_point h0
  rcases o9 with S5 | u9
  · replace h := h.1 S5 g9
    replace K := fun i oo z => K i oo (Or.inl ⟨S5, z9, z⟩)
    by_cases c : x3.toInt = 3
    · replace h := h.1 c
      replace K := fun i oo z => K i oo (Or.inl ⟨c, z⟩)
      obtain ⟨g2_, h⟩ := h
      replace K := fun i oo z => K i oo ⟨g2_, z⟩
      obtain ⟨Q9, h0, h⟩ := h
      obtain ⟨S18, z9, g9⟩ := ru_row h0
      replace h := h S18 g9
      replace K := fun i oo z => K i oo ⟨S18, z9, z⟩
      exact ⟨.inl _, K i0 _ rfl, h⟩
    · replace h := h.2 c
      replace K := fun i oo z => K i oo (Or.inr ⟨c, z⟩)
      obtain ⟨g3_, h⟩ := h
      replace K := fun i oo z => K i oo ⟨g3_, z⟩
      obtain ⟨g4_, h⟩ := h
      replace K := fun i oo z => K i oo ⟨g4_, z⟩
      obtain ⟨Q9, h0, h⟩ := h
      obtain ⟨S13, z9, g9⟩ := ru_row h0
      replace h := h S13 g9
      replace K := fun i oo z => K i oo ⟨S13, z9, z⟩
      exact ⟨.inl _, K i0 _ rfl, h⟩
  · replace h := h.2 u9 g9
    replace K := fun i oo z => K i oo (Or.inr ⟨u9, z9, z⟩)
    exact ⟨.inr u9, K i0 _ rfl, h⟩
set_option maxRecDepth 100000 in
theorem vw_pushed {S : MS} {x1 : Int32} {x2 : Int32} {x3 : Int32} {oo : MS ⊕ MS} (h : v_pushed S x1 x2 x3 oo) : w_pushed S x1 x2 x3 (fun u => oo = .inl u) (fun u => oo = .inr u) := by
  unfold v_pushed at h
  unfold w_pushed
  obtain ⟨g9, h⟩ := h
  refine ⟨g9, ?_⟩
  rcases h with ⟨q9, z9, h⟩ | ⟨q9, z9, h⟩
  · refine ⟨_, _, vw_point z9, ?_, ?_⟩
    · intro q8 d9
      injection d9 with d9
      subst d9
      rcases h with ⟨c, h⟩ | ⟨c, h⟩
      · refine ⟨fun _ => ?_, fun c2 => absurd c c2⟩
        obtain ⟨g9, h⟩ := h
        refine ⟨g9, ?_⟩
        obtain ⟨q9, z9, h⟩ := h
        refine ⟨_, vw_row z9, ?_⟩
        intro q8 d9
        subst d9
        exact h
      · refine ⟨fun c2 => absurd c2 c, fun _ => ?_⟩
        obtain ⟨g9, h⟩ := h
        refine ⟨g9, ?_⟩
        obtain ⟨g9, h⟩ := h
        refine ⟨g9, ?_⟩
        obtain ⟨q9, z9, h⟩ := h
        refine ⟨_, vw_row z9, ?_⟩
        intro q8 d9
        subst d9
        exact h
    · intro q8 d9
      exact nomatch d9
  · refine ⟨_, _, vw_point z9, ?_, ?_⟩
    · intro q8 d9
      exact nomatch d9
    · intro q8 d9
      injection d9 with d9
      subst d9
      exact h
set_option maxRecDepth 100000 in
theorem vz_pushed {S : MS} {x1 : Int32} {x2 : Int32} {x3 : Int32} {oo : MS ⊕ MS} {Q : MS → Prop} {E : MS → Prop} (h : v_pushed S x1 x2 x3 oo) (w : w_pushed S x1 x2 x3 Q E) : oV Q E oo := by
  unfold v_pushed at h
  unfold w_pushed at w
  replace h := h.2
  replace w := w.2
  obtain ⟨Q9, E9, w0, w⟩ := w
  rcases h with ⟨q9, z9, h⟩ | ⟨q9, z9, h⟩
  · replace w := w.1 q9 (vz_point z9 w0)
    rcases h with ⟨c, h⟩ | ⟨c, h⟩
    · replace w := w.1 c
      replace h := h.2
      replace w := w.2
      obtain ⟨q9, z9, h⟩ := h
      obtain ⟨Q9, w0, w⟩ := w
      replace w := w q9 (vz_row z9 w0)
      rw [h]
      exact w
    · replace w := w.2 c
      replace h := h.2
      replace w := w.2
      replace h := h.2
      replace w := w.2
      obtain ⟨q9, z9, h⟩ := h
      obtain ⟨Q9, w0, w⟩ := w
      replace w := w q9 (vz_row z9 w0)
      rw [h]
      exact w
  · replace w := w.2 q9 (vz_point z9 w0)
    rw [h]
    exact w
def v_target (S : MS) (x1 : Int32) (x2 : Int32) (oo : (Int32 × MS) ⊕ MS) : Prop := (d_isStart S (x1 + x2) ∧ ((∃ (S6 : MS), v_point S (f_isStart S (x1 + x2)) x1 (.inl S6) ∧ (((0 : Int) ≤ (x1 + x2).toInt ∧ (x1 + x2).toInt < 1201) ∧ (oo = .inl ((qI S6 18 (((x1 + x2).toInt).toNat)), S6)))) ∨ (∃ u9 : MS, v_point S (f_isStart S (x1 + x2)) x1 (.inr u9) ∧ (oo = .inr u9))))
set_option maxRecDepth 100000 in
theorem ru_target {S : MS} {x1 : Int32} {x2 : Int32} {Q : Int32 → MS → Prop} {E : MS → Prop} (h : w_target S x1 x2 Q E) : ∃ oo, v_target S x1 x2 oo ∧ oQ Q E oo := by
  have i0 : Unit := ()
  have K : ∀ (i : Unit) (oo : (Int32 × MS) ⊕ MS), v_target S x1 x2 oo → v_target S x1 x2 oo := fun _ _ z => z
  unfold w_target at h
  obtain ⟨g1_, h⟩ := h
  replace K := fun i oo z => K i oo ⟨g1_, z⟩
  obtain ⟨Q9, E9, h0, h⟩ := h
  obtain ⟨o9, z9, g9⟩ := ru_point h0
  rcases o9 with S6 | u9
  · replace h := h.1 S6 g9
    replace K := fun i oo z => K i oo (Or.inl ⟨S6, z9, z⟩)
    obtain ⟨g2_, h⟩ := h
    replace K := fun i oo z => K i oo ⟨g2_, z⟩
    exact ⟨.inl (_, _), K i0 _ rfl, h⟩
  · replace h := h.2 u9 g9
    replace K := fun i oo z => K i oo (Or.inr ⟨u9, z9, z⟩)
    exact ⟨.inr u9, K i0 _ rfl, h⟩
set_option maxRecDepth 100000 in
theorem vw_target {S : MS} {x1 : Int32} {x2 : Int32} {oo : (Int32 × MS) ⊕ MS} (h : v_target S x1 x2 oo) : w_target S x1 x2 (fun r u => oo = .inl (r, u)) (fun u => oo = .inr u) := by
  unfold v_target at h
  unfold w_target
  obtain ⟨g9, h⟩ := h
  refine ⟨g9, ?_⟩
  rcases h with ⟨q9, z9, h⟩ | ⟨q9, z9, h⟩
  · refine ⟨_, _, vw_point z9, ?_, ?_⟩
    · intro q8 d9
      injection d9 with d9
      subst d9
      obtain ⟨g9, h⟩ := h
      refine ⟨g9, ?_⟩
      exact h
    · intro q8 d9
      exact nomatch d9
  · refine ⟨_, _, vw_point z9, ?_, ?_⟩
    · intro q8 d9
      exact nomatch d9
    · intro q8 d9
      injection d9 with d9
      subst d9
      exact h
set_option maxRecDepth 100000 in
theorem vz_target {S : MS} {x1 : Int32} {x2 : Int32} {oo : (Int32 × MS) ⊕ MS} {Q : Int32 → MS → Prop} {E : MS → Prop} (h : v_target S x1 x2 oo) (w : w_target S x1 x2 Q E) : oQ Q E oo := by
  unfold v_target at h
  unfold w_target at w
  replace h := h.2
  replace w := w.2
  obtain ⟨Q9, E9, w0, w⟩ := w
  rcases h with ⟨q9, z9, h⟩ | ⟨q9, z9, h⟩
  · replace w := w.1 q9 (vz_point z9 w0)
    replace h := h.2
    replace w := w.2
    rw [h]
    exact w
  · replace w := w.2 q9 (vz_point z9 w0)
    rw [h]
    exact w
def v_switched_J166 (oo : MS ⊕ MS) (k79 : MS → Int32 → Int32 → Int32 → Int32 → Int32 → Int32 → Int32 → Prop) (U166 : MS) (t166_0 : Int32) (t166_2 : Int32) (t166_4 : Int32) (v166_1 : Int32) (v166_2 : Int32) (v166_3 : Int32) (v166_4 : Int32) (v166_5 : Int32) (v166_6 : Int32) (v166_7 : Int32) : Prop := (d_codeFour U166 t166_0 ∧ ((∃ (r33 : Int32) (S34 : MS), v_target U166 t166_2 (f_codeFour U166 t166_0) (.inl (r33, S34)) ∧ (((0 : Int) ≤ t166_4.toInt ∧ t166_4.toInt < 40000) ∧ (∃ S37 : MS, S37 = wI S34 20 t166_4.toInt.toNat r33 ∧ (∃ S39 : MS, S39 = wI S37 0 43 ((qI S37 0 43) + (2 : Int32)) ∧ (∃ a40 : Int32, a40 = (v166_7 + Int32.ofInt 1) ∧ (k79 S39 v166_1 v166_2 v166_3 v166_4 v166_5 v166_6 a40)))))) ∨ (∃ u9 : MS, v_target U166 t166_2 (f_codeFour U166 t166_0) (.inr u9) ∧ (oo = .inr u9))))
def v_switched_J123 (oo : MS ⊕ MS) (k79 : MS → Int32 → Int32 → Int32 → Int32 → Int32 → Int32 → Int32 → Prop) (U123 : MS) (t123_0 : Int32) (t123_1 : Int32) (v123_1 : Int32) (v123_2 : Int32) (v123_3 : Int32) (v123_4 : Int32) (v123_5 : Int32) (v123_6 : Int32) (v123_7 : Int32) : Prop := (((0 : Int) ≤ t123_1.toInt ∧ t123_1.toInt < 40000) ∧ (∃ S27 : MS, S27 = wI U123 20 t123_1.toInt.toNat t123_0 ∧ ((v123_2.toInt = 170 ∧ (v_switched_J166 oo k79 S27 ((v123_3 + (12 : Int32)) + ((4 : Int32) * v123_7)) v123_1 ((qI S27 0 43) + (1 : Int32)) v123_1 v123_2 v123_3 v123_4 v123_5 v123_6 v123_7)) ∨ (¬ v123_2.toInt = 170 ∧ (v_switched_J166 oo k79 S27 ((v123_3 + (12 : Int32)) + ((8 : Int32) * v123_7)) v123_1 ((qI S27 0 43) + (1 : Int32)) v123_1 v123_2 v123_3 v123_4 v123_5 v123_6 v123_7)))))
def v_switched_L79 (oo : MS ⊕ MS) : Nat → MS → Int32 → Int32 → Int32 → Int32 → Int32 → Int32 → Int32 → Prop
  | 0, _, _, _, _, _, _, _, _ => False
  | n79 + 1, U79, v79_1, v79_2, v79_3, v79_4, v79_5, v79_6, v79_7 => ((v79_6.toInt ≤ v79_7.toInt ∧ (∃ (S24 : MS), v_row U79 v79_2 v79_4 v79_6 S24 ∧ (oo = .inl S24))) ∨ (¬ v79_6.toInt ≤ v79_7.toInt ∧ ((v79_2.toInt = 170 ∧ (v_switched_J123 oo (v_switched_L79 oo n79) U79 (v79_5 + v79_7) (qI U79 0 43) v79_1 v79_2 v79_3 v79_4 v79_5 v79_6 v79_7)) ∨ (¬ v79_2.toInt = 170 ∧ (d_codeFour U79 ((v79_3 + (8 : Int32)) + ((8 : Int32) * v79_7)) ∧ (v_switched_J123 oo (v_switched_L79 oo n79) U79 (f_codeFour U79 ((v79_3 + (8 : Int32)) + ((8 : Int32) * v79_7))) (qI U79 0 43) v79_1 v79_2 v79_3 v79_4 v79_5 v79_6 v79_7))))))
def v_switched_J74 (oo : MS ⊕ MS) (U74 : MS) (t74_0 : Int32) (v74_1 : Int32) (v74_2 : Int32) (v74_3 : Int32) (v74_4 : Int32) (v74_5 : Int32) : Prop := (∃ n, v_switched_L79 oo n U74 v74_1 v74_2 v74_3 v74_4 v74_5 t74_0 0)
def v_switched (S : MS) (x1 : Int32) (x2 : Int32) (oo : MS ⊕ MS) : Prop := (d_switchFrom S x1 ∧ (∃ a4 : Int32, a4 = (f_switchFrom S x1) ∧ (∃ a5 : Int32, a5 = (qI S 0 43) ∧ (d_codeFour S a4 ∧ ((∃ (r10 : Int32) (S11 : MS), v_target S x1 (f_codeFour S a4) (.inl (r10, S11)) ∧ (((0 : Int) ≤ (qI S 0 43).toInt ∧ (qI S 0 43).toInt < 40000) ∧ (∃ S14 : MS, S14 = wI S11 20 (((qI S 0 43).toInt).toNat) r10 ∧ (∃ S16 : MS, S16 = wI S14 0 43 ((qI S14 0 43) + (1 : Int32)) ∧ (d_codeFour S16 (a4 + (4 : Int32)) ∧ (∃ a21 : Int32, a21 = (f_codeFour S16 (a4 + (4 : Int32))) ∧ ((x2.toInt = 170 ∧ (d_codeFour S16 (a4 + (8 : Int32)) ∧ (v_switched_J74 oo S16 (((f_codeFour S16 (a4 + (8 : Int32))) - a21) + (1 : Int32)) x1 x2 a4 a5 a21))) ∨ (¬ x2.toInt = 170 ∧ (v_switched_J74 oo S16 a21 x1 x2 a4 a5 a21))))))))) ∨ (∃ u9 : MS, v_target S x1 (f_codeFour S a4) (.inr u9) ∧ (oo = .inr u9)))))))
set_option maxRecDepth 100000 in
theorem ru_switched_J166 {ι : Type} {P : MS ⊕ MS → Prop} {Q : MS → Prop} {E : MS → Prop} {k79 : MS → Int32 → Int32 → Int32 → Int32 → Int32 → Int32 → Int32 → Prop} {k79v : ι → MS ⊕ MS → MS → Int32 → Int32 → Int32 → Int32 → Int32 → Int32 → Int32 → Prop} {U166 : MS} {t166_0 : Int32} {t166_2 : Int32} {t166_4 : Int32} {v166_1 : Int32} {v166_2 : Int32} {v166_3 : Int32} {v166_4 : Int32} {v166_5 : Int32} {v166_6 : Int32} {v166_7 : Int32} (i0 : ι) (hk79 : ∀ (u : MS) (z0 : Int32) (z1 : Int32) (z2 : Int32) (z3 : Int32) (z4 : Int32) (z5 : Int32) (z6 : Int32), k79 u z0 z1 z2 z3 z4 z5 z6 → (∀ (i : ι) (oo : MS ⊕ MS), k79v i oo u z0 z1 z2 z3 z4 z5 z6 → P oo) → ∃ oo, P oo ∧ oV Q E oo) (K : ∀ (i : ι) (oo : MS ⊕ MS), v_switched_J166 oo (k79v i oo) U166 t166_0 t166_2 t166_4 v166_1 v166_2 v166_3 v166_4 v166_5 v166_6 v166_7 → P oo) (h : w_switched_J166 Q E k79 U166 t166_0 t166_2 t166_4 v166_1 v166_2 v166_3 v166_4 v166_5 v166_6 v166_7) : ∃ oo, P oo ∧ oV Q E oo := by
  unfold w_switched_J166 at h
  obtain ⟨g1_, h⟩ := h
  replace K := fun i oo z => K i oo ⟨g1_, z⟩
  obtain ⟨Q9, E9, h0, h⟩ := h
  obtain ⟨o9, z9, g9⟩ := ru_target h0
  rcases o9 with ⟨r33, S34⟩ | u9
  · replace h := h.1 r33 S34 g9
    replace K := fun i oo z => K i oo (Or.inl ⟨r33, S34, z9, z⟩)
    obtain ⟨g2_, h⟩ := h
    replace K := fun i oo z => K i oo ⟨g2_, z⟩
    obtain ⟨S37, eS37⟩ : ∃ x9 : MS, x9 = wI S34 20 t166_4.toInt.toNat r33 := ⟨_, rfl⟩
    replace h := h S37 eS37
    replace K := fun i oo z => K i oo ⟨S37, eS37, z⟩
    obtain ⟨S39, eS39⟩ : ∃ x9 : MS, x9 = wI S37 0 43 ((qI S37 0 43) + (2 : Int32)) := ⟨_, rfl⟩
    replace h := h S39 eS39
    replace K := fun i oo z => K i oo ⟨S39, eS39, z⟩
    obtain ⟨a40, ea40⟩ : ∃ x9 : Int32, x9 = (v166_7 + Int32.ofInt 1) := ⟨_, rfl⟩
    replace h := h a40 ea40
    replace K := fun i oo z => K i oo ⟨a40, ea40, z⟩
    exact hk79 _ _ _ _ _ _ _ _ h K
  · replace h := h.2 u9 g9
    replace K := fun i oo z => K i oo (Or.inr ⟨u9, z9, z⟩)
    exact ⟨.inr u9, K i0 _ rfl, h⟩
set_option maxRecDepth 100000 in
theorem ru_switched_J123 {ι : Type} {P : MS ⊕ MS → Prop} {Q : MS → Prop} {E : MS → Prop} {k79 : MS → Int32 → Int32 → Int32 → Int32 → Int32 → Int32 → Int32 → Prop} {k79v : ι → MS ⊕ MS → MS → Int32 → Int32 → Int32 → Int32 → Int32 → Int32 → Int32 → Prop} {U123 : MS} {t123_0 : Int32} {t123_1 : Int32} {v123_1 : Int32} {v123_2 : Int32} {v123_3 : Int32} {v123_4 : Int32} {v123_5 : Int32} {v123_6 : Int32} {v123_7 : Int32} (i0 : ι) (hk79 : ∀ (u : MS) (z0 : Int32) (z1 : Int32) (z2 : Int32) (z3 : Int32) (z4 : Int32) (z5 : Int32) (z6 : Int32), k79 u z0 z1 z2 z3 z4 z5 z6 → (∀ (i : ι) (oo : MS ⊕ MS), k79v i oo u z0 z1 z2 z3 z4 z5 z6 → P oo) → ∃ oo, P oo ∧ oV Q E oo) (K : ∀ (i : ι) (oo : MS ⊕ MS), v_switched_J123 oo (k79v i oo) U123 t123_0 t123_1 v123_1 v123_2 v123_3 v123_4 v123_5 v123_6 v123_7 → P oo) (h : w_switched_J123 Q E k79 U123 t123_0 t123_1 v123_1 v123_2 v123_3 v123_4 v123_5 v123_6 v123_7) : ∃ oo, P oo ∧ oV Q E oo := by
  unfold w_switched_J123 at h
  obtain ⟨g3_, h⟩ := h
  replace K := fun i oo z => K i oo ⟨g3_, z⟩
  obtain ⟨S27, eS27⟩ : ∃ x9 : MS, x9 = wI U123 20 t123_1.toInt.toNat t123_0 := ⟨_, rfl⟩
  replace h := h S27 eS27
  replace K := fun i oo z => K i oo ⟨S27, eS27, z⟩
  by_cases c : v123_2.toInt = 170
  · replace h := h.1 c
    replace K := fun i oo z => K i oo (Or.inl ⟨c, z⟩)
    exact ru_switched_J166 i0 hk79 K h
  · replace h := h.2 c
    replace K := fun i oo z => K i oo (Or.inr ⟨c, z⟩)
    exact ru_switched_J166 i0 hk79 K h
set_option maxRecDepth 100000 in
theorem ru_switched_L79 {ι : Type} {P : MS ⊕ MS → Prop} {Q : MS → Prop} {E : MS → Prop} : ∀ (n : Nat) {U79 : MS} {v79_1 : Int32} {v79_2 : Int32} {v79_3 : Int32} {v79_4 : Int32} {v79_5 : Int32} {v79_6 : Int32} {v79_7 : Int32} (i0 : ι), (∀ (i : ι) (oo : MS ⊕ MS), (∃ n8, v_switched_L79 oo n8 U79 v79_1 v79_2 v79_3 v79_4 v79_5 v79_6 v79_7) → P oo) → w_switched_L79 Q E n U79 v79_1 v79_2 v79_3 v79_4 v79_5 v79_6 v79_7 → ∃ oo, P oo ∧ oV Q E oo := by
  intro n
  induction n with
  | zero => intro U79 v79_1 v79_2 v79_3 v79_4 v79_5 v79_6 v79_7 i0 K h; unfold w_switched_L79 at h; exact h.elim
  | succ n ih =>
    intro U79 v79_1 v79_2 v79_3 v79_4 v79_5 v79_6 v79_7 i0 K h
    unfold w_switched_L79 at h
    replace K := fun (i : ι × Nat) oo (z : v_switched_L79 oo (i.2 + 1) U79 v79_1 v79_2 v79_3 v79_4 v79_5 v79_6 v79_7) => K i.1 oo ⟨i.2 + 1, z⟩
    have i00 := i0
    replace i0 : ι × Nat := (i0, 0)
    by_cases c : v79_6.toInt ≤ v79_7.toInt
    · replace h := h.1 c
      replace K := fun i oo z => K i oo (Or.inl ⟨c, z⟩)
      obtain ⟨Q9, h0, h⟩ := h
      obtain ⟨S24, z9, g9⟩ := ru_row h0
      replace h := h S24 g9
      replace K := fun i oo z => K i oo ⟨S24, z9, z⟩
      exact ⟨.inl _, K i0 _ rfl, h⟩
    · replace h := h.2 c
      replace K := fun i oo z => K i oo (Or.inr ⟨c, z⟩)
      by_cases c : v79_2.toInt = 170
      · replace h := h.1 c
        replace K := fun i oo z => K i oo (Or.inl ⟨c, z⟩)
        exact ru_switched_J123 i0 (fun _ _ _ _ _ _ _ _ h K => ih i00 (fun i oo ⟨n8, z⟩ => K (i, n8) oo z) h) K h
      · replace h := h.2 c
        replace K := fun i oo z => K i oo (Or.inr ⟨c, z⟩)
        obtain ⟨g4_, h⟩ := h
        replace K := fun i oo z => K i oo ⟨g4_, z⟩
        exact ru_switched_J123 i0 (fun _ _ _ _ _ _ _ _ h K => ih i00 (fun i oo ⟨n8, z⟩ => K (i, n8) oo z) h) K h
set_option maxRecDepth 100000 in
theorem ru_switched_J74 {ι : Type} {P : MS ⊕ MS → Prop} {Q : MS → Prop} {E : MS → Prop} {U74 : MS} {t74_0 : Int32} {v74_1 : Int32} {v74_2 : Int32} {v74_3 : Int32} {v74_4 : Int32} {v74_5 : Int32} (i0 : ι) (K : ∀ (i : ι) (oo : MS ⊕ MS), v_switched_J74 oo U74 t74_0 v74_1 v74_2 v74_3 v74_4 v74_5 → P oo) (h : w_switched_J74 Q E U74 t74_0 v74_1 v74_2 v74_3 v74_4 v74_5) : ∃ oo, P oo ∧ oV Q E oo := by
  unfold w_switched_J74 at h
  obtain ⟨n9, h⟩ := h
  exact ru_switched_L79 n9 i0 K h
set_option maxRecDepth 100000 in
theorem ru_switched {S : MS} {x1 : Int32} {x2 : Int32} {Q : MS → Prop} {E : MS → Prop} (h : w_switched S x1 x2 Q E) : ∃ oo, v_switched S x1 x2 oo ∧ oV Q E oo := by
  have i0 : Unit := ()
  have K : ∀ (i : Unit) (oo : MS ⊕ MS), v_switched S x1 x2 oo → v_switched S x1 x2 oo := fun _ _ z => z
  unfold w_switched at h
  obtain ⟨g5_, h⟩ := h
  replace K := fun i oo z => K i oo ⟨g5_, z⟩
  obtain ⟨a4, ea4⟩ : ∃ x9 : Int32, x9 = (f_switchFrom S x1) := ⟨_, rfl⟩
  replace h := h a4 ea4
  replace K := fun i oo z => K i oo ⟨a4, ea4, z⟩
  obtain ⟨a5, ea5⟩ : ∃ x9 : Int32, x9 = (qI S 0 43) := ⟨_, rfl⟩
  replace h := h a5 ea5
  replace K := fun i oo z => K i oo ⟨a5, ea5, z⟩
  obtain ⟨g6_, h⟩ := h
  replace K := fun i oo z => K i oo ⟨g6_, z⟩
  obtain ⟨Q9, E9, h0, h⟩ := h
  obtain ⟨o9, z9, g9⟩ := ru_target h0
  rcases o9 with ⟨r10, S11⟩ | u9
  · replace h := h.1 r10 S11 g9
    replace K := fun i oo z => K i oo (Or.inl ⟨r10, S11, z9, z⟩)
    obtain ⟨g7_, h⟩ := h
    replace K := fun i oo z => K i oo ⟨g7_, z⟩
    obtain ⟨S14, eS14⟩ : ∃ x9 : MS, x9 = wI S11 20 (((qI S 0 43).toInt).toNat) r10 := ⟨_, rfl⟩
    replace h := h S14 eS14
    replace K := fun i oo z => K i oo ⟨S14, eS14, z⟩
    obtain ⟨S16, eS16⟩ : ∃ x9 : MS, x9 = wI S14 0 43 ((qI S14 0 43) + (1 : Int32)) := ⟨_, rfl⟩
    replace h := h S16 eS16
    replace K := fun i oo z => K i oo ⟨S16, eS16, z⟩
    obtain ⟨g8_, h⟩ := h
    replace K := fun i oo z => K i oo ⟨g8_, z⟩
    obtain ⟨a21, ea21⟩ : ∃ x9 : Int32, x9 = (f_codeFour S16 (a4 + (4 : Int32))) := ⟨_, rfl⟩
    replace h := h a21 ea21
    replace K := fun i oo z => K i oo ⟨a21, ea21, z⟩
    by_cases c : x2.toInt = 170
    · replace h := h.1 c
      replace K := fun i oo z => K i oo (Or.inl ⟨c, z⟩)
      obtain ⟨g9_, h⟩ := h
      replace K := fun i oo z => K i oo ⟨g9_, z⟩
      exact ru_switched_J74 i0 K h
    · replace h := h.2 c
      replace K := fun i oo z => K i oo (Or.inr ⟨c, z⟩)
      exact ru_switched_J74 i0 K h
  · replace h := h.2 u9 g9
    replace K := fun i oo z => K i oo (Or.inr ⟨u9, z9, z⟩)
    exact ⟨.inr u9, K i0 _ rfl, h⟩
set_option maxRecDepth 100000 in
theorem vw_switched_J166 {oo : MS ⊕ MS} {k79 k79v : MS → Int32 → Int32 → Int32 → Int32 → Int32 → Int32 → Int32 → Prop} {U166 : MS} {t166_0 : Int32} {t166_2 : Int32} {t166_4 : Int32} {v166_1 : Int32} {v166_2 : Int32} {v166_3 : Int32} {v166_4 : Int32} {v166_5 : Int32} {v166_6 : Int32} {v166_7 : Int32} (hk79 : ∀ (u : MS) (z0 : Int32) (z1 : Int32) (z2 : Int32) (z3 : Int32) (z4 : Int32) (z5 : Int32) (z6 : Int32), k79v u z0 z1 z2 z3 z4 z5 z6 → k79 u z0 z1 z2 z3 z4 z5 z6) (h : v_switched_J166 oo k79v U166 t166_0 t166_2 t166_4 v166_1 v166_2 v166_3 v166_4 v166_5 v166_6 v166_7) : w_switched_J166 (fun u => oo = .inl u) (fun u => oo = .inr u) k79 U166 t166_0 t166_2 t166_4 v166_1 v166_2 v166_3 v166_4 v166_5 v166_6 v166_7 := by
  unfold v_switched_J166 at h
  unfold w_switched_J166
  obtain ⟨g9, h⟩ := h
  refine ⟨g9, ?_⟩
  rcases h with ⟨p9, q9, z9, h⟩ | ⟨q9, z9, h⟩
  · refine ⟨_, _, vw_target z9, ?_, ?_⟩
    · intro p8 q8 d9
      injection d9 with d9
      injection d9 with d8 d9
      subst d8
      subst d9
      obtain ⟨g9, h⟩ := h
      refine ⟨g9, ?_⟩
      obtain ⟨v9, e9, h⟩ := h
      intro x9 d9
      have c9 : v9 = x9 := e9.trans d9.symm
      subst c9
      obtain ⟨v9, e9, h⟩ := h
      intro x9 d9
      have c9 : v9 = x9 := e9.trans d9.symm
      subst c9
      obtain ⟨v9, e9, h⟩ := h
      intro x9 d9
      have c9 : v9 = x9 := e9.trans d9.symm
      subst c9
      exact hk79 _ _ _ _ _ _ _ _ h
    · intro q8 d9
      exact nomatch d9
  · refine ⟨_, _, vw_target z9, ?_, ?_⟩
    · intro p8 q8 d9
      exact nomatch d9
    · intro q8 d9
      injection d9 with d9
      subst d9
      exact h
set_option maxRecDepth 100000 in
theorem vz_switched_J166 {oo : MS ⊕ MS} {Q : MS → Prop} {E : MS → Prop} {k79 k79v : MS → Int32 → Int32 → Int32 → Int32 → Int32 → Int32 → Int32 → Prop} {U166 : MS} {t166_0 : Int32} {t166_2 : Int32} {t166_4 : Int32} {v166_1 : Int32} {v166_2 : Int32} {v166_3 : Int32} {v166_4 : Int32} {v166_5 : Int32} {v166_6 : Int32} {v166_7 : Int32} (hk79 : ∀ (u : MS) (z0 : Int32) (z1 : Int32) (z2 : Int32) (z3 : Int32) (z4 : Int32) (z5 : Int32) (z6 : Int32), k79v u z0 z1 z2 z3 z4 z5 z6 → k79 u z0 z1 z2 z3 z4 z5 z6 → oV Q E oo) (h : v_switched_J166 oo k79v U166 t166_0 t166_2 t166_4 v166_1 v166_2 v166_3 v166_4 v166_5 v166_6 v166_7) (w : w_switched_J166 Q E k79 U166 t166_0 t166_2 t166_4 v166_1 v166_2 v166_3 v166_4 v166_5 v166_6 v166_7) : oV Q E oo := by
  unfold v_switched_J166 at h
  unfold w_switched_J166 at w
  replace h := h.2
  replace w := w.2
  obtain ⟨Q9, E9, w0, w⟩ := w
  rcases h with ⟨p9, q9, z9, h⟩ | ⟨q9, z9, h⟩
  · replace w := w.1 p9 q9 (vz_target z9 w0)
    replace h := h.2
    replace w := w.2
    obtain ⟨v9, e9, h⟩ := h
    replace w := w v9 e9
    obtain ⟨v9, e9, h⟩ := h
    replace w := w v9 e9
    obtain ⟨v9, e9, h⟩ := h
    replace w := w v9 e9
    exact hk79 _ _ _ _ _ _ _ _ h w
  · replace w := w.2 q9 (vz_target z9 w0)
    rw [h]
    exact w
set_option maxRecDepth 100000 in
theorem vw_switched_J123 {oo : MS ⊕ MS} {k79 k79v : MS → Int32 → Int32 → Int32 → Int32 → Int32 → Int32 → Int32 → Prop} {U123 : MS} {t123_0 : Int32} {t123_1 : Int32} {v123_1 : Int32} {v123_2 : Int32} {v123_3 : Int32} {v123_4 : Int32} {v123_5 : Int32} {v123_6 : Int32} {v123_7 : Int32} (hk79 : ∀ (u : MS) (z0 : Int32) (z1 : Int32) (z2 : Int32) (z3 : Int32) (z4 : Int32) (z5 : Int32) (z6 : Int32), k79v u z0 z1 z2 z3 z4 z5 z6 → k79 u z0 z1 z2 z3 z4 z5 z6) (h : v_switched_J123 oo k79v U123 t123_0 t123_1 v123_1 v123_2 v123_3 v123_4 v123_5 v123_6 v123_7) : w_switched_J123 (fun u => oo = .inl u) (fun u => oo = .inr u) k79 U123 t123_0 t123_1 v123_1 v123_2 v123_3 v123_4 v123_5 v123_6 v123_7 := by
  unfold v_switched_J123 at h
  unfold w_switched_J123
  obtain ⟨g9, h⟩ := h
  refine ⟨g9, ?_⟩
  obtain ⟨v9, e9, h⟩ := h
  intro x9 d9
  have c9 : v9 = x9 := e9.trans d9.symm
  subst c9
  rcases h with ⟨c, h⟩ | ⟨c, h⟩
  · refine ⟨fun _ => ?_, fun c2 => absurd c c2⟩
    exact vw_switched_J166 hk79 h
  · refine ⟨fun c2 => absurd c2 c, fun _ => ?_⟩
    exact vw_switched_J166 hk79 h
set_option maxRecDepth 100000 in
theorem vz_switched_J123 {oo : MS ⊕ MS} {Q : MS → Prop} {E : MS → Prop} {k79 k79v : MS → Int32 → Int32 → Int32 → Int32 → Int32 → Int32 → Int32 → Prop} {U123 : MS} {t123_0 : Int32} {t123_1 : Int32} {v123_1 : Int32} {v123_2 : Int32} {v123_3 : Int32} {v123_4 : Int32} {v123_5 : Int32} {v123_6 : Int32} {v123_7 : Int32} (hk79 : ∀ (u : MS) (z0 : Int32) (z1 : Int32) (z2 : Int32) (z3 : Int32) (z4 : Int32) (z5 : Int32) (z6 : Int32), k79v u z0 z1 z2 z3 z4 z5 z6 → k79 u z0 z1 z2 z3 z4 z5 z6 → oV Q E oo) (h : v_switched_J123 oo k79v U123 t123_0 t123_1 v123_1 v123_2 v123_3 v123_4 v123_5 v123_6 v123_7) (w : w_switched_J123 Q E k79 U123 t123_0 t123_1 v123_1 v123_2 v123_3 v123_4 v123_5 v123_6 v123_7) : oV Q E oo := by
  unfold v_switched_J123 at h
  unfold w_switched_J123 at w
  replace h := h.2
  replace w := w.2
  obtain ⟨v9, e9, h⟩ := h
  replace w := w v9 e9
  rcases h with ⟨c, h⟩ | ⟨c, h⟩
  · replace w := w.1 c
    exact vz_switched_J166 hk79 h w
  · replace w := w.2 c
    exact vz_switched_J166 hk79 h w
set_option maxRecDepth 100000 in
theorem vw_switched_L79 {oo : MS ⊕ MS} : ∀ (n : Nat) {U79 : MS} {v79_1 : Int32} {v79_2 : Int32} {v79_3 : Int32} {v79_4 : Int32} {v79_5 : Int32} {v79_6 : Int32} {v79_7 : Int32}, v_switched_L79 oo n U79 v79_1 v79_2 v79_3 v79_4 v79_5 v79_6 v79_7 → w_switched_L79 (fun u => oo = .inl u) (fun u => oo = .inr u) n U79 v79_1 v79_2 v79_3 v79_4 v79_5 v79_6 v79_7 := by
  intro n
  induction n with
  | zero => intro U79 v79_1 v79_2 v79_3 v79_4 v79_5 v79_6 v79_7 h; unfold v_switched_L79 at h; exact h.elim
  | succ n ih =>
    intro U79 v79_1 v79_2 v79_3 v79_4 v79_5 v79_6 v79_7 h
    unfold v_switched_L79 at h
    unfold w_switched_L79
    rcases h with ⟨c, h⟩ | ⟨c, h⟩
    · refine ⟨fun _ => ?_, fun c2 => absurd c c2⟩
      obtain ⟨q9, z9, h⟩ := h
      refine ⟨_, vw_row z9, ?_⟩
      intro q8 d9
      subst d9
      exact h
    · refine ⟨fun c2 => absurd c2 c, fun _ => ?_⟩
      rcases h with ⟨c, h⟩ | ⟨c, h⟩
      · refine ⟨fun _ => ?_, fun c2 => absurd c c2⟩
        exact vw_switched_J123 (fun _ _ _ _ _ _ _ _ h => ih h) h
      · refine ⟨fun c2 => absurd c2 c, fun _ => ?_⟩
        obtain ⟨g9, h⟩ := h
        refine ⟨g9, ?_⟩
        exact vw_switched_J123 (fun _ _ _ _ _ _ _ _ h => ih h) h
set_option maxRecDepth 100000 in
theorem vz_switched_L79 {oo : MS ⊕ MS} {Q : MS → Prop} {E : MS → Prop} : ∀ (n m : Nat) {U79 : MS} {v79_1 : Int32} {v79_2 : Int32} {v79_3 : Int32} {v79_4 : Int32} {v79_5 : Int32} {v79_6 : Int32} {v79_7 : Int32}, v_switched_L79 oo n U79 v79_1 v79_2 v79_3 v79_4 v79_5 v79_6 v79_7 → w_switched_L79 Q E m U79 v79_1 v79_2 v79_3 v79_4 v79_5 v79_6 v79_7 → oV Q E oo := by
  intro n
  induction n with
  | zero => intro m U79 v79_1 v79_2 v79_3 v79_4 v79_5 v79_6 v79_7 h; unfold v_switched_L79 at h; exact h.elim
  | succ n ih =>
    intro m U79 v79_1 v79_2 v79_3 v79_4 v79_5 v79_6 v79_7 h w
    cases m with
    | zero => unfold w_switched_L79 at w; exact w.elim
    | succ m =>
      unfold v_switched_L79 at h
      unfold w_switched_L79 at w
      rcases h with ⟨c, h⟩ | ⟨c, h⟩
      · replace w := w.1 c
        obtain ⟨q9, z9, h⟩ := h
        obtain ⟨Q9, w0, w⟩ := w
        replace w := w q9 (vz_row z9 w0)
        rw [h]
        exact w
      · replace w := w.2 c
        rcases h with ⟨c, h⟩ | ⟨c, h⟩
        · replace w := w.1 c
          exact vz_switched_J123 (fun _ _ _ _ _ _ _ _ h w => ih m h w) h w
        · replace w := w.2 c
          replace h := h.2
          replace w := w.2
          exact vz_switched_J123 (fun _ _ _ _ _ _ _ _ h w => ih m h w) h w
set_option maxRecDepth 100000 in
theorem vw_switched_J74 {oo : MS ⊕ MS} {U74 : MS} {t74_0 : Int32} {v74_1 : Int32} {v74_2 : Int32} {v74_3 : Int32} {v74_4 : Int32} {v74_5 : Int32} (h : v_switched_J74 oo U74 t74_0 v74_1 v74_2 v74_3 v74_4 v74_5) : w_switched_J74 (fun u => oo = .inl u) (fun u => oo = .inr u) U74 t74_0 v74_1 v74_2 v74_3 v74_4 v74_5 := by
  unfold v_switched_J74 at h
  unfold w_switched_J74
  obtain ⟨n9, h⟩ := h
  exact ⟨n9, vw_switched_L79 n9 h⟩
set_option maxRecDepth 100000 in
theorem vz_switched_J74 {oo : MS ⊕ MS} {Q : MS → Prop} {E : MS → Prop} {U74 : MS} {t74_0 : Int32} {v74_1 : Int32} {v74_2 : Int32} {v74_3 : Int32} {v74_4 : Int32} {v74_5 : Int32} (h : v_switched_J74 oo U74 t74_0 v74_1 v74_2 v74_3 v74_4 v74_5) (w : w_switched_J74 Q E U74 t74_0 v74_1 v74_2 v74_3 v74_4 v74_5) : oV Q E oo := by
  unfold v_switched_J74 at h
  unfold w_switched_J74 at w
  obtain ⟨n9, h⟩ := h
  obtain ⟨n8, w⟩ := w
  exact vz_switched_L79 n9 n8 h w
set_option maxRecDepth 100000 in
theorem vw_switched {S : MS} {x1 : Int32} {x2 : Int32} {oo : MS ⊕ MS} (h : v_switched S x1 x2 oo) : w_switched S x1 x2 (fun u => oo = .inl u) (fun u => oo = .inr u) := by
  unfold v_switched at h
  unfold w_switched
  obtain ⟨g9, h⟩ := h
  refine ⟨g9, ?_⟩
  obtain ⟨v9, e9, h⟩ := h
  intro x9 d9
  have c9 : v9 = x9 := e9.trans d9.symm
  subst c9
  obtain ⟨v9, e9, h⟩ := h
  intro x9 d9
  have c9 : v9 = x9 := e9.trans d9.symm
  subst c9
  obtain ⟨g9, h⟩ := h
  refine ⟨g9, ?_⟩
  rcases h with ⟨p9, q9, z9, h⟩ | ⟨q9, z9, h⟩
  · refine ⟨_, _, vw_target z9, ?_, ?_⟩
    · intro p8 q8 d9
      injection d9 with d9
      injection d9 with d8 d9
      subst d8
      subst d9
      obtain ⟨g9, h⟩ := h
      refine ⟨g9, ?_⟩
      obtain ⟨v9, e9, h⟩ := h
      intro x9 d9
      have c9 : v9 = x9 := e9.trans d9.symm
      subst c9
      obtain ⟨v9, e9, h⟩ := h
      intro x9 d9
      have c9 : v9 = x9 := e9.trans d9.symm
      subst c9
      obtain ⟨g9, h⟩ := h
      refine ⟨g9, ?_⟩
      obtain ⟨v9, e9, h⟩ := h
      intro x9 d9
      have c9 : v9 = x9 := e9.trans d9.symm
      subst c9
      rcases h with ⟨c, h⟩ | ⟨c, h⟩
      · refine ⟨fun _ => ?_, fun c2 => absurd c c2⟩
        obtain ⟨g9, h⟩ := h
        refine ⟨g9, ?_⟩
        exact vw_switched_J74 h
      · refine ⟨fun c2 => absurd c2 c, fun _ => ?_⟩
        exact vw_switched_J74 h
    · intro q8 d9
      exact nomatch d9
  · refine ⟨_, _, vw_target z9, ?_, ?_⟩
    · intro p8 q8 d9
      exact nomatch d9
    · intro q8 d9
      injection d9 with d9
      subst d9
      exact h
set_option maxRecDepth 100000 in
theorem vz_switched {S : MS} {x1 : Int32} {x2 : Int32} {oo : MS ⊕ MS} {Q : MS → Prop} {E : MS → Prop} (h : v_switched S x1 x2 oo) (w : w_switched S x1 x2 Q E) : oV Q E oo := by
  unfold v_switched at h
  unfold w_switched at w
  replace h := h.2
  replace w := w.2
  obtain ⟨v9, e9, h⟩ := h
  replace w := w v9 e9
  obtain ⟨v9, e9, h⟩ := h
  replace w := w v9 e9
  replace h := h.2
  replace w := w.2
  obtain ⟨Q9, E9, w0, w⟩ := w
  rcases h with ⟨p9, q9, z9, h⟩ | ⟨q9, z9, h⟩
  · replace w := w.1 p9 q9 (vz_target z9 w0)
    replace h := h.2
    replace w := w.2
    obtain ⟨v9, e9, h⟩ := h
    replace w := w v9 e9
    obtain ⟨v9, e9, h⟩ := h
    replace w := w v9 e9
    replace h := h.2
    replace w := w.2
    obtain ⟨v9, e9, h⟩ := h
    replace w := w v9 e9
    rcases h with ⟨c, h⟩ | ⟨c, h⟩
    · replace w := w.1 c
      replace h := h.2
      replace w := w.2
      exact vz_switched_J74 h w
    · replace w := w.2 c
      exact vz_switched_J74 h w
  · replace w := w.2 q9 (vz_target z9 w0)
    rw [h]
    exact w
def v_wide (S : MS) (x1 : Int32) (x2 : Int32) (oo : MS ⊕ MS) : Prop := (d_codeTwo S (x1 + (2 : Int32)) ∧ (∃ a6 : Int32, a6 = ((f_codeTwo S (x1 + (2 : Int32))) &&& (65535 : Int32)) ∧ ((x2.toInt = 132 ∧ (d_codeTwo S (x1 + (4 : Int32)) ∧ ((∃ (S16 : MS), v_grown S x1 a6 (f_codeTwo S (x1 + (4 : Int32))) (.inl S16) ∧ (oo = .inl S16)) ∨ (∃ u9 : MS, v_grown S x1 a6 (f_codeTwo S (x1 + (4 : Int32))) (.inr u9) ∧ (oo = .inr u9))))) ∨ (¬ x2.toInt = 132 ∧ ((∃ (S9 : MS), v_localRow S x1 x2 a6 (.inl S9) ∧ (oo = .inl S9)) ∨ (∃ u9 : MS, v_localRow S x1 x2 a6 (.inr u9) ∧ (oo = .inr u9)))))))
set_option maxRecDepth 100000 in
theorem ru_wide {S : MS} {x1 : Int32} {x2 : Int32} {Q : MS → Prop} {E : MS → Prop} (h : w_wide S x1 x2 Q E) : ∃ oo, v_wide S x1 x2 oo ∧ oV Q E oo := by
  have i0 : Unit := ()
  have K : ∀ (i : Unit) (oo : MS ⊕ MS), v_wide S x1 x2 oo → v_wide S x1 x2 oo := fun _ _ z => z
  unfold w_wide at h
  obtain ⟨g1_, h⟩ := h
  replace K := fun i oo z => K i oo ⟨g1_, z⟩
  obtain ⟨a6, ea6⟩ : ∃ x9 : Int32, x9 = ((f_codeTwo S (x1 + (2 : Int32))) &&& (65535 : Int32)) := ⟨_, rfl⟩
  replace h := h a6 ea6
  replace K := fun i oo z => K i oo ⟨a6, ea6, z⟩
  by_cases c : x2.toInt = 132
  · replace h := h.1 c
    replace K := fun i oo z => K i oo (Or.inl ⟨c, z⟩)
    obtain ⟨g2_, h⟩ := h
    replace K := fun i oo z => K i oo ⟨g2_, z⟩
    obtain ⟨Q9, E9, h0, h⟩ := h
    obtain ⟨o9, z9, g9⟩ := ru_grown h0
    rcases o9 with S16 | u9
    · replace h := h.1 S16 g9
      replace K := fun i oo z => K i oo (Or.inl ⟨S16, z9, z⟩)
      exact ⟨.inl _, K i0 _ rfl, h⟩
    · replace h := h.2 u9 g9
      replace K := fun i oo z => K i oo (Or.inr ⟨u9, z9, z⟩)
      exact ⟨.inr u9, K i0 _ rfl, h⟩
  · replace h := h.2 c
    replace K := fun i oo z => K i oo (Or.inr ⟨c, z⟩)
    obtain ⟨Q9, E9, h0, h⟩ := h
    obtain ⟨o9, z9, g9⟩ := ru_localRow h0
    rcases o9 with S9 | u9
    · replace h := h.1 S9 g9
      replace K := fun i oo z => K i oo (Or.inl ⟨S9, z9, z⟩)
      exact ⟨.inl _, K i0 _ rfl, h⟩
    · replace h := h.2 u9 g9
      replace K := fun i oo z => K i oo (Or.inr ⟨u9, z9, z⟩)
      exact ⟨.inr u9, K i0 _ rfl, h⟩
set_option maxRecDepth 100000 in
theorem vw_wide {S : MS} {x1 : Int32} {x2 : Int32} {oo : MS ⊕ MS} (h : v_wide S x1 x2 oo) : w_wide S x1 x2 (fun u => oo = .inl u) (fun u => oo = .inr u) := by
  unfold v_wide at h
  unfold w_wide
  obtain ⟨g9, h⟩ := h
  refine ⟨g9, ?_⟩
  obtain ⟨v9, e9, h⟩ := h
  intro x9 d9
  have c9 : v9 = x9 := e9.trans d9.symm
  subst c9
  rcases h with ⟨c, h⟩ | ⟨c, h⟩
  · refine ⟨fun _ => ?_, fun c2 => absurd c c2⟩
    obtain ⟨g9, h⟩ := h
    refine ⟨g9, ?_⟩
    rcases h with ⟨q9, z9, h⟩ | ⟨q9, z9, h⟩
    · refine ⟨_, _, vw_grown z9, ?_, ?_⟩
      · intro q8 d9
        injection d9 with d9
        subst d9
        exact h
      · intro q8 d9
        exact nomatch d9
    · refine ⟨_, _, vw_grown z9, ?_, ?_⟩
      · intro q8 d9
        exact nomatch d9
      · intro q8 d9
        injection d9 with d9
        subst d9
        exact h
  · refine ⟨fun c2 => absurd c2 c, fun _ => ?_⟩
    rcases h with ⟨q9, z9, h⟩ | ⟨q9, z9, h⟩
    · refine ⟨_, _, vw_localRow z9, ?_, ?_⟩
      · intro q8 d9
        injection d9 with d9
        subst d9
        exact h
      · intro q8 d9
        exact nomatch d9
    · refine ⟨_, _, vw_localRow z9, ?_, ?_⟩
      · intro q8 d9
        exact nomatch d9
      · intro q8 d9
        injection d9 with d9
        subst d9
        exact h
set_option maxRecDepth 100000 in
theorem vz_wide {S : MS} {x1 : Int32} {x2 : Int32} {oo : MS ⊕ MS} {Q : MS → Prop} {E : MS → Prop} (h : v_wide S x1 x2 oo) (w : w_wide S x1 x2 Q E) : oV Q E oo := by
  unfold v_wide at h
  unfold w_wide at w
  replace h := h.2
  replace w := w.2
  obtain ⟨v9, e9, h⟩ := h
  replace w := w v9 e9
  rcases h with ⟨c, h⟩ | ⟨c, h⟩
  · replace w := w.1 c
    replace h := h.2
    replace w := w.2
    obtain ⟨Q9, E9, w0, w⟩ := w
    rcases h with ⟨q9, z9, h⟩ | ⟨q9, z9, h⟩
    · replace w := w.1 q9 (vz_grown z9 w0)
      rw [h]
      exact w
    · replace w := w.2 q9 (vz_grown z9 w0)
      rw [h]
      exact w
  · replace w := w.2 c
    obtain ⟨Q9, E9, w0, w⟩ := w
    rcases h with ⟨q9, z9, h⟩ | ⟨q9, z9, h⟩
    · replace w := w.1 q9 (vz_localRow z9 w0)
      rw [h]
      exact w
    · replace w := w.2 q9 (vz_localRow z9 w0)
      rw [h]
      exact w
def v_instruction_J42 (oo : MS ⊕ MS) (U42 : MS) (v42_2 : Int32) : Prop := (∃ (S7 : MS), v_row U42 (20 : Int32) (0 : Int32) (v42_2 - (9 : Int32)) S7 ∧ (oo = .inl S7))
def v_instruction_J149 (oo : MS ⊕ MS) (U149 : MS) (t149_0 : Int32) (t149_1 : Int32) : Prop := ((∃ (S14 : MS), v_pushed U149 t149_1 t149_0 (3 : Int32) (.inl S14) ∧ (oo = .inl S14)) ∨ (∃ u9 : MS, v_pushed U149 t149_1 t149_0 (3 : Int32) (.inr u9) ∧ (oo = .inr u9)))
def v_instruction_J120 (oo : MS ⊕ MS) (U120 : MS) (v120_1 : Int32) (v120_2 : Int32) : Prop := ((v120_2.toInt = 18 ∧ (d_codeOctet U120 (v120_1 + (1 : Int32)) ∧ (v_instruction_J149 oo U120 (f_codeOctet U120 (v120_1 + (1 : Int32))) v120_1))) ∨ (¬ v120_2.toInt = 18 ∧ (d_codeTwo U120 (v120_1 + (1 : Int32)) ∧ (v_instruction_J149 oo U120 ((f_codeTwo U120 (v120_1 + (1 : Int32))) &&& (65535 : Int32)) v120_1))))
def v_instruction_J348 (oo : MS ⊕ MS) (U348 : MS) (v348_1 : Int32) (v348_2 : Int32) : Prop := (d_codeOctet U348 (v348_1 + (1 : Int32)) ∧ ((∃ (S34 : MS), v_localRow U348 v348_1 v348_2 (f_codeOctet U348 (v348_1 + (1 : Int32))) (.inl S34) ∧ (oo = .inl S34)) ∨ (∃ u9 : MS, v_localRow U348 v348_1 v348_2 (f_codeOctet U348 (v348_1 + (1 : Int32))) (.inr u9) ∧ (oo = .inr u9))))
def v_instruction_J449 (oo : MS ⊕ MS) (U449 : MS) (v449_1 : Int32) (v449_2 : Int32) : Prop := (d_codeTwo U449 (v449_1 + (1 : Int32)) ∧ ((∃ (r49 : Int32) (S50 : MS), v_target U449 v449_1 (f_codeTwo U449 (v449_1 + (1 : Int32))) (.inl (r49, S50)) ∧ (∃ (S53 : MS), v_row S50 v449_2 r49 (0 : Int32) S53 ∧ (oo = .inl S53))) ∨ (∃ u9 : MS, v_target U449 v449_1 (f_codeTwo U449 (v449_1 + (1 : Int32))) (.inr u9) ∧ (oo = .inr u9))))
def v_instruction_J514 (oo : MS ⊕ MS) (U514 : MS) (v514_1 : Int32) (v514_2 : Int32) : Prop := ((∃ (S59 : MS), v_switched U514 v514_1 v514_2 (.inl S59) ∧ (oo = .inl S59)) ∨ (∃ u9 : MS, v_switched U514 v514_1 v514_2 (.inr u9) ∧ (oo = .inr u9)))
def v_instruction_J537 (oo : MS ⊕ MS) (U537 : MS) (v537_1 : Int32) (v537_2 : Int32) : Prop := ((∃ (r64 : Int32) (S65 : MS), v_member U537 v537_1 (9 : Int32) (.inl (r64, S65)) ∧ (∃ (S68 : MS), v_row S65 v537_2 r64 (0 : Int32) S68 ∧ (oo = .inl S68))) ∨ (∃ u9 : MS, v_member U537 v537_1 (9 : Int32) (.inr u9) ∧ (oo = .inr u9)))
def v_instruction_J435 (oo : MS ⊕ MS) (U435 : MS) (v435_1 : Int32) (v435_2 : Int32) : Prop := ((v435_2.toInt = 198 ∧ (v_instruction_J449 oo U435 v435_1 v435_2)) ∨ (¬ v435_2.toInt = 198 ∧ ((v435_2.toInt = 199 ∧ (v_instruction_J449 oo U435 v435_1 v435_2)) ∨ (¬ v435_2.toInt = 199 ∧ ((v435_2.toInt = 200 ∧ (d_codeFour U435 (v435_1 + (1 : Int32)) ∧ ((∃ (r88 : Int32) (S89 : MS), v_target U435 v435_1 (f_codeFour U435 (v435_1 + (1 : Int32))) (.inl (r88, S89)) ∧ (∃ (S92 : MS), v_row S89 (167 : Int32) r88 (0 : Int32) S92 ∧ (oo = .inl S92))) ∨ (∃ u9 : MS, v_target U435 v435_1 (f_codeFour U435 (v435_1 + (1 : Int32))) (.inr u9) ∧ (oo = .inr u9))))) ∨ (¬ v435_2.toInt = 200 ∧ ((v435_2.toInt = 170 ∧ (v_instruction_J514 oo U435 v435_1 v435_2)) ∨ (¬ v435_2.toInt = 170 ∧ ((v435_2.toInt = 171 ∧ (v_instruction_J514 oo U435 v435_1 v435_2)) ∨ (¬ v435_2.toInt = 171 ∧ ((v435_2.toInt = 178 ∧ (v_instruction_J537 oo U435 v435_1 v435_2)) ∨ (¬ v435_2.toInt = 178 ∧ ((v435_2.toInt = 179 ∧ (v_instruction_J537 oo U435 v435_1 v435_2)) ∨ (¬ v435_2.toInt = 179 ∧ ((v435_2.toInt = 184 ∧ ((∃ (r77 : Int32) (S78 : MS), v_member U435 v435_1 (10 : Int32) (.inl (r77, S78)) ∧ (∃ (S81 : MS), v_row S78 v435_2 r77 (0 : Int32) S81 ∧ (oo = .inl S81))) ∨ (∃ u9 : MS, v_member U435 v435_1 (10 : Int32) (.inr u9) ∧ (oo = .inr u9)))) ∨ (¬ v435_2.toInt = 184 ∧ (∃ (S74 : MS), v_row U435 v435_2 (0 : Int32) (0 : Int32) S74 ∧ (oo = .inl S74))))))))))))))))))
def v_instruction_J312 (oo : MS ⊕ MS) (U312 : MS) (v312_1 : Int32) (v312_2 : Int32) : Prop := ((v312_2.toInt = 21 ∧ (v_instruction_J348 oo U312 v312_1 v312_2)) ∨ (¬ v312_2.toInt = 21 ∧ ((v312_2.toInt = 22 ∧ (v_instruction_J348 oo U312 v312_1 v312_2)) ∨ (¬ v312_2.toInt = 22 ∧ ((v312_2.toInt = 25 ∧ (v_instruction_J348 oo U312 v312_1 v312_2)) ∨ (¬ v312_2.toInt = 25 ∧ ((v312_2.toInt = 54 ∧ (v_instruction_J348 oo U312 v312_1 v312_2)) ∨ (¬ v312_2.toInt = 54 ∧ ((v312_2.toInt = 55 ∧ (v_instruction_J348 oo U312 v312_1 v312_2)) ∨ (¬ v312_2.toInt = 55 ∧ ((v312_2.toInt = 58 ∧ (v_instruction_J348 oo U312 v312_1 v312_2)) ∨ (¬ v312_2.toInt = 58 ∧ ((v312_2.toInt = 132 ∧ (d_codeOctet U312 (v312_1 + (1 : Int32)) ∧ ((qR U312 0 11 = some (qO U312 0 11)) ∧ (((0 : Int) ≤ (((qI U312 0 36) + v312_1) + (2 : Int32)).toInt ∧ (((qI U312 0 36) + v312_1) + (2 : Int32)).toInt < (qN U312 (qO U312 0 11) : Int)) ∧ ((∃ (S114 : MS), v_grown U312 v312_1 (f_codeOctet U312 (v312_1 + (1 : Int32))) (qI U312 (qO U312 0 11) (((((qI U312 0 36) + v312_1) + (2 : Int32)).toInt).toNat)) (.inl S114) ∧ (oo = .inl S114)) ∨ (∃ u9 : MS, v_grown U312 v312_1 (f_codeOctet U312 (v312_1 + (1 : Int32))) (qI U312 (qO U312 0 11) (((((qI U312 0 36) + v312_1) + (2 : Int32)).toInt).toNat)) (.inr u9) ∧ (oo = .inr u9))))))) ∨ (¬ v312_2.toInt = 132 ∧ ((v312_2.toInt = 196 ∧ (d_codeOctet U312 (v312_1 + (1 : Int32)) ∧ ((∃ (S101 : MS), v_wide U312 v312_1 (f_codeOctet U312 (v312_1 + (1 : Int32))) (.inl S101) ∧ (oo = .inl S101)) ∨ (∃ u9 : MS, v_wide U312 v312_1 (f_codeOctet U312 (v312_1 + (1 : Int32))) (.inr u9) ∧ (oo = .inr u9))))) ∨ (¬ v312_2.toInt = 196 ∧ ((v312_2.toInt < 153 ∧ (v_instruction_J435 oo U312 v312_1 v312_2)) ∨ (¬ v312_2.toInt < 153 ∧ ((v312_2.toInt ≤ 167 ∧ (v_instruction_J449 oo U312 v312_1 v312_2)) ∨ (¬ v312_2.toInt ≤ 167 ∧ (v_instruction_J435 oo U312 v312_1 v312_2)))))))))))))))))))))
def v_instruction_J286 (oo : MS ⊕ MS) (U286 : MS) (v286_1 : Int32) (v286_2 : Int32) : Prop := ((v286_2.toInt < 75 ∧ (v_instruction_J312 oo U286 v286_1 v286_2)) ∨ (¬ v286_2.toInt < 75 ∧ ((78 < v286_2.toInt ∧ (v_instruction_J312 oo U286 v286_1 v286_2)) ∨ (¬ 78 < v286_2.toInt ∧ ((∃ (S120 : MS), v_localRow U286 v286_1 (58 : Int32) (v286_2 - (75 : Int32)) (.inl S120) ∧ (oo = .inl S120)) ∨ (∃ u9 : MS, v_localRow U286 v286_1 (58 : Int32) (v286_2 - (75 : Int32)) (.inr u9) ∧ (oo = .inr u9)))))))
def v_instruction_J274 (oo : MS ⊕ MS) (U274 : MS) (t274_0 : Int32) (t274_1 : Int32) (v274_2 : Int32) : Prop := ((∃ (S127 : MS), v_localRow U274 t274_1 t274_0 ((v274_2 - (59 : Int32)) - (v274_2 - (59 : Int32)) / (4 : Int32) * (4 : Int32)) (.inl S127) ∧ (oo = .inl S127)) ∨ (∃ u9 : MS, v_localRow U274 t274_1 t274_0 ((v274_2 - (59 : Int32)) - (v274_2 - (59 : Int32)) / (4 : Int32) * (4 : Int32)) (.inr u9) ∧ (oo = .inr u9)))
def v_instruction_J247 (oo : MS ⊕ MS) (U247 : MS) (v247_1 : Int32) (v247_2 : Int32) : Prop := ((v247_2.toInt < 59 ∧ (v_instruction_J286 oo U247 v247_1 v247_2)) ∨ (¬ v247_2.toInt < 59 ∧ ((66 < v247_2.toInt ∧ (v_instruction_J286 oo U247 v247_1 v247_2)) ∨ (¬ 66 < v247_2.toInt ∧ ((63 ≤ v247_2.toInt ∧ (v_instruction_J274 oo U247 55 v247_1 v247_2)) ∨ (¬ 63 ≤ v247_2.toInt ∧ (v_instruction_J274 oo U247 54 v247_1 v247_2)))))))
def v_instruction_J221 (oo : MS ⊕ MS) (U221 : MS) (v221_1 : Int32) (v221_2 : Int32) : Prop := ((v221_2.toInt < 42 ∧ (v_instruction_J247 oo U221 v221_1 v221_2)) ∨ (¬ v221_2.toInt < 42 ∧ ((45 < v221_2.toInt ∧ (v_instruction_J247 oo U221 v221_1 v221_2)) ∨ (¬ 45 < v221_2.toInt ∧ ((∃ (S134 : MS), v_localRow U221 v221_1 (25 : Int32) (v221_2 - (42 : Int32)) (.inl S134) ∧ (oo = .inl S134)) ∨ (∃ u9 : MS, v_localRow U221 v221_1 (25 : Int32) (v221_2 - (42 : Int32)) (.inr u9) ∧ (oo = .inr u9)))))))
def v_instruction_J209 (oo : MS ⊕ MS) (U209 : MS) (t209_0 : Int32) (t209_1 : Int32) (v209_2 : Int32) : Prop := ((∃ (S141 : MS), v_localRow U209 t209_1 t209_0 ((v209_2 - (26 : Int32)) - (v209_2 - (26 : Int32)) / (4 : Int32) * (4 : Int32)) (.inl S141) ∧ (oo = .inl S141)) ∨ (∃ u9 : MS, v_localRow U209 t209_1 t209_0 ((v209_2 - (26 : Int32)) - (v209_2 - (26 : Int32)) / (4 : Int32) * (4 : Int32)) (.inr u9) ∧ (oo = .inr u9)))
def v_instruction_J30 (oo : MS ⊕ MS) (U30 : MS) (v30_1 : Int32) (v30_2 : Int32) : Prop := ((v30_2.toInt = 9 ∧ (v_instruction_J42 oo U30 v30_2)) ∨ (¬ v30_2.toInt = 9 ∧ ((v30_2.toInt = 10 ∧ (v_instruction_J42 oo U30 v30_2)) ∨ (¬ v30_2.toInt = 10 ∧ ((v30_2.toInt = 16 ∧ ((qR U30 0 11 = some (qO U30 0 11)) ∧ (((0 : Int) ≤ (((qI U30 0 36) + v30_1) + (1 : Int32)).toInt ∧ (((qI U30 0 36) + v30_1) + (1 : Int32)).toInt < (qN U30 (qO U30 0 11) : Int)) ∧ (∃ (S166 : MS), v_row U30 (18 : Int32) (qI U30 (qO U30 0 11) (((((qI U30 0 36) + v30_1) + (1 : Int32)).toInt).toNat)) (0 : Int32) S166 ∧ (oo = .inl S166))))) ∨ (¬ v30_2.toInt = 16 ∧ ((v30_2.toInt = 17 ∧ (d_codeTwo U30 (v30_1 + (1 : Int32)) ∧ (∃ (S157 : MS), v_row U30 (18 : Int32) (f_codeTwo U30 (v30_1 + (1 : Int32))) (0 : Int32) S157 ∧ (oo = .inl S157)))) ∨ (¬ v30_2.toInt = 17 ∧ ((v30_2.toInt = 18 ∧ (v_instruction_J120 oo U30 v30_1 v30_2)) ∨ (¬ v30_2.toInt = 18 ∧ ((v30_2.toInt = 19 ∧ (v_instruction_J120 oo U30 v30_1 v30_2)) ∨ (¬ v30_2.toInt = 19 ∧ ((v30_2.toInt = 20 ∧ (d_codeTwo U30 (v30_1 + (1 : Int32)) ∧ ((∃ (S150 : MS), v_pushed U30 v30_1 ((f_codeTwo U30 (v30_1 + (1 : Int32))) &&& (65535 : Int32)) (5 : Int32) (.inl S150) ∧ (oo = .inl S150)) ∨ (∃ u9 : MS, v_pushed U30 v30_1 ((f_codeTwo U30 (v30_1 + (1 : Int32))) &&& (65535 : Int32)) (5 : Int32) (.inr u9) ∧ (oo = .inr u9))))) ∨ (¬ v30_2.toInt = 20 ∧ ((v30_2.toInt < 26 ∧ (v_instruction_J221 oo U30 v30_1 v30_2)) ∨ (¬ v30_2.toInt < 26 ∧ ((33 < v30_2.toInt ∧ (v_instruction_J221 oo U30 v30_1 v30_2)) ∨ (¬ 33 < v30_2.toInt ∧ ((30 ≤ v30_2.toInt ∧ (v_instruction_J209 oo U30 22 v30_1 v30_2)) ∨ (¬ 30 ≤ v30_2.toInt ∧ (v_instruction_J209 oo U30 21 v30_1 v30_2)))))))))))))))))))))
def v_instruction (S : MS) (x1 : Int32) (oo : MS ⊕ MS) : Prop := (d_codeOctet S x1 ∧ (∃ a4 : Int32, a4 = (f_codeOctet S x1) ∧ ((a4.toInt < 2 ∧ (v_instruction_J30 oo S x1 a4)) ∨ (¬ a4.toInt < 2 ∧ ((8 < a4.toInt ∧ (v_instruction_J30 oo S x1 a4)) ∨ (¬ 8 < a4.toInt ∧ (∃ (S172 : MS), v_row S (18 : Int32) (a4 - (3 : Int32)) (0 : Int32) S172 ∧ (oo = .inl S172))))))))
set_option maxRecDepth 100000 in
theorem ru_instruction_J42 {ι : Type} {P : MS ⊕ MS → Prop} {Q : MS → Prop} {E : MS → Prop} {U42 : MS} {v42_2 : Int32} (i0 : ι) (K : ∀ (i : ι) (oo : MS ⊕ MS), v_instruction_J42 oo U42 v42_2 → P oo) (h : w_instruction_J42 Q E U42 v42_2) : ∃ oo, P oo ∧ oV Q E oo := by
  unfold w_instruction_J42 at h
  obtain ⟨Q9, h0, h⟩ := h
  obtain ⟨S7, z9, g9⟩ := ru_row h0
  replace h := h S7 g9
  replace K := fun i oo z => K i oo ⟨S7, z9, z⟩
  exact ⟨.inl _, K i0 _ rfl, h⟩
set_option maxRecDepth 100000 in
theorem ru_instruction_J149 {ι : Type} {P : MS ⊕ MS → Prop} {Q : MS → Prop} {E : MS → Prop} {U149 : MS} {t149_0 : Int32} {t149_1 : Int32} (i0 : ι) (K : ∀ (i : ι) (oo : MS ⊕ MS), v_instruction_J149 oo U149 t149_0 t149_1 → P oo) (h : w_instruction_J149 Q E U149 t149_0 t149_1) : ∃ oo, P oo ∧ oV Q E oo := by
  unfold w_instruction_J149 at h
  obtain ⟨Q9, E9, h0, h⟩ := h
  obtain ⟨o9, z9, g9⟩ := ru_pushed h0
  rcases o9 with S14 | u9
  · replace h := h.1 S14 g9
    replace K := fun i oo z => K i oo (Or.inl ⟨S14, z9, z⟩)
    exact ⟨.inl _, K i0 _ rfl, h⟩
  · replace h := h.2 u9 g9
    replace K := fun i oo z => K i oo (Or.inr ⟨u9, z9, z⟩)
    exact ⟨.inr u9, K i0 _ rfl, h⟩
set_option maxRecDepth 100000 in
theorem ru_instruction_J120 {ι : Type} {P : MS ⊕ MS → Prop} {Q : MS → Prop} {E : MS → Prop} {U120 : MS} {v120_1 : Int32} {v120_2 : Int32} (i0 : ι) (K : ∀ (i : ι) (oo : MS ⊕ MS), v_instruction_J120 oo U120 v120_1 v120_2 → P oo) (h : w_instruction_J120 Q E U120 v120_1 v120_2) : ∃ oo, P oo ∧ oV Q E oo := by
  unfold w_instruction_J120 at h
  by_cases c : v120_2.toInt = 18
  · replace h := h.1 c
    replace K := fun i oo z => K i oo (Or.inl ⟨c, z⟩)
    obtain ⟨g1_, h⟩ := h
    replace K := fun i oo z => K i oo ⟨g1_, z⟩
    exact ru_instruction_J149 i0 K h
  · replace h := h.2 c
    replace K := fun i oo z => K i oo (Or.inr ⟨c, z⟩)
    obtain ⟨g2_, h⟩ := h
    replace K := fun i oo z => K i oo ⟨g2_, z⟩
    exact ru_instruction_J149 i0 K h
set_option maxRecDepth 100000 in
theorem ru_instruction_J348 {ι : Type} {P : MS ⊕ MS → Prop} {Q : MS → Prop} {E : MS → Prop} {U348 : MS} {v348_1 : Int32} {v348_2 : Int32} (i0 : ι) (K : ∀ (i : ι) (oo : MS ⊕ MS), v_instruction_J348 oo U348 v348_1 v348_2 → P oo) (h : w_instruction_J348 Q E U348 v348_1 v348_2) : ∃ oo, P oo ∧ oV Q E oo := by
  unfold w_instruction_J348 at h
  obtain ⟨g3_, h⟩ := h
  replace K := fun i oo z => K i oo ⟨g3_, z⟩
  obtain ⟨Q9, E9, h0, h⟩ := h
  obtain ⟨o9, z9, g9⟩ := ru_localRow h0
  rcases o9 with S34 | u9
  · replace h := h.1 S34 g9
    replace K := fun i oo z => K i oo (Or.inl ⟨S34, z9, z⟩)
    exact ⟨.inl _, K i0 _ rfl, h⟩
  · replace h := h.2 u9 g9
    replace K := fun i oo z => K i oo (Or.inr ⟨u9, z9, z⟩)
    exact ⟨.inr u9, K i0 _ rfl, h⟩
set_option maxRecDepth 100000 in
theorem ru_instruction_J449 {ι : Type} {P : MS ⊕ MS → Prop} {Q : MS → Prop} {E : MS → Prop} {U449 : MS} {v449_1 : Int32} {v449_2 : Int32} (i0 : ι) (K : ∀ (i : ι) (oo : MS ⊕ MS), v_instruction_J449 oo U449 v449_1 v449_2 → P oo) (h : w_instruction_J449 Q E U449 v449_1 v449_2) : ∃ oo, P oo ∧ oV Q E oo := by
  unfold w_instruction_J449 at h
  obtain ⟨g4_, h⟩ := h
  replace K := fun i oo z => K i oo ⟨g4_, z⟩
  obtain ⟨Q9, E9, h0, h⟩ := h
  obtain ⟨o9, z9, g9⟩ := ru_target h0
  rcases o9 with ⟨r49, S50⟩ | u9
  · replace h := h.1 r49 S50 g9
    replace K := fun i oo z => K i oo (Or.inl ⟨r49, S50, z9, z⟩)
    obtain ⟨Q9, h0, h⟩ := h
    obtain ⟨S53, z9, g9⟩ := ru_row h0
    replace h := h S53 g9
    replace K := fun i oo z => K i oo ⟨S53, z9, z⟩
    exact ⟨.inl _, K i0 _ rfl, h⟩
  · replace h := h.2 u9 g9
    replace K := fun i oo z => K i oo (Or.inr ⟨u9, z9, z⟩)
    exact ⟨.inr u9, K i0 _ rfl, h⟩
set_option maxRecDepth 100000 in
theorem ru_instruction_J514 {ι : Type} {P : MS ⊕ MS → Prop} {Q : MS → Prop} {E : MS → Prop} {U514 : MS} {v514_1 : Int32} {v514_2 : Int32} (i0 : ι) (K : ∀ (i : ι) (oo : MS ⊕ MS), v_instruction_J514 oo U514 v514_1 v514_2 → P oo) (h : w_instruction_J514 Q E U514 v514_1 v514_2) : ∃ oo, P oo ∧ oV Q E oo := by
  unfold w_instruction_J514 at h
  obtain ⟨Q9, E9, h0, h⟩ := h
  obtain ⟨o9, z9, g9⟩ := ru_switched h0
  rcases o9 with S59 | u9
  · replace h := h.1 S59 g9
    replace K := fun i oo z => K i oo (Or.inl ⟨S59, z9, z⟩)
    exact ⟨.inl _, K i0 _ rfl, h⟩
  · replace h := h.2 u9 g9
    replace K := fun i oo z => K i oo (Or.inr ⟨u9, z9, z⟩)
    exact ⟨.inr u9, K i0 _ rfl, h⟩
set_option maxRecDepth 100000 in
theorem ru_instruction_J537 {ι : Type} {P : MS ⊕ MS → Prop} {Q : MS → Prop} {E : MS → Prop} {U537 : MS} {v537_1 : Int32} {v537_2 : Int32} (i0 : ι) (K : ∀ (i : ι) (oo : MS ⊕ MS), v_instruction_J537 oo U537 v537_1 v537_2 → P oo) (h : w_instruction_J537 Q E U537 v537_1 v537_2) : ∃ oo, P oo ∧ oV Q E oo := by
  unfold w_instruction_J537 at h
  obtain ⟨Q9, E9, h0, h⟩ := h
  obtain ⟨o9, z9, g9⟩ := ru_member h0
  rcases o9 with ⟨r64, S65⟩ | u9
  · replace h := h.1 r64 S65 g9
    replace K := fun i oo z => K i oo (Or.inl ⟨r64, S65, z9, z⟩)
    obtain ⟨Q9, h0, h⟩ := h
    obtain ⟨S68, z9, g9⟩ := ru_row h0
    replace h := h S68 g9
    replace K := fun i oo z => K i oo ⟨S68, z9, z⟩
    exact ⟨.inl _, K i0 _ rfl, h⟩
  · replace h := h.2 u9 g9
    replace K := fun i oo z => K i oo (Or.inr ⟨u9, z9, z⟩)
    exact ⟨.inr u9, K i0 _ rfl, h⟩
set_option maxRecDepth 100000 in
theorem ru_instruction_J435 {ι : Type} {P : MS ⊕ MS → Prop} {Q : MS → Prop} {E : MS → Prop} {U435 : MS} {v435_1 : Int32} {v435_2 : Int32} (i0 : ι) (K : ∀ (i : ι) (oo : MS ⊕ MS), v_instruction_J435 oo U435 v435_1 v435_2 → P oo) (h : w_instruction_J435 Q E U435 v435_1 v435_2) : ∃ oo, P oo ∧ oV Q E oo := by
  unfold w_instruction_J435 at h
  by_cases c : v435_2.toInt = 198
  · replace h := h.1 c
    replace K := fun i oo z => K i oo (Or.inl ⟨c, z⟩)
    exact ru_instruction_J449 i0 K h
  · replace h := h.2 c
    replace K := fun i oo z => K i oo (Or.inr ⟨c, z⟩)
    by_cases c : v435_2.toInt = 199
    · replace h := h.1 c
      replace K := fun i oo z => K i oo (Or.inl ⟨c, z⟩)
      exact ru_instruction_J449 i0 K h
    · replace h := h.2 c
      replace K := fun i oo z => K i oo (Or.inr ⟨c, z⟩)
      by_cases c : v435_2.toInt = 200
      · replace h := h.1 c
        replace K := fun i oo z => K i oo (Or.inl ⟨c, z⟩)
        obtain ⟨g5_, h⟩ := h
        replace K := fun i oo z => K i oo ⟨g5_, z⟩
        obtain ⟨Q9, E9, h0, h⟩ := h
        obtain ⟨o9, z9, g9⟩ := ru_target h0
        rcases o9 with ⟨r88, S89⟩ | u9
        · replace h := h.1 r88 S89 g9
          replace K := fun i oo z => K i oo (Or.inl ⟨r88, S89, z9, z⟩)
          obtain ⟨Q9, h0, h⟩ := h
          obtain ⟨S92, z9, g9⟩ := ru_row h0
          replace h := h S92 g9
          replace K := fun i oo z => K i oo ⟨S92, z9, z⟩
          exact ⟨.inl _, K i0 _ rfl, h⟩
        · replace h := h.2 u9 g9
          replace K := fun i oo z => K i oo (Or.inr ⟨u9, z9, z⟩)
          exact ⟨.inr u9, K i0 _ rfl, h⟩
      · replace h := h.2 c
        replace K := fun i oo z => K i oo (Or.inr ⟨c, z⟩)
        by_cases c : v435_2.toInt = 170
        · replace h := h.1 c
          replace K := fun i oo z => K i oo (Or.inl ⟨c, z⟩)
          exact ru_instruction_J514 i0 K h
        · replace h := h.2 c
          replace K := fun i oo z => K i oo (Or.inr ⟨c, z⟩)
          by_cases c : v435_2.toInt = 171
          · replace h := h.1 c
            replace K := fun i oo z => K i oo (Or.inl ⟨c, z⟩)
            exact ru_instruction_J514 i0 K h
          · replace h := h.2 c
            replace K := fun i oo z => K i oo (Or.inr ⟨c, z⟩)
            by_cases c : v435_2.toInt = 178
            · replace h := h.1 c
              replace K := fun i oo z => K i oo (Or.inl ⟨c, z⟩)
              exact ru_instruction_J537 i0 K h
            · replace h := h.2 c
              replace K := fun i oo z => K i oo (Or.inr ⟨c, z⟩)
              by_cases c : v435_2.toInt = 179
              · replace h := h.1 c
                replace K := fun i oo z => K i oo (Or.inl ⟨c, z⟩)
                exact ru_instruction_J537 i0 K h
              · replace h := h.2 c
                replace K := fun i oo z => K i oo (Or.inr ⟨c, z⟩)
                by_cases c : v435_2.toInt = 184
                · replace h := h.1 c
                  replace K := fun i oo z => K i oo (Or.inl ⟨c, z⟩)
                  obtain ⟨Q9, E9, h0, h⟩ := h
                  obtain ⟨o9, z9, g9⟩ := ru_member h0
                  rcases o9 with ⟨r77, S78⟩ | u9
                  · replace h := h.1 r77 S78 g9
                    replace K := fun i oo z => K i oo (Or.inl ⟨r77, S78, z9, z⟩)
                    obtain ⟨Q9, h0, h⟩ := h
                    obtain ⟨S81, z9, g9⟩ := ru_row h0
                    replace h := h S81 g9
                    replace K := fun i oo z => K i oo ⟨S81, z9, z⟩
                    exact ⟨.inl _, K i0 _ rfl, h⟩
                  · replace h := h.2 u9 g9
                    replace K := fun i oo z => K i oo (Or.inr ⟨u9, z9, z⟩)
                    exact ⟨.inr u9, K i0 _ rfl, h⟩
                · replace h := h.2 c
                  replace K := fun i oo z => K i oo (Or.inr ⟨c, z⟩)
                  obtain ⟨Q9, h0, h⟩ := h
                  obtain ⟨S74, z9, g9⟩ := ru_row h0
                  replace h := h S74 g9
                  replace K := fun i oo z => K i oo ⟨S74, z9, z⟩
                  exact ⟨.inl _, K i0 _ rfl, h⟩
set_option maxRecDepth 100000 in
theorem ru_instruction_J312 {ι : Type} {P : MS ⊕ MS → Prop} {Q : MS → Prop} {E : MS → Prop} {U312 : MS} {v312_1 : Int32} {v312_2 : Int32} (i0 : ι) (K : ∀ (i : ι) (oo : MS ⊕ MS), v_instruction_J312 oo U312 v312_1 v312_2 → P oo) (h : w_instruction_J312 Q E U312 v312_1 v312_2) : ∃ oo, P oo ∧ oV Q E oo := by
  unfold w_instruction_J312 at h
  by_cases c : v312_2.toInt = 21
  · replace h := h.1 c
    replace K := fun i oo z => K i oo (Or.inl ⟨c, z⟩)
    exact ru_instruction_J348 i0 K h
  · replace h := h.2 c
    replace K := fun i oo z => K i oo (Or.inr ⟨c, z⟩)
    by_cases c : v312_2.toInt = 22
    · replace h := h.1 c
      replace K := fun i oo z => K i oo (Or.inl ⟨c, z⟩)
      exact ru_instruction_J348 i0 K h
    · replace h := h.2 c
      replace K := fun i oo z => K i oo (Or.inr ⟨c, z⟩)
      by_cases c : v312_2.toInt = 25
      · replace h := h.1 c
        replace K := fun i oo z => K i oo (Or.inl ⟨c, z⟩)
        exact ru_instruction_J348 i0 K h
      · replace h := h.2 c
        replace K := fun i oo z => K i oo (Or.inr ⟨c, z⟩)
        by_cases c : v312_2.toInt = 54
        · replace h := h.1 c
          replace K := fun i oo z => K i oo (Or.inl ⟨c, z⟩)
          exact ru_instruction_J348 i0 K h
        · replace h := h.2 c
          replace K := fun i oo z => K i oo (Or.inr ⟨c, z⟩)
          by_cases c : v312_2.toInt = 55
          · replace h := h.1 c
            replace K := fun i oo z => K i oo (Or.inl ⟨c, z⟩)
            exact ru_instruction_J348 i0 K h
          · replace h := h.2 c
            replace K := fun i oo z => K i oo (Or.inr ⟨c, z⟩)
            by_cases c : v312_2.toInt = 58
            · replace h := h.1 c
              replace K := fun i oo z => K i oo (Or.inl ⟨c, z⟩)
              exact ru_instruction_J348 i0 K h
            · replace h := h.2 c
              replace K := fun i oo z => K i oo (Or.inr ⟨c, z⟩)
              by_cases c : v312_2.toInt = 132
              · replace h := h.1 c
                replace K := fun i oo z => K i oo (Or.inl ⟨c, z⟩)
                obtain ⟨g6_, h⟩ := h
                replace K := fun i oo z => K i oo ⟨g6_, z⟩
                obtain ⟨g7_, h⟩ := h
                replace K := fun i oo z => K i oo ⟨g7_, z⟩
                obtain ⟨g8_, h⟩ := h
                replace K := fun i oo z => K i oo ⟨g8_, z⟩
                obtain ⟨Q9, E9, h0, h⟩ := h
                obtain ⟨o9, z9, g9⟩ := ru_grown h0
                rcases o9 with S114 | u9
                · replace h := h.1 S114 g9
                  replace K := fun i oo z => K i oo (Or.inl ⟨S114, z9, z⟩)
                  exact ⟨.inl _, K i0 _ rfl, h⟩
                · replace h := h.2 u9 g9
                  replace K := fun i oo z => K i oo (Or.inr ⟨u9, z9, z⟩)
                  exact ⟨.inr u9, K i0 _ rfl, h⟩
              · replace h := h.2 c
                replace K := fun i oo z => K i oo (Or.inr ⟨c, z⟩)
                by_cases c : v312_2.toInt = 196
                · replace h := h.1 c
                  replace K := fun i oo z => K i oo (Or.inl ⟨c, z⟩)
                  obtain ⟨g9_, h⟩ := h
                  replace K := fun i oo z => K i oo ⟨g9_, z⟩
                  obtain ⟨Q9, E9, h0, h⟩ := h
                  obtain ⟨o9, z9, g9⟩ := ru_wide h0
                  rcases o9 with S101 | u9
                  · replace h := h.1 S101 g9
                    replace K := fun i oo z => K i oo (Or.inl ⟨S101, z9, z⟩)
                    exact ⟨.inl _, K i0 _ rfl, h⟩
                  · replace h := h.2 u9 g9
                    replace K := fun i oo z => K i oo (Or.inr ⟨u9, z9, z⟩)
                    exact ⟨.inr u9, K i0 _ rfl, h⟩
                · replace h := h.2 c
                  replace K := fun i oo z => K i oo (Or.inr ⟨c, z⟩)
                  by_cases c : v312_2.toInt < 153
                  · replace h := h.1 c
                    replace K := fun i oo z => K i oo (Or.inl ⟨c, z⟩)
                    exact ru_instruction_J435 i0 K h
                  · replace h := h.2 c
                    replace K := fun i oo z => K i oo (Or.inr ⟨c, z⟩)
                    by_cases c : v312_2.toInt ≤ 167
                    · replace h := h.1 c
                      replace K := fun i oo z => K i oo (Or.inl ⟨c, z⟩)
                      exact ru_instruction_J449 i0 K h
                    · replace h := h.2 c
                      replace K := fun i oo z => K i oo (Or.inr ⟨c, z⟩)
                      exact ru_instruction_J435 i0 K h
set_option maxRecDepth 100000 in
theorem ru_instruction_J286 {ι : Type} {P : MS ⊕ MS → Prop} {Q : MS → Prop} {E : MS → Prop} {U286 : MS} {v286_1 : Int32} {v286_2 : Int32} (i0 : ι) (K : ∀ (i : ι) (oo : MS ⊕ MS), v_instruction_J286 oo U286 v286_1 v286_2 → P oo) (h : w_instruction_J286 Q E U286 v286_1 v286_2) : ∃ oo, P oo ∧ oV Q E oo := by
  unfold w_instruction_J286 at h
  by_cases c : v286_2.toInt < 75
  · replace h := h.1 c
    replace K := fun i oo z => K i oo (Or.inl ⟨c, z⟩)
    exact ru_instruction_J312 i0 K h
  · replace h := h.2 c
    replace K := fun i oo z => K i oo (Or.inr ⟨c, z⟩)
    by_cases c : 78 < v286_2.toInt
    · replace h := h.1 c
      replace K := fun i oo z => K i oo (Or.inl ⟨c, z⟩)
      exact ru_instruction_J312 i0 K h
    · replace h := h.2 c
      replace K := fun i oo z => K i oo (Or.inr ⟨c, z⟩)
      obtain ⟨Q9, E9, h0, h⟩ := h
      obtain ⟨o9, z9, g9⟩ := ru_localRow h0
      rcases o9 with S120 | u9
      · replace h := h.1 S120 g9
        replace K := fun i oo z => K i oo (Or.inl ⟨S120, z9, z⟩)
        exact ⟨.inl _, K i0 _ rfl, h⟩
      · replace h := h.2 u9 g9
        replace K := fun i oo z => K i oo (Or.inr ⟨u9, z9, z⟩)
        exact ⟨.inr u9, K i0 _ rfl, h⟩
set_option maxRecDepth 100000 in
theorem ru_instruction_J274 {ι : Type} {P : MS ⊕ MS → Prop} {Q : MS → Prop} {E : MS → Prop} {U274 : MS} {t274_0 : Int32} {t274_1 : Int32} {v274_2 : Int32} (i0 : ι) (K : ∀ (i : ι) (oo : MS ⊕ MS), v_instruction_J274 oo U274 t274_0 t274_1 v274_2 → P oo) (h : w_instruction_J274 Q E U274 t274_0 t274_1 v274_2) : ∃ oo, P oo ∧ oV Q E oo := by
  unfold w_instruction_J274 at h
  obtain ⟨Q9, E9, h0, h⟩ := h
  obtain ⟨o9, z9, g9⟩ := ru_localRow h0
  rcases o9 with S127 | u9
  · replace h := h.1 S127 g9
    replace K := fun i oo z => K i oo (Or.inl ⟨S127, z9, z⟩)
    exact ⟨.inl _, K i0 _ rfl, h⟩
  · replace h := h.2 u9 g9
    replace K := fun i oo z => K i oo (Or.inr ⟨u9, z9, z⟩)
    exact ⟨.inr u9, K i0 _ rfl, h⟩
set_option maxRecDepth 100000 in
theorem ru_instruction_J247 {ι : Type} {P : MS ⊕ MS → Prop} {Q : MS → Prop} {E : MS → Prop} {U247 : MS} {v247_1 : Int32} {v247_2 : Int32} (i0 : ι) (K : ∀ (i : ι) (oo : MS ⊕ MS), v_instruction_J247 oo U247 v247_1 v247_2 → P oo) (h : w_instruction_J247 Q E U247 v247_1 v247_2) : ∃ oo, P oo ∧ oV Q E oo := by
  unfold w_instruction_J247 at h
  by_cases c : v247_2.toInt < 59
  · replace h := h.1 c
    replace K := fun i oo z => K i oo (Or.inl ⟨c, z⟩)
    exact ru_instruction_J286 i0 K h
  · replace h := h.2 c
    replace K := fun i oo z => K i oo (Or.inr ⟨c, z⟩)
    by_cases c : 66 < v247_2.toInt
    · replace h := h.1 c
      replace K := fun i oo z => K i oo (Or.inl ⟨c, z⟩)
      exact ru_instruction_J286 i0 K h
    · replace h := h.2 c
      replace K := fun i oo z => K i oo (Or.inr ⟨c, z⟩)
      by_cases c : 63 ≤ v247_2.toInt
      · replace h := h.1 c
        replace K := fun i oo z => K i oo (Or.inl ⟨c, z⟩)
        exact ru_instruction_J274 i0 K h
      · replace h := h.2 c
        replace K := fun i oo z => K i oo (Or.inr ⟨c, z⟩)
        exact ru_instruction_J274 i0 K h
set_option maxRecDepth 100000 in
theorem ru_instruction_J221 {ι : Type} {P : MS ⊕ MS → Prop} {Q : MS → Prop} {E : MS → Prop} {U221 : MS} {v221_1 : Int32} {v221_2 : Int32} (i0 : ι) (K : ∀ (i : ι) (oo : MS ⊕ MS), v_instruction_J221 oo U221 v221_1 v221_2 → P oo) (h : w_instruction_J221 Q E U221 v221_1 v221_2) : ∃ oo, P oo ∧ oV Q E oo := by
  unfold w_instruction_J221 at h
  by_cases c : v221_2.toInt < 42
  · replace h := h.1 c
    replace K := fun i oo z => K i oo (Or.inl ⟨c, z⟩)
    exact ru_instruction_J247 i0 K h
  · replace h := h.2 c
    replace K := fun i oo z => K i oo (Or.inr ⟨c, z⟩)
    by_cases c : 45 < v221_2.toInt
    · replace h := h.1 c
      replace K := fun i oo z => K i oo (Or.inl ⟨c, z⟩)
      exact ru_instruction_J247 i0 K h
    · replace h := h.2 c
      replace K := fun i oo z => K i oo (Or.inr ⟨c, z⟩)
      obtain ⟨Q9, E9, h0, h⟩ := h
      obtain ⟨o9, z9, g9⟩ := ru_localRow h0
      rcases o9 with S134 | u9
      · replace h := h.1 S134 g9
        replace K := fun i oo z => K i oo (Or.inl ⟨S134, z9, z⟩)
        exact ⟨.inl _, K i0 _ rfl, h⟩
      · replace h := h.2 u9 g9
        replace K := fun i oo z => K i oo (Or.inr ⟨u9, z9, z⟩)
        exact ⟨.inr u9, K i0 _ rfl, h⟩
set_option maxRecDepth 100000 in
theorem ru_instruction_J209 {ι : Type} {P : MS ⊕ MS → Prop} {Q : MS → Prop} {E : MS → Prop} {U209 : MS} {t209_0 : Int32} {t209_1 : Int32} {v209_2 : Int32} (i0 : ι) (K : ∀ (i : ι) (oo : MS ⊕ MS), v_instruction_J209 oo U209 t209_0 t209_1 v209_2 → P oo) (h : w_instruction_J209 Q E U209 t209_0 t209_1 v209_2) : ∃ oo, P oo ∧ oV Q E oo := by
  unfold w_instruction_J209 at h
  obtain ⟨Q9, E9, h0, h⟩ := h
  obtain ⟨o9, z9, g9⟩ := ru_localRow h0
  rcases o9 with S141 | u9
  · replace h := h.1 S141 g9
    replace K := fun i oo z => K i oo (Or.inl ⟨S141, z9, z⟩)
    exact ⟨.inl _, K i0 _ rfl, h⟩
  · replace h := h.2 u9 g9
    replace K := fun i oo z => K i oo (Or.inr ⟨u9, z9, z⟩)
    exact ⟨.inr u9, K i0 _ rfl, h⟩
set_option maxRecDepth 100000 in
theorem ru_instruction_J30 {ι : Type} {P : MS ⊕ MS → Prop} {Q : MS → Prop} {E : MS → Prop} {U30 : MS} {v30_1 : Int32} {v30_2 : Int32} (i0 : ι) (K : ∀ (i : ι) (oo : MS ⊕ MS), v_instruction_J30 oo U30 v30_1 v30_2 → P oo) (h : w_instruction_J30 Q E U30 v30_1 v30_2) : ∃ oo, P oo ∧ oV Q E oo := by
  unfold w_instruction_J30 at h
  by_cases c : v30_2.toInt = 9
  · replace h := h.1 c
    replace K := fun i oo z => K i oo (Or.inl ⟨c, z⟩)
    exact ru_instruction_J42 i0 K h
  · replace h := h.2 c
    replace K := fun i oo z => K i oo (Or.inr ⟨c, z⟩)
    by_cases c : v30_2.toInt = 10
    · replace h := h.1 c
      replace K := fun i oo z => K i oo (Or.inl ⟨c, z⟩)
      exact ru_instruction_J42 i0 K h
    · replace h := h.2 c
      replace K := fun i oo z => K i oo (Or.inr ⟨c, z⟩)
      by_cases c : v30_2.toInt = 16
      · replace h := h.1 c
        replace K := fun i oo z => K i oo (Or.inl ⟨c, z⟩)
        obtain ⟨g10_, h⟩ := h
        replace K := fun i oo z => K i oo ⟨g10_, z⟩
        obtain ⟨g11_, h⟩ := h
        replace K := fun i oo z => K i oo ⟨g11_, z⟩
        obtain ⟨Q9, h0, h⟩ := h
        obtain ⟨S166, z9, g9⟩ := ru_row h0
        replace h := h S166 g9
        replace K := fun i oo z => K i oo ⟨S166, z9, z⟩
        exact ⟨.inl _, K i0 _ rfl, h⟩
      · replace h := h.2 c
        replace K := fun i oo z => K i oo (Or.inr ⟨c, z⟩)
        by_cases c : v30_2.toInt = 17
        · replace h := h.1 c
          replace K := fun i oo z => K i oo (Or.inl ⟨c, z⟩)
          obtain ⟨g12_, h⟩ := h
          replace K := fun i oo z => K i oo ⟨g12_, z⟩
          obtain ⟨Q9, h0, h⟩ := h
          obtain ⟨S157, z9, g9⟩ := ru_row h0
          replace h := h S157 g9
          replace K := fun i oo z => K i oo ⟨S157, z9, z⟩
          exact ⟨.inl _, K i0 _ rfl, h⟩
        · replace h := h.2 c
          replace K := fun i oo z => K i oo (Or.inr ⟨c, z⟩)
          by_cases c : v30_2.toInt = 18
          · replace h := h.1 c
            replace K := fun i oo z => K i oo (Or.inl ⟨c, z⟩)
            exact ru_instruction_J120 i0 K h
          · replace h := h.2 c
            replace K := fun i oo z => K i oo (Or.inr ⟨c, z⟩)
            by_cases c : v30_2.toInt = 19
            · replace h := h.1 c
              replace K := fun i oo z => K i oo (Or.inl ⟨c, z⟩)
              exact ru_instruction_J120 i0 K h
            · replace h := h.2 c
              replace K := fun i oo z => K i oo (Or.inr ⟨c, z⟩)
              by_cases c : v30_2.toInt = 20
              · replace h := h.1 c
                replace K := fun i oo z => K i oo (Or.inl ⟨c, z⟩)
                obtain ⟨g13_, h⟩ := h
                replace K := fun i oo z => K i oo ⟨g13_, z⟩
                obtain ⟨Q9, E9, h0, h⟩ := h
                obtain ⟨o9, z9, g9⟩ := ru_pushed h0
                rcases o9 with S150 | u9
                · replace h := h.1 S150 g9
                  replace K := fun i oo z => K i oo (Or.inl ⟨S150, z9, z⟩)
                  exact ⟨.inl _, K i0 _ rfl, h⟩
                · replace h := h.2 u9 g9
                  replace K := fun i oo z => K i oo (Or.inr ⟨u9, z9, z⟩)
                  exact ⟨.inr u9, K i0 _ rfl, h⟩
              · replace h := h.2 c
                replace K := fun i oo z => K i oo (Or.inr ⟨c, z⟩)
                by_cases c : v30_2.toInt < 26
                · replace h := h.1 c
                  replace K := fun i oo z => K i oo (Or.inl ⟨c, z⟩)
                  exact ru_instruction_J221 i0 K h
                · replace h := h.2 c
                  replace K := fun i oo z => K i oo (Or.inr ⟨c, z⟩)
                  by_cases c : 33 < v30_2.toInt
                  · replace h := h.1 c
                    replace K := fun i oo z => K i oo (Or.inl ⟨c, z⟩)
                    exact ru_instruction_J221 i0 K h
                  · replace h := h.2 c
                    replace K := fun i oo z => K i oo (Or.inr ⟨c, z⟩)
                    by_cases c : 30 ≤ v30_2.toInt
                    · replace h := h.1 c
                      replace K := fun i oo z => K i oo (Or.inl ⟨c, z⟩)
                      exact ru_instruction_J209 i0 K h
                    · replace h := h.2 c
                      replace K := fun i oo z => K i oo (Or.inr ⟨c, z⟩)
                      exact ru_instruction_J209 i0 K h
set_option maxRecDepth 100000 in
theorem ru_instruction {S : MS} {x1 : Int32} {Q : MS → Prop} {E : MS → Prop} (h : w_instruction S x1 Q E) : ∃ oo, v_instruction S x1 oo ∧ oV Q E oo := by
  have i0 : Unit := ()
  have K : ∀ (i : Unit) (oo : MS ⊕ MS), v_instruction S x1 oo → v_instruction S x1 oo := fun _ _ z => z
  unfold w_instruction at h
  obtain ⟨g14_, h⟩ := h
  replace K := fun i oo z => K i oo ⟨g14_, z⟩
  obtain ⟨a4, ea4⟩ : ∃ x9 : Int32, x9 = (f_codeOctet S x1) := ⟨_, rfl⟩
  replace h := h a4 ea4
  replace K := fun i oo z => K i oo ⟨a4, ea4, z⟩
  by_cases c : a4.toInt < 2
  · replace h := h.1 c
    replace K := fun i oo z => K i oo (Or.inl ⟨c, z⟩)
    exact ru_instruction_J30 i0 K h
  · replace h := h.2 c
    replace K := fun i oo z => K i oo (Or.inr ⟨c, z⟩)
    by_cases c : 8 < a4.toInt
    · replace h := h.1 c
      replace K := fun i oo z => K i oo (Or.inl ⟨c, z⟩)
      exact ru_instruction_J30 i0 K h
    · replace h := h.2 c
      replace K := fun i oo z => K i oo (Or.inr ⟨c, z⟩)
      obtain ⟨Q9, h0, h⟩ := h
      obtain ⟨S172, z9, g9⟩ := ru_row h0
      replace h := h S172 g9
      replace K := fun i oo z => K i oo ⟨S172, z9, z⟩
      exact ⟨.inl _, K i0 _ rfl, h⟩
set_option maxRecDepth 100000 in
theorem vw_instruction_J42 {oo : MS ⊕ MS} {U42 : MS} {v42_2 : Int32} (h : v_instruction_J42 oo U42 v42_2) : w_instruction_J42 (fun u => oo = .inl u) (fun u => oo = .inr u) U42 v42_2 := by
  unfold v_instruction_J42 at h
  unfold w_instruction_J42
  obtain ⟨q9, z9, h⟩ := h
  refine ⟨_, vw_row z9, ?_⟩
  intro q8 d9
  subst d9
  exact h
set_option maxRecDepth 100000 in
theorem vz_instruction_J42 {oo : MS ⊕ MS} {Q : MS → Prop} {E : MS → Prop} {U42 : MS} {v42_2 : Int32} (h : v_instruction_J42 oo U42 v42_2) (w : w_instruction_J42 Q E U42 v42_2) : oV Q E oo := by
  unfold v_instruction_J42 at h
  unfold w_instruction_J42 at w
  obtain ⟨q9, z9, h⟩ := h
  obtain ⟨Q9, w0, w⟩ := w
  replace w := w q9 (vz_row z9 w0)
  rw [h]
  exact w
set_option maxRecDepth 100000 in
theorem vw_instruction_J149 {oo : MS ⊕ MS} {U149 : MS} {t149_0 : Int32} {t149_1 : Int32} (h : v_instruction_J149 oo U149 t149_0 t149_1) : w_instruction_J149 (fun u => oo = .inl u) (fun u => oo = .inr u) U149 t149_0 t149_1 := by
  unfold v_instruction_J149 at h
  unfold w_instruction_J149
  rcases h with ⟨q9, z9, h⟩ | ⟨q9, z9, h⟩
  · refine ⟨_, _, vw_pushed z9, ?_, ?_⟩
    · intro q8 d9
      injection d9 with d9
      subst d9
      exact h
    · intro q8 d9
      exact nomatch d9
  · refine ⟨_, _, vw_pushed z9, ?_, ?_⟩
    · intro q8 d9
      exact nomatch d9
    · intro q8 d9
      injection d9 with d9
      subst d9
      exact h
set_option maxRecDepth 100000 in
theorem vz_instruction_J149 {oo : MS ⊕ MS} {Q : MS → Prop} {E : MS → Prop} {U149 : MS} {t149_0 : Int32} {t149_1 : Int32} (h : v_instruction_J149 oo U149 t149_0 t149_1) (w : w_instruction_J149 Q E U149 t149_0 t149_1) : oV Q E oo := by
  unfold v_instruction_J149 at h
  unfold w_instruction_J149 at w
  obtain ⟨Q9, E9, w0, w⟩ := w
  rcases h with ⟨q9, z9, h⟩ | ⟨q9, z9, h⟩
  · replace w := w.1 q9 (vz_pushed z9 w0)
    rw [h]
    exact w
  · replace w := w.2 q9 (vz_pushed z9 w0)
    rw [h]
    exact w
set_option maxRecDepth 100000 in
theorem vw_instruction_J120 {oo : MS ⊕ MS} {U120 : MS} {v120_1 : Int32} {v120_2 : Int32} (h : v_instruction_J120 oo U120 v120_1 v120_2) : w_instruction_J120 (fun u => oo = .inl u) (fun u => oo = .inr u) U120 v120_1 v120_2 := by
  unfold v_instruction_J120 at h
  unfold w_instruction_J120
  rcases h with ⟨c, h⟩ | ⟨c, h⟩
  · refine ⟨fun _ => ?_, fun c2 => absurd c c2⟩
    obtain ⟨g9, h⟩ := h
    refine ⟨g9, ?_⟩
    exact vw_instruction_J149 h
  · refine ⟨fun c2 => absurd c2 c, fun _ => ?_⟩
    obtain ⟨g9, h⟩ := h
    refine ⟨g9, ?_⟩
    exact vw_instruction_J149 h
set_option maxRecDepth 100000 in
theorem vz_instruction_J120 {oo : MS ⊕ MS} {Q : MS → Prop} {E : MS → Prop} {U120 : MS} {v120_1 : Int32} {v120_2 : Int32} (h : v_instruction_J120 oo U120 v120_1 v120_2) (w : w_instruction_J120 Q E U120 v120_1 v120_2) : oV Q E oo := by
  unfold v_instruction_J120 at h
  unfold w_instruction_J120 at w
  rcases h with ⟨c, h⟩ | ⟨c, h⟩
  · replace w := w.1 c
    replace h := h.2
    replace w := w.2
    exact vz_instruction_J149 h w
  · replace w := w.2 c
    replace h := h.2
    replace w := w.2
    exact vz_instruction_J149 h w
set_option maxRecDepth 100000 in
theorem vw_instruction_J348 {oo : MS ⊕ MS} {U348 : MS} {v348_1 : Int32} {v348_2 : Int32} (h : v_instruction_J348 oo U348 v348_1 v348_2) : w_instruction_J348 (fun u => oo = .inl u) (fun u => oo = .inr u) U348 v348_1 v348_2 := by
  unfold v_instruction_J348 at h
  unfold w_instruction_J348
  obtain ⟨g9, h⟩ := h
  refine ⟨g9, ?_⟩
  rcases h with ⟨q9, z9, h⟩ | ⟨q9, z9, h⟩
  · refine ⟨_, _, vw_localRow z9, ?_, ?_⟩
    · intro q8 d9
      injection d9 with d9
      subst d9
      exact h
    · intro q8 d9
      exact nomatch d9
  · refine ⟨_, _, vw_localRow z9, ?_, ?_⟩
    · intro q8 d9
      exact nomatch d9
    · intro q8 d9
      injection d9 with d9
      subst d9
      exact h
set_option maxRecDepth 100000 in
theorem vz_instruction_J348 {oo : MS ⊕ MS} {Q : MS → Prop} {E : MS → Prop} {U348 : MS} {v348_1 : Int32} {v348_2 : Int32} (h : v_instruction_J348 oo U348 v348_1 v348_2) (w : w_instruction_J348 Q E U348 v348_1 v348_2) : oV Q E oo := by
  unfold v_instruction_J348 at h
  unfold w_instruction_J348 at w
  replace h := h.2
  replace w := w.2
  obtain ⟨Q9, E9, w0, w⟩ := w
  rcases h with ⟨q9, z9, h⟩ | ⟨q9, z9, h⟩
  · replace w := w.1 q9 (vz_localRow z9 w0)
    rw [h]
    exact w
  · replace w := w.2 q9 (vz_localRow z9 w0)
    rw [h]
    exact w
set_option maxRecDepth 100000 in
theorem vw_instruction_J449 {oo : MS ⊕ MS} {U449 : MS} {v449_1 : Int32} {v449_2 : Int32} (h : v_instruction_J449 oo U449 v449_1 v449_2) : w_instruction_J449 (fun u => oo = .inl u) (fun u => oo = .inr u) U449 v449_1 v449_2 := by
  unfold v_instruction_J449 at h
  unfold w_instruction_J449
  obtain ⟨g9, h⟩ := h
  refine ⟨g9, ?_⟩
  rcases h with ⟨p9, q9, z9, h⟩ | ⟨q9, z9, h⟩
  · refine ⟨_, _, vw_target z9, ?_, ?_⟩
    · intro p8 q8 d9
      injection d9 with d9
      injection d9 with d8 d9
      subst d8
      subst d9
      obtain ⟨q9, z9, h⟩ := h
      refine ⟨_, vw_row z9, ?_⟩
      intro q8 d9
      subst d9
      exact h
    · intro q8 d9
      exact nomatch d9
  · refine ⟨_, _, vw_target z9, ?_, ?_⟩
    · intro p8 q8 d9
      exact nomatch d9
    · intro q8 d9
      injection d9 with d9
      subst d9
      exact h
set_option maxRecDepth 100000 in
theorem vz_instruction_J449 {oo : MS ⊕ MS} {Q : MS → Prop} {E : MS → Prop} {U449 : MS} {v449_1 : Int32} {v449_2 : Int32} (h : v_instruction_J449 oo U449 v449_1 v449_2) (w : w_instruction_J449 Q E U449 v449_1 v449_2) : oV Q E oo := by
  unfold v_instruction_J449 at h
  unfold w_instruction_J449 at w
  replace h := h.2
  replace w := w.2
  obtain ⟨Q9, E9, w0, w⟩ := w
  rcases h with ⟨p9, q9, z9, h⟩ | ⟨q9, z9, h⟩
  · replace w := w.1 p9 q9 (vz_target z9 w0)
    obtain ⟨q9, z9, h⟩ := h
    obtain ⟨Q9, w0, w⟩ := w
    replace w := w q9 (vz_row z9 w0)
    rw [h]
    exact w
  · replace w := w.2 q9 (vz_target z9 w0)
    rw [h]
    exact w
set_option maxRecDepth 100000 in
theorem vw_instruction_J514 {oo : MS ⊕ MS} {U514 : MS} {v514_1 : Int32} {v514_2 : Int32} (h : v_instruction_J514 oo U514 v514_1 v514_2) : w_instruction_J514 (fun u => oo = .inl u) (fun u => oo = .inr u) U514 v514_1 v514_2 := by
  unfold v_instruction_J514 at h
  unfold w_instruction_J514
  rcases h with ⟨q9, z9, h⟩ | ⟨q9, z9, h⟩
  · refine ⟨_, _, vw_switched z9, ?_, ?_⟩
    · intro q8 d9
      injection d9 with d9
      subst d9
      exact h
    · intro q8 d9
      exact nomatch d9
  · refine ⟨_, _, vw_switched z9, ?_, ?_⟩
    · intro q8 d9
      exact nomatch d9
    · intro q8 d9
      injection d9 with d9
      subst d9
      exact h
set_option maxRecDepth 100000 in
theorem vz_instruction_J514 {oo : MS ⊕ MS} {Q : MS → Prop} {E : MS → Prop} {U514 : MS} {v514_1 : Int32} {v514_2 : Int32} (h : v_instruction_J514 oo U514 v514_1 v514_2) (w : w_instruction_J514 Q E U514 v514_1 v514_2) : oV Q E oo := by
  unfold v_instruction_J514 at h
  unfold w_instruction_J514 at w
  obtain ⟨Q9, E9, w0, w⟩ := w
  rcases h with ⟨q9, z9, h⟩ | ⟨q9, z9, h⟩
  · replace w := w.1 q9 (vz_switched z9 w0)
    rw [h]
    exact w
  · replace w := w.2 q9 (vz_switched z9 w0)
    rw [h]
    exact w
set_option maxRecDepth 100000 in
theorem vw_instruction_J537 {oo : MS ⊕ MS} {U537 : MS} {v537_1 : Int32} {v537_2 : Int32} (h : v_instruction_J537 oo U537 v537_1 v537_2) : w_instruction_J537 (fun u => oo = .inl u) (fun u => oo = .inr u) U537 v537_1 v537_2 := by
  unfold v_instruction_J537 at h
  unfold w_instruction_J537
  rcases h with ⟨p9, q9, z9, h⟩ | ⟨q9, z9, h⟩
  · refine ⟨_, _, vw_member z9, ?_, ?_⟩
    · intro p8 q8 d9
      injection d9 with d9
      injection d9 with d8 d9
      subst d8
      subst d9
      obtain ⟨q9, z9, h⟩ := h
      refine ⟨_, vw_row z9, ?_⟩
      intro q8 d9
      subst d9
      exact h
    · intro q8 d9
      exact nomatch d9
  · refine ⟨_, _, vw_member z9, ?_, ?_⟩
    · intro p8 q8 d9
      exact nomatch d9
    · intro q8 d9
      injection d9 with d9
      subst d9
      exact h
set_option maxRecDepth 100000 in
theorem vz_instruction_J537 {oo : MS ⊕ MS} {Q : MS → Prop} {E : MS → Prop} {U537 : MS} {v537_1 : Int32} {v537_2 : Int32} (h : v_instruction_J537 oo U537 v537_1 v537_2) (w : w_instruction_J537 Q E U537 v537_1 v537_2) : oV Q E oo := by
  unfold v_instruction_J537 at h
  unfold w_instruction_J537 at w
  obtain ⟨Q9, E9, w0, w⟩ := w
  rcases h with ⟨p9, q9, z9, h⟩ | ⟨q9, z9, h⟩
  · replace w := w.1 p9 q9 (vz_member z9 w0)
    obtain ⟨q9, z9, h⟩ := h
    obtain ⟨Q9, w0, w⟩ := w
    replace w := w q9 (vz_row z9 w0)
    rw [h]
    exact w
  · replace w := w.2 q9 (vz_member z9 w0)
    rw [h]
    exact w
set_option maxRecDepth 100000 in
theorem vw_instruction_J435 {oo : MS ⊕ MS} {U435 : MS} {v435_1 : Int32} {v435_2 : Int32} (h : v_instruction_J435 oo U435 v435_1 v435_2) : w_instruction_J435 (fun u => oo = .inl u) (fun u => oo = .inr u) U435 v435_1 v435_2 := by
  unfold v_instruction_J435 at h
  unfold w_instruction_J435
  rcases h with ⟨c, h⟩ | ⟨c, h⟩
  · refine ⟨fun _ => ?_, fun c2 => absurd c c2⟩
    exact vw_instruction_J449 h
  · refine ⟨fun c2 => absurd c2 c, fun _ => ?_⟩
    rcases h with ⟨c, h⟩ | ⟨c, h⟩
    · refine ⟨fun _ => ?_, fun c2 => absurd c c2⟩
      exact vw_instruction_J449 h
    · refine ⟨fun c2 => absurd c2 c, fun _ => ?_⟩
      rcases h with ⟨c, h⟩ | ⟨c, h⟩
      · refine ⟨fun _ => ?_, fun c2 => absurd c c2⟩
        obtain ⟨g9, h⟩ := h
        refine ⟨g9, ?_⟩
        rcases h with ⟨p9, q9, z9, h⟩ | ⟨q9, z9, h⟩
        · refine ⟨_, _, vw_target z9, ?_, ?_⟩
          · intro p8 q8 d9
            injection d9 with d9
            injection d9 with d8 d9
            subst d8
            subst d9
            obtain ⟨q9, z9, h⟩ := h
            refine ⟨_, vw_row z9, ?_⟩
            intro q8 d9
            subst d9
            exact h
          · intro q8 d9
            exact nomatch d9
        · refine ⟨_, _, vw_target z9, ?_, ?_⟩
          · intro p8 q8 d9
            exact nomatch d9
          · intro q8 d9
            injection d9 with d9
            subst d9
            exact h
      · refine ⟨fun c2 => absurd c2 c, fun _ => ?_⟩
        rcases h with ⟨c, h⟩ | ⟨c, h⟩
        · refine ⟨fun _ => ?_, fun c2 => absurd c c2⟩
          exact vw_instruction_J514 h
        · refine ⟨fun c2 => absurd c2 c, fun _ => ?_⟩
          rcases h with ⟨c, h⟩ | ⟨c, h⟩
          · refine ⟨fun _ => ?_, fun c2 => absurd c c2⟩
            exact vw_instruction_J514 h
          · refine ⟨fun c2 => absurd c2 c, fun _ => ?_⟩
            rcases h with ⟨c, h⟩ | ⟨c, h⟩
            · refine ⟨fun _ => ?_, fun c2 => absurd c c2⟩
              exact vw_instruction_J537 h
            · refine ⟨fun c2 => absurd c2 c, fun _ => ?_⟩
              rcases h with ⟨c, h⟩ | ⟨c, h⟩
              · refine ⟨fun _ => ?_, fun c2 => absurd c c2⟩
                exact vw_instruction_J537 h
              · refine ⟨fun c2 => absurd c2 c, fun _ => ?_⟩
                rcases h with ⟨c, h⟩ | ⟨c, h⟩
                · refine ⟨fun _ => ?_, fun c2 => absurd c c2⟩
                  rcases h with ⟨p9, q9, z9, h⟩ | ⟨q9, z9, h⟩
                  · refine ⟨_, _, vw_member z9, ?_, ?_⟩
                    · intro p8 q8 d9
                      injection d9 with d9
                      injection d9 with d8 d9
                      subst d8
                      subst d9
                      obtain ⟨q9, z9, h⟩ := h
                      refine ⟨_, vw_row z9, ?_⟩
                      intro q8 d9
                      subst d9
                      exact h
                    · intro q8 d9
                      exact nomatch d9
                  · refine ⟨_, _, vw_member z9, ?_, ?_⟩
                    · intro p8 q8 d9
                      exact nomatch d9
                    · intro q8 d9
                      injection d9 with d9
                      subst d9
                      exact h
                · refine ⟨fun c2 => absurd c2 c, fun _ => ?_⟩
                  obtain ⟨q9, z9, h⟩ := h
                  refine ⟨_, vw_row z9, ?_⟩
                  intro q8 d9
                  subst d9
                  exact h
set_option maxRecDepth 100000 in
theorem vz_instruction_J435 {oo : MS ⊕ MS} {Q : MS → Prop} {E : MS → Prop} {U435 : MS} {v435_1 : Int32} {v435_2 : Int32} (h : v_instruction_J435 oo U435 v435_1 v435_2) (w : w_instruction_J435 Q E U435 v435_1 v435_2) : oV Q E oo := by
  unfold v_instruction_J435 at h
  unfold w_instruction_J435 at w
  rcases h with ⟨c, h⟩ | ⟨c, h⟩
  · replace w := w.1 c
    exact vz_instruction_J449 h w
  · replace w := w.2 c
    rcases h with ⟨c, h⟩ | ⟨c, h⟩
    · replace w := w.1 c
      exact vz_instruction_J449 h w
    · replace w := w.2 c
      rcases h with ⟨c, h⟩ | ⟨c, h⟩
      · replace w := w.1 c
        replace h := h.2
        replace w := w.2
        obtain ⟨Q9, E9, w0, w⟩ := w
        rcases h with ⟨p9, q9, z9, h⟩ | ⟨q9, z9, h⟩
        · replace w := w.1 p9 q9 (vz_target z9 w0)
          obtain ⟨q9, z9, h⟩ := h
          obtain ⟨Q9, w0, w⟩ := w
          replace w := w q9 (vz_row z9 w0)
          rw [h]
          exact w
        · replace w := w.2 q9 (vz_target z9 w0)
          rw [h]
          exact w
      · replace w := w.2 c
        rcases h with ⟨c, h⟩ | ⟨c, h⟩
        · replace w := w.1 c
          exact vz_instruction_J514 h w
        · replace w := w.2 c
          rcases h with ⟨c, h⟩ | ⟨c, h⟩
          · replace w := w.1 c
            exact vz_instruction_J514 h w
          · replace w := w.2 c
            rcases h with ⟨c, h⟩ | ⟨c, h⟩
            · replace w := w.1 c
              exact vz_instruction_J537 h w
            · replace w := w.2 c
              rcases h with ⟨c, h⟩ | ⟨c, h⟩
              · replace w := w.1 c
                exact vz_instruction_J537 h w
              · replace w := w.2 c
                rcases h with ⟨c, h⟩ | ⟨c, h⟩
                · replace w := w.1 c
                  obtain ⟨Q9, E9, w0, w⟩ := w
                  rcases h with ⟨p9, q9, z9, h⟩ | ⟨q9, z9, h⟩
                  · replace w := w.1 p9 q9 (vz_member z9 w0)
                    obtain ⟨q9, z9, h⟩ := h
                    obtain ⟨Q9, w0, w⟩ := w
                    replace w := w q9 (vz_row z9 w0)
                    rw [h]
                    exact w
                  · replace w := w.2 q9 (vz_member z9 w0)
                    rw [h]
                    exact w
                · replace w := w.2 c
                  obtain ⟨q9, z9, h⟩ := h
                  obtain ⟨Q9, w0, w⟩ := w
                  replace w := w q9 (vz_row z9 w0)
                  rw [h]
                  exact w
set_option maxRecDepth 100000 in
theorem vw_instruction_J312 {oo : MS ⊕ MS} {U312 : MS} {v312_1 : Int32} {v312_2 : Int32} (h : v_instruction_J312 oo U312 v312_1 v312_2) : w_instruction_J312 (fun u => oo = .inl u) (fun u => oo = .inr u) U312 v312_1 v312_2 := by
  unfold v_instruction_J312 at h
  unfold w_instruction_J312
  rcases h with ⟨c, h⟩ | ⟨c, h⟩
  · refine ⟨fun _ => ?_, fun c2 => absurd c c2⟩
    exact vw_instruction_J348 h
  · refine ⟨fun c2 => absurd c2 c, fun _ => ?_⟩
    rcases h with ⟨c, h⟩ | ⟨c, h⟩
    · refine ⟨fun _ => ?_, fun c2 => absurd c c2⟩
      exact vw_instruction_J348 h
    · refine ⟨fun c2 => absurd c2 c, fun _ => ?_⟩
      rcases h with ⟨c, h⟩ | ⟨c, h⟩
      · refine ⟨fun _ => ?_, fun c2 => absurd c c2⟩
        exact vw_instruction_J348 h
      · refine ⟨fun c2 => absurd c2 c, fun _ => ?_⟩
        rcases h with ⟨c, h⟩ | ⟨c, h⟩
        · refine ⟨fun _ => ?_, fun c2 => absurd c c2⟩
          exact vw_instruction_J348 h
        · refine ⟨fun c2 => absurd c2 c, fun _ => ?_⟩
          rcases h with ⟨c, h⟩ | ⟨c, h⟩
          · refine ⟨fun _ => ?_, fun c2 => absurd c c2⟩
            exact vw_instruction_J348 h
          · refine ⟨fun c2 => absurd c2 c, fun _ => ?_⟩
            rcases h with ⟨c, h⟩ | ⟨c, h⟩
            · refine ⟨fun _ => ?_, fun c2 => absurd c c2⟩
              exact vw_instruction_J348 h
            · refine ⟨fun c2 => absurd c2 c, fun _ => ?_⟩
              rcases h with ⟨c, h⟩ | ⟨c, h⟩
              · refine ⟨fun _ => ?_, fun c2 => absurd c c2⟩
                obtain ⟨g9, h⟩ := h
                refine ⟨g9, ?_⟩
                obtain ⟨g9, h⟩ := h
                refine ⟨g9, ?_⟩
                obtain ⟨g9, h⟩ := h
                refine ⟨g9, ?_⟩
                rcases h with ⟨q9, z9, h⟩ | ⟨q9, z9, h⟩
                · refine ⟨_, _, vw_grown z9, ?_, ?_⟩
                  · intro q8 d9
                    injection d9 with d9
                    subst d9
                    exact h
                  · intro q8 d9
                    exact nomatch d9
                · refine ⟨_, _, vw_grown z9, ?_, ?_⟩
                  · intro q8 d9
                    exact nomatch d9
                  · intro q8 d9
                    injection d9 with d9
                    subst d9
                    exact h
              · refine ⟨fun c2 => absurd c2 c, fun _ => ?_⟩
                rcases h with ⟨c, h⟩ | ⟨c, h⟩
                · refine ⟨fun _ => ?_, fun c2 => absurd c c2⟩
                  obtain ⟨g9, h⟩ := h
                  refine ⟨g9, ?_⟩
                  rcases h with ⟨q9, z9, h⟩ | ⟨q9, z9, h⟩
                  · refine ⟨_, _, vw_wide z9, ?_, ?_⟩
                    · intro q8 d9
                      injection d9 with d9
                      subst d9
                      exact h
                    · intro q8 d9
                      exact nomatch d9
                  · refine ⟨_, _, vw_wide z9, ?_, ?_⟩
                    · intro q8 d9
                      exact nomatch d9
                    · intro q8 d9
                      injection d9 with d9
                      subst d9
                      exact h
                · refine ⟨fun c2 => absurd c2 c, fun _ => ?_⟩
                  rcases h with ⟨c, h⟩ | ⟨c, h⟩
                  · refine ⟨fun _ => ?_, fun c2 => absurd c c2⟩
                    exact vw_instruction_J435 h
                  · refine ⟨fun c2 => absurd c2 c, fun _ => ?_⟩
                    rcases h with ⟨c, h⟩ | ⟨c, h⟩
                    · refine ⟨fun _ => ?_, fun c2 => absurd c c2⟩
                      exact vw_instruction_J449 h
                    · refine ⟨fun c2 => absurd c2 c, fun _ => ?_⟩
                      exact vw_instruction_J435 h
set_option maxRecDepth 100000 in
theorem vz_instruction_J312 {oo : MS ⊕ MS} {Q : MS → Prop} {E : MS → Prop} {U312 : MS} {v312_1 : Int32} {v312_2 : Int32} (h : v_instruction_J312 oo U312 v312_1 v312_2) (w : w_instruction_J312 Q E U312 v312_1 v312_2) : oV Q E oo := by
  unfold v_instruction_J312 at h
  unfold w_instruction_J312 at w
  rcases h with ⟨c, h⟩ | ⟨c, h⟩
  · replace w := w.1 c
    exact vz_instruction_J348 h w
  · replace w := w.2 c
    rcases h with ⟨c, h⟩ | ⟨c, h⟩
    · replace w := w.1 c
      exact vz_instruction_J348 h w
    · replace w := w.2 c
      rcases h with ⟨c, h⟩ | ⟨c, h⟩
      · replace w := w.1 c
        exact vz_instruction_J348 h w
      · replace w := w.2 c
        rcases h with ⟨c, h⟩ | ⟨c, h⟩
        · replace w := w.1 c
          exact vz_instruction_J348 h w
        · replace w := w.2 c
          rcases h with ⟨c, h⟩ | ⟨c, h⟩
          · replace w := w.1 c
            exact vz_instruction_J348 h w
          · replace w := w.2 c
            rcases h with ⟨c, h⟩ | ⟨c, h⟩
            · replace w := w.1 c
              exact vz_instruction_J348 h w
            · replace w := w.2 c
              rcases h with ⟨c, h⟩ | ⟨c, h⟩
              · replace w := w.1 c
                replace h := h.2
                replace w := w.2
                replace h := h.2
                replace w := w.2
                replace h := h.2
                replace w := w.2
                obtain ⟨Q9, E9, w0, w⟩ := w
                rcases h with ⟨q9, z9, h⟩ | ⟨q9, z9, h⟩
                · replace w := w.1 q9 (vz_grown z9 w0)
                  rw [h]
                  exact w
                · replace w := w.2 q9 (vz_grown z9 w0)
                  rw [h]
                  exact w
              · replace w := w.2 c
                rcases h with ⟨c, h⟩ | ⟨c, h⟩
                · replace w := w.1 c
                  replace h := h.2
                  replace w := w.2
                  obtain ⟨Q9, E9, w0, w⟩ := w
                  rcases h with ⟨q9, z9, h⟩ | ⟨q9, z9, h⟩
                  · replace w := w.1 q9 (vz_wide z9 w0)
                    rw [h]
                    exact w
                  · replace w := w.2 q9 (vz_wide z9 w0)
                    rw [h]
                    exact w
                · replace w := w.2 c
                  rcases h with ⟨c, h⟩ | ⟨c, h⟩
                  · replace w := w.1 c
                    exact vz_instruction_J435 h w
                  · replace w := w.2 c
                    rcases h with ⟨c, h⟩ | ⟨c, h⟩
                    · replace w := w.1 c
                      exact vz_instruction_J449 h w
                    · replace w := w.2 c
                      exact vz_instruction_J435 h w
set_option maxRecDepth 100000 in
theorem vw_instruction_J286 {oo : MS ⊕ MS} {U286 : MS} {v286_1 : Int32} {v286_2 : Int32} (h : v_instruction_J286 oo U286 v286_1 v286_2) : w_instruction_J286 (fun u => oo = .inl u) (fun u => oo = .inr u) U286 v286_1 v286_2 := by
  unfold v_instruction_J286 at h
  unfold w_instruction_J286
  rcases h with ⟨c, h⟩ | ⟨c, h⟩
  · refine ⟨fun _ => ?_, fun c2 => absurd c c2⟩
    exact vw_instruction_J312 h
  · refine ⟨fun c2 => absurd c2 c, fun _ => ?_⟩
    rcases h with ⟨c, h⟩ | ⟨c, h⟩
    · refine ⟨fun _ => ?_, fun c2 => absurd c c2⟩
      exact vw_instruction_J312 h
    · refine ⟨fun c2 => absurd c2 c, fun _ => ?_⟩
      rcases h with ⟨q9, z9, h⟩ | ⟨q9, z9, h⟩
      · refine ⟨_, _, vw_localRow z9, ?_, ?_⟩
        · intro q8 d9
          injection d9 with d9
          subst d9
          exact h
        · intro q8 d9
          exact nomatch d9
      · refine ⟨_, _, vw_localRow z9, ?_, ?_⟩
        · intro q8 d9
          exact nomatch d9
        · intro q8 d9
          injection d9 with d9
          subst d9
          exact h
set_option maxRecDepth 100000 in
theorem vz_instruction_J286 {oo : MS ⊕ MS} {Q : MS → Prop} {E : MS → Prop} {U286 : MS} {v286_1 : Int32} {v286_2 : Int32} (h : v_instruction_J286 oo U286 v286_1 v286_2) (w : w_instruction_J286 Q E U286 v286_1 v286_2) : oV Q E oo := by
  unfold v_instruction_J286 at h
  unfold w_instruction_J286 at w
  rcases h with ⟨c, h⟩ | ⟨c, h⟩
  · replace w := w.1 c
    exact vz_instruction_J312 h w
  · replace w := w.2 c
    rcases h with ⟨c, h⟩ | ⟨c, h⟩
    · replace w := w.1 c
      exact vz_instruction_J312 h w
    · replace w := w.2 c
      obtain ⟨Q9, E9, w0, w⟩ := w
      rcases h with ⟨q9, z9, h⟩ | ⟨q9, z9, h⟩
      · replace w := w.1 q9 (vz_localRow z9 w0)
        rw [h]
        exact w
      · replace w := w.2 q9 (vz_localRow z9 w0)
        rw [h]
        exact w
set_option maxRecDepth 100000 in
theorem vw_instruction_J274 {oo : MS ⊕ MS} {U274 : MS} {t274_0 : Int32} {t274_1 : Int32} {v274_2 : Int32} (h : v_instruction_J274 oo U274 t274_0 t274_1 v274_2) : w_instruction_J274 (fun u => oo = .inl u) (fun u => oo = .inr u) U274 t274_0 t274_1 v274_2 := by
  unfold v_instruction_J274 at h
  unfold w_instruction_J274
  rcases h with ⟨q9, z9, h⟩ | ⟨q9, z9, h⟩
  · refine ⟨_, _, vw_localRow z9, ?_, ?_⟩
    · intro q8 d9
      injection d9 with d9
      subst d9
      exact h
    · intro q8 d9
      exact nomatch d9
  · refine ⟨_, _, vw_localRow z9, ?_, ?_⟩
    · intro q8 d9
      exact nomatch d9
    · intro q8 d9
      injection d9 with d9
      subst d9
      exact h
set_option maxRecDepth 100000 in
theorem vz_instruction_J274 {oo : MS ⊕ MS} {Q : MS → Prop} {E : MS → Prop} {U274 : MS} {t274_0 : Int32} {t274_1 : Int32} {v274_2 : Int32} (h : v_instruction_J274 oo U274 t274_0 t274_1 v274_2) (w : w_instruction_J274 Q E U274 t274_0 t274_1 v274_2) : oV Q E oo := by
  unfold v_instruction_J274 at h
  unfold w_instruction_J274 at w
  obtain ⟨Q9, E9, w0, w⟩ := w
  rcases h with ⟨q9, z9, h⟩ | ⟨q9, z9, h⟩
  · replace w := w.1 q9 (vz_localRow z9 w0)
    rw [h]
    exact w
  · replace w := w.2 q9 (vz_localRow z9 w0)
    rw [h]
    exact w
set_option maxRecDepth 100000 in
theorem vw_instruction_J247 {oo : MS ⊕ MS} {U247 : MS} {v247_1 : Int32} {v247_2 : Int32} (h : v_instruction_J247 oo U247 v247_1 v247_2) : w_instruction_J247 (fun u => oo = .inl u) (fun u => oo = .inr u) U247 v247_1 v247_2 := by
  unfold v_instruction_J247 at h
  unfold w_instruction_J247
  rcases h with ⟨c, h⟩ | ⟨c, h⟩
  · refine ⟨fun _ => ?_, fun c2 => absurd c c2⟩
    exact vw_instruction_J286 h
  · refine ⟨fun c2 => absurd c2 c, fun _ => ?_⟩
    rcases h with ⟨c, h⟩ | ⟨c, h⟩
    · refine ⟨fun _ => ?_, fun c2 => absurd c c2⟩
      exact vw_instruction_J286 h
    · refine ⟨fun c2 => absurd c2 c, fun _ => ?_⟩
      rcases h with ⟨c, h⟩ | ⟨c, h⟩
      · refine ⟨fun _ => ?_, fun c2 => absurd c c2⟩
        exact vw_instruction_J274 h
      · refine ⟨fun c2 => absurd c2 c, fun _ => ?_⟩
        exact vw_instruction_J274 h
set_option maxRecDepth 100000 in
theorem vz_instruction_J247 {oo : MS ⊕ MS} {Q : MS → Prop} {E : MS → Prop} {U247 : MS} {v247_1 : Int32} {v247_2 : Int32} (h : v_instruction_J247 oo U247 v247_1 v247_2) (w : w_instruction_J247 Q E U247 v247_1 v247_2) : oV Q E oo := by
  unfold v_instruction_J247 at h
  unfold w_instruction_J247 at w
  rcases h with ⟨c, h⟩ | ⟨c, h⟩
  · replace w := w.1 c
    exact vz_instruction_J286 h w
  · replace w := w.2 c
    rcases h with ⟨c, h⟩ | ⟨c, h⟩
    · replace w := w.1 c
      exact vz_instruction_J286 h w
    · replace w := w.2 c
      rcases h with ⟨c, h⟩ | ⟨c, h⟩
      · replace w := w.1 c
        exact vz_instruction_J274 h w
      · replace w := w.2 c
        exact vz_instruction_J274 h w
set_option maxRecDepth 100000 in
theorem vw_instruction_J221 {oo : MS ⊕ MS} {U221 : MS} {v221_1 : Int32} {v221_2 : Int32} (h : v_instruction_J221 oo U221 v221_1 v221_2) : w_instruction_J221 (fun u => oo = .inl u) (fun u => oo = .inr u) U221 v221_1 v221_2 := by
  unfold v_instruction_J221 at h
  unfold w_instruction_J221
  rcases h with ⟨c, h⟩ | ⟨c, h⟩
  · refine ⟨fun _ => ?_, fun c2 => absurd c c2⟩
    exact vw_instruction_J247 h
  · refine ⟨fun c2 => absurd c2 c, fun _ => ?_⟩
    rcases h with ⟨c, h⟩ | ⟨c, h⟩
    · refine ⟨fun _ => ?_, fun c2 => absurd c c2⟩
      exact vw_instruction_J247 h
    · refine ⟨fun c2 => absurd c2 c, fun _ => ?_⟩
      rcases h with ⟨q9, z9, h⟩ | ⟨q9, z9, h⟩
      · refine ⟨_, _, vw_localRow z9, ?_, ?_⟩
        · intro q8 d9
          injection d9 with d9
          subst d9
          exact h
        · intro q8 d9
          exact nomatch d9
      · refine ⟨_, _, vw_localRow z9, ?_, ?_⟩
        · intro q8 d9
          exact nomatch d9
        · intro q8 d9
          injection d9 with d9
          subst d9
          exact h
set_option maxRecDepth 100000 in
theorem vz_instruction_J221 {oo : MS ⊕ MS} {Q : MS → Prop} {E : MS → Prop} {U221 : MS} {v221_1 : Int32} {v221_2 : Int32} (h : v_instruction_J221 oo U221 v221_1 v221_2) (w : w_instruction_J221 Q E U221 v221_1 v221_2) : oV Q E oo := by
  unfold v_instruction_J221 at h
  unfold w_instruction_J221 at w
  rcases h with ⟨c, h⟩ | ⟨c, h⟩
  · replace w := w.1 c
    exact vz_instruction_J247 h w
  · replace w := w.2 c
    rcases h with ⟨c, h⟩ | ⟨c, h⟩
    · replace w := w.1 c
      exact vz_instruction_J247 h w
    · replace w := w.2 c
      obtain ⟨Q9, E9, w0, w⟩ := w
      rcases h with ⟨q9, z9, h⟩ | ⟨q9, z9, h⟩
      · replace w := w.1 q9 (vz_localRow z9 w0)
        rw [h]
        exact w
      · replace w := w.2 q9 (vz_localRow z9 w0)
        rw [h]
        exact w
set_option maxRecDepth 100000 in
theorem vw_instruction_J209 {oo : MS ⊕ MS} {U209 : MS} {t209_0 : Int32} {t209_1 : Int32} {v209_2 : Int32} (h : v_instruction_J209 oo U209 t209_0 t209_1 v209_2) : w_instruction_J209 (fun u => oo = .inl u) (fun u => oo = .inr u) U209 t209_0 t209_1 v209_2 := by
  unfold v_instruction_J209 at h
  unfold w_instruction_J209
  rcases h with ⟨q9, z9, h⟩ | ⟨q9, z9, h⟩
  · refine ⟨_, _, vw_localRow z9, ?_, ?_⟩
    · intro q8 d9
      injection d9 with d9
      subst d9
      exact h
    · intro q8 d9
      exact nomatch d9
  · refine ⟨_, _, vw_localRow z9, ?_, ?_⟩
    · intro q8 d9
      exact nomatch d9
    · intro q8 d9
      injection d9 with d9
      subst d9
      exact h
set_option maxRecDepth 100000 in
theorem vz_instruction_J209 {oo : MS ⊕ MS} {Q : MS → Prop} {E : MS → Prop} {U209 : MS} {t209_0 : Int32} {t209_1 : Int32} {v209_2 : Int32} (h : v_instruction_J209 oo U209 t209_0 t209_1 v209_2) (w : w_instruction_J209 Q E U209 t209_0 t209_1 v209_2) : oV Q E oo := by
  unfold v_instruction_J209 at h
  unfold w_instruction_J209 at w
  obtain ⟨Q9, E9, w0, w⟩ := w
  rcases h with ⟨q9, z9, h⟩ | ⟨q9, z9, h⟩
  · replace w := w.1 q9 (vz_localRow z9 w0)
    rw [h]
    exact w
  · replace w := w.2 q9 (vz_localRow z9 w0)
    rw [h]
    exact w
set_option maxRecDepth 100000 in
theorem vw_instruction_J30 {oo : MS ⊕ MS} {U30 : MS} {v30_1 : Int32} {v30_2 : Int32} (h : v_instruction_J30 oo U30 v30_1 v30_2) : w_instruction_J30 (fun u => oo = .inl u) (fun u => oo = .inr u) U30 v30_1 v30_2 := by
  unfold v_instruction_J30 at h
  unfold w_instruction_J30
  rcases h with ⟨c, h⟩ | ⟨c, h⟩
  · refine ⟨fun _ => ?_, fun c2 => absurd c c2⟩
    exact vw_instruction_J42 h
  · refine ⟨fun c2 => absurd c2 c, fun _ => ?_⟩
    rcases h with ⟨c, h⟩ | ⟨c, h⟩
    · refine ⟨fun _ => ?_, fun c2 => absurd c c2⟩
      exact vw_instruction_J42 h
    · refine ⟨fun c2 => absurd c2 c, fun _ => ?_⟩
      rcases h with ⟨c, h⟩ | ⟨c, h⟩
      · refine ⟨fun _ => ?_, fun c2 => absurd c c2⟩
        obtain ⟨g9, h⟩ := h
        refine ⟨g9, ?_⟩
        obtain ⟨g9, h⟩ := h
        refine ⟨g9, ?_⟩
        obtain ⟨q9, z9, h⟩ := h
        refine ⟨_, vw_row z9, ?_⟩
        intro q8 d9
        subst d9
        exact h
      · refine ⟨fun c2 => absurd c2 c, fun _ => ?_⟩
        rcases h with ⟨c, h⟩ | ⟨c, h⟩
        · refine ⟨fun _ => ?_, fun c2 => absurd c c2⟩
          obtain ⟨g9, h⟩ := h
          refine ⟨g9, ?_⟩
          obtain ⟨q9, z9, h⟩ := h
          refine ⟨_, vw_row z9, ?_⟩
          intro q8 d9
          subst d9
          exact h
        · refine ⟨fun c2 => absurd c2 c, fun _ => ?_⟩
          rcases h with ⟨c, h⟩ | ⟨c, h⟩
          · refine ⟨fun _ => ?_, fun c2 => absurd c c2⟩
            exact vw_instruction_J120 h
          · refine ⟨fun c2 => absurd c2 c, fun _ => ?_⟩
            rcases h with ⟨c, h⟩ | ⟨c, h⟩
            · refine ⟨fun _ => ?_, fun c2 => absurd c c2⟩
              exact vw_instruction_J120 h
            · refine ⟨fun c2 => absurd c2 c, fun _ => ?_⟩
              rcases h with ⟨c, h⟩ | ⟨c, h⟩
              · refine ⟨fun _ => ?_, fun c2 => absurd c c2⟩
                obtain ⟨g9, h⟩ := h
                refine ⟨g9, ?_⟩
                rcases h with ⟨q9, z9, h⟩ | ⟨q9, z9, h⟩
                · refine ⟨_, _, vw_pushed z9, ?_, ?_⟩
                  · intro q8 d9
                    injection d9 with d9
                    subst d9
                    exact h
                  · intro q8 d9
                    exact nomatch d9
                · refine ⟨_, _, vw_pushed z9, ?_, ?_⟩
                  · intro q8 d9
                    exact nomatch d9
                  · intro q8 d9
                    injection d9 with d9
                    subst d9
                    exact h
              · refine ⟨fun c2 => absurd c2 c, fun _ => ?_⟩
                rcases h with ⟨c, h⟩ | ⟨c, h⟩
                · refine ⟨fun _ => ?_, fun c2 => absurd c c2⟩
                  exact vw_instruction_J221 h
                · refine ⟨fun c2 => absurd c2 c, fun _ => ?_⟩
                  rcases h with ⟨c, h⟩ | ⟨c, h⟩
                  · refine ⟨fun _ => ?_, fun c2 => absurd c c2⟩
                    exact vw_instruction_J221 h
                  · refine ⟨fun c2 => absurd c2 c, fun _ => ?_⟩
                    rcases h with ⟨c, h⟩ | ⟨c, h⟩
                    · refine ⟨fun _ => ?_, fun c2 => absurd c c2⟩
                      exact vw_instruction_J209 h
                    · refine ⟨fun c2 => absurd c2 c, fun _ => ?_⟩
                      exact vw_instruction_J209 h
set_option maxRecDepth 100000 in
theorem vz_instruction_J30 {oo : MS ⊕ MS} {Q : MS → Prop} {E : MS → Prop} {U30 : MS} {v30_1 : Int32} {v30_2 : Int32} (h : v_instruction_J30 oo U30 v30_1 v30_2) (w : w_instruction_J30 Q E U30 v30_1 v30_2) : oV Q E oo := by
  unfold v_instruction_J30 at h
  unfold w_instruction_J30 at w
  rcases h with ⟨c, h⟩ | ⟨c, h⟩
  · replace w := w.1 c
    exact vz_instruction_J42 h w
  · replace w := w.2 c
    rcases h with ⟨c, h⟩ | ⟨c, h⟩
    · replace w := w.1 c
      exact vz_instruction_J42 h w
    · replace w := w.2 c
      rcases h with ⟨c, h⟩ | ⟨c, h⟩
      · replace w := w.1 c
        replace h := h.2
        replace w := w.2
        replace h := h.2
        replace w := w.2
        obtain ⟨q9, z9, h⟩ := h
        obtain ⟨Q9, w0, w⟩ := w
        replace w := w q9 (vz_row z9 w0)
        rw [h]
        exact w
      · replace w := w.2 c
        rcases h with ⟨c, h⟩ | ⟨c, h⟩
        · replace w := w.1 c
          replace h := h.2
          replace w := w.2
          obtain ⟨q9, z9, h⟩ := h
          obtain ⟨Q9, w0, w⟩ := w
          replace w := w q9 (vz_row z9 w0)
          rw [h]
          exact w
        · replace w := w.2 c
          rcases h with ⟨c, h⟩ | ⟨c, h⟩
          · replace w := w.1 c
            exact vz_instruction_J120 h w
          · replace w := w.2 c
            rcases h with ⟨c, h⟩ | ⟨c, h⟩
            · replace w := w.1 c
              exact vz_instruction_J120 h w
            · replace w := w.2 c
              rcases h with ⟨c, h⟩ | ⟨c, h⟩
              · replace w := w.1 c
                replace h := h.2
                replace w := w.2
                obtain ⟨Q9, E9, w0, w⟩ := w
                rcases h with ⟨q9, z9, h⟩ | ⟨q9, z9, h⟩
                · replace w := w.1 q9 (vz_pushed z9 w0)
                  rw [h]
                  exact w
                · replace w := w.2 q9 (vz_pushed z9 w0)
                  rw [h]
                  exact w
              · replace w := w.2 c
                rcases h with ⟨c, h⟩ | ⟨c, h⟩
                · replace w := w.1 c
                  exact vz_instruction_J221 h w
                · replace w := w.2 c
                  rcases h with ⟨c, h⟩ | ⟨c, h⟩
                  · replace w := w.1 c
                    exact vz_instruction_J221 h w
                  · replace w := w.2 c
                    rcases h with ⟨c, h⟩ | ⟨c, h⟩
                    · replace w := w.1 c
                      exact vz_instruction_J209 h w
                    · replace w := w.2 c
                      exact vz_instruction_J209 h w
set_option maxRecDepth 100000 in
theorem vw_instruction {S : MS} {x1 : Int32} {oo : MS ⊕ MS} (h : v_instruction S x1 oo) : w_instruction S x1 (fun u => oo = .inl u) (fun u => oo = .inr u) := by
  unfold v_instruction at h
  unfold w_instruction
  obtain ⟨g9, h⟩ := h
  refine ⟨g9, ?_⟩
  obtain ⟨v9, e9, h⟩ := h
  intro x9 d9
  have c9 : v9 = x9 := e9.trans d9.symm
  subst c9
  rcases h with ⟨c, h⟩ | ⟨c, h⟩
  · refine ⟨fun _ => ?_, fun c2 => absurd c c2⟩
    exact vw_instruction_J30 h
  · refine ⟨fun c2 => absurd c2 c, fun _ => ?_⟩
    rcases h with ⟨c, h⟩ | ⟨c, h⟩
    · refine ⟨fun _ => ?_, fun c2 => absurd c c2⟩
      exact vw_instruction_J30 h
    · refine ⟨fun c2 => absurd c2 c, fun _ => ?_⟩
      obtain ⟨q9, z9, h⟩ := h
      refine ⟨_, vw_row z9, ?_⟩
      intro q8 d9
      subst d9
      exact h
set_option maxRecDepth 100000 in
theorem vz_instruction {S : MS} {x1 : Int32} {oo : MS ⊕ MS} {Q : MS → Prop} {E : MS → Prop} (h : v_instruction S x1 oo) (w : w_instruction S x1 Q E) : oV Q E oo := by
  unfold v_instruction at h
  unfold w_instruction at w
  replace h := h.2
  replace w := w.2
  obtain ⟨v9, e9, h⟩ := h
  replace w := w v9 e9
  rcases h with ⟨c, h⟩ | ⟨c, h⟩
  · replace w := w.1 c
    exact vz_instruction_J30 h w
  · replace w := w.2 c
    rcases h with ⟨c, h⟩ | ⟨c, h⟩
    · replace w := w.1 c
      exact vz_instruction_J30 h w
    · replace w := w.2 c
      obtain ⟨q9, z9, h⟩ := h
      obtain ⟨Q9, w0, w⟩ := w
      replace w := w q9 (vz_row z9 w0)
      rw [h]
      exact w
