def v_firstInts_L6 (ro : Nat) (uo : MS) : Nat → MS → Nat → Int32 → Nat → Int32 → Prop
  | 0, _, _, _, _, _ => False
  | n6 + 1, U6, v6_0, v6_1, v6_2, v6_3 => ((v6_1.toInt ≤ v6_3.toInt ∧ (ro = v6_2 ∧ uo = U6)) ∨ (¬ v6_1.toInt ≤ v6_3.toInt ∧ (((0 : Int) ≤ v6_3.toInt ∧ v6_3.toInt < (qN U6 v6_0 : Int)) ∧ (((0 : Int) ≤ v6_3.toInt ∧ v6_3.toInt < (qN U6 v6_2 : Int)) ∧ (∃ S10 : MS, S10 = wI U6 v6_2 v6_3.toInt.toNat (qI U6 v6_0 v6_3.toInt.toNat) ∧ (∃ a11 : Int32, a11 = (v6_3 + Int32.ofInt 1) ∧ ((v_firstInts_L6 ro uo n6) S10 v6_0 v6_1 v6_2 a11)))))))
def v_firstInts (S : MS) (p0 : Nat) (x1 : Int32) (ro : Nat) (uo : MS) : Prop := (((0 : Int) ≤ x1.toInt ∧ (qn S + 1 ≤ KC ∧ qu S + x1.toInt.toNat ≤ KS)) ∧ (∃ S4 : MS, S4 = wN S 2 x1.toInt.toNat x1.toInt.toNat ∧ (∃ n, v_firstInts_L6 ro uo n S4 p0 x1 (qn S) 0)))
set_option maxRecDepth 100000 in
theorem ru_firstInts_L6 {ι : Type} {P : Nat → MS → Prop} {Q : Nat → MS → Prop} : ∀ (n : Nat) {U6 : MS} {v6_0 : Nat} {v6_1 : Int32} {v6_2 : Nat} {v6_3 : Int32} (i0 : ι), (∀ (i : ι) (ro : Nat) (uo : MS), (∃ n8, v_firstInts_L6 ro uo n8 U6 v6_0 v6_1 v6_2 v6_3) → P ro uo) → w_firstInts_L6 Q n U6 v6_0 v6_1 v6_2 v6_3 → ∃ ro uo, P ro uo ∧ Q ro uo := by
  intro n
  induction n with
  | zero => intro U6 v6_0 v6_1 v6_2 v6_3 i0 K h; unfold w_firstInts_L6 at h; exact h.elim
  | succ n ih =>
    intro U6 v6_0 v6_1 v6_2 v6_3 i0 K h
    unfold w_firstInts_L6 at h
    replace K := fun (i : ι × Nat) ro uo (z : v_firstInts_L6 ro uo (i.2 + 1) U6 v6_0 v6_1 v6_2 v6_3) => K i.1 ro uo ⟨i.2 + 1, z⟩
    have i00 := i0
    replace i0 : ι × Nat := (i0, 0)
    by_cases c : v6_1.toInt ≤ v6_3.toInt
    · replace h := h.1 c
      replace K := fun i ro uo z => K i ro uo (Or.inl ⟨c, z⟩)
      exact ⟨_, _, K i0 _ _ ⟨rfl, rfl⟩, h⟩
    · replace h := h.2 c
      replace K := fun i ro uo z => K i ro uo (Or.inr ⟨c, z⟩)
      obtain ⟨g1_, h⟩ := h
      replace K := fun i ro uo z => K i ro uo ⟨g1_, z⟩
      obtain ⟨g2_, h⟩ := h
      replace K := fun i ro uo z => K i ro uo ⟨g2_, z⟩
      obtain ⟨S10, eS10⟩ : ∃ x9 : MS, x9 = wI U6 v6_2 v6_3.toInt.toNat (qI U6 v6_0 v6_3.toInt.toNat) := ⟨_, rfl⟩
      replace h := h S10 eS10
      replace K := fun i ro uo z => K i ro uo ⟨S10, eS10, z⟩
      obtain ⟨a11, ea11⟩ : ∃ x9 : Int32, x9 = (v6_3 + Int32.ofInt 1) := ⟨_, rfl⟩
      replace h := h a11 ea11
      replace K := fun i ro uo z => K i ro uo ⟨a11, ea11, z⟩
      exact ih i00 (fun i ro uo ⟨n8, z⟩ => K (i, n8) ro uo z) h
set_option maxRecDepth 100000 in
theorem ru_firstInts {S : MS} {p0 : Nat} {x1 : Int32} {Q : Nat → MS → Prop} (h : w_firstInts S p0 x1 Q) : ∃ ro uo, v_firstInts S p0 x1 ro uo ∧ Q ro uo := by
  have i0 : Unit := ()
  have K : ∀ (i : Unit) (ro : Nat) (uo : MS), v_firstInts S p0 x1 ro uo → v_firstInts S p0 x1 ro uo := fun _ _ _ z => z
  unfold w_firstInts at h
  obtain ⟨g3_, h⟩ := h
  replace K := fun i ro uo z => K i ro uo ⟨g3_, z⟩
  obtain ⟨S4, eS4⟩ : ∃ x9 : MS, x9 = wN S 2 x1.toInt.toNat x1.toInt.toNat := ⟨_, rfl⟩
  replace h := h S4 eS4
  replace K := fun i ro uo z => K i ro uo ⟨S4, eS4, z⟩
  obtain ⟨n9, h⟩ := h
  exact ru_firstInts_L6 n9 i0 K h
set_option maxRecDepth 100000 in
theorem vw_firstInts_L6 {ro : Nat} {uo : MS} : ∀ (n : Nat) {U6 : MS} {v6_0 : Nat} {v6_1 : Int32} {v6_2 : Nat} {v6_3 : Int32}, v_firstInts_L6 ro uo n U6 v6_0 v6_1 v6_2 v6_3 → w_firstInts_L6 (fun r u => r = ro ∧ u = uo) n U6 v6_0 v6_1 v6_2 v6_3 := by
  intro n
  induction n with
  | zero => intro U6 v6_0 v6_1 v6_2 v6_3 h; unfold v_firstInts_L6 at h; exact h.elim
  | succ n ih =>
    intro U6 v6_0 v6_1 v6_2 v6_3 h
    unfold v_firstInts_L6 at h
    unfold w_firstInts_L6
    rcases h with ⟨c, h⟩ | ⟨c, h⟩
    · refine ⟨fun _ => ?_, fun c2 => absurd c c2⟩
      exact ⟨h.1.symm, h.2.symm⟩
    · refine ⟨fun c2 => absurd c2 c, fun _ => ?_⟩
      obtain ⟨g9, h⟩ := h
      refine ⟨g9, ?_⟩
      obtain ⟨g9, h⟩ := h
      refine ⟨g9, ?_⟩
      obtain ⟨v9, e9, h⟩ := h
      intro x9 d9
      have c9 : v9 = x9 := e9.trans d9.symm
      subst c9
      obtain ⟨v9, e9, h⟩ := h
      intro x9 d9
      have c9 : v9 = x9 := e9.trans d9.symm
      subst c9
      exact ih h
set_option maxRecDepth 100000 in
theorem vz_firstInts_L6 {ro : Nat} {uo : MS} {Q : Nat → MS → Prop} : ∀ (n m : Nat) {U6 : MS} {v6_0 : Nat} {v6_1 : Int32} {v6_2 : Nat} {v6_3 : Int32}, v_firstInts_L6 ro uo n U6 v6_0 v6_1 v6_2 v6_3 → w_firstInts_L6 Q m U6 v6_0 v6_1 v6_2 v6_3 → Q ro uo := by
  intro n
  induction n with
  | zero => intro m U6 v6_0 v6_1 v6_2 v6_3 h; unfold v_firstInts_L6 at h; exact h.elim
  | succ n ih =>
    intro m U6 v6_0 v6_1 v6_2 v6_3 h w
    cases m with
    | zero => unfold w_firstInts_L6 at w; exact w.elim
    | succ m =>
      unfold v_firstInts_L6 at h
      unfold w_firstInts_L6 at w
      rcases h with ⟨c, h⟩ | ⟨c, h⟩
      · replace w := w.1 c
        rw [h.1, h.2]
        exact w
      · replace w := w.2 c
        replace h := h.2
        replace w := w.2
        replace h := h.2
        replace w := w.2
        obtain ⟨v9, e9, h⟩ := h
        replace w := w v9 e9
        obtain ⟨v9, e9, h⟩ := h
        replace w := w v9 e9
        exact ih m h w
set_option maxRecDepth 100000 in
theorem vw_firstInts {S : MS} {p0 : Nat} {x1 : Int32} {ro : Nat} {uo : MS} (h : v_firstInts S p0 x1 ro uo) : w_firstInts S p0 x1 (fun r u => r = ro ∧ u = uo) := by
  unfold v_firstInts at h
  unfold w_firstInts
  obtain ⟨g9, h⟩ := h
  refine ⟨g9, ?_⟩
  obtain ⟨v9, e9, h⟩ := h
  intro x9 d9
  have c9 : v9 = x9 := e9.trans d9.symm
  subst c9
  obtain ⟨n9, h⟩ := h
  exact ⟨n9, vw_firstInts_L6 n9 h⟩
set_option maxRecDepth 100000 in
theorem vz_firstInts {S : MS} {p0 : Nat} {x1 : Int32} {ro : Nat} {uo : MS} {Q : Nat → MS → Prop} (h : v_firstInts S p0 x1 ro uo) (w : w_firstInts S p0 x1 Q) : Q ro uo := by
  unfold v_firstInts at h
  unfold w_firstInts at w
  replace h := h.2
  replace w := w.2
  obtain ⟨v9, e9, h⟩ := h
  replace w := w v9 e9
  obtain ⟨n9, h⟩ := h
  obtain ⟨n8, w⟩ := w
  exact vz_firstInts_L6 n9 n8 h w
def v_flags_J59 (oo : MS ⊕ MS) (k30 : MS → Int32 → Prop) (U59 : MS) (t59_0 : Int32) (v59_1 : Int32) : Prop := (((0 : Int) ≤ v59_1.toInt ∧ v59_1.toInt < 48) ∧ ((∃ (S16 : MS), v_must U59 t59_0 (7 : Int32) (qI U59 9 v59_1.toInt.toNat) (.inl S16) ∧ (∃ a18 : Int32, a18 = (v59_1 + Int32.ofInt 1) ∧ (k30 S16 a18))) ∨ (∃ u9 : MS, v_must U59 t59_0 (7 : Int32) (qI U59 9 v59_1.toInt.toNat) (.inr u9) ∧ (oo = .inr u9))))
def v_flags_L30 (oo : MS ⊕ MS) : Nat → MS → Int32 → Prop
  | 0, _, _ => False
  | n30 + 1, U30, v30_1 => (((qI U30 0 21).toInt ≤ v30_1.toInt ∧ (oo = .inl U30)) ∨ (¬ (qI U30 0 21).toInt ≤ v30_1.toInt ∧ (((0 : Int) ≤ v30_1.toInt ∧ v30_1.toInt < 48) ∧ (d_two U30 (qI U30 9 v30_1.toInt.toNat) ∧ (((f_two U30 (qI U30 9 v30_1.toInt.toNat)).toInt = 9 ∧ (v_flags_J59 oo (v_flags_L30 oo n30) U30 1 v30_1)) ∨ (¬ (f_two U30 (qI U30 9 v30_1.toInt.toNat)).toInt = 9 ∧ (v_flags_J59 oo (v_flags_L30 oo n30) U30 0 v30_1)))))))
def v_flags_J19 (oo : MS ⊕ MS) (U19 : MS) (t19_0 : Int32) : Prop := ((∃ (S5 : MS), v_must U19 t19_0 (7 : Int32) (qI U19 0 20) (.inl S5) ∧ (∃ n, v_flags_L30 oo n S5 0)) ∨ (∃ u9 : MS, v_must U19 t19_0 (7 : Int32) (qI U19 0 20) (.inr u9) ∧ (oo = .inr u9)))
def v_flags (S : MS) (oo : MS ⊕ MS) : Prop := (d_two S (qI S 0 20) ∧ (((f_two S (qI S 0 20)).toInt = 33 ∧ (v_flags_J19 oo S 1)) ∨ (¬ (f_two S (qI S 0 20)).toInt = 33 ∧ (v_flags_J19 oo S 0))))
set_option maxRecDepth 100000 in
theorem ru_flags_J59 {ι : Type} {P : MS ⊕ MS → Prop} {Q : MS → Prop} {E : MS → Prop} {k30 : MS → Int32 → Prop} {k30v : ι → MS ⊕ MS → MS → Int32 → Prop} {U59 : MS} {t59_0 : Int32} {v59_1 : Int32} (i0 : ι) (hk30 : ∀ (u : MS) (z0 : Int32), k30 u z0 → (∀ (i : ι) (oo : MS ⊕ MS), k30v i oo u z0 → P oo) → ∃ oo, P oo ∧ oV Q E oo) (K : ∀ (i : ι) (oo : MS ⊕ MS), v_flags_J59 oo (k30v i oo) U59 t59_0 v59_1 → P oo) (h : w_flags_J59 Q E k30 U59 t59_0 v59_1) : ∃ oo, P oo ∧ oV Q E oo := by
  unfold w_flags_J59 at h
  obtain ⟨g1_, h⟩ := h
  replace K := fun i oo z => K i oo ⟨g1_, z⟩
  obtain ⟨Q9, E9, h0, h⟩ := h
  obtain ⟨o9, z9, g9⟩ := ru_must h0
  rcases o9 with S16 | u9
  · replace h := h.1 S16 g9
    replace K := fun i oo z => K i oo (Or.inl ⟨S16, z9, z⟩)
    obtain ⟨a18, ea18⟩ : ∃ x9 : Int32, x9 = (v59_1 + Int32.ofInt 1) := ⟨_, rfl⟩
    replace h := h a18 ea18
    replace K := fun i oo z => K i oo ⟨a18, ea18, z⟩
    exact hk30 _ _ h K
  · replace h := h.2 u9 g9
    replace K := fun i oo z => K i oo (Or.inr ⟨u9, z9, z⟩)
    exact ⟨.inr u9, K i0 _ rfl, h⟩
set_option maxRecDepth 100000 in
theorem ru_flags_L30 {ι : Type} {P : MS ⊕ MS → Prop} {Q : MS → Prop} {E : MS → Prop} : ∀ (n : Nat) {U30 : MS} {v30_1 : Int32} (i0 : ι), (∀ (i : ι) (oo : MS ⊕ MS), (∃ n8, v_flags_L30 oo n8 U30 v30_1) → P oo) → w_flags_L30 Q E n U30 v30_1 → ∃ oo, P oo ∧ oV Q E oo := by
  intro n
  induction n with
  | zero => intro U30 v30_1 i0 K h; unfold w_flags_L30 at h; exact h.elim
  | succ n ih =>
    intro U30 v30_1 i0 K h
    unfold w_flags_L30 at h
    replace K := fun (i : ι × Nat) oo (z : v_flags_L30 oo (i.2 + 1) U30 v30_1) => K i.1 oo ⟨i.2 + 1, z⟩
    have i00 := i0
    replace i0 : ι × Nat := (i0, 0)
    by_cases c : (qI U30 0 21).toInt ≤ v30_1.toInt
    · replace h := h.1 c
      replace K := fun i oo z => K i oo (Or.inl ⟨c, z⟩)
      exact ⟨.inl _, K i0 _ rfl, h⟩
    · replace h := h.2 c
      replace K := fun i oo z => K i oo (Or.inr ⟨c, z⟩)
      obtain ⟨g2_, h⟩ := h
      replace K := fun i oo z => K i oo ⟨g2_, z⟩
      obtain ⟨g3_, h⟩ := h
      replace K := fun i oo z => K i oo ⟨g3_, z⟩
      by_cases c : (f_two U30 (qI U30 9 v30_1.toInt.toNat)).toInt = 9
      · replace h := h.1 c
        replace K := fun i oo z => K i oo (Or.inl ⟨c, z⟩)
        exact ru_flags_J59 i0 (fun _ _ h K => ih i00 (fun i oo ⟨n8, z⟩ => K (i, n8) oo z) h) K h
      · replace h := h.2 c
        replace K := fun i oo z => K i oo (Or.inr ⟨c, z⟩)
        exact ru_flags_J59 i0 (fun _ _ h K => ih i00 (fun i oo ⟨n8, z⟩ => K (i, n8) oo z) h) K h
set_option maxRecDepth 100000 in
theorem ru_flags_J19 {ι : Type} {P : MS ⊕ MS → Prop} {Q : MS → Prop} {E : MS → Prop} {U19 : MS} {t19_0 : Int32} (i0 : ι) (K : ∀ (i : ι) (oo : MS ⊕ MS), v_flags_J19 oo U19 t19_0 → P oo) (h : w_flags_J19 Q E U19 t19_0) : ∃ oo, P oo ∧ oV Q E oo := by
  unfold w_flags_J19 at h
  obtain ⟨Q9, E9, h0, h⟩ := h
  obtain ⟨o9, z9, g9⟩ := ru_must h0
  rcases o9 with S5 | u9
  · replace h := h.1 S5 g9
    replace K := fun i oo z => K i oo (Or.inl ⟨S5, z9, z⟩)
    obtain ⟨n9, h⟩ := h
    exact ru_flags_L30 n9 i0 K h
  · replace h := h.2 u9 g9
    replace K := fun i oo z => K i oo (Or.inr ⟨u9, z9, z⟩)
    exact ⟨.inr u9, K i0 _ rfl, h⟩
set_option maxRecDepth 100000 in
theorem ru_flags {S : MS} {Q : MS → Prop} {E : MS → Prop} (h : w_flags S Q E) : ∃ oo, v_flags S oo ∧ oV Q E oo := by
  have i0 : Unit := ()
  have K : ∀ (i : Unit) (oo : MS ⊕ MS), v_flags S oo → v_flags S oo := fun _ _ z => z
  unfold w_flags at h
  obtain ⟨g4_, h⟩ := h
  replace K := fun i oo z => K i oo ⟨g4_, z⟩
  by_cases c : (f_two S (qI S 0 20)).toInt = 33
  · replace h := h.1 c
    replace K := fun i oo z => K i oo (Or.inl ⟨c, z⟩)
    exact ru_flags_J19 i0 K h
  · replace h := h.2 c
    replace K := fun i oo z => K i oo (Or.inr ⟨c, z⟩)
    exact ru_flags_J19 i0 K h
set_option maxRecDepth 100000 in
theorem vw_flags_J59 {oo : MS ⊕ MS} {k30 k30v : MS → Int32 → Prop} {U59 : MS} {t59_0 : Int32} {v59_1 : Int32} (hk30 : ∀ (u : MS) (z0 : Int32), k30v u z0 → k30 u z0) (h : v_flags_J59 oo k30v U59 t59_0 v59_1) : w_flags_J59 (fun u => oo = .inl u) (fun u => oo = .inr u) k30 U59 t59_0 v59_1 := by
  unfold v_flags_J59 at h
  unfold w_flags_J59
  obtain ⟨g9, h⟩ := h
  refine ⟨g9, ?_⟩
  rcases h with ⟨q9, z9, h⟩ | ⟨q9, z9, h⟩
  · refine ⟨_, _, vw_must z9, ?_, ?_⟩
    · intro q8 d9
      injection d9 with d9
      subst d9
      obtain ⟨v9, e9, h⟩ := h
      intro x9 d9
      have c9 : v9 = x9 := e9.trans d9.symm
      subst c9
      exact hk30 _ _ h
    · intro q8 d9
      exact nomatch d9
  · refine ⟨_, _, vw_must z9, ?_, ?_⟩
    · intro q8 d9
      exact nomatch d9
    · intro q8 d9
      injection d9 with d9
      subst d9
      exact h
set_option maxRecDepth 100000 in
theorem vz_flags_J59 {oo : MS ⊕ MS} {Q : MS → Prop} {E : MS → Prop} {k30 k30v : MS → Int32 → Prop} {U59 : MS} {t59_0 : Int32} {v59_1 : Int32} (hk30 : ∀ (u : MS) (z0 : Int32), k30v u z0 → k30 u z0 → oV Q E oo) (h : v_flags_J59 oo k30v U59 t59_0 v59_1) (w : w_flags_J59 Q E k30 U59 t59_0 v59_1) : oV Q E oo := by
  unfold v_flags_J59 at h
  unfold w_flags_J59 at w
  replace h := h.2
  replace w := w.2
  obtain ⟨Q9, E9, w0, w⟩ := w
  rcases h with ⟨q9, z9, h⟩ | ⟨q9, z9, h⟩
  · replace w := w.1 q9 (vz_must z9 w0)
    obtain ⟨v9, e9, h⟩ := h
    replace w := w v9 e9
    exact hk30 _ _ h w
  · replace w := w.2 q9 (vz_must z9 w0)
    rw [h]
    exact w
set_option maxRecDepth 100000 in
theorem vw_flags_L30 {oo : MS ⊕ MS} : ∀ (n : Nat) {U30 : MS} {v30_1 : Int32}, v_flags_L30 oo n U30 v30_1 → w_flags_L30 (fun u => oo = .inl u) (fun u => oo = .inr u) n U30 v30_1 := by
  intro n
  induction n with
  | zero => intro U30 v30_1 h; unfold v_flags_L30 at h; exact h.elim
  | succ n ih =>
    intro U30 v30_1 h
    unfold v_flags_L30 at h
    unfold w_flags_L30
    rcases h with ⟨c, h⟩ | ⟨c, h⟩
    · refine ⟨fun _ => ?_, fun c2 => absurd c c2⟩
      exact h
    · refine ⟨fun c2 => absurd c2 c, fun _ => ?_⟩
      obtain ⟨g9, h⟩ := h
      refine ⟨g9, ?_⟩
      obtain ⟨g9, h⟩ := h
      refine ⟨g9, ?_⟩
      rcases h with ⟨c, h⟩ | ⟨c, h⟩
      · refine ⟨fun _ => ?_, fun c2 => absurd c c2⟩
        exact vw_flags_J59 (fun _ _ h => ih h) h
      · refine ⟨fun c2 => absurd c2 c, fun _ => ?_⟩
        exact vw_flags_J59 (fun _ _ h => ih h) h
set_option maxRecDepth 100000 in
theorem vz_flags_L30 {oo : MS ⊕ MS} {Q : MS → Prop} {E : MS → Prop} : ∀ (n m : Nat) {U30 : MS} {v30_1 : Int32}, v_flags_L30 oo n U30 v30_1 → w_flags_L30 Q E m U30 v30_1 → oV Q E oo := by
  intro n
  induction n with
  | zero => intro m U30 v30_1 h; unfold v_flags_L30 at h; exact h.elim
  | succ n ih =>
    intro m U30 v30_1 h w
    cases m with
    | zero => unfold w_flags_L30 at w; exact w.elim
    | succ m =>
      unfold v_flags_L30 at h
      unfold w_flags_L30 at w
      rcases h with ⟨c, h⟩ | ⟨c, h⟩
      · replace w := w.1 c
        rw [h]
        exact w
      · replace w := w.2 c
        replace h := h.2
        replace w := w.2
        replace h := h.2
        replace w := w.2
        rcases h with ⟨c, h⟩ | ⟨c, h⟩
        · replace w := w.1 c
          exact vz_flags_J59 (fun _ _ h w => ih m h w) h w
        · replace w := w.2 c
          exact vz_flags_J59 (fun _ _ h w => ih m h w) h w
set_option maxRecDepth 100000 in
theorem vw_flags_J19 {oo : MS ⊕ MS} {U19 : MS} {t19_0 : Int32} (h : v_flags_J19 oo U19 t19_0) : w_flags_J19 (fun u => oo = .inl u) (fun u => oo = .inr u) U19 t19_0 := by
  unfold v_flags_J19 at h
  unfold w_flags_J19
  rcases h with ⟨q9, z9, h⟩ | ⟨q9, z9, h⟩
  · refine ⟨_, _, vw_must z9, ?_, ?_⟩
    · intro q8 d9
      injection d9 with d9
      subst d9
      obtain ⟨n9, h⟩ := h
      exact ⟨n9, vw_flags_L30 n9 h⟩
    · intro q8 d9
      exact nomatch d9
  · refine ⟨_, _, vw_must z9, ?_, ?_⟩
    · intro q8 d9
      exact nomatch d9
    · intro q8 d9
      injection d9 with d9
      subst d9
      exact h
set_option maxRecDepth 100000 in
theorem vz_flags_J19 {oo : MS ⊕ MS} {Q : MS → Prop} {E : MS → Prop} {U19 : MS} {t19_0 : Int32} (h : v_flags_J19 oo U19 t19_0) (w : w_flags_J19 Q E U19 t19_0) : oV Q E oo := by
  unfold v_flags_J19 at h
  unfold w_flags_J19 at w
  obtain ⟨Q9, E9, w0, w⟩ := w
  rcases h with ⟨q9, z9, h⟩ | ⟨q9, z9, h⟩
  · replace w := w.1 q9 (vz_must z9 w0)
    obtain ⟨n9, h⟩ := h
    obtain ⟨n8, w⟩ := w
    exact vz_flags_L30 n9 n8 h w
  · replace w := w.2 q9 (vz_must z9 w0)
    rw [h]
    exact w
set_option maxRecDepth 100000 in
theorem vw_flags {S : MS} {oo : MS ⊕ MS} (h : v_flags S oo) : w_flags S (fun u => oo = .inl u) (fun u => oo = .inr u) := by
  unfold v_flags at h
  unfold w_flags
  obtain ⟨g9, h⟩ := h
  refine ⟨g9, ?_⟩
  rcases h with ⟨c, h⟩ | ⟨c, h⟩
  · refine ⟨fun _ => ?_, fun c2 => absurd c c2⟩
    exact vw_flags_J19 h
  · refine ⟨fun c2 => absurd c2 c, fun _ => ?_⟩
    exact vw_flags_J19 h
set_option maxRecDepth 100000 in
theorem vz_flags {S : MS} {oo : MS ⊕ MS} {Q : MS → Prop} {E : MS → Prop} (h : v_flags S oo) (w : w_flags S Q E) : oV Q E oo := by
  unfold v_flags at h
  unfold w_flags at w
  replace h := h.2
  replace w := w.2
  rcases h with ⟨c, h⟩ | ⟨c, h⟩
  · replace w := w.1 c
    exact vz_flags_J19 h w
  · replace w := w.2 c
    exact vz_flags_J19 h w
def v_init (S : MS) (p0 : Nat) (uo : MS) : Prop := (((qn S + 1 ≤ KC ∧ qu S + 24 ≤ KS)) ∧ (∃ S4 : MS, S4 = wN S 5 24 24 ∧ (∃ S6 : MS, S6 = wR S4 p0 5 (some (qn S)) ∧ (((qn S6 + 1 ≤ KC ∧ qu S6 + 24 ≤ KS)) ∧ (∃ S10 : MS, S10 = wN S6 5 24 24 ∧ (∃ S12 : MS, S12 = wR S10 p0 6 (some (qn S6)) ∧ (((qn S12 + 1 ≤ KC ∧ qu S12 + 24 ≤ KS)) ∧ (∃ S16 : MS, S16 = wN S12 5 24 24 ∧ (∃ S18 : MS, S18 = wR S16 p0 7 (some (qn S12)) ∧ (((qn S18 + 1 ≤ KC ∧ qu S18 + 24 ≤ KS)) ∧ (∃ S22 : MS, S22 = wN S18 5 24 24 ∧ (∃ S24 : MS, S24 = wR S22 p0 8 (some (qn S18)) ∧ (((qn S24 + 1 ≤ KC ∧ qu S24 + 24 ≤ KS)) ∧ (∃ S28 : MS, S28 = wN S24 5 24 24 ∧ (∃ S30 : MS, S30 = wR S28 p0 9 (some (qn S24)) ∧ (((qn S30 + 1 ≤ KC ∧ qu S30 + 24 ≤ KS)) ∧ (∃ S34 : MS, S34 = wN S30 5 24 24 ∧ (∃ S36 : MS, S36 = wR S34 p0 10 (some (qn S30)) ∧ (((qn S36 + 1 ≤ KC ∧ qu S36 + 24 ≤ KS)) ∧ (∃ S40 : MS, S40 = wN S36 5 24 24 ∧ (∃ S42 : MS, S42 = wR S40 p0 11 (some (qn S36)) ∧ (((qn S42 + 1 ≤ KC ∧ qu S42 + 24 ≤ KS)) ∧ (∃ S46 : MS, S46 = wN S42 2 24 24 ∧ (∃ S48 : MS, S48 = wR S46 p0 12 (some (qn S42)) ∧ (((qn S48 + 1 ≤ KC ∧ qu S48 + 24 ≤ KS)) ∧ (∃ S52 : MS, S52 = wN S48 2 24 24 ∧ (∃ S54 : MS, S54 = wR S52 p0 13 (some (qn S48)) ∧ (((qn S54 + 1 ≤ KC ∧ qu S54 + 24 ≤ KS)) ∧ (∃ S58 : MS, S58 = wN S54 2 24 24 ∧ (∃ S60 : MS, S60 = wR S58 p0 14 (some (qn S54)) ∧ (((qn S60 + 1 ≤ KC ∧ qu S60 + 24 ≤ KS)) ∧ (∃ S64 : MS, S64 = wN S60 2 24 24 ∧ (∃ S66 : MS, S66 = wR S64 p0 15 (some (qn S60)) ∧ (((qn S66 + 1 ≤ KC ∧ qu S66 + 24 ≤ KS)) ∧ (∃ S70 : MS, S70 = wN S66 2 24 24 ∧ (∃ S72 : MS, S72 = wR S70 p0 16 (some (qn S66)) ∧ (((qn S72 + 1 ≤ KC ∧ qu S72 + 24 ≤ KS)) ∧ (∃ S76 : MS, S76 = wN S72 2 24 24 ∧ (∃ S78 : MS, S78 = wR S76 p0 17 (some (qn S72)) ∧ (uo = S78))))))))))))))))))))))))))))))))))))))))
set_option maxRecDepth 100000 in
theorem ru_init {S : MS} {p0 : Nat} {Q : MS → Prop} (h : w_init S p0 Q) : ∃ uo, v_init S p0 uo ∧ Q uo := by
  have i0 : Unit := ()
  have K : ∀ (i : Unit) (uo : MS), v_init S p0 uo → v_init S p0 uo := fun _ _ z => z
  unfold w_init at h
  obtain ⟨g1_, h⟩ := h
  replace K := fun i uo z => K i uo ⟨g1_, z⟩
  obtain ⟨S4, eS4⟩ : ∃ x9 : MS, x9 = wN S 5 24 24 := ⟨_, rfl⟩
  replace h := h S4 eS4
  replace K := fun i uo z => K i uo ⟨S4, eS4, z⟩
  obtain ⟨S6, eS6⟩ : ∃ x9 : MS, x9 = wR S4 p0 5 (some (qn S)) := ⟨_, rfl⟩
  replace h := h S6 eS6
  replace K := fun i uo z => K i uo ⟨S6, eS6, z⟩
  obtain ⟨g2_, h⟩ := h
  replace K := fun i uo z => K i uo ⟨g2_, z⟩
  obtain ⟨S10, eS10⟩ : ∃ x9 : MS, x9 = wN S6 5 24 24 := ⟨_, rfl⟩
  replace h := h S10 eS10
  replace K := fun i uo z => K i uo ⟨S10, eS10, z⟩
  obtain ⟨S12, eS12⟩ : ∃ x9 : MS, x9 = wR S10 p0 6 (some (qn S6)) := ⟨_, rfl⟩
  replace h := h S12 eS12
  replace K := fun i uo z => K i uo ⟨S12, eS12, z⟩
  obtain ⟨g3_, h⟩ := h
  replace K := fun i uo z => K i uo ⟨g3_, z⟩
  obtain ⟨S16, eS16⟩ : ∃ x9 : MS, x9 = wN S12 5 24 24 := ⟨_, rfl⟩
  replace h := h S16 eS16
  replace K := fun i uo z => K i uo ⟨S16, eS16, z⟩
  obtain ⟨S18, eS18⟩ : ∃ x9 : MS, x9 = wR S16 p0 7 (some (qn S12)) := ⟨_, rfl⟩
  replace h := h S18 eS18
  replace K := fun i uo z => K i uo ⟨S18, eS18, z⟩
  obtain ⟨g4_, h⟩ := h
  replace K := fun i uo z => K i uo ⟨g4_, z⟩
  obtain ⟨S22, eS22⟩ : ∃ x9 : MS, x9 = wN S18 5 24 24 := ⟨_, rfl⟩
  replace h := h S22 eS22
  replace K := fun i uo z => K i uo ⟨S22, eS22, z⟩
  obtain ⟨S24, eS24⟩ : ∃ x9 : MS, x9 = wR S22 p0 8 (some (qn S18)) := ⟨_, rfl⟩
  replace h := h S24 eS24
  replace K := fun i uo z => K i uo ⟨S24, eS24, z⟩
  obtain ⟨g5_, h⟩ := h
  replace K := fun i uo z => K i uo ⟨g5_, z⟩
  obtain ⟨S28, eS28⟩ : ∃ x9 : MS, x9 = wN S24 5 24 24 := ⟨_, rfl⟩
  replace h := h S28 eS28
  replace K := fun i uo z => K i uo ⟨S28, eS28, z⟩
  obtain ⟨S30, eS30⟩ : ∃ x9 : MS, x9 = wR S28 p0 9 (some (qn S24)) := ⟨_, rfl⟩
  replace h := h S30 eS30
  replace K := fun i uo z => K i uo ⟨S30, eS30, z⟩
  obtain ⟨g6_, h⟩ := h
  replace K := fun i uo z => K i uo ⟨g6_, z⟩
  obtain ⟨S34, eS34⟩ : ∃ x9 : MS, x9 = wN S30 5 24 24 := ⟨_, rfl⟩
  replace h := h S34 eS34
  replace K := fun i uo z => K i uo ⟨S34, eS34, z⟩
  obtain ⟨S36, eS36⟩ : ∃ x9 : MS, x9 = wR S34 p0 10 (some (qn S30)) := ⟨_, rfl⟩
  replace h := h S36 eS36
  replace K := fun i uo z => K i uo ⟨S36, eS36, z⟩
  obtain ⟨g7_, h⟩ := h
  replace K := fun i uo z => K i uo ⟨g7_, z⟩
  obtain ⟨S40, eS40⟩ : ∃ x9 : MS, x9 = wN S36 5 24 24 := ⟨_, rfl⟩
  replace h := h S40 eS40
  replace K := fun i uo z => K i uo ⟨S40, eS40, z⟩
  obtain ⟨S42, eS42⟩ : ∃ x9 : MS, x9 = wR S40 p0 11 (some (qn S36)) := ⟨_, rfl⟩
  replace h := h S42 eS42
  replace K := fun i uo z => K i uo ⟨S42, eS42, z⟩
  obtain ⟨g8_, h⟩ := h
  replace K := fun i uo z => K i uo ⟨g8_, z⟩
  obtain ⟨S46, eS46⟩ : ∃ x9 : MS, x9 = wN S42 2 24 24 := ⟨_, rfl⟩
  replace h := h S46 eS46
  replace K := fun i uo z => K i uo ⟨S46, eS46, z⟩
  obtain ⟨S48, eS48⟩ : ∃ x9 : MS, x9 = wR S46 p0 12 (some (qn S42)) := ⟨_, rfl⟩
  replace h := h S48 eS48
  replace K := fun i uo z => K i uo ⟨S48, eS48, z⟩
  obtain ⟨g9_, h⟩ := h
  replace K := fun i uo z => K i uo ⟨g9_, z⟩
  obtain ⟨S52, eS52⟩ : ∃ x9 : MS, x9 = wN S48 2 24 24 := ⟨_, rfl⟩
  replace h := h S52 eS52
  replace K := fun i uo z => K i uo ⟨S52, eS52, z⟩
  obtain ⟨S54, eS54⟩ : ∃ x9 : MS, x9 = wR S52 p0 13 (some (qn S48)) := ⟨_, rfl⟩
  replace h := h S54 eS54
  replace K := fun i uo z => K i uo ⟨S54, eS54, z⟩
  obtain ⟨g10_, h⟩ := h
  replace K := fun i uo z => K i uo ⟨g10_, z⟩
  obtain ⟨S58, eS58⟩ : ∃ x9 : MS, x9 = wN S54 2 24 24 := ⟨_, rfl⟩
  replace h := h S58 eS58
  replace K := fun i uo z => K i uo ⟨S58, eS58, z⟩
  obtain ⟨S60, eS60⟩ : ∃ x9 : MS, x9 = wR S58 p0 14 (some (qn S54)) := ⟨_, rfl⟩
  replace h := h S60 eS60
  replace K := fun i uo z => K i uo ⟨S60, eS60, z⟩
  obtain ⟨g11_, h⟩ := h
  replace K := fun i uo z => K i uo ⟨g11_, z⟩
  obtain ⟨S64, eS64⟩ : ∃ x9 : MS, x9 = wN S60 2 24 24 := ⟨_, rfl⟩
  replace h := h S64 eS64
  replace K := fun i uo z => K i uo ⟨S64, eS64, z⟩
  obtain ⟨S66, eS66⟩ : ∃ x9 : MS, x9 = wR S64 p0 15 (some (qn S60)) := ⟨_, rfl⟩
  replace h := h S66 eS66
  replace K := fun i uo z => K i uo ⟨S66, eS66, z⟩
  obtain ⟨g12_, h⟩ := h
  replace K := fun i uo z => K i uo ⟨g12_, z⟩
  obtain ⟨S70, eS70⟩ : ∃ x9 : MS, x9 = wN S66 2 24 24 := ⟨_, rfl⟩
  replace h := h S70 eS70
  replace K := fun i uo z => K i uo ⟨S70, eS70, z⟩
  obtain ⟨S72, eS72⟩ : ∃ x9 : MS, x9 = wR S70 p0 16 (some (qn S66)) := ⟨_, rfl⟩
  replace h := h S72 eS72
  replace K := fun i uo z => K i uo ⟨S72, eS72, z⟩
  obtain ⟨g13_, h⟩ := h
  replace K := fun i uo z => K i uo ⟨g13_, z⟩
  obtain ⟨S76, eS76⟩ : ∃ x9 : MS, x9 = wN S72 2 24 24 := ⟨_, rfl⟩
  replace h := h S76 eS76
  replace K := fun i uo z => K i uo ⟨S76, eS76, z⟩
  obtain ⟨S78, eS78⟩ : ∃ x9 : MS, x9 = wR S76 p0 17 (some (qn S72)) := ⟨_, rfl⟩
  replace h := h S78 eS78
  replace K := fun i uo z => K i uo ⟨S78, eS78, z⟩
  exact ⟨_, K i0 _ rfl, h⟩
set_option maxRecDepth 100000 in
theorem vw_init {S : MS} {p0 : Nat} {uo : MS} (h : v_init S p0 uo) : w_init S p0 (fun u => u = uo) := by
  unfold v_init at h
  unfold w_init
  obtain ⟨g9, h⟩ := h
  refine ⟨g9, ?_⟩
  obtain ⟨v9, e9, h⟩ := h
  intro x9 d9
  have c9 : v9 = x9 := e9.trans d9.symm
  subst c9
  obtain ⟨v9, e9, h⟩ := h
  intro x9 d9
  have c9 : v9 = x9 := e9.trans d9.symm
  subst c9
  obtain ⟨g9, h⟩ := h
  refine ⟨g9, ?_⟩
  obtain ⟨v9, e9, h⟩ := h
  intro x9 d9
  have c9 : v9 = x9 := e9.trans d9.symm
  subst c9
  obtain ⟨v9, e9, h⟩ := h
  intro x9 d9
  have c9 : v9 = x9 := e9.trans d9.symm
  subst c9
  obtain ⟨g9, h⟩ := h
  refine ⟨g9, ?_⟩
  obtain ⟨v9, e9, h⟩ := h
  intro x9 d9
  have c9 : v9 = x9 := e9.trans d9.symm
  subst c9
  obtain ⟨v9, e9, h⟩ := h
  intro x9 d9
  have c9 : v9 = x9 := e9.trans d9.symm
  subst c9
  obtain ⟨g9, h⟩ := h
  refine ⟨g9, ?_⟩
  obtain ⟨v9, e9, h⟩ := h
  intro x9 d9
  have c9 : v9 = x9 := e9.trans d9.symm
  subst c9
  obtain ⟨v9, e9, h⟩ := h
  intro x9 d9
  have c9 : v9 = x9 := e9.trans d9.symm
  subst c9
  obtain ⟨g9, h⟩ := h
  refine ⟨g9, ?_⟩
  obtain ⟨v9, e9, h⟩ := h
  intro x9 d9
  have c9 : v9 = x9 := e9.trans d9.symm
  subst c9
  obtain ⟨v9, e9, h⟩ := h
  intro x9 d9
  have c9 : v9 = x9 := e9.trans d9.symm
  subst c9
  obtain ⟨g9, h⟩ := h
  refine ⟨g9, ?_⟩
  obtain ⟨v9, e9, h⟩ := h
  intro x9 d9
  have c9 : v9 = x9 := e9.trans d9.symm
  subst c9
  obtain ⟨v9, e9, h⟩ := h
  intro x9 d9
  have c9 : v9 = x9 := e9.trans d9.symm
  subst c9
  obtain ⟨g9, h⟩ := h
  refine ⟨g9, ?_⟩
  obtain ⟨v9, e9, h⟩ := h
  intro x9 d9
  have c9 : v9 = x9 := e9.trans d9.symm
  subst c9
  obtain ⟨v9, e9, h⟩ := h
  intro x9 d9
  have c9 : v9 = x9 := e9.trans d9.symm
  subst c9
  obtain ⟨g9, h⟩ := h
  refine ⟨g9, ?_⟩
  obtain ⟨v9, e9, h⟩ := h
  intro x9 d9
  have c9 : v9 = x9 := e9.trans d9.symm
  subst c9
  obtain ⟨v9, e9, h⟩ := h
  intro x9 d9
  have c9 : v9 = x9 := e9.trans d9.symm
  subst c9
  obtain ⟨g9, h⟩ := h
  refine ⟨g9, ?_⟩
  obtain ⟨v9, e9, h⟩ := h
  intro x9 d9
  have c9 : v9 = x9 := e9.trans d9.symm
  subst c9
  obtain ⟨v9, e9, h⟩ := h
  intro x9 d9
  have c9 : v9 = x9 := e9.trans d9.symm
  subst c9
  obtain ⟨g9, h⟩ := h
  refine ⟨g9, ?_⟩
  obtain ⟨v9, e9, h⟩ := h
  intro x9 d9
  have c9 : v9 = x9 := e9.trans d9.symm
  subst c9
  obtain ⟨v9, e9, h⟩ := h
  intro x9 d9
  have c9 : v9 = x9 := e9.trans d9.symm
  subst c9
  obtain ⟨g9, h⟩ := h
  refine ⟨g9, ?_⟩
  obtain ⟨v9, e9, h⟩ := h
  intro x9 d9
  have c9 : v9 = x9 := e9.trans d9.symm
  subst c9
  obtain ⟨v9, e9, h⟩ := h
  intro x9 d9
  have c9 : v9 = x9 := e9.trans d9.symm
  subst c9
  obtain ⟨g9, h⟩ := h
  refine ⟨g9, ?_⟩
  obtain ⟨v9, e9, h⟩ := h
  intro x9 d9
  have c9 : v9 = x9 := e9.trans d9.symm
  subst c9
  obtain ⟨v9, e9, h⟩ := h
  intro x9 d9
  have c9 : v9 = x9 := e9.trans d9.symm
  subst c9
  obtain ⟨g9, h⟩ := h
  refine ⟨g9, ?_⟩
  obtain ⟨v9, e9, h⟩ := h
  intro x9 d9
  have c9 : v9 = x9 := e9.trans d9.symm
  subst c9
  obtain ⟨v9, e9, h⟩ := h
  intro x9 d9
  have c9 : v9 = x9 := e9.trans d9.symm
  subst c9
  exact h.symm
set_option maxRecDepth 100000 in
theorem vz_init {S : MS} {p0 : Nat} {uo : MS} {Q : MS → Prop} (h : v_init S p0 uo) (w : w_init S p0 Q) : Q uo := by
  unfold v_init at h
  unfold w_init at w
  replace h := h.2
  replace w := w.2
  obtain ⟨v9, e9, h⟩ := h
  replace w := w v9 e9
  obtain ⟨v9, e9, h⟩ := h
  replace w := w v9 e9
  replace h := h.2
  replace w := w.2
  obtain ⟨v9, e9, h⟩ := h
  replace w := w v9 e9
  obtain ⟨v9, e9, h⟩ := h
  replace w := w v9 e9
  replace h := h.2
  replace w := w.2
  obtain ⟨v9, e9, h⟩ := h
  replace w := w v9 e9
  obtain ⟨v9, e9, h⟩ := h
  replace w := w v9 e9
  replace h := h.2
  replace w := w.2
  obtain ⟨v9, e9, h⟩ := h
  replace w := w v9 e9
  obtain ⟨v9, e9, h⟩ := h
  replace w := w v9 e9
  replace h := h.2
  replace w := w.2
  obtain ⟨v9, e9, h⟩ := h
  replace w := w v9 e9
  obtain ⟨v9, e9, h⟩ := h
  replace w := w v9 e9
  replace h := h.2
  replace w := w.2
  obtain ⟨v9, e9, h⟩ := h
  replace w := w v9 e9
  obtain ⟨v9, e9, h⟩ := h
  replace w := w v9 e9
  replace h := h.2
  replace w := w.2
  obtain ⟨v9, e9, h⟩ := h
  replace w := w v9 e9
  obtain ⟨v9, e9, h⟩ := h
  replace w := w v9 e9
  replace h := h.2
  replace w := w.2
  obtain ⟨v9, e9, h⟩ := h
  replace w := w v9 e9
  obtain ⟨v9, e9, h⟩ := h
  replace w := w v9 e9
  replace h := h.2
  replace w := w.2
  obtain ⟨v9, e9, h⟩ := h
  replace w := w v9 e9
  obtain ⟨v9, e9, h⟩ := h
  replace w := w v9 e9
  replace h := h.2
  replace w := w.2
  obtain ⟨v9, e9, h⟩ := h
  replace w := w v9 e9
  obtain ⟨v9, e9, h⟩ := h
  replace w := w v9 e9
  replace h := h.2
  replace w := w.2
  obtain ⟨v9, e9, h⟩ := h
  replace w := w v9 e9
  obtain ⟨v9, e9, h⟩ := h
  replace w := w v9 e9
  replace h := h.2
  replace w := w.2
  obtain ⟨v9, e9, h⟩ := h
  replace w := w v9 e9
  obtain ⟨v9, e9, h⟩ := h
  replace w := w v9 e9
  replace h := h.2
  replace w := w.2
  obtain ⟨v9, e9, h⟩ := h
  replace w := w v9 e9
  obtain ⟨v9, e9, h⟩ := h
  replace w := w v9 e9
  rw [h]
  exact w
def v_nameEntry_J97 (oo : MS ⊕ MS) (k54 : MS → Int32 → Int32 → Int32 → Prop) (U97 : MS) (t97_0 : Int32) (v97_2 : Int32) (v97_3 : Int32) (v97_4 : Int32) : Prop := ((∃ (S26 : MS), v_must U97 t97_0 (4 : Int32) v97_2 (.inl S26) ∧ (∃ a28 : Int32, a28 = (v97_4 + Int32.ofInt 1) ∧ (k54 S26 v97_2 v97_3 a28))) ∨ (∃ u9 : MS, v_must U97 t97_0 (4 : Int32) v97_2 (.inr u9) ∧ (oo = .inr u9)))
def v_nameEntry_J96 (oo : MS ⊕ MS) (k54 : MS → Int32 → Int32 → Int32 → Prop) (U96 : MS) (v96_2 : Int32) (v96_3 : Int32) (v96_4 : Int32) : Prop := (v_nameEntry_J97 oo k54 U96 0 v96_2 v96_3 v96_4)
def v_nameEntry_L54 (oo : MS ⊕ MS) : Nat → MS → Int32 → Int32 → Int32 → Prop
  | 0, _, _, _, _ => False
  | n54 + 1, U54, v54_2, v54_3, v54_4 => ((v54_3.toInt ≤ v54_4.toInt ∧ (oo = .inl U54)) ∨ (¬ v54_3.toInt ≤ v54_4.toInt ∧ ((∃ (r18 : Int32) (S19 : MS), v_over U54 1 (.inl (r18, S19)) ∧ ((qR S19 0 11 = some (qO S19 0 11)) ∧ (((0 : Int) ≤ r18.toInt ∧ r18.toInt < (qN S19 (qO S19 0 11) : Int)) ∧ (((qI S19 (qO S19 0 11) r18.toInt.toNat).toInt < 33 ∧ (v_nameEntry_J96 oo (v_nameEntry_L54 oo n54) S19 v54_2 v54_3 v54_4)) ∨ (¬ (qI S19 (qO S19 0 11) r18.toInt.toNat).toInt < 33 ∧ ((qR S19 0 11 = some (qO S19 0 11)) ∧ (((0 : Int) ≤ r18.toInt ∧ r18.toInt < (qN S19 (qO S19 0 11) : Int)) ∧ ((126 < (qI S19 (qO S19 0 11) r18.toInt.toNat).toInt ∧ (v_nameEntry_J96 oo (v_nameEntry_L54 oo n54) S19 v54_2 v54_3 v54_4)) ∨ (¬ 126 < (qI S19 (qO S19 0 11) r18.toInt.toNat).toInt ∧ (v_nameEntry_J97 oo (v_nameEntry_L54 oo n54) S19 1 v54_2 v54_3 v54_4)))))))))) ∨ (∃ u9 : MS, v_over U54 1 (.inr u9) ∧ (oo = .inr u9)))))
def v_nameEntry_J29 (oo : MS ⊕ MS) (U29 : MS) (t29_0 : Int32) (v29_1 : Int32) (v29_2 : Int32) (v29_3 : Int32) : Prop := ((∃ (S10 : MS), v_must U29 t29_0 (4 : Int32) v29_2 (.inl S10) ∧ (((0 : Int) ≤ v29_1.toInt ∧ v29_1.toInt < 502) ∧ (∃ S13 : MS, S13 = wI S10 6 v29_1.toInt.toNat (qI S10 0 13) ∧ (((0 : Int) ≤ v29_1.toInt ∧ v29_1.toInt < 502) ∧ (∃ S15 : MS, S15 = wI S13 7 v29_1.toInt.toNat v29_3 ∧ (∃ n, v_nameEntry_L54 oo n S15 v29_2 v29_3 0)))))) ∨ (∃ u9 : MS, v_must U29 t29_0 (4 : Int32) v29_2 (.inr u9) ∧ (oo = .inr u9)))
def v_nameEntry_J28 (oo : MS ⊕ MS) (U28 : MS) (v28_1 : Int32) (v28_2 : Int32) (v28_3 : Int32) : Prop := (v_nameEntry_J29 oo U28 0 v28_1 v28_2 v28_3)
def v_nameEntry (S : MS) (x1 : Int32) (x2 : Int32) (oo : MS ⊕ MS) : Prop := ((∃ (r2 : Int32) (S3 : MS), v_over S (2 : Int64) (.inl (r2, S3)) ∧ (d_two S3 r2 ∧ (∃ a8 : Int32, a8 = (f_two S3 r2) ∧ ((a8.toInt < 1 ∧ (v_nameEntry_J28 oo S3 x1 x2 a8)) ∨ (¬ a8.toInt < 1 ∧ ((100 < a8.toInt ∧ (v_nameEntry_J28 oo S3 x1 x2 a8)) ∨ (¬ 100 < a8.toInt ∧ (v_nameEntry_J29 oo S3 1 x1 x2 a8)))))))) ∨ (∃ u9 : MS, v_over S (2 : Int64) (.inr u9) ∧ (oo = .inr u9)))
set_option maxRecDepth 100000 in
theorem ru_nameEntry_J97 {ι : Type} {P : MS ⊕ MS → Prop} {Q : MS → Prop} {E : MS → Prop} {k54 : MS → Int32 → Int32 → Int32 → Prop} {k54v : ι → MS ⊕ MS → MS → Int32 → Int32 → Int32 → Prop} {U97 : MS} {t97_0 : Int32} {v97_2 : Int32} {v97_3 : Int32} {v97_4 : Int32} (i0 : ι) (hk54 : ∀ (u : MS) (z0 : Int32) (z1 : Int32) (z2 : Int32), k54 u z0 z1 z2 → (∀ (i : ι) (oo : MS ⊕ MS), k54v i oo u z0 z1 z2 → P oo) → ∃ oo, P oo ∧ oV Q E oo) (K : ∀ (i : ι) (oo : MS ⊕ MS), v_nameEntry_J97 oo (k54v i oo) U97 t97_0 v97_2 v97_3 v97_4 → P oo) (h : w_nameEntry_J97 Q E k54 U97 t97_0 v97_2 v97_3 v97_4) : ∃ oo, P oo ∧ oV Q E oo := by
  unfold w_nameEntry_J97 at h
  obtain ⟨Q9, E9, h0, h⟩ := h
  obtain ⟨o9, z9, g9⟩ := ru_must h0
  rcases o9 with S26 | u9
  · replace h := h.1 S26 g9
    replace K := fun i oo z => K i oo (Or.inl ⟨S26, z9, z⟩)
    obtain ⟨a28, ea28⟩ : ∃ x9 : Int32, x9 = (v97_4 + Int32.ofInt 1) := ⟨_, rfl⟩
    replace h := h a28 ea28
    replace K := fun i oo z => K i oo ⟨a28, ea28, z⟩
    exact hk54 _ _ _ _ h K
  · replace h := h.2 u9 g9
    replace K := fun i oo z => K i oo (Or.inr ⟨u9, z9, z⟩)
    exact ⟨.inr u9, K i0 _ rfl, h⟩
set_option maxRecDepth 100000 in
theorem ru_nameEntry_J96 {ι : Type} {P : MS ⊕ MS → Prop} {Q : MS → Prop} {E : MS → Prop} {k54 : MS → Int32 → Int32 → Int32 → Prop} {k54v : ι → MS ⊕ MS → MS → Int32 → Int32 → Int32 → Prop} {U96 : MS} {v96_2 : Int32} {v96_3 : Int32} {v96_4 : Int32} (i0 : ι) (hk54 : ∀ (u : MS) (z0 : Int32) (z1 : Int32) (z2 : Int32), k54 u z0 z1 z2 → (∀ (i : ι) (oo : MS ⊕ MS), k54v i oo u z0 z1 z2 → P oo) → ∃ oo, P oo ∧ oV Q E oo) (K : ∀ (i : ι) (oo : MS ⊕ MS), v_nameEntry_J96 oo (k54v i oo) U96 v96_2 v96_3 v96_4 → P oo) (h : w_nameEntry_J96 Q E k54 U96 v96_2 v96_3 v96_4) : ∃ oo, P oo ∧ oV Q E oo := by
  unfold w_nameEntry_J96 at h
  exact ru_nameEntry_J97 i0 hk54 K h
set_option maxRecDepth 100000 in
theorem ru_nameEntry_L54 {ι : Type} {P : MS ⊕ MS → Prop} {Q : MS → Prop} {E : MS → Prop} : ∀ (n : Nat) {U54 : MS} {v54_2 : Int32} {v54_3 : Int32} {v54_4 : Int32} (i0 : ι), (∀ (i : ι) (oo : MS ⊕ MS), (∃ n8, v_nameEntry_L54 oo n8 U54 v54_2 v54_3 v54_4) → P oo) → w_nameEntry_L54 Q E n U54 v54_2 v54_3 v54_4 → ∃ oo, P oo ∧ oV Q E oo := by
  intro n
  induction n with
  | zero => intro U54 v54_2 v54_3 v54_4 i0 K h; unfold w_nameEntry_L54 at h; exact h.elim
  | succ n ih =>
    intro U54 v54_2 v54_3 v54_4 i0 K h
    unfold w_nameEntry_L54 at h
    replace K := fun (i : ι × Nat) oo (z : v_nameEntry_L54 oo (i.2 + 1) U54 v54_2 v54_3 v54_4) => K i.1 oo ⟨i.2 + 1, z⟩
    have i00 := i0
    replace i0 : ι × Nat := (i0, 0)
    by_cases c : v54_3.toInt ≤ v54_4.toInt
    · replace h := h.1 c
      replace K := fun i oo z => K i oo (Or.inl ⟨c, z⟩)
      exact ⟨.inl _, K i0 _ rfl, h⟩
    · replace h := h.2 c
      replace K := fun i oo z => K i oo (Or.inr ⟨c, z⟩)
      obtain ⟨Q9, E9, h0, h⟩ := h
      obtain ⟨o9, z9, g9⟩ := ru_over h0
      rcases o9 with ⟨r18, S19⟩ | u9
      · replace h := h.1 r18 S19 g9
        replace K := fun i oo z => K i oo (Or.inl ⟨r18, S19, z9, z⟩)
        obtain ⟨g1_, h⟩ := h
        replace K := fun i oo z => K i oo ⟨g1_, z⟩
        obtain ⟨g2_, h⟩ := h
        replace K := fun i oo z => K i oo ⟨g2_, z⟩
        by_cases c : (qI S19 (qO S19 0 11) r18.toInt.toNat).toInt < 33
        · replace h := h.1 c
          replace K := fun i oo z => K i oo (Or.inl ⟨c, z⟩)
          exact ru_nameEntry_J96 i0 (fun _ _ _ _ h K => ih i00 (fun i oo ⟨n8, z⟩ => K (i, n8) oo z) h) K h
        · replace h := h.2 c
          replace K := fun i oo z => K i oo (Or.inr ⟨c, z⟩)
          obtain ⟨g3_, h⟩ := h
          replace K := fun i oo z => K i oo ⟨g3_, z⟩
          obtain ⟨g4_, h⟩ := h
          replace K := fun i oo z => K i oo ⟨g4_, z⟩
          by_cases c : 126 < (qI S19 (qO S19 0 11) r18.toInt.toNat).toInt
          · replace h := h.1 c
            replace K := fun i oo z => K i oo (Or.inl ⟨c, z⟩)
            exact ru_nameEntry_J96 i0 (fun _ _ _ _ h K => ih i00 (fun i oo ⟨n8, z⟩ => K (i, n8) oo z) h) K h
          · replace h := h.2 c
            replace K := fun i oo z => K i oo (Or.inr ⟨c, z⟩)
            exact ru_nameEntry_J97 i0 (fun _ _ _ _ h K => ih i00 (fun i oo ⟨n8, z⟩ => K (i, n8) oo z) h) K h
      · replace h := h.2 u9 g9
        replace K := fun i oo z => K i oo (Or.inr ⟨u9, z9, z⟩)
        exact ⟨.inr u9, K i0 _ rfl, h⟩
set_option maxRecDepth 100000 in
theorem ru_nameEntry_J29 {ι : Type} {P : MS ⊕ MS → Prop} {Q : MS → Prop} {E : MS → Prop} {U29 : MS} {t29_0 : Int32} {v29_1 : Int32} {v29_2 : Int32} {v29_3 : Int32} (i0 : ι) (K : ∀ (i : ι) (oo : MS ⊕ MS), v_nameEntry_J29 oo U29 t29_0 v29_1 v29_2 v29_3 → P oo) (h : w_nameEntry_J29 Q E U29 t29_0 v29_1 v29_2 v29_3) : ∃ oo, P oo ∧ oV Q E oo := by
  unfold w_nameEntry_J29 at h
  obtain ⟨Q9, E9, h0, h⟩ := h
  obtain ⟨o9, z9, g9⟩ := ru_must h0
  rcases o9 with S10 | u9
  · replace h := h.1 S10 g9
    replace K := fun i oo z => K i oo (Or.inl ⟨S10, z9, z⟩)
    obtain ⟨g5_, h⟩ := h
    replace K := fun i oo z => K i oo ⟨g5_, z⟩
    obtain ⟨S13, eS13⟩ : ∃ x9 : MS, x9 = wI S10 6 v29_1.toInt.toNat (qI S10 0 13) := ⟨_, rfl⟩
    replace h := h S13 eS13
    replace K := fun i oo z => K i oo ⟨S13, eS13, z⟩
    obtain ⟨g6_, h⟩ := h
    replace K := fun i oo z => K i oo ⟨g6_, z⟩
    obtain ⟨S15, eS15⟩ : ∃ x9 : MS, x9 = wI S13 7 v29_1.toInt.toNat v29_3 := ⟨_, rfl⟩
    replace h := h S15 eS15
    replace K := fun i oo z => K i oo ⟨S15, eS15, z⟩
    obtain ⟨n9, h⟩ := h
    exact ru_nameEntry_L54 n9 i0 K h
  · replace h := h.2 u9 g9
    replace K := fun i oo z => K i oo (Or.inr ⟨u9, z9, z⟩)
    exact ⟨.inr u9, K i0 _ rfl, h⟩
set_option maxRecDepth 100000 in
theorem ru_nameEntry_J28 {ι : Type} {P : MS ⊕ MS → Prop} {Q : MS → Prop} {E : MS → Prop} {U28 : MS} {v28_1 : Int32} {v28_2 : Int32} {v28_3 : Int32} (i0 : ι) (K : ∀ (i : ι) (oo : MS ⊕ MS), v_nameEntry_J28 oo U28 v28_1 v28_2 v28_3 → P oo) (h : w_nameEntry_J28 Q E U28 v28_1 v28_2 v28_3) : ∃ oo, P oo ∧ oV Q E oo := by
  unfold w_nameEntry_J28 at h
  exact ru_nameEntry_J29 i0 K h
set_option maxRecDepth 100000 in
theorem ru_nameEntry {S : MS} {x1 : Int32} {x2 : Int32} {Q : MS → Prop} {E : MS → Prop} (h : w_nameEntry S x1 x2 Q E) : ∃ oo, v_nameEntry S x1 x2 oo ∧ oV Q E oo := by
  have i0 : Unit := ()
  have K : ∀ (i : Unit) (oo : MS ⊕ MS), v_nameEntry S x1 x2 oo → v_nameEntry S x1 x2 oo := fun _ _ z => z
  unfold w_nameEntry at h
  obtain ⟨Q9, E9, h0, h⟩ := h
  obtain ⟨o9, z9, g9⟩ := ru_over h0
  rcases o9 with ⟨r2, S3⟩ | u9
  · replace h := h.1 r2 S3 g9
    replace K := fun i oo z => K i oo (Or.inl ⟨r2, S3, z9, z⟩)
    obtain ⟨g7_, h⟩ := h
    replace K := fun i oo z => K i oo ⟨g7_, z⟩
    obtain ⟨a8, ea8⟩ : ∃ x9 : Int32, x9 = (f_two S3 r2) := ⟨_, rfl⟩
    replace h := h a8 ea8
    replace K := fun i oo z => K i oo ⟨a8, ea8, z⟩
    by_cases c : a8.toInt < 1
    · replace h := h.1 c
      replace K := fun i oo z => K i oo (Or.inl ⟨c, z⟩)
      exact ru_nameEntry_J28 i0 K h
    · replace h := h.2 c
      replace K := fun i oo z => K i oo (Or.inr ⟨c, z⟩)
      by_cases c : 100 < a8.toInt
      · replace h := h.1 c
        replace K := fun i oo z => K i oo (Or.inl ⟨c, z⟩)
        exact ru_nameEntry_J28 i0 K h
      · replace h := h.2 c
        replace K := fun i oo z => K i oo (Or.inr ⟨c, z⟩)
        exact ru_nameEntry_J29 i0 K h
  · replace h := h.2 u9 g9
    replace K := fun i oo z => K i oo (Or.inr ⟨u9, z9, z⟩)
    exact ⟨.inr u9, K i0 _ rfl, h⟩
set_option maxRecDepth 100000 in
theorem vw_nameEntry_J97 {oo : MS ⊕ MS} {k54 k54v : MS → Int32 → Int32 → Int32 → Prop} {U97 : MS} {t97_0 : Int32} {v97_2 : Int32} {v97_3 : Int32} {v97_4 : Int32} (hk54 : ∀ (u : MS) (z0 : Int32) (z1 : Int32) (z2 : Int32), k54v u z0 z1 z2 → k54 u z0 z1 z2) (h : v_nameEntry_J97 oo k54v U97 t97_0 v97_2 v97_3 v97_4) : w_nameEntry_J97 (fun u => oo = .inl u) (fun u => oo = .inr u) k54 U97 t97_0 v97_2 v97_3 v97_4 := by
  unfold v_nameEntry_J97 at h
  unfold w_nameEntry_J97
  rcases h with ⟨q9, z9, h⟩ | ⟨q9, z9, h⟩
  · refine ⟨_, _, vw_must z9, ?_, ?_⟩
    · intro q8 d9
      injection d9 with d9
      subst d9
      obtain ⟨v9, e9, h⟩ := h
      intro x9 d9
      have c9 : v9 = x9 := e9.trans d9.symm
      subst c9
      exact hk54 _ _ _ _ h
    · intro q8 d9
      exact nomatch d9
  · refine ⟨_, _, vw_must z9, ?_, ?_⟩
    · intro q8 d9
      exact nomatch d9
    · intro q8 d9
      injection d9 with d9
      subst d9
      exact h
set_option maxRecDepth 100000 in
theorem vz_nameEntry_J97 {oo : MS ⊕ MS} {Q : MS → Prop} {E : MS → Prop} {k54 k54v : MS → Int32 → Int32 → Int32 → Prop} {U97 : MS} {t97_0 : Int32} {v97_2 : Int32} {v97_3 : Int32} {v97_4 : Int32} (hk54 : ∀ (u : MS) (z0 : Int32) (z1 : Int32) (z2 : Int32), k54v u z0 z1 z2 → k54 u z0 z1 z2 → oV Q E oo) (h : v_nameEntry_J97 oo k54v U97 t97_0 v97_2 v97_3 v97_4) (w : w_nameEntry_J97 Q E k54 U97 t97_0 v97_2 v97_3 v97_4) : oV Q E oo := by
  unfold v_nameEntry_J97 at h
  unfold w_nameEntry_J97 at w
  obtain ⟨Q9, E9, w0, w⟩ := w
  rcases h with ⟨q9, z9, h⟩ | ⟨q9, z9, h⟩
  · replace w := w.1 q9 (vz_must z9 w0)
    obtain ⟨v9, e9, h⟩ := h
    replace w := w v9 e9
    exact hk54 _ _ _ _ h w
  · replace w := w.2 q9 (vz_must z9 w0)
    rw [h]
    exact w
set_option maxRecDepth 100000 in
theorem vw_nameEntry_J96 {oo : MS ⊕ MS} {k54 k54v : MS → Int32 → Int32 → Int32 → Prop} {U96 : MS} {v96_2 : Int32} {v96_3 : Int32} {v96_4 : Int32} (hk54 : ∀ (u : MS) (z0 : Int32) (z1 : Int32) (z2 : Int32), k54v u z0 z1 z2 → k54 u z0 z1 z2) (h : v_nameEntry_J96 oo k54v U96 v96_2 v96_3 v96_4) : w_nameEntry_J96 (fun u => oo = .inl u) (fun u => oo = .inr u) k54 U96 v96_2 v96_3 v96_4 := by
  unfold v_nameEntry_J96 at h
  unfold w_nameEntry_J96
  exact vw_nameEntry_J97 hk54 h
set_option maxRecDepth 100000 in
theorem vz_nameEntry_J96 {oo : MS ⊕ MS} {Q : MS → Prop} {E : MS → Prop} {k54 k54v : MS → Int32 → Int32 → Int32 → Prop} {U96 : MS} {v96_2 : Int32} {v96_3 : Int32} {v96_4 : Int32} (hk54 : ∀ (u : MS) (z0 : Int32) (z1 : Int32) (z2 : Int32), k54v u z0 z1 z2 → k54 u z0 z1 z2 → oV Q E oo) (h : v_nameEntry_J96 oo k54v U96 v96_2 v96_3 v96_4) (w : w_nameEntry_J96 Q E k54 U96 v96_2 v96_3 v96_4) : oV Q E oo := by
  unfold v_nameEntry_J96 at h
  unfold w_nameEntry_J96 at w
  exact vz_nameEntry_J97 hk54 h w
set_option maxRecDepth 100000 in
theorem vw_nameEntry_L54 {oo : MS ⊕ MS} : ∀ (n : Nat) {U54 : MS} {v54_2 : Int32} {v54_3 : Int32} {v54_4 : Int32}, v_nameEntry_L54 oo n U54 v54_2 v54_3 v54_4 → w_nameEntry_L54 (fun u => oo = .inl u) (fun u => oo = .inr u) n U54 v54_2 v54_3 v54_4 := by
  intro n
  induction n with
  | zero => intro U54 v54_2 v54_3 v54_4 h; unfold v_nameEntry_L54 at h; exact h.elim
  | succ n ih =>
    intro U54 v54_2 v54_3 v54_4 h
    unfold v_nameEntry_L54 at h
    unfold w_nameEntry_L54
    rcases h with ⟨c, h⟩ | ⟨c, h⟩
    · refine ⟨fun _ => ?_, fun c2 => absurd c c2⟩
      exact h
    · refine ⟨fun c2 => absurd c2 c, fun _ => ?_⟩
      rcases h with ⟨p9, q9, z9, h⟩ | ⟨q9, z9, h⟩
      · refine ⟨_, _, vw_over z9, ?_, ?_⟩
        · intro p8 q8 d9
          injection d9 with d9
          injection d9 with d8 d9
          subst d8
          subst d9
          obtain ⟨g9, h⟩ := h
          refine ⟨g9, ?_⟩
          obtain ⟨g9, h⟩ := h
          refine ⟨g9, ?_⟩
          rcases h with ⟨c, h⟩ | ⟨c, h⟩
          · refine ⟨fun _ => ?_, fun c2 => absurd c c2⟩
            exact vw_nameEntry_J96 (fun _ _ _ _ h => ih h) h
          · refine ⟨fun c2 => absurd c2 c, fun _ => ?_⟩
            obtain ⟨g9, h⟩ := h
            refine ⟨g9, ?_⟩
            obtain ⟨g9, h⟩ := h
            refine ⟨g9, ?_⟩
            rcases h with ⟨c, h⟩ | ⟨c, h⟩
            · refine ⟨fun _ => ?_, fun c2 => absurd c c2⟩
              exact vw_nameEntry_J96 (fun _ _ _ _ h => ih h) h
            · refine ⟨fun c2 => absurd c2 c, fun _ => ?_⟩
              exact vw_nameEntry_J97 (fun _ _ _ _ h => ih h) h
        · intro q8 d9
          exact nomatch d9
      · refine ⟨_, _, vw_over z9, ?_, ?_⟩
        · intro p8 q8 d9
          exact nomatch d9
        · intro q8 d9
          injection d9 with d9
          subst d9
          exact h
set_option maxRecDepth 100000 in
theorem vz_nameEntry_L54 {oo : MS ⊕ MS} {Q : MS → Prop} {E : MS → Prop} : ∀ (n m : Nat) {U54 : MS} {v54_2 : Int32} {v54_3 : Int32} {v54_4 : Int32}, v_nameEntry_L54 oo n U54 v54_2 v54_3 v54_4 → w_nameEntry_L54 Q E m U54 v54_2 v54_3 v54_4 → oV Q E oo := by
  intro n
  induction n with
  | zero => intro m U54 v54_2 v54_3 v54_4 h; unfold v_nameEntry_L54 at h; exact h.elim
  | succ n ih =>
    intro m U54 v54_2 v54_3 v54_4 h w
    cases m with
    | zero => unfold w_nameEntry_L54 at w; exact w.elim
    | succ m =>
      unfold v_nameEntry_L54 at h
      unfold w_nameEntry_L54 at w
      rcases h with ⟨c, h⟩ | ⟨c, h⟩
      · replace w := w.1 c
        rw [h]
        exact w
      · replace w := w.2 c
        obtain ⟨Q9, E9, w0, w⟩ := w
        rcases h with ⟨p9, q9, z9, h⟩ | ⟨q9, z9, h⟩
        · replace w := w.1 p9 q9 (vz_over z9 w0)
          replace h := h.2
          replace w := w.2
          replace h := h.2
          replace w := w.2
          rcases h with ⟨c, h⟩ | ⟨c, h⟩
          · replace w := w.1 c
            exact vz_nameEntry_J96 (fun _ _ _ _ h w => ih m h w) h w
          · replace w := w.2 c
            replace h := h.2
            replace w := w.2
            replace h := h.2
            replace w := w.2
            rcases h with ⟨c, h⟩ | ⟨c, h⟩
            · replace w := w.1 c
              exact vz_nameEntry_J96 (fun _ _ _ _ h w => ih m h w) h w
            · replace w := w.2 c
              exact vz_nameEntry_J97 (fun _ _ _ _ h w => ih m h w) h w
        · replace w := w.2 q9 (vz_over z9 w0)
          rw [h]
          exact w
set_option maxRecDepth 100000 in
theorem vw_nameEntry_J29 {oo : MS ⊕ MS} {U29 : MS} {t29_0 : Int32} {v29_1 : Int32} {v29_2 : Int32} {v29_3 : Int32} (h : v_nameEntry_J29 oo U29 t29_0 v29_1 v29_2 v29_3) : w_nameEntry_J29 (fun u => oo = .inl u) (fun u => oo = .inr u) U29 t29_0 v29_1 v29_2 v29_3 := by
  unfold v_nameEntry_J29 at h
  unfold w_nameEntry_J29
  rcases h with ⟨q9, z9, h⟩ | ⟨q9, z9, h⟩
  · refine ⟨_, _, vw_must z9, ?_, ?_⟩
    · intro q8 d9
      injection d9 with d9
      subst d9
      obtain ⟨g9, h⟩ := h
      refine ⟨g9, ?_⟩
      obtain ⟨v9, e9, h⟩ := h
      intro x9 d9
      have c9 : v9 = x9 := e9.trans d9.symm
      subst c9
      obtain ⟨g9, h⟩ := h
      refine ⟨g9, ?_⟩
      obtain ⟨v9, e9, h⟩ := h
      intro x9 d9
      have c9 : v9 = x9 := e9.trans d9.symm
      subst c9
      obtain ⟨n9, h⟩ := h
      exact ⟨n9, vw_nameEntry_L54 n9 h⟩
    · intro q8 d9
      exact nomatch d9
  · refine ⟨_, _, vw_must z9, ?_, ?_⟩
    · intro q8 d9
      exact nomatch d9
    · intro q8 d9
      injection d9 with d9
      subst d9
      exact h
set_option maxRecDepth 100000 in
theorem vz_nameEntry_J29 {oo : MS ⊕ MS} {Q : MS → Prop} {E : MS → Prop} {U29 : MS} {t29_0 : Int32} {v29_1 : Int32} {v29_2 : Int32} {v29_3 : Int32} (h : v_nameEntry_J29 oo U29 t29_0 v29_1 v29_2 v29_3) (w : w_nameEntry_J29 Q E U29 t29_0 v29_1 v29_2 v29_3) : oV Q E oo := by
  unfold v_nameEntry_J29 at h
  unfold w_nameEntry_J29 at w
  obtain ⟨Q9, E9, w0, w⟩ := w
  rcases h with ⟨q9, z9, h⟩ | ⟨q9, z9, h⟩
  · replace w := w.1 q9 (vz_must z9 w0)
    replace h := h.2
    replace w := w.2
    obtain ⟨v9, e9, h⟩ := h
    replace w := w v9 e9
    replace h := h.2
    replace w := w.2
    obtain ⟨v9, e9, h⟩ := h
    replace w := w v9 e9
    obtain ⟨n9, h⟩ := h
    obtain ⟨n8, w⟩ := w
    exact vz_nameEntry_L54 n9 n8 h w
  · replace w := w.2 q9 (vz_must z9 w0)
    rw [h]
    exact w
set_option maxRecDepth 100000 in
theorem vw_nameEntry_J28 {oo : MS ⊕ MS} {U28 : MS} {v28_1 : Int32} {v28_2 : Int32} {v28_3 : Int32} (h : v_nameEntry_J28 oo U28 v28_1 v28_2 v28_3) : w_nameEntry_J28 (fun u => oo = .inl u) (fun u => oo = .inr u) U28 v28_1 v28_2 v28_3 := by
  unfold v_nameEntry_J28 at h
  unfold w_nameEntry_J28
  exact vw_nameEntry_J29 h
set_option maxRecDepth 100000 in
theorem vz_nameEntry_J28 {oo : MS ⊕ MS} {Q : MS → Prop} {E : MS → Prop} {U28 : MS} {v28_1 : Int32} {v28_2 : Int32} {v28_3 : Int32} (h : v_nameEntry_J28 oo U28 v28_1 v28_2 v28_3) (w : w_nameEntry_J28 Q E U28 v28_1 v28_2 v28_3) : oV Q E oo := by
  unfold v_nameEntry_J28 at h
  unfold w_nameEntry_J28 at w
  exact vz_nameEntry_J29 h w
set_option maxRecDepth 100000 in
theorem vw_nameEntry {S : MS} {x1 : Int32} {x2 : Int32} {oo : MS ⊕ MS} (h : v_nameEntry S x1 x2 oo) : w_nameEntry S x1 x2 (fun u => oo = .inl u) (fun u => oo = .inr u) := by
  unfold v_nameEntry at h
  unfold w_nameEntry
  rcases h with ⟨p9, q9, z9, h⟩ | ⟨q9, z9, h⟩
  · refine ⟨_, _, vw_over z9, ?_, ?_⟩
    · intro p8 q8 d9
      injection d9 with d9
      injection d9 with d8 d9
      subst d8
      subst d9
      obtain ⟨g9, h⟩ := h
      refine ⟨g9, ?_⟩
      obtain ⟨v9, e9, h⟩ := h
      intro x9 d9
      have c9 : v9 = x9 := e9.trans d9.symm
      subst c9
      rcases h with ⟨c, h⟩ | ⟨c, h⟩
      · refine ⟨fun _ => ?_, fun c2 => absurd c c2⟩
        exact vw_nameEntry_J28 h
      · refine ⟨fun c2 => absurd c2 c, fun _ => ?_⟩
        rcases h with ⟨c, h⟩ | ⟨c, h⟩
        · refine ⟨fun _ => ?_, fun c2 => absurd c c2⟩
          exact vw_nameEntry_J28 h
        · refine ⟨fun c2 => absurd c2 c, fun _ => ?_⟩
          exact vw_nameEntry_J29 h
    · intro q8 d9
      exact nomatch d9
  · refine ⟨_, _, vw_over z9, ?_, ?_⟩
    · intro p8 q8 d9
      exact nomatch d9
    · intro q8 d9
      injection d9 with d9
      subst d9
      exact h
set_option maxRecDepth 100000 in
theorem vz_nameEntry {S : MS} {x1 : Int32} {x2 : Int32} {oo : MS ⊕ MS} {Q : MS → Prop} {E : MS → Prop} (h : v_nameEntry S x1 x2 oo) (w : w_nameEntry S x1 x2 Q E) : oV Q E oo := by
  unfold v_nameEntry at h
  unfold w_nameEntry at w
  obtain ⟨Q9, E9, w0, w⟩ := w
  rcases h with ⟨p9, q9, z9, h⟩ | ⟨q9, z9, h⟩
  · replace w := w.1 p9 q9 (vz_over z9 w0)
    replace h := h.2
    replace w := w.2
    obtain ⟨v9, e9, h⟩ := h
    replace w := w v9 e9
    rcases h with ⟨c, h⟩ | ⟨c, h⟩
    · replace w := w.1 c
      exact vz_nameEntry_J28 h w
    · replace w := w.2 c
      rcases h with ⟨c, h⟩ | ⟨c, h⟩
      · replace w := w.1 c
        exact vz_nameEntry_J28 h w
      · replace w := w.2 c
        exact vz_nameEntry_J29 h w
  · replace w := w.2 q9 (vz_over z9 w0)
    rw [h]
    exact w
def v_entry_J220 (oo : MS ⊕ MS) (U220 : MS) (v220_1 : Int32) (v220_3 : Int32) : Prop := (((0 : Int) ≤ v220_1.toInt ∧ v220_1.toInt < 502) ∧ (∃ S12 : MS, S12 = wI U220 4 v220_1.toInt.toNat v220_3 ∧ (oo = .inl S12)))
def v_entry (S : MS) (x1 : Int32) (oo : MS ⊕ MS) : Prop := ((∃ (r2 : Int32) (S3 : MS), v_over S 1 (.inl (r2, S3)) ∧ (((0 : Int) ≤ x1.toInt ∧ x1.toInt < 502) ∧ (∃ S6 : MS, S6 = wI S3 5 x1.toInt.toNat r2 ∧ (d_octet S6 r2 ∧ (∃ a10 : Int32, a10 = (f_octet S6 r2) ∧ ((a10.toInt = 1 ∧ ((∃ (S14 : MS), v_nameEntry S6 x1 r2 (.inl S14) ∧ (v_entry_J220 oo S14 x1 a10)) ∨ (∃ u9 : MS, v_nameEntry S6 x1 r2 (.inr u9) ∧ (oo = .inr u9)))) ∨ (¬ a10.toInt = 1 ∧ ((a10.toInt = 2 ∧ (∃ (b20 : Nat) (S18 : MS), v_broken S6 (3 : Int32) r2 b20 S18 ∧ (oo = .inr S18))) ∨ (¬ a10.toInt = 2 ∧ ((a10.toInt = 3 ∧ ((∃ (r22 : Int32) (S23 : MS), v_over S6 (4 : Int64) (.inl (r22, S23)) ∧ (d_four S23 r22 ∧ (((0 : Int) ≤ x1.toInt ∧ x1.toInt < 502) ∧ (∃ S29 : MS, S29 = wJ S23 8 x1.toInt.toNat ((f_four S23 r22).toInt64) ∧ (v_entry_J220 oo S29 x1 a10))))) ∨ (∃ u9 : MS, v_over S6 (4 : Int64) (.inr u9) ∧ (oo = .inr u9)))) ∨ (¬ a10.toInt = 3 ∧ ((a10.toInt = 4 ∧ (∃ (b34 : Nat) (S32 : MS), v_broken S6 (3 : Int32) r2 b34 S32 ∧ (oo = .inr S32))) ∨ (¬ a10.toInt = 4 ∧ ((a10.toInt = 5 ∧ ((∃ (r36 : Int32) (S37 : MS), v_over S6 (8 : Int64) (.inl (r36, S37)) ∧ (d_four S37 r36 ∧ (d_four S37 (r36 + (4 : Int32)) ∧ (((0 : Int) ≤ x1.toInt ∧ x1.toInt < 502) ∧ (∃ S49 : MS, S49 = wJ S37 8 x1.toInt.toNat ((((f_four S37 r36).toInt64) <<< ((32 : Int32).toInt64 &&& 63)) ||| (((f_four S37 (r36 + (4 : Int32))).toInt64) &&& (4294967295 : Int64))) ∧ (v_entry_J220 oo S49 x1 a10)))))) ∨ (∃ u9 : MS, v_over S6 (8 : Int64) (.inr u9) ∧ (oo = .inr u9)))) ∨ (¬ a10.toInt = 5 ∧ ((a10.toInt = 6 ∧ (∃ (b54 : Nat) (S52 : MS), v_broken S6 (3 : Int32) r2 b54 S52 ∧ (oo = .inr S52))) ∨ (¬ a10.toInt = 6 ∧ ((a10.toInt = 7 ∧ ((∃ (r56 : Int32) (S57 : MS), v_over S6 (2 : Int64) (.inl (r56, S57)) ∧ (d_two S57 r56 ∧ (((0 : Int) ≤ x1.toInt ∧ x1.toInt < 502) ∧ (∃ S63 : MS, S63 = wI S57 6 x1.toInt.toNat (f_two S57 r56) ∧ (v_entry_J220 oo S63 x1 a10))))) ∨ (∃ u9 : MS, v_over S6 (2 : Int64) (.inr u9) ∧ (oo = .inr u9)))) ∨ (¬ a10.toInt = 7 ∧ ((a10.toInt = 8 ∧ (∃ (b68 : Nat) (S66 : MS), v_broken S6 (3 : Int32) r2 b68 S66 ∧ (oo = .inr S66))) ∨ (¬ a10.toInt = 8 ∧ ((a10.toInt = 9 ∧ ((∃ (r70 : Int32) (S71 : MS), v_over S6 (2 : Int64) (.inl (r70, S71)) ∧ (d_two S71 r70 ∧ (((0 : Int) ≤ x1.toInt ∧ x1.toInt < 502) ∧ (∃ S77 : MS, S77 = wI S71 6 x1.toInt.toNat (f_two S71 r70) ∧ ((∃ (r79 : Int32) (S80 : MS), v_over S77 (2 : Int64) (.inl (r79, S80)) ∧ (d_two S80 r79 ∧ (((0 : Int) ≤ x1.toInt ∧ x1.toInt < 502) ∧ (∃ S86 : MS, S86 = wI S80 7 x1.toInt.toNat (f_two S80 r79) ∧ (v_entry_J220 oo S86 x1 a10))))) ∨ (∃ u9 : MS, v_over S77 (2 : Int64) (.inr u9) ∧ (oo = .inr u9))))))) ∨ (∃ u9 : MS, v_over S6 (2 : Int64) (.inr u9) ∧ (oo = .inr u9)))) ∨ (¬ a10.toInt = 9 ∧ ((a10.toInt = 10 ∧ ((∃ (r88 : Int32) (S89 : MS), v_over S6 (2 : Int64) (.inl (r88, S89)) ∧ (d_two S89 r88 ∧ (((0 : Int) ≤ x1.toInt ∧ x1.toInt < 502) ∧ (∃ S95 : MS, S95 = wI S89 6 x1.toInt.toNat (f_two S89 r88) ∧ ((∃ (r97 : Int32) (S98 : MS), v_over S95 (2 : Int64) (.inl (r97, S98)) ∧ (d_two S98 r97 ∧ (((0 : Int) ≤ x1.toInt ∧ x1.toInt < 502) ∧ (∃ S104 : MS, S104 = wI S98 7 x1.toInt.toNat (f_two S98 r97) ∧ (v_entry_J220 oo S104 x1 a10))))) ∨ (∃ u9 : MS, v_over S95 (2 : Int64) (.inr u9) ∧ (oo = .inr u9))))))) ∨ (∃ u9 : MS, v_over S6 (2 : Int64) (.inr u9) ∧ (oo = .inr u9)))) ∨ (¬ a10.toInt = 10 ∧ ((a10.toInt = 11 ∧ (∃ (b109 : Nat) (S107 : MS), v_broken S6 (3 : Int32) r2 b109 S107 ∧ (oo = .inr S107))) ∨ (¬ a10.toInt = 11 ∧ ((a10.toInt = 12 ∧ ((∃ (r111 : Int32) (S112 : MS), v_over S6 (2 : Int64) (.inl (r111, S112)) ∧ (d_two S112 r111 ∧ (((0 : Int) ≤ x1.toInt ∧ x1.toInt < 502) ∧ (∃ S118 : MS, S118 = wI S112 6 x1.toInt.toNat (f_two S112 r111) ∧ ((∃ (r120 : Int32) (S121 : MS), v_over S118 (2 : Int64) (.inl (r120, S121)) ∧ (d_two S121 r120 ∧ (((0 : Int) ≤ x1.toInt ∧ x1.toInt < 502) ∧ (∃ S127 : MS, S127 = wI S121 7 x1.toInt.toNat (f_two S121 r120) ∧ (v_entry_J220 oo S127 x1 a10))))) ∨ (∃ u9 : MS, v_over S118 (2 : Int64) (.inr u9) ∧ (oo = .inr u9))))))) ∨ (∃ u9 : MS, v_over S6 (2 : Int64) (.inr u9) ∧ (oo = .inr u9)))) ∨ (¬ a10.toInt = 12 ∧ (∃ (b132 : Nat) (S130 : MS), v_broken S6 (3 : Int32) r2 b132 S130 ∧ (oo = .inr S130))))))))))))))))))))))))))))))) ∨ (∃ u9 : MS, v_over S 1 (.inr u9) ∧ (oo = .inr u9)))
set_option maxRecDepth 100000 in
theorem ru_entry_J220 {ι : Type} {P : MS ⊕ MS → Prop} {Q : MS → Prop} {E : MS → Prop} {U220 : MS} {v220_1 : Int32} {v220_3 : Int32} (i0 : ι) (K : ∀ (i : ι) (oo : MS ⊕ MS), v_entry_J220 oo U220 v220_1 v220_3 → P oo) (h : w_entry_J220 Q E U220 v220_1 v220_3) : ∃ oo, P oo ∧ oV Q E oo := by
  unfold w_entry_J220 at h
  obtain ⟨g1_, h⟩ := h
  replace K := fun i oo z => K i oo ⟨g1_, z⟩
  obtain ⟨S12, eS12⟩ : ∃ x9 : MS, x9 = wI U220 4 v220_1.toInt.toNat v220_3 := ⟨_, rfl⟩
  replace h := h S12 eS12
  replace K := fun i oo z => K i oo ⟨S12, eS12, z⟩
  exact ⟨.inl _, K i0 _ rfl, h⟩
set_option maxRecDepth 100000 in
theorem ru_entry {S : MS} {x1 : Int32} {Q : MS → Prop} {E : MS → Prop} (h : w_entry S x1 Q E) : ∃ oo, v_entry S x1 oo ∧ oV Q E oo := by
  have i0 : Unit := ()
  have K : ∀ (i : Unit) (oo : MS ⊕ MS), v_entry S x1 oo → v_entry S x1 oo := fun _ _ z => z
  unfold w_entry at h
  obtain ⟨Q9, E9, h0, h⟩ := h
  obtain ⟨o9, z9, g9⟩ := ru_over h0
  rcases o9 with ⟨r2, S3⟩ | u9
  · replace h := h.1 r2 S3 g9
    replace K := fun i oo z => K i oo (Or.inl ⟨r2, S3, z9, z⟩)
    obtain ⟨g2_, h⟩ := h
    replace K := fun i oo z => K i oo ⟨g2_, z⟩
    obtain ⟨S6, eS6⟩ : ∃ x9 : MS, x9 = wI S3 5 x1.toInt.toNat r2 := ⟨_, rfl⟩
    replace h := h S6 eS6
    replace K := fun i oo z => K i oo ⟨S6, eS6, z⟩
    obtain ⟨g3_, h⟩ := h
    replace K := fun i oo z => K i oo ⟨g3_, z⟩
    obtain ⟨a10, ea10⟩ : ∃ x9 : Int32, x9 = (f_octet S6 r2) := ⟨_, rfl⟩
    replace h := h a10 ea10
    replace K := fun i oo z => K i oo ⟨a10, ea10, z⟩
    by_cases c : a10.toInt = 1
    · replace h := h.1 c
      replace K := fun i oo z => K i oo (Or.inl ⟨c, z⟩)
      obtain ⟨Q9, E9, h0, h⟩ := h
      obtain ⟨o9, z9, g9⟩ := ru_nameEntry h0
      rcases o9 with S14 | u9
      · replace h := h.1 S14 g9
        replace K := fun i oo z => K i oo (Or.inl ⟨S14, z9, z⟩)
        exact ru_entry_J220 i0 K h
      · replace h := h.2 u9 g9
        replace K := fun i oo z => K i oo (Or.inr ⟨u9, z9, z⟩)
        exact ⟨.inr u9, K i0 _ rfl, h⟩
    · replace h := h.2 c
      replace K := fun i oo z => K i oo (Or.inr ⟨c, z⟩)
      by_cases c : a10.toInt = 2
      · replace h := h.1 c
        replace K := fun i oo z => K i oo (Or.inl ⟨c, z⟩)
        obtain ⟨Q9, h0, h⟩ := h
        obtain ⟨b20, S18, z9, g9⟩ := ru_broken h0
        replace h := h b20 S18 g9
        replace K := fun i oo z => K i oo ⟨b20, S18, z9, z⟩
        exact ⟨.inr S18, K i0 _ rfl, h⟩
      · replace h := h.2 c
        replace K := fun i oo z => K i oo (Or.inr ⟨c, z⟩)
        by_cases c : a10.toInt = 3
        · replace h := h.1 c
          replace K := fun i oo z => K i oo (Or.inl ⟨c, z⟩)
          obtain ⟨Q9, E9, h0, h⟩ := h
          obtain ⟨o9, z9, g9⟩ := ru_over h0
          rcases o9 with ⟨r22, S23⟩ | u9
          · replace h := h.1 r22 S23 g9
            replace K := fun i oo z => K i oo (Or.inl ⟨r22, S23, z9, z⟩)
            obtain ⟨g4_, h⟩ := h
            replace K := fun i oo z => K i oo ⟨g4_, z⟩
            obtain ⟨g5_, h⟩ := h
            replace K := fun i oo z => K i oo ⟨g5_, z⟩
            obtain ⟨S29, eS29⟩ : ∃ x9 : MS, x9 = wJ S23 8 x1.toInt.toNat ((f_four S23 r22).toInt64) := ⟨_, rfl⟩
            replace h := h S29 eS29
            replace K := fun i oo z => K i oo ⟨S29, eS29, z⟩
            exact ru_entry_J220 i0 K h
          · replace h := h.2 u9 g9
            replace K := fun i oo z => K i oo (Or.inr ⟨u9, z9, z⟩)
            exact ⟨.inr u9, K i0 _ rfl, h⟩
        · replace h := h.2 c
          replace K := fun i oo z => K i oo (Or.inr ⟨c, z⟩)
          by_cases c : a10.toInt = 4
          · replace h := h.1 c
            replace K := fun i oo z => K i oo (Or.inl ⟨c, z⟩)
            obtain ⟨Q9, h0, h⟩ := h
            obtain ⟨b34, S32, z9, g9⟩ := ru_broken h0
            replace h := h b34 S32 g9
            replace K := fun i oo z => K i oo ⟨b34, S32, z9, z⟩
            exact ⟨.inr S32, K i0 _ rfl, h⟩
          · replace h := h.2 c
            replace K := fun i oo z => K i oo (Or.inr ⟨c, z⟩)
            by_cases c : a10.toInt = 5
            · replace h := h.1 c
              replace K := fun i oo z => K i oo (Or.inl ⟨c, z⟩)
              obtain ⟨Q9, E9, h0, h⟩ := h
              obtain ⟨o9, z9, g9⟩ := ru_over h0
              rcases o9 with ⟨r36, S37⟩ | u9
              · replace h := h.1 r36 S37 g9
                replace K := fun i oo z => K i oo (Or.inl ⟨r36, S37, z9, z⟩)
                obtain ⟨g6_, h⟩ := h
                replace K := fun i oo z => K i oo ⟨g6_, z⟩
                obtain ⟨g7_, h⟩ := h
                replace K := fun i oo z => K i oo ⟨g7_, z⟩
                obtain ⟨g8_, h⟩ := h
                replace K := fun i oo z => K i oo ⟨g8_, z⟩
                obtain ⟨S49, eS49⟩ : ∃ x9 : MS, x9 = wJ S37 8 x1.toInt.toNat ((((f_four S37 r36).toInt64) <<< ((32 : Int32).toInt64 &&& 63)) ||| (((f_four S37 (r36 + (4 : Int32))).toInt64) &&& (4294967295 : Int64))) := ⟨_, rfl⟩
                replace h := h S49 eS49
                replace K := fun i oo z => K i oo ⟨S49, eS49, z⟩
                exact ru_entry_J220 i0 K h
              · replace h := h.2 u9 g9
                replace K := fun i oo z => K i oo (Or.inr ⟨u9, z9, z⟩)
                exact ⟨.inr u9, K i0 _ rfl, h⟩
            · replace h := h.2 c
              replace K := fun i oo z => K i oo (Or.inr ⟨c, z⟩)
              by_cases c : a10.toInt = 6
              · replace h := h.1 c
                replace K := fun i oo z => K i oo (Or.inl ⟨c, z⟩)
                obtain ⟨Q9, h0, h⟩ := h
                obtain ⟨b54, S52, z9, g9⟩ := ru_broken h0
                replace h := h b54 S52 g9
                replace K := fun i oo z => K i oo ⟨b54, S52, z9, z⟩
                exact ⟨.inr S52, K i0 _ rfl, h⟩
              · replace h := h.2 c
                replace K := fun i oo z => K i oo (Or.inr ⟨c, z⟩)
                by_cases c : a10.toInt = 7
                · replace h := h.1 c
                  replace K := fun i oo z => K i oo (Or.inl ⟨c, z⟩)
                  obtain ⟨Q9, E9, h0, h⟩ := h
                  obtain ⟨o9, z9, g9⟩ := ru_over h0
                  rcases o9 with ⟨r56, S57⟩ | u9
                  · replace h := h.1 r56 S57 g9
                    replace K := fun i oo z => K i oo (Or.inl ⟨r56, S57, z9, z⟩)
                    obtain ⟨g9_, h⟩ := h
                    replace K := fun i oo z => K i oo ⟨g9_, z⟩
                    obtain ⟨g10_, h⟩ := h
                    replace K := fun i oo z => K i oo ⟨g10_, z⟩
                    obtain ⟨S63, eS63⟩ : ∃ x9 : MS, x9 = wI S57 6 x1.toInt.toNat (f_two S57 r56) := ⟨_, rfl⟩
                    replace h := h S63 eS63
                    replace K := fun i oo z => K i oo ⟨S63, eS63, z⟩
                    exact ru_entry_J220 i0 K h
                  · replace h := h.2 u9 g9
                    replace K := fun i oo z => K i oo (Or.inr ⟨u9, z9, z⟩)
                    exact ⟨.inr u9, K i0 _ rfl, h⟩
                · replace h := h.2 c
                  replace K := fun i oo z => K i oo (Or.inr ⟨c, z⟩)
                  by_cases c : a10.toInt = 8
                  · replace h := h.1 c
                    replace K := fun i oo z => K i oo (Or.inl ⟨c, z⟩)
                    obtain ⟨Q9, h0, h⟩ := h
                    obtain ⟨b68, S66, z9, g9⟩ := ru_broken h0
                    replace h := h b68 S66 g9
                    replace K := fun i oo z => K i oo ⟨b68, S66, z9, z⟩
                    exact ⟨.inr S66, K i0 _ rfl, h⟩
                  · replace h := h.2 c
                    replace K := fun i oo z => K i oo (Or.inr ⟨c, z⟩)
                    by_cases c : a10.toInt = 9
                    · replace h := h.1 c
                      replace K := fun i oo z => K i oo (Or.inl ⟨c, z⟩)
                      obtain ⟨Q9, E9, h0, h⟩ := h
                      obtain ⟨o9, z9, g9⟩ := ru_over h0
                      rcases o9 with ⟨r70, S71⟩ | u9
                      · replace h := h.1 r70 S71 g9
                        replace K := fun i oo z => K i oo (Or.inl ⟨r70, S71, z9, z⟩)
                        obtain ⟨g11_, h⟩ := h
                        replace K := fun i oo z => K i oo ⟨g11_, z⟩
                        obtain ⟨g12_, h⟩ := h
                        replace K := fun i oo z => K i oo ⟨g12_, z⟩
                        obtain ⟨S77, eS77⟩ : ∃ x9 : MS, x9 = wI S71 6 x1.toInt.toNat (f_two S71 r70) := ⟨_, rfl⟩
                        replace h := h S77 eS77
                        replace K := fun i oo z => K i oo ⟨S77, eS77, z⟩
                        obtain ⟨Q9, E9, h0, h⟩ := h
                        obtain ⟨o9, z9, g9⟩ := ru_over h0
                        rcases o9 with ⟨r79, S80⟩ | u9
                        · replace h := h.1 r79 S80 g9
                          replace K := fun i oo z => K i oo (Or.inl ⟨r79, S80, z9, z⟩)
                          obtain ⟨g13_, h⟩ := h
                          replace K := fun i oo z => K i oo ⟨g13_, z⟩
                          obtain ⟨g14_, h⟩ := h
                          replace K := fun i oo z => K i oo ⟨g14_, z⟩
                          obtain ⟨S86, eS86⟩ : ∃ x9 : MS, x9 = wI S80 7 x1.toInt.toNat (f_two S80 r79) := ⟨_, rfl⟩
                          replace h := h S86 eS86
                          replace K := fun i oo z => K i oo ⟨S86, eS86, z⟩
                          exact ru_entry_J220 i0 K h
                        · replace h := h.2 u9 g9
                          replace K := fun i oo z => K i oo (Or.inr ⟨u9, z9, z⟩)
                          exact ⟨.inr u9, K i0 _ rfl, h⟩
                      · replace h := h.2 u9 g9
                        replace K := fun i oo z => K i oo (Or.inr ⟨u9, z9, z⟩)
                        exact ⟨.inr u9, K i0 _ rfl, h⟩
                    · replace h := h.2 c
                      replace K := fun i oo z => K i oo (Or.inr ⟨c, z⟩)
                      by_cases c : a10.toInt = 10
                      · replace h := h.1 c
                        replace K := fun i oo z => K i oo (Or.inl ⟨c, z⟩)
                        obtain ⟨Q9, E9, h0, h⟩ := h
                        obtain ⟨o9, z9, g9⟩ := ru_over h0
                        rcases o9 with ⟨r88, S89⟩ | u9
                        · replace h := h.1 r88 S89 g9
                          replace K := fun i oo z => K i oo (Or.inl ⟨r88, S89, z9, z⟩)
                          obtain ⟨g15_, h⟩ := h
                          replace K := fun i oo z => K i oo ⟨g15_, z⟩
                          obtain ⟨g16_, h⟩ := h
                          replace K := fun i oo z => K i oo ⟨g16_, z⟩
                          obtain ⟨S95, eS95⟩ : ∃ x9 : MS, x9 = wI S89 6 x1.toInt.toNat (f_two S89 r88) := ⟨_, rfl⟩
                          replace h := h S95 eS95
                          replace K := fun i oo z => K i oo ⟨S95, eS95, z⟩
                          obtain ⟨Q9, E9, h0, h⟩ := h
                          obtain ⟨o9, z9, g9⟩ := ru_over h0
                          rcases o9 with ⟨r97, S98⟩ | u9
                          · replace h := h.1 r97 S98 g9
                            replace K := fun i oo z => K i oo (Or.inl ⟨r97, S98, z9, z⟩)
                            obtain ⟨g17_, h⟩ := h
                            replace K := fun i oo z => K i oo ⟨g17_, z⟩
                            obtain ⟨g18_, h⟩ := h
                            replace K := fun i oo z => K i oo ⟨g18_, z⟩
                            obtain ⟨S104, eS104⟩ : ∃ x9 : MS, x9 = wI S98 7 x1.toInt.toNat (f_two S98 r97) := ⟨_, rfl⟩
                            replace h := h S104 eS104
                            replace K := fun i oo z => K i oo ⟨S104, eS104, z⟩
                            exact ru_entry_J220 i0 K h
                          · replace h := h.2 u9 g9
                            replace K := fun i oo z => K i oo (Or.inr ⟨u9, z9, z⟩)
                            exact ⟨.inr u9, K i0 _ rfl, h⟩
                        · replace h := h.2 u9 g9
                          replace K := fun i oo z => K i oo (Or.inr ⟨u9, z9, z⟩)
                          exact ⟨.inr u9, K i0 _ rfl, h⟩
                      · replace h := h.2 c
                        replace K := fun i oo z => K i oo (Or.inr ⟨c, z⟩)
                        by_cases c : a10.toInt = 11
                        · replace h := h.1 c
                          replace K := fun i oo z => K i oo (Or.inl ⟨c, z⟩)
                          obtain ⟨Q9, h0, h⟩ := h
                          obtain ⟨b109, S107, z9, g9⟩ := ru_broken h0
                          replace h := h b109 S107 g9
                          replace K := fun i oo z => K i oo ⟨b109, S107, z9, z⟩
                          exact ⟨.inr S107, K i0 _ rfl, h⟩
                        · replace h := h.2 c
                          replace K := fun i oo z => K i oo (Or.inr ⟨c, z⟩)
                          by_cases c : a10.toInt = 12
                          · replace h := h.1 c
                            replace K := fun i oo z => K i oo (Or.inl ⟨c, z⟩)
                            obtain ⟨Q9, E9, h0, h⟩ := h
                            obtain ⟨o9, z9, g9⟩ := ru_over h0
                            rcases o9 with ⟨r111, S112⟩ | u9
                            · replace h := h.1 r111 S112 g9
                              replace K := fun i oo z => K i oo (Or.inl ⟨r111, S112, z9, z⟩)
                              obtain ⟨g19_, h⟩ := h
                              replace K := fun i oo z => K i oo ⟨g19_, z⟩
                              obtain ⟨g20_, h⟩ := h
                              replace K := fun i oo z => K i oo ⟨g20_, z⟩
                              obtain ⟨S118, eS118⟩ : ∃ x9 : MS, x9 = wI S112 6 x1.toInt.toNat (f_two S112 r111) := ⟨_, rfl⟩
                              replace h := h S118 eS118
                              replace K := fun i oo z => K i oo ⟨S118, eS118, z⟩
                              obtain ⟨Q9, E9, h0, h⟩ := h
                              obtain ⟨o9, z9, g9⟩ := ru_over h0
                              rcases o9 with ⟨r120, S121⟩ | u9
                              · replace h := h.1 r120 S121 g9
                                replace K := fun i oo z => K i oo (Or.inl ⟨r120, S121, z9, z⟩)
                                obtain ⟨g21_, h⟩ := h
                                replace K := fun i oo z => K i oo ⟨g21_, z⟩
                                obtain ⟨g22_, h⟩ := h
                                replace K := fun i oo z => K i oo ⟨g22_, z⟩
                                obtain ⟨S127, eS127⟩ : ∃ x9 : MS, x9 = wI S121 7 x1.toInt.toNat (f_two S121 r120) := ⟨_, rfl⟩
                                replace h := h S127 eS127
                                replace K := fun i oo z => K i oo ⟨S127, eS127, z⟩
                                exact ru_entry_J220 i0 K h
                              · replace h := h.2 u9 g9
                                replace K := fun i oo z => K i oo (Or.inr ⟨u9, z9, z⟩)
                                exact ⟨.inr u9, K i0 _ rfl, h⟩
                            · replace h := h.2 u9 g9
                              replace K := fun i oo z => K i oo (Or.inr ⟨u9, z9, z⟩)
                              exact ⟨.inr u9, K i0 _ rfl, h⟩
                          · replace h := h.2 c
                            replace K := fun i oo z => K i oo (Or.inr ⟨c, z⟩)
                            obtain ⟨Q9, h0, h⟩ := h
                            obtain ⟨b132, S130, z9, g9⟩ := ru_broken h0
                            replace h := h b132 S130 g9
                            replace K := fun i oo z => K i oo ⟨b132, S130, z9, z⟩
                            exact ⟨.inr S130, K i0 _ rfl, h⟩
  · replace h := h.2 u9 g9
    replace K := fun i oo z => K i oo (Or.inr ⟨u9, z9, z⟩)
    exact ⟨.inr u9, K i0 _ rfl, h⟩
set_option maxRecDepth 100000 in
theorem vw_entry_J220 {oo : MS ⊕ MS} {U220 : MS} {v220_1 : Int32} {v220_3 : Int32} (h : v_entry_J220 oo U220 v220_1 v220_3) : w_entry_J220 (fun u => oo = .inl u) (fun u => oo = .inr u) U220 v220_1 v220_3 := by
  unfold v_entry_J220 at h
  unfold w_entry_J220
  obtain ⟨g9, h⟩ := h
  refine ⟨g9, ?_⟩
  obtain ⟨v9, e9, h⟩ := h
  intro x9 d9
  have c9 : v9 = x9 := e9.trans d9.symm
  subst c9
  exact h
set_option maxRecDepth 100000 in
theorem vz_entry_J220 {oo : MS ⊕ MS} {Q : MS → Prop} {E : MS → Prop} {U220 : MS} {v220_1 : Int32} {v220_3 : Int32} (h : v_entry_J220 oo U220 v220_1 v220_3) (w : w_entry_J220 Q E U220 v220_1 v220_3) : oV Q E oo := by
  unfold v_entry_J220 at h
  unfold w_entry_J220 at w
  replace h := h.2
  replace w := w.2
  obtain ⟨v9, e9, h⟩ := h
  replace w := w v9 e9
  rw [h]
  exact w
set_option maxRecDepth 100000 in
theorem vw_entry {S : MS} {x1 : Int32} {oo : MS ⊕ MS} (h : v_entry S x1 oo) : w_entry S x1 (fun u => oo = .inl u) (fun u => oo = .inr u) := by
  unfold v_entry at h
  unfold w_entry
  rcases h with ⟨p9, q9, z9, h⟩ | ⟨q9, z9, h⟩
  · refine ⟨_, _, vw_over z9, ?_, ?_⟩
    · intro p8 q8 d9
      injection d9 with d9
      injection d9 with d8 d9
      subst d8
      subst d9
      obtain ⟨g9, h⟩ := h
      refine ⟨g9, ?_⟩
      obtain ⟨v9, e9, h⟩ := h
      intro x9 d9
      have c9 : v9 = x9 := e9.trans d9.symm
      subst c9
      obtain ⟨g9, h⟩ := h
      refine ⟨g9, ?_⟩
      obtain ⟨v9, e9, h⟩ := h
      intro x9 d9
      have c9 : v9 = x9 := e9.trans d9.symm
      subst c9
      rcases h with ⟨c, h⟩ | ⟨c, h⟩
      · refine ⟨fun _ => ?_, fun c2 => absurd c c2⟩
        rcases h with ⟨q9, z9, h⟩ | ⟨q9, z9, h⟩
        · refine ⟨_, _, vw_nameEntry z9, ?_, ?_⟩
          · intro q8 d9
            injection d9 with d9
            subst d9
            exact vw_entry_J220 h
          · intro q8 d9
            exact nomatch d9
        · refine ⟨_, _, vw_nameEntry z9, ?_, ?_⟩
          · intro q8 d9
            exact nomatch d9
          · intro q8 d9
            injection d9 with d9
            subst d9
            exact h
      · refine ⟨fun c2 => absurd c2 c, fun _ => ?_⟩
        rcases h with ⟨c, h⟩ | ⟨c, h⟩
        · refine ⟨fun _ => ?_, fun c2 => absurd c c2⟩
          obtain ⟨p9, q9, z9, h⟩ := h
          refine ⟨_, vw_broken z9, ?_⟩
          rintro p8 q8 ⟨d8, d9⟩
          subst d8
          subst d9
          exact h
        · refine ⟨fun c2 => absurd c2 c, fun _ => ?_⟩
          rcases h with ⟨c, h⟩ | ⟨c, h⟩
          · refine ⟨fun _ => ?_, fun c2 => absurd c c2⟩
            rcases h with ⟨p9, q9, z9, h⟩ | ⟨q9, z9, h⟩
            · refine ⟨_, _, vw_over z9, ?_, ?_⟩
              · intro p8 q8 d9
                injection d9 with d9
                injection d9 with d8 d9
                subst d8
                subst d9
                obtain ⟨g9, h⟩ := h
                refine ⟨g9, ?_⟩
                obtain ⟨g9, h⟩ := h
                refine ⟨g9, ?_⟩
                obtain ⟨v9, e9, h⟩ := h
                intro x9 d9
                have c9 : v9 = x9 := e9.trans d9.symm
                subst c9
                exact vw_entry_J220 h
              · intro q8 d9
                exact nomatch d9
            · refine ⟨_, _, vw_over z9, ?_, ?_⟩
              · intro p8 q8 d9
                exact nomatch d9
              · intro q8 d9
                injection d9 with d9
                subst d9
                exact h
          · refine ⟨fun c2 => absurd c2 c, fun _ => ?_⟩
            rcases h with ⟨c, h⟩ | ⟨c, h⟩
            · refine ⟨fun _ => ?_, fun c2 => absurd c c2⟩
              obtain ⟨p9, q9, z9, h⟩ := h
              refine ⟨_, vw_broken z9, ?_⟩
              rintro p8 q8 ⟨d8, d9⟩
              subst d8
              subst d9
              exact h
            · refine ⟨fun c2 => absurd c2 c, fun _ => ?_⟩
              rcases h with ⟨c, h⟩ | ⟨c, h⟩
              · refine ⟨fun _ => ?_, fun c2 => absurd c c2⟩
                rcases h with ⟨p9, q9, z9, h⟩ | ⟨q9, z9, h⟩
                · refine ⟨_, _, vw_over z9, ?_, ?_⟩
                  · intro p8 q8 d9
                    injection d9 with d9
                    injection d9 with d8 d9
                    subst d8
                    subst d9
                    obtain ⟨g9, h⟩ := h
                    refine ⟨g9, ?_⟩
                    obtain ⟨g9, h⟩ := h
                    refine ⟨g9, ?_⟩
                    obtain ⟨g9, h⟩ := h
                    refine ⟨g9, ?_⟩
                    obtain ⟨v9, e9, h⟩ := h
                    intro x9 d9
                    have c9 : v9 = x9 := e9.trans d9.symm
                    subst c9
                    exact vw_entry_J220 h
                  · intro q8 d9
                    exact nomatch d9
                · refine ⟨_, _, vw_over z9, ?_, ?_⟩
                  · intro p8 q8 d9
                    exact nomatch d9
                  · intro q8 d9
                    injection d9 with d9
                    subst d9
                    exact h
              · refine ⟨fun c2 => absurd c2 c, fun _ => ?_⟩
                rcases h with ⟨c, h⟩ | ⟨c, h⟩
                · refine ⟨fun _ => ?_, fun c2 => absurd c c2⟩
                  obtain ⟨p9, q9, z9, h⟩ := h
                  refine ⟨_, vw_broken z9, ?_⟩
                  rintro p8 q8 ⟨d8, d9⟩
                  subst d8
                  subst d9
                  exact h
                · refine ⟨fun c2 => absurd c2 c, fun _ => ?_⟩
                  rcases h with ⟨c, h⟩ | ⟨c, h⟩
                  · refine ⟨fun _ => ?_, fun c2 => absurd c c2⟩
                    rcases h with ⟨p9, q9, z9, h⟩ | ⟨q9, z9, h⟩
                    · refine ⟨_, _, vw_over z9, ?_, ?_⟩
                      · intro p8 q8 d9
                        injection d9 with d9
                        injection d9 with d8 d9
                        subst d8
                        subst d9
                        obtain ⟨g9, h⟩ := h
                        refine ⟨g9, ?_⟩
                        obtain ⟨g9, h⟩ := h
                        refine ⟨g9, ?_⟩
                        obtain ⟨v9, e9, h⟩ := h
                        intro x9 d9
                        have c9 : v9 = x9 := e9.trans d9.symm
                        subst c9
                        exact vw_entry_J220 h
                      · intro q8 d9
                        exact nomatch d9
                    · refine ⟨_, _, vw_over z9, ?_, ?_⟩
                      · intro p8 q8 d9
                        exact nomatch d9
                      · intro q8 d9
                        injection d9 with d9
                        subst d9
                        exact h
                  · refine ⟨fun c2 => absurd c2 c, fun _ => ?_⟩
                    rcases h with ⟨c, h⟩ | ⟨c, h⟩
                    · refine ⟨fun _ => ?_, fun c2 => absurd c c2⟩
                      obtain ⟨p9, q9, z9, h⟩ := h
                      refine ⟨_, vw_broken z9, ?_⟩
                      rintro p8 q8 ⟨d8, d9⟩
                      subst d8
                      subst d9
                      exact h
                    · refine ⟨fun c2 => absurd c2 c, fun _ => ?_⟩
                      rcases h with ⟨c, h⟩ | ⟨c, h⟩
                      · refine ⟨fun _ => ?_, fun c2 => absurd c c2⟩
                        rcases h with ⟨p9, q9, z9, h⟩ | ⟨q9, z9, h⟩
                        · refine ⟨_, _, vw_over z9, ?_, ?_⟩
                          · intro p8 q8 d9
                            injection d9 with d9
                            injection d9 with d8 d9
                            subst d8
                            subst d9
                            obtain ⟨g9, h⟩ := h
                            refine ⟨g9, ?_⟩
                            obtain ⟨g9, h⟩ := h
                            refine ⟨g9, ?_⟩
                            obtain ⟨v9, e9, h⟩ := h
                            intro x9 d9
                            have c9 : v9 = x9 := e9.trans d9.symm
                            subst c9
                            rcases h with ⟨p9, q9, z9, h⟩ | ⟨q9, z9, h⟩
                            · refine ⟨_, _, vw_over z9, ?_, ?_⟩
                              · intro p8 q8 d9
                                injection d9 with d9
                                injection d9 with d8 d9
                                subst d8
                                subst d9
                                obtain ⟨g9, h⟩ := h
                                refine ⟨g9, ?_⟩
                                obtain ⟨g9, h⟩ := h
                                refine ⟨g9, ?_⟩
                                obtain ⟨v9, e9, h⟩ := h
                                intro x9 d9
                                have c9 : v9 = x9 := e9.trans d9.symm
                                subst c9
                                exact vw_entry_J220 h
                              · intro q8 d9
                                exact nomatch d9
                            · refine ⟨_, _, vw_over z9, ?_, ?_⟩
                              · intro p8 q8 d9
                                exact nomatch d9
                              · intro q8 d9
                                injection d9 with d9
                                subst d9
                                exact h
                          · intro q8 d9
                            exact nomatch d9
                        · refine ⟨_, _, vw_over z9, ?_, ?_⟩
                          · intro p8 q8 d9
                            exact nomatch d9
                          · intro q8 d9
                            injection d9 with d9
                            subst d9
                            exact h
                      · refine ⟨fun c2 => absurd c2 c, fun _ => ?_⟩
                        rcases h with ⟨c, h⟩ | ⟨c, h⟩
                        · refine ⟨fun _ => ?_, fun c2 => absurd c c2⟩
                          rcases h with ⟨p9, q9, z9, h⟩ | ⟨q9, z9, h⟩
                          · refine ⟨_, _, vw_over z9, ?_, ?_⟩
                            · intro p8 q8 d9
                              injection d9 with d9
                              injection d9 with d8 d9
                              subst d8
                              subst d9
                              obtain ⟨g9, h⟩ := h
                              refine ⟨g9, ?_⟩
                              obtain ⟨g9, h⟩ := h
                              refine ⟨g9, ?_⟩
                              obtain ⟨v9, e9, h⟩ := h
                              intro x9 d9
                              have c9 : v9 = x9 := e9.trans d9.symm
                              subst c9
                              rcases h with ⟨p9, q9, z9, h⟩ | ⟨q9, z9, h⟩
                              · refine ⟨_, _, vw_over z9, ?_, ?_⟩
                                · intro p8 q8 d9
                                  injection d9 with d9
                                  injection d9 with d8 d9
                                  subst d8
                                  subst d9
                                  obtain ⟨g9, h⟩ := h
                                  refine ⟨g9, ?_⟩
                                  obtain ⟨g9, h⟩ := h
                                  refine ⟨g9, ?_⟩
                                  obtain ⟨v9, e9, h⟩ := h
                                  intro x9 d9
                                  have c9 : v9 = x9 := e9.trans d9.symm
                                  subst c9
                                  exact vw_entry_J220 h
                                · intro q8 d9
                                  exact nomatch d9
                              · refine ⟨_, _, vw_over z9, ?_, ?_⟩
                                · intro p8 q8 d9
                                  exact nomatch d9
                                · intro q8 d9
                                  injection d9 with d9
                                  subst d9
                                  exact h
                            · intro q8 d9
                              exact nomatch d9
                          · refine ⟨_, _, vw_over z9, ?_, ?_⟩
                            · intro p8 q8 d9
                              exact nomatch d9
                            · intro q8 d9
                              injection d9 with d9
                              subst d9
                              exact h
                        · refine ⟨fun c2 => absurd c2 c, fun _ => ?_⟩
                          rcases h with ⟨c, h⟩ | ⟨c, h⟩
                          · refine ⟨fun _ => ?_, fun c2 => absurd c c2⟩
                            obtain ⟨p9, q9, z9, h⟩ := h
                            refine ⟨_, vw_broken z9, ?_⟩
                            rintro p8 q8 ⟨d8, d9⟩
                            subst d8
                            subst d9
                            exact h
                          · refine ⟨fun c2 => absurd c2 c, fun _ => ?_⟩
                            rcases h with ⟨c, h⟩ | ⟨c, h⟩
                            · refine ⟨fun _ => ?_, fun c2 => absurd c c2⟩
                              rcases h with ⟨p9, q9, z9, h⟩ | ⟨q9, z9, h⟩
                              · refine ⟨_, _, vw_over z9, ?_, ?_⟩
                                · intro p8 q8 d9
                                  injection d9 with d9
                                  injection d9 with d8 d9
                                  subst d8
                                  subst d9
                                  obtain ⟨g9, h⟩ := h
                                  refine ⟨g9, ?_⟩
                                  obtain ⟨g9, h⟩ := h
                                  refine ⟨g9, ?_⟩
                                  obtain ⟨v9, e9, h⟩ := h
                                  intro x9 d9
                                  have c9 : v9 = x9 := e9.trans d9.symm
                                  subst c9
                                  rcases h with ⟨p9, q9, z9, h⟩ | ⟨q9, z9, h⟩
                                  · refine ⟨_, _, vw_over z9, ?_, ?_⟩
                                    · intro p8 q8 d9
                                      injection d9 with d9
                                      injection d9 with d8 d9
                                      subst d8
                                      subst d9
                                      obtain ⟨g9, h⟩ := h
                                      refine ⟨g9, ?_⟩
                                      obtain ⟨g9, h⟩ := h
                                      refine ⟨g9, ?_⟩
                                      obtain ⟨v9, e9, h⟩ := h
                                      intro x9 d9
                                      have c9 : v9 = x9 := e9.trans d9.symm
                                      subst c9
                                      exact vw_entry_J220 h
                                    · intro q8 d9
                                      exact nomatch d9
                                  · refine ⟨_, _, vw_over z9, ?_, ?_⟩
                                    · intro p8 q8 d9
                                      exact nomatch d9
                                    · intro q8 d9
                                      injection d9 with d9
                                      subst d9
                                      exact h
                                · intro q8 d9
                                  exact nomatch d9
                              · refine ⟨_, _, vw_over z9, ?_, ?_⟩
                                · intro p8 q8 d9
                                  exact nomatch d9
                                · intro q8 d9
                                  injection d9 with d9
                                  subst d9
                                  exact h
                            · refine ⟨fun c2 => absurd c2 c, fun _ => ?_⟩
                              obtain ⟨p9, q9, z9, h⟩ := h
                              refine ⟨_, vw_broken z9, ?_⟩
                              rintro p8 q8 ⟨d8, d9⟩
                              subst d8
                              subst d9
                              exact h
    · intro q8 d9
      exact nomatch d9
  · refine ⟨_, _, vw_over z9, ?_, ?_⟩
    · intro p8 q8 d9
      exact nomatch d9
    · intro q8 d9
      injection d9 with d9
      subst d9
      exact h
set_option maxRecDepth 100000 in
theorem vz_entry {S : MS} {x1 : Int32} {oo : MS ⊕ MS} {Q : MS → Prop} {E : MS → Prop} (h : v_entry S x1 oo) (w : w_entry S x1 Q E) : oV Q E oo := by
  unfold v_entry at h
  unfold w_entry at w
  obtain ⟨Q9, E9, w0, w⟩ := w
  rcases h with ⟨p9, q9, z9, h⟩ | ⟨q9, z9, h⟩
  · replace w := w.1 p9 q9 (vz_over z9 w0)
    replace h := h.2
    replace w := w.2
    obtain ⟨v9, e9, h⟩ := h
    replace w := w v9 e9
    replace h := h.2
    replace w := w.2
    obtain ⟨v9, e9, h⟩ := h
    replace w := w v9 e9
    rcases h with ⟨c, h⟩ | ⟨c, h⟩
    · replace w := w.1 c
      obtain ⟨Q9, E9, w0, w⟩ := w
      rcases h with ⟨q9, z9, h⟩ | ⟨q9, z9, h⟩
      · replace w := w.1 q9 (vz_nameEntry z9 w0)
        exact vz_entry_J220 h w
      · replace w := w.2 q9 (vz_nameEntry z9 w0)
        rw [h]
        exact w
    · replace w := w.2 c
      rcases h with ⟨c, h⟩ | ⟨c, h⟩
      · replace w := w.1 c
        obtain ⟨p9, q9, z9, h⟩ := h
        obtain ⟨Q9, w0, w⟩ := w
        replace w := w p9 q9 (vz_broken z9 w0)
        rw [h]
        exact w
      · replace w := w.2 c
        rcases h with ⟨c, h⟩ | ⟨c, h⟩
        · replace w := w.1 c
          obtain ⟨Q9, E9, w0, w⟩ := w
          rcases h with ⟨p9, q9, z9, h⟩ | ⟨q9, z9, h⟩
          · replace w := w.1 p9 q9 (vz_over z9 w0)
            replace h := h.2
            replace w := w.2
            replace h := h.2
            replace w := w.2
            obtain ⟨v9, e9, h⟩ := h
            replace w := w v9 e9
            exact vz_entry_J220 h w
          · replace w := w.2 q9 (vz_over z9 w0)
            rw [h]
            exact w
        · replace w := w.2 c
          rcases h with ⟨c, h⟩ | ⟨c, h⟩
          · replace w := w.1 c
            obtain ⟨p9, q9, z9, h⟩ := h
            obtain ⟨Q9, w0, w⟩ := w
            replace w := w p9 q9 (vz_broken z9 w0)
            rw [h]
            exact w
          · replace w := w.2 c
            rcases h with ⟨c, h⟩ | ⟨c, h⟩
            · replace w := w.1 c
              obtain ⟨Q9, E9, w0, w⟩ := w
              rcases h with ⟨p9, q9, z9, h⟩ | ⟨q9, z9, h⟩
              · replace w := w.1 p9 q9 (vz_over z9 w0)
                replace h := h.2
                replace w := w.2
                replace h := h.2
                replace w := w.2
                replace h := h.2
                replace w := w.2
                obtain ⟨v9, e9, h⟩ := h
                replace w := w v9 e9
                exact vz_entry_J220 h w
              · replace w := w.2 q9 (vz_over z9 w0)
                rw [h]
                exact w
            · replace w := w.2 c
              rcases h with ⟨c, h⟩ | ⟨c, h⟩
              · replace w := w.1 c
                obtain ⟨p9, q9, z9, h⟩ := h
                obtain ⟨Q9, w0, w⟩ := w
                replace w := w p9 q9 (vz_broken z9 w0)
                rw [h]
                exact w
              · replace w := w.2 c
                rcases h with ⟨c, h⟩ | ⟨c, h⟩
                · replace w := w.1 c
                  obtain ⟨Q9, E9, w0, w⟩ := w
                  rcases h with ⟨p9, q9, z9, h⟩ | ⟨q9, z9, h⟩
                  · replace w := w.1 p9 q9 (vz_over z9 w0)
                    replace h := h.2
                    replace w := w.2
                    replace h := h.2
                    replace w := w.2
                    obtain ⟨v9, e9, h⟩ := h
                    replace w := w v9 e9
                    exact vz_entry_J220 h w
                  · replace w := w.2 q9 (vz_over z9 w0)
                    rw [h]
                    exact w
                · replace w := w.2 c
                  rcases h with ⟨c, h⟩ | ⟨c, h⟩
                  · replace w := w.1 c
                    obtain ⟨p9, q9, z9, h⟩ := h
                    obtain ⟨Q9, w0, w⟩ := w
                    replace w := w p9 q9 (vz_broken z9 w0)
                    rw [h]
                    exact w
                  · replace w := w.2 c
                    rcases h with ⟨c, h⟩ | ⟨c, h⟩
                    · replace w := w.1 c
                      obtain ⟨Q9, E9, w0, w⟩ := w
                      rcases h with ⟨p9, q9, z9, h⟩ | ⟨q9, z9, h⟩
                      · replace w := w.1 p9 q9 (vz_over z9 w0)
                        replace h := h.2
                        replace w := w.2
                        replace h := h.2
                        replace w := w.2
                        obtain ⟨v9, e9, h⟩ := h
                        replace w := w v9 e9
                        obtain ⟨Q9, E9, w0, w⟩ := w
                        rcases h with ⟨p9, q9, z9, h⟩ | ⟨q9, z9, h⟩
                        · replace w := w.1 p9 q9 (vz_over z9 w0)
                          replace h := h.2
                          replace w := w.2
                          replace h := h.2
                          replace w := w.2
                          obtain ⟨v9, e9, h⟩ := h
                          replace w := w v9 e9
                          exact vz_entry_J220 h w
                        · replace w := w.2 q9 (vz_over z9 w0)
                          rw [h]
                          exact w
                      · replace w := w.2 q9 (vz_over z9 w0)
                        rw [h]
                        exact w
                    · replace w := w.2 c
                      rcases h with ⟨c, h⟩ | ⟨c, h⟩
                      · replace w := w.1 c
                        obtain ⟨Q9, E9, w0, w⟩ := w
                        rcases h with ⟨p9, q9, z9, h⟩ | ⟨q9, z9, h⟩
                        · replace w := w.1 p9 q9 (vz_over z9 w0)
                          replace h := h.2
                          replace w := w.2
                          replace h := h.2
                          replace w := w.2
                          obtain ⟨v9, e9, h⟩ := h
                          replace w := w v9 e9
                          obtain ⟨Q9, E9, w0, w⟩ := w
                          rcases h with ⟨p9, q9, z9, h⟩ | ⟨q9, z9, h⟩
                          · replace w := w.1 p9 q9 (vz_over z9 w0)
                            replace h := h.2
                            replace w := w.2
                            replace h := h.2
                            replace w := w.2
                            obtain ⟨v9, e9, h⟩ := h
                            replace w := w v9 e9
                            exact vz_entry_J220 h w
                          · replace w := w.2 q9 (vz_over z9 w0)
                            rw [h]
                            exact w
                        · replace w := w.2 q9 (vz_over z9 w0)
                          rw [h]
                          exact w
                      · replace w := w.2 c
                        rcases h with ⟨c, h⟩ | ⟨c, h⟩
                        · replace w := w.1 c
                          obtain ⟨p9, q9, z9, h⟩ := h
                          obtain ⟨Q9, w0, w⟩ := w
                          replace w := w p9 q9 (vz_broken z9 w0)
                          rw [h]
                          exact w
                        · replace w := w.2 c
                          rcases h with ⟨c, h⟩ | ⟨c, h⟩
                          · replace w := w.1 c
                            obtain ⟨Q9, E9, w0, w⟩ := w
                            rcases h with ⟨p9, q9, z9, h⟩ | ⟨q9, z9, h⟩
                            · replace w := w.1 p9 q9 (vz_over z9 w0)
                              replace h := h.2
                              replace w := w.2
                              replace h := h.2
                              replace w := w.2
                              obtain ⟨v9, e9, h⟩ := h
                              replace w := w v9 e9
                              obtain ⟨Q9, E9, w0, w⟩ := w
                              rcases h with ⟨p9, q9, z9, h⟩ | ⟨q9, z9, h⟩
                              · replace w := w.1 p9 q9 (vz_over z9 w0)
                                replace h := h.2
                                replace w := w.2
                                replace h := h.2
                                replace w := w.2
                                obtain ⟨v9, e9, h⟩ := h
                                replace w := w v9 e9
                                exact vz_entry_J220 h w
                              · replace w := w.2 q9 (vz_over z9 w0)
                                rw [h]
                                exact w
                            · replace w := w.2 q9 (vz_over z9 w0)
                              rw [h]
                              exact w
                          · replace w := w.2 c
                            obtain ⟨p9, q9, z9, h⟩ := h
                            obtain ⟨Q9, w0, w⟩ := w
                            replace w := w p9 q9 (vz_broken z9 w0)
                            rw [h]
                            exact w
  · replace w := w.2 q9 (vz_over z9 w0)
    rw [h]
    exact w
def v_members_L33 (oo : MS ⊕ MS) : Nat → MS → Int32 → Int32 → Prop
  | 0, _, _, _ => False
  | n33 + 1, U33, v33_2, v33_3 => ((v33_2.toInt ≤ v33_3.toInt ∧ (oo = .inl U33)) ∨ (¬ v33_2.toInt ≤ v33_3.toInt ∧ ((∃ (r14 : Int32) (S15 : MS), v_over U33 (2 : Int64) (.inl (r14, S15)) ∧ (((0 : Int) ≤ (qI U33 0 21).toInt ∧ (qI U33 0 21).toInt < 48) ∧ (∃ S18 : MS, S18 = wI S15 9 (((qI U33 0 21).toInt).toNat) r14 ∧ ((∃ (r20 : Int32) (S21 : MS), v_over S18 (4 : Int64) (.inl (r20, S21)) ∧ ((∃ (S24 : MS), v_attributesOf S21 (qI S21 0 21) (.inl S24) ∧ (∃ S27 : MS, S27 = wI S24 0 21 ((qI S24 0 21) + (1 : Int32)) ∧ (∃ a28 : Int32, a28 = (v33_3 + Int32.ofInt 1) ∧ ((v_members_L33 oo n33) S27 v33_2 a28)))) ∨ (∃ u9 : MS, v_attributesOf S21 (qI S21 0 21) (.inr u9) ∧ (oo = .inr u9)))) ∨ (∃ u9 : MS, v_over S18 (4 : Int64) (.inr u9) ∧ (oo = .inr u9)))))) ∨ (∃ u9 : MS, v_over U33 (2 : Int64) (.inr u9) ∧ (oo = .inr u9)))))
def v_members_J26 (oo : MS ⊕ MS) (U26 : MS) (t26_0 : Int32) (v26_1 : Int32) (v26_2 : Int32) : Prop := ((∃ (S10 : MS), v_must U26 t26_0 (5 : Int32) v26_1 (.inl S10) ∧ (∃ n, v_members_L33 oo n S10 v26_2 0)) ∨ (∃ u9 : MS, v_must U26 t26_0 (5 : Int32) v26_1 (.inr u9) ∧ (oo = .inr u9)))
def v_members (S : MS) (oo : MS ⊕ MS) : Prop := ((∃ (r2 : Int32) (S3 : MS), v_over S (2 : Int64) (.inl (r2, S3)) ∧ (d_two S3 r2 ∧ (∃ a8 : Int32, a8 = (f_two S3 r2) ∧ ((24 < a8.toInt ∧ (v_members_J26 oo S3 0 r2 a8)) ∨ (¬ 24 < a8.toInt ∧ (v_members_J26 oo S3 1 r2 a8)))))) ∨ (∃ u9 : MS, v_over S (2 : Int64) (.inr u9) ∧ (oo = .inr u9)))
set_option maxRecDepth 100000 in
theorem ru_members_L33 {ι : Type} {P : MS ⊕ MS → Prop} {Q : MS → Prop} {E : MS → Prop} : ∀ (n : Nat) {U33 : MS} {v33_2 : Int32} {v33_3 : Int32} (i0 : ι), (∀ (i : ι) (oo : MS ⊕ MS), (∃ n8, v_members_L33 oo n8 U33 v33_2 v33_3) → P oo) → w_members_L33 Q E n U33 v33_2 v33_3 → ∃ oo, P oo ∧ oV Q E oo := by
  intro n
  induction n with
  | zero => intro U33 v33_2 v33_3 i0 K h; unfold w_members_L33 at h; exact h.elim
  | succ n ih =>
    intro U33 v33_2 v33_3 i0 K h
    unfold w_members_L33 at h
    replace K := fun (i : ι × Nat) oo (z : v_members_L33 oo (i.2 + 1) U33 v33_2 v33_3) => K i.1 oo ⟨i.2 + 1, z⟩
    have i00 := i0
    replace i0 : ι × Nat := (i0, 0)
    by_cases c : v33_2.toInt ≤ v33_3.toInt
    · replace h := h.1 c
      replace K := fun i oo z => K i oo (Or.inl ⟨c, z⟩)
      exact ⟨.inl _, K i0 _ rfl, h⟩
    · replace h := h.2 c
      replace K := fun i oo z => K i oo (Or.inr ⟨c, z⟩)
      obtain ⟨Q9, E9, h0, h⟩ := h
      obtain ⟨o9, z9, g9⟩ := ru_over h0
      rcases o9 with ⟨r14, S15⟩ | u9
      · replace h := h.1 r14 S15 g9
        replace K := fun i oo z => K i oo (Or.inl ⟨r14, S15, z9, z⟩)
        obtain ⟨g1_, h⟩ := h
        replace K := fun i oo z => K i oo ⟨g1_, z⟩
        obtain ⟨S18, eS18⟩ : ∃ x9 : MS, x9 = wI S15 9 (((qI U33 0 21).toInt).toNat) r14 := ⟨_, rfl⟩
        replace h := h S18 eS18
        replace K := fun i oo z => K i oo ⟨S18, eS18, z⟩
        obtain ⟨Q9, E9, h0, h⟩ := h
        obtain ⟨o9, z9, g9⟩ := ru_over h0
        rcases o9 with ⟨r20, S21⟩ | u9
        · replace h := h.1 r20 S21 g9
          replace K := fun i oo z => K i oo (Or.inl ⟨r20, S21, z9, z⟩)
          obtain ⟨Q9, E9, h0, h⟩ := h
          obtain ⟨o9, z9, g9⟩ := ru_attributesOf h0
          rcases o9 with S24 | u9
          · replace h := h.1 S24 g9
            replace K := fun i oo z => K i oo (Or.inl ⟨S24, z9, z⟩)
            obtain ⟨S27, eS27⟩ : ∃ x9 : MS, x9 = wI S24 0 21 ((qI S24 0 21) + (1 : Int32)) := ⟨_, rfl⟩
            replace h := h S27 eS27
            replace K := fun i oo z => K i oo ⟨S27, eS27, z⟩
            obtain ⟨a28, ea28⟩ : ∃ x9 : Int32, x9 = (v33_3 + Int32.ofInt 1) := ⟨_, rfl⟩
            replace h := h a28 ea28
            replace K := fun i oo z => K i oo ⟨a28, ea28, z⟩
            exact ih i00 (fun i oo ⟨n8, z⟩ => K (i, n8) oo z) h
          · replace h := h.2 u9 g9
            replace K := fun i oo z => K i oo (Or.inr ⟨u9, z9, z⟩)
            exact ⟨.inr u9, K i0 _ rfl, h⟩
        · replace h := h.2 u9 g9
          replace K := fun i oo z => K i oo (Or.inr ⟨u9, z9, z⟩)
          exact ⟨.inr u9, K i0 _ rfl, h⟩
      · replace h := h.2 u9 g9
        replace K := fun i oo z => K i oo (Or.inr ⟨u9, z9, z⟩)
        exact ⟨.inr u9, K i0 _ rfl, h⟩
set_option maxRecDepth 100000 in
theorem ru_members_J26 {ι : Type} {P : MS ⊕ MS → Prop} {Q : MS → Prop} {E : MS → Prop} {U26 : MS} {t26_0 : Int32} {v26_1 : Int32} {v26_2 : Int32} (i0 : ι) (K : ∀ (i : ι) (oo : MS ⊕ MS), v_members_J26 oo U26 t26_0 v26_1 v26_2 → P oo) (h : w_members_J26 Q E U26 t26_0 v26_1 v26_2) : ∃ oo, P oo ∧ oV Q E oo := by
  unfold w_members_J26 at h
  obtain ⟨Q9, E9, h0, h⟩ := h
  obtain ⟨o9, z9, g9⟩ := ru_must h0
  rcases o9 with S10 | u9
  · replace h := h.1 S10 g9
    replace K := fun i oo z => K i oo (Or.inl ⟨S10, z9, z⟩)
    obtain ⟨n9, h⟩ := h
    exact ru_members_L33 n9 i0 K h
  · replace h := h.2 u9 g9
    replace K := fun i oo z => K i oo (Or.inr ⟨u9, z9, z⟩)
    exact ⟨.inr u9, K i0 _ rfl, h⟩
set_option maxRecDepth 100000 in
theorem ru_members {S : MS} {Q : MS → Prop} {E : MS → Prop} (h : w_members S Q E) : ∃ oo, v_members S oo ∧ oV Q E oo := by
  have i0 : Unit := ()
  have K : ∀ (i : Unit) (oo : MS ⊕ MS), v_members S oo → v_members S oo := fun _ _ z => z
  unfold w_members at h
  obtain ⟨Q9, E9, h0, h⟩ := h
  obtain ⟨o9, z9, g9⟩ := ru_over h0
  rcases o9 with ⟨r2, S3⟩ | u9
  · replace h := h.1 r2 S3 g9
    replace K := fun i oo z => K i oo (Or.inl ⟨r2, S3, z9, z⟩)
    obtain ⟨g2_, h⟩ := h
    replace K := fun i oo z => K i oo ⟨g2_, z⟩
    obtain ⟨a8, ea8⟩ : ∃ x9 : Int32, x9 = (f_two S3 r2) := ⟨_, rfl⟩
    replace h := h a8 ea8
    replace K := fun i oo z => K i oo ⟨a8, ea8, z⟩
    by_cases c : 24 < a8.toInt
    · replace h := h.1 c
      replace K := fun i oo z => K i oo (Or.inl ⟨c, z⟩)
      exact ru_members_J26 i0 K h
    · replace h := h.2 c
      replace K := fun i oo z => K i oo (Or.inr ⟨c, z⟩)
      exact ru_members_J26 i0 K h
  · replace h := h.2 u9 g9
    replace K := fun i oo z => K i oo (Or.inr ⟨u9, z9, z⟩)
    exact ⟨.inr u9, K i0 _ rfl, h⟩
set_option maxRecDepth 100000 in
theorem vw_members_L33 {oo : MS ⊕ MS} : ∀ (n : Nat) {U33 : MS} {v33_2 : Int32} {v33_3 : Int32}, v_members_L33 oo n U33 v33_2 v33_3 → w_members_L33 (fun u => oo = .inl u) (fun u => oo = .inr u) n U33 v33_2 v33_3 := by
  intro n
  induction n with
  | zero => intro U33 v33_2 v33_3 h; unfold v_members_L33 at h; exact h.elim
  | succ n ih =>
    intro U33 v33_2 v33_3 h
    unfold v_members_L33 at h
    unfold w_members_L33
    rcases h with ⟨c, h⟩ | ⟨c, h⟩
    · refine ⟨fun _ => ?_, fun c2 => absurd c c2⟩
      exact h
    · refine ⟨fun c2 => absurd c2 c, fun _ => ?_⟩
      rcases h with ⟨p9, q9, z9, h⟩ | ⟨q9, z9, h⟩
      · refine ⟨_, _, vw_over z9, ?_, ?_⟩
        · intro p8 q8 d9
          injection d9 with d9
          injection d9 with d8 d9
          subst d8
          subst d9
          obtain ⟨g9, h⟩ := h
          refine ⟨g9, ?_⟩
          obtain ⟨v9, e9, h⟩ := h
          intro x9 d9
          have c9 : v9 = x9 := e9.trans d9.symm
          subst c9
          rcases h with ⟨p9, q9, z9, h⟩ | ⟨q9, z9, h⟩
          · refine ⟨_, _, vw_over z9, ?_, ?_⟩
            · intro p8 q8 d9
              injection d9 with d9
              injection d9 with d8 d9
              subst d8
              subst d9
              rcases h with ⟨q9, z9, h⟩ | ⟨q9, z9, h⟩
              · refine ⟨_, _, vw_attributesOf z9, ?_, ?_⟩
                · intro q8 d9
                  injection d9 with d9
                  subst d9
                  obtain ⟨v9, e9, h⟩ := h
                  intro x9 d9
                  have c9 : v9 = x9 := e9.trans d9.symm
                  subst c9
                  obtain ⟨v9, e9, h⟩ := h
                  intro x9 d9
                  have c9 : v9 = x9 := e9.trans d9.symm
                  subst c9
                  exact ih h
                · intro q8 d9
                  exact nomatch d9
              · refine ⟨_, _, vw_attributesOf z9, ?_, ?_⟩
                · intro q8 d9
                  exact nomatch d9
                · intro q8 d9
                  injection d9 with d9
                  subst d9
                  exact h
            · intro q8 d9
              exact nomatch d9
          · refine ⟨_, _, vw_over z9, ?_, ?_⟩
            · intro p8 q8 d9
              exact nomatch d9
            · intro q8 d9
              injection d9 with d9
              subst d9
              exact h
        · intro q8 d9
          exact nomatch d9
      · refine ⟨_, _, vw_over z9, ?_, ?_⟩
        · intro p8 q8 d9
          exact nomatch d9
        · intro q8 d9
          injection d9 with d9
          subst d9
          exact h
set_option maxRecDepth 100000 in
theorem vz_members_L33 {oo : MS ⊕ MS} {Q : MS → Prop} {E : MS → Prop} : ∀ (n m : Nat) {U33 : MS} {v33_2 : Int32} {v33_3 : Int32}, v_members_L33 oo n U33 v33_2 v33_3 → w_members_L33 Q E m U33 v33_2 v33_3 → oV Q E oo := by
  intro n
  induction n with
  | zero => intro m U33 v33_2 v33_3 h; unfold v_members_L33 at h; exact h.elim
  | succ n ih =>
    intro m U33 v33_2 v33_3 h w
    cases m with
    | zero => unfold w_members_L33 at w; exact w.elim
    | succ m =>
      unfold v_members_L33 at h
      unfold w_members_L33 at w
      rcases h with ⟨c, h⟩ | ⟨c, h⟩
      · replace w := w.1 c
        rw [h]
        exact w
      · replace w := w.2 c
        obtain ⟨Q9, E9, w0, w⟩ := w
        rcases h with ⟨p9, q9, z9, h⟩ | ⟨q9, z9, h⟩
        · replace w := w.1 p9 q9 (vz_over z9 w0)
          replace h := h.2
          replace w := w.2
          obtain ⟨v9, e9, h⟩ := h
          replace w := w v9 e9
          obtain ⟨Q9, E9, w0, w⟩ := w
          rcases h with ⟨p9, q9, z9, h⟩ | ⟨q9, z9, h⟩
          · replace w := w.1 p9 q9 (vz_over z9 w0)
            obtain ⟨Q9, E9, w0, w⟩ := w
            rcases h with ⟨q9, z9, h⟩ | ⟨q9, z9, h⟩
            · replace w := w.1 q9 (vz_attributesOf z9 w0)
              obtain ⟨v9, e9, h⟩ := h
              replace w := w v9 e9
              obtain ⟨v9, e9, h⟩ := h
              replace w := w v9 e9
              exact ih m h w
            · replace w := w.2 q9 (vz_attributesOf z9 w0)
              rw [h]
              exact w
          · replace w := w.2 q9 (vz_over z9 w0)
            rw [h]
            exact w
        · replace w := w.2 q9 (vz_over z9 w0)
          rw [h]
          exact w
set_option maxRecDepth 100000 in
theorem vw_members_J26 {oo : MS ⊕ MS} {U26 : MS} {t26_0 : Int32} {v26_1 : Int32} {v26_2 : Int32} (h : v_members_J26 oo U26 t26_0 v26_1 v26_2) : w_members_J26 (fun u => oo = .inl u) (fun u => oo = .inr u) U26 t26_0 v26_1 v26_2 := by
  unfold v_members_J26 at h
  unfold w_members_J26
  rcases h with ⟨q9, z9, h⟩ | ⟨q9, z9, h⟩
  · refine ⟨_, _, vw_must z9, ?_, ?_⟩
    · intro q8 d9
      injection d9 with d9
      subst d9
      obtain ⟨n9, h⟩ := h
      exact ⟨n9, vw_members_L33 n9 h⟩
    · intro q8 d9
      exact nomatch d9
  · refine ⟨_, _, vw_must z9, ?_, ?_⟩
    · intro q8 d9
      exact nomatch d9
    · intro q8 d9
      injection d9 with d9
      subst d9
      exact h
set_option maxRecDepth 100000 in
theorem vz_members_J26 {oo : MS ⊕ MS} {Q : MS → Prop} {E : MS → Prop} {U26 : MS} {t26_0 : Int32} {v26_1 : Int32} {v26_2 : Int32} (h : v_members_J26 oo U26 t26_0 v26_1 v26_2) (w : w_members_J26 Q E U26 t26_0 v26_1 v26_2) : oV Q E oo := by
  unfold v_members_J26 at h
  unfold w_members_J26 at w
  obtain ⟨Q9, E9, w0, w⟩ := w
  rcases h with ⟨q9, z9, h⟩ | ⟨q9, z9, h⟩
  · replace w := w.1 q9 (vz_must z9 w0)
    obtain ⟨n9, h⟩ := h
    obtain ⟨n8, w⟩ := w
    exact vz_members_L33 n9 n8 h w
  · replace w := w.2 q9 (vz_must z9 w0)
    rw [h]
    exact w
set_option maxRecDepth 100000 in
theorem vw_members {S : MS} {oo : MS ⊕ MS} (h : v_members S oo) : w_members S (fun u => oo = .inl u) (fun u => oo = .inr u) := by
  unfold v_members at h
  unfold w_members
  rcases h with ⟨p9, q9, z9, h⟩ | ⟨q9, z9, h⟩
  · refine ⟨_, _, vw_over z9, ?_, ?_⟩
    · intro p8 q8 d9
      injection d9 with d9
      injection d9 with d8 d9
      subst d8
      subst d9
      obtain ⟨g9, h⟩ := h
      refine ⟨g9, ?_⟩
      obtain ⟨v9, e9, h⟩ := h
      intro x9 d9
      have c9 : v9 = x9 := e9.trans d9.symm
      subst c9
      rcases h with ⟨c, h⟩ | ⟨c, h⟩
      · refine ⟨fun _ => ?_, fun c2 => absurd c c2⟩
        exact vw_members_J26 h
      · refine ⟨fun c2 => absurd c2 c, fun _ => ?_⟩
        exact vw_members_J26 h
    · intro q8 d9
      exact nomatch d9
  · refine ⟨_, _, vw_over z9, ?_, ?_⟩
    · intro p8 q8 d9
      exact nomatch d9
    · intro q8 d9
      injection d9 with d9
      subst d9
      exact h
set_option maxRecDepth 100000 in
theorem vz_members {S : MS} {oo : MS ⊕ MS} {Q : MS → Prop} {E : MS → Prop} (h : v_members S oo) (w : w_members S Q E) : oV Q E oo := by
  unfold v_members at h
  unfold w_members at w
  obtain ⟨Q9, E9, w0, w⟩ := w
  rcases h with ⟨p9, q9, z9, h⟩ | ⟨q9, z9, h⟩
  · replace w := w.1 p9 q9 (vz_over z9 w0)
    replace h := h.2
    replace w := w.2
    obtain ⟨v9, e9, h⟩ := h
    replace w := w v9 e9
    rcases h with ⟨c, h⟩ | ⟨c, h⟩
    · replace w := w.1 c
      exact vz_members_J26 h w
    · replace w := w.2 c
      exact vz_members_J26 h w
  · replace w := w.2 q9 (vz_over z9 w0)
    rw [h]
    exact w
def v_layout_J165 (oo : MS ⊕ MS) (k136 : MS → Int32 → Prop) (U165 : MS) (t165_0 : Int32) (t165_1 : Int32) : Prop := (∃ a44 : Int32, a44 = (t165_1 + t165_0) ∧ (k136 U165 a44))
def v_layout_L136 (oo : MS ⊕ MS) : Nat → MS → Int32 → Prop
  | 0, _, _ => False
  | n136 + 1, U136, v136_1 => (((qI U136 0 14).toInt ≤ v136_1.toInt ∧ ((∃ (r17 : Int32) (S18 : MS), v_over U136 (2 : Int64) (.inl (r17, S18)) ∧ (∃ S20 : MS, S20 = wI S18 0 20 r17 ∧ ((∃ (r22 : Int32) (S23 : MS), v_over S20 (6 : Int64) (.inl (r22, S23)) ∧ (∃ S25 : MS, S25 = wI S23 0 21 0 ∧ (∃ S26 : MS, S26 = wI S25 0 25 0 ∧ ((∃ (S28 : MS), v_members S26 (.inl S28) ∧ (∃ S30 : MS, S30 = wI S28 0 22 (qI S28 0 21) ∧ ((∃ (S32 : MS), v_members S30 (.inl S32) ∧ ((∃ (S35 : MS), v_attributesOf S32 (-1 : Int32) (.inl S35) ∧ (∃ S37 : MS, S37 = wI S35 0 28 (qI S35 0 13) ∧ (oo = .inl S37))) ∨ (∃ u9 : MS, v_attributesOf S32 (-1 : Int32) (.inr u9) ∧ (oo = .inr u9)))) ∨ (∃ u9 : MS, v_members S30 (.inr u9) ∧ (oo = .inr u9))))) ∨ (∃ u9 : MS, v_members S26 (.inr u9) ∧ (oo = .inr u9)))))) ∨ (∃ u9 : MS, v_over S20 (6 : Int64) (.inr u9) ∧ (oo = .inr u9))))) ∨ (∃ u9 : MS, v_over U136 (2 : Int64) (.inr u9) ∧ (oo = .inr u9)))) ∨ (¬ (qI U136 0 14).toInt ≤ v136_1.toInt ∧ ((∃ (S39 : MS), v_entry U136 v136_1 (.inl S39) ∧ (((0 : Int) ≤ v136_1.toInt ∧ v136_1.toInt < 502) ∧ (((qI S39 4 v136_1.toInt.toNat).toInt = 5 ∧ (v_layout_J165 oo (v_layout_L136 oo n136) S39 2 v136_1)) ∨ (¬ (qI S39 4 v136_1.toInt.toNat).toInt = 5 ∧ (v_layout_J165 oo (v_layout_L136 oo n136) S39 1 v136_1))))) ∨ (∃ u9 : MS, v_entry U136 v136_1 (.inr u9) ∧ (oo = .inr u9)))))
def v_layout_L112 (oo : MS ⊕ MS) : Nat → MS → Int32 → Prop
  | 0, _, _ => False
  | n112 + 1, U112, v112_1 => (((Int32.ofNat (qN U112 4)).toInt ≤ v112_1.toInt ∧ (∃ n, v_layout_L136 oo n U112 1)) ∨ (¬ (Int32.ofNat (qN U112 4)).toInt ≤ v112_1.toInt ∧ (((0 : Int) ≤ v112_1.toInt ∧ v112_1.toInt < 502) ∧ (∃ S47 : MS, S47 = wI U112 4 v112_1.toInt.toNat (0 : Int32) ∧ (∃ a48 : Int32, a48 = (v112_1 + Int32.ofInt 1) ∧ ((v_layout_L112 oo n112) S47 a48))))))
def v_layout_J104 (oo : MS ⊕ MS) (U104 : MS) (t104_0 : Int32) : Prop := ((∃ (S12 : MS), v_must U104 t104_0 (5 : Int32) (8 : Int32) (.inl S12) ∧ (∃ n, v_layout_L112 oo n S12 0)) ∨ (∃ u9 : MS, v_must U104 t104_0 (5 : Int32) (8 : Int32) (.inr u9) ∧ (oo = .inr u9)))
def v_layout_J103 (oo : MS ⊕ MS) (U103 : MS) : Prop := (v_layout_J104 oo U103 0)
def v_layout_J48 (oo : MS ⊕ MS) (k2 : MS → Int32 → Prop) (U48 : MS) (t48_0 : Int32) (v48_1 : Int32) : Prop := ((∃ (S61 : MS), v_must U48 t48_0 (1 : Int32) v48_1 (.inl S61) ∧ (∃ a63 : Int32, a63 = (v48_1 + Int32.ofInt 1) ∧ (k2 S61 a63))) ∨ (∃ u9 : MS, v_must U48 t48_0 (1 : Int32) v48_1 (.inr u9) ∧ (oo = .inr u9)))
def v_layout_J22 (oo : MS ⊕ MS) (k2 : MS → Int32 → Prop) (U22 : MS) (t22_0 : Int32) (v22_1 : Int32) : Prop := ((∃ (S52 : MS), v_must U22 t22_0 (2 : Int32) (qI U22 0 12) (.inl S52) ∧ (d_octet S52 v22_1 ∧ (d_headByte S52 v22_1 ∧ (((f_octet S52 v22_1).toInt = (f_headByte S52 v22_1).toInt ∧ (v_layout_J48 oo k2 S52 1 v22_1)) ∨ (¬ (f_octet S52 v22_1).toInt = (f_headByte S52 v22_1).toInt ∧ (v_layout_J48 oo k2 S52 0 v22_1)))))) ∨ (∃ u9 : MS, v_must U22 t22_0 (2 : Int32) (qI U22 0 12) (.inr u9) ∧ (oo = .inr u9)))
def v_layout_L2 (oo : MS ⊕ MS) : Nat → MS → Int32 → Prop
  | 0, _, _ => False
  | n2 + 1, U2, v2_1 => ((8 ≤ v2_1.toInt ∧ (∃ S2 : MS, S2 = wI U2 0 13 8 ∧ ((∃ (r4 : Int32) (S5 : MS), v_over S2 (2 : Int64) (.inl (r4, S5)) ∧ (d_two S5 r4 ∧ (∃ S10 : MS, S10 = wI S5 0 14 (f_two S5 r4) ∧ (((qI S10 0 14).toInt < 1 ∧ (v_layout_J103 oo S10)) ∨ (¬ (qI S10 0 14).toInt < 1 ∧ ((500 < (qI S10 0 14).toInt ∧ (v_layout_J103 oo S10)) ∨ (¬ 500 < (qI S10 0 14).toInt ∧ (v_layout_J104 oo S10 1)))))))) ∨ (∃ u9 : MS, v_over S2 (2 : Int64) (.inr u9) ∧ (oo = .inr u9))))) ∨ (¬ 8 ≤ v2_1.toInt ∧ (((qI U2 0 12).toInt ≤ v2_1.toInt ∧ (v_layout_J22 oo (v_layout_L2 oo n2) U2 0 v2_1)) ∨ (¬ (qI U2 0 12).toInt ≤ v2_1.toInt ∧ (v_layout_J22 oo (v_layout_L2 oo n2) U2 1 v2_1)))))
def v_layout (S : MS) (oo : MS ⊕ MS) : Prop := (∃ n, v_layout_L2 oo n S 0)
set_option maxRecDepth 100000 in
theorem ru_layout_J165 {ι : Type} {P : MS ⊕ MS → Prop} {Q : MS → Prop} {E : MS → Prop} {k136 : MS → Int32 → Prop} {k136v : ι → MS ⊕ MS → MS → Int32 → Prop} {U165 : MS} {t165_0 : Int32} {t165_1 : Int32} (i0 : ι) (hk136 : ∀ (u : MS) (z0 : Int32), k136 u z0 → (∀ (i : ι) (oo : MS ⊕ MS), k136v i oo u z0 → P oo) → ∃ oo, P oo ∧ oV Q E oo) (K : ∀ (i : ι) (oo : MS ⊕ MS), v_layout_J165 oo (k136v i oo) U165 t165_0 t165_1 → P oo) (h : w_layout_J165 Q E k136 U165 t165_0 t165_1) : ∃ oo, P oo ∧ oV Q E oo := by
  unfold w_layout_J165 at h
  obtain ⟨a44, ea44⟩ : ∃ x9 : Int32, x9 = (t165_1 + t165_0) := ⟨_, rfl⟩
  replace h := h a44 ea44
  replace K := fun i oo z => K i oo ⟨a44, ea44, z⟩
  exact hk136 _ _ h K
set_option maxRecDepth 100000 in
theorem ru_layout_L136 {ι : Type} {P : MS ⊕ MS → Prop} {Q : MS → Prop} {E : MS → Prop} : ∀ (n : Nat) {U136 : MS} {v136_1 : Int32} (i0 : ι), (∀ (i : ι) (oo : MS ⊕ MS), (∃ n8, v_layout_L136 oo n8 U136 v136_1) → P oo) → w_layout_L136 Q E n U136 v136_1 → ∃ oo, P oo ∧ oV Q E oo := by
  intro n
  induction n with
  | zero => intro U136 v136_1 i0 K h; unfold w_layout_L136 at h; exact h.elim
  | succ n ih =>
    intro U136 v136_1 i0 K h
    unfold w_layout_L136 at h
    replace K := fun (i : ι × Nat) oo (z : v_layout_L136 oo (i.2 + 1) U136 v136_1) => K i.1 oo ⟨i.2 + 1, z⟩
    have i00 := i0
    replace i0 : ι × Nat := (i0, 0)
    by_cases c : (qI U136 0 14).toInt ≤ v136_1.toInt
    · replace h := h.1 c
      replace K := fun i oo z => K i oo (Or.inl ⟨c, z⟩)
      obtain ⟨Q9, E9, h0, h⟩ := h
      obtain ⟨o9, z9, g9⟩ := ru_over h0
      rcases o9 with ⟨r17, S18⟩ | u9
      · replace h := h.1 r17 S18 g9
        replace K := fun i oo z => K i oo (Or.inl ⟨r17, S18, z9, z⟩)
        obtain ⟨S20, eS20⟩ : ∃ x9 : MS, x9 = wI S18 0 20 r17 := ⟨_, rfl⟩
        replace h := h S20 eS20
        replace K := fun i oo z => K i oo ⟨S20, eS20, z⟩
        obtain ⟨Q9, E9, h0, h⟩ := h
        obtain ⟨o9, z9, g9⟩ := ru_over h0
        rcases o9 with ⟨r22, S23⟩ | u9
        · replace h := h.1 r22 S23 g9
          replace K := fun i oo z => K i oo (Or.inl ⟨r22, S23, z9, z⟩)
          obtain ⟨S25, eS25⟩ : ∃ x9 : MS, x9 = wI S23 0 21 0 := ⟨_, rfl⟩
          replace h := h S25 eS25
          replace K := fun i oo z => K i oo ⟨S25, eS25, z⟩
          obtain ⟨S26, eS26⟩ : ∃ x9 : MS, x9 = wI S25 0 25 0 := ⟨_, rfl⟩
          replace h := h S26 eS26
          replace K := fun i oo z => K i oo ⟨S26, eS26, z⟩
          obtain ⟨Q9, E9, h0, h⟩ := h
          obtain ⟨o9, z9, g9⟩ := ru_members h0
          rcases o9 with S28 | u9
          · replace h := h.1 S28 g9
            replace K := fun i oo z => K i oo (Or.inl ⟨S28, z9, z⟩)
            obtain ⟨S30, eS30⟩ : ∃ x9 : MS, x9 = wI S28 0 22 (qI S28 0 21) := ⟨_, rfl⟩
            replace h := h S30 eS30
            replace K := fun i oo z => K i oo ⟨S30, eS30, z⟩
            obtain ⟨Q9, E9, h0, h⟩ := h
            obtain ⟨o9, z9, g9⟩ := ru_members h0
            rcases o9 with S32 | u9
            · replace h := h.1 S32 g9
              replace K := fun i oo z => K i oo (Or.inl ⟨S32, z9, z⟩)
              obtain ⟨Q9, E9, h0, h⟩ := h
              obtain ⟨o9, z9, g9⟩ := ru_attributesOf h0
              rcases o9 with S35 | u9
              · replace h := h.1 S35 g9
                replace K := fun i oo z => K i oo (Or.inl ⟨S35, z9, z⟩)
                obtain ⟨S37, eS37⟩ : ∃ x9 : MS, x9 = wI S35 0 28 (qI S35 0 13) := ⟨_, rfl⟩
                replace h := h S37 eS37
                replace K := fun i oo z => K i oo ⟨S37, eS37, z⟩
                exact ⟨.inl _, K i0 _ rfl, h⟩
              · replace h := h.2 u9 g9
                replace K := fun i oo z => K i oo (Or.inr ⟨u9, z9, z⟩)
                exact ⟨.inr u9, K i0 _ rfl, h⟩
            · replace h := h.2 u9 g9
              replace K := fun i oo z => K i oo (Or.inr ⟨u9, z9, z⟩)
              exact ⟨.inr u9, K i0 _ rfl, h⟩
          · replace h := h.2 u9 g9
            replace K := fun i oo z => K i oo (Or.inr ⟨u9, z9, z⟩)
            exact ⟨.inr u9, K i0 _ rfl, h⟩
        · replace h := h.2 u9 g9
          replace K := fun i oo z => K i oo (Or.inr ⟨u9, z9, z⟩)
          exact ⟨.inr u9, K i0 _ rfl, h⟩
      · replace h := h.2 u9 g9
        replace K := fun i oo z => K i oo (Or.inr ⟨u9, z9, z⟩)
        exact ⟨.inr u9, K i0 _ rfl, h⟩
    · replace h := h.2 c
      replace K := fun i oo z => K i oo (Or.inr ⟨c, z⟩)
      obtain ⟨Q9, E9, h0, h⟩ := h
      obtain ⟨o9, z9, g9⟩ := ru_entry h0
      rcases o9 with S39 | u9
      · replace h := h.1 S39 g9
        replace K := fun i oo z => K i oo (Or.inl ⟨S39, z9, z⟩)
        obtain ⟨g1_, h⟩ := h
        replace K := fun i oo z => K i oo ⟨g1_, z⟩
        by_cases c : (qI S39 4 v136_1.toInt.toNat).toInt = 5
        · replace h := h.1 c
          replace K := fun i oo z => K i oo (Or.inl ⟨c, z⟩)
          exact ru_layout_J165 i0 (fun _ _ h K => ih i00 (fun i oo ⟨n8, z⟩ => K (i, n8) oo z) h) K h
        · replace h := h.2 c
          replace K := fun i oo z => K i oo (Or.inr ⟨c, z⟩)
          exact ru_layout_J165 i0 (fun _ _ h K => ih i00 (fun i oo ⟨n8, z⟩ => K (i, n8) oo z) h) K h
      · replace h := h.2 u9 g9
        replace K := fun i oo z => K i oo (Or.inr ⟨u9, z9, z⟩)
        exact ⟨.inr u9, K i0 _ rfl, h⟩
set_option maxRecDepth 100000 in
theorem ru_layout_L112 {ι : Type} {P : MS ⊕ MS → Prop} {Q : MS → Prop} {E : MS → Prop} : ∀ (n : Nat) {U112 : MS} {v112_1 : Int32} (i0 : ι), (∀ (i : ι) (oo : MS ⊕ MS), (∃ n8, v_layout_L112 oo n8 U112 v112_1) → P oo) → w_layout_L112 Q E n U112 v112_1 → ∃ oo, P oo ∧ oV Q E oo := by
  intro n
  induction n with
  | zero => intro U112 v112_1 i0 K h; unfold w_layout_L112 at h; exact h.elim
  | succ n ih =>
    intro U112 v112_1 i0 K h
    unfold w_layout_L112 at h
    replace K := fun (i : ι × Nat) oo (z : v_layout_L112 oo (i.2 + 1) U112 v112_1) => K i.1 oo ⟨i.2 + 1, z⟩
    have i00 := i0
    replace i0 : ι × Nat := (i0, 0)
    by_cases c : (Int32.ofNat (qN U112 4)).toInt ≤ v112_1.toInt
    · replace h := h.1 c
      replace K := fun i oo z => K i oo (Or.inl ⟨c, z⟩)
      obtain ⟨n9, h⟩ := h
      exact ru_layout_L136 n9 i0 K h
    · replace h := h.2 c
      replace K := fun i oo z => K i oo (Or.inr ⟨c, z⟩)
      obtain ⟨g2_, h⟩ := h
      replace K := fun i oo z => K i oo ⟨g2_, z⟩
      obtain ⟨S47, eS47⟩ : ∃ x9 : MS, x9 = wI U112 4 v112_1.toInt.toNat (0 : Int32) := ⟨_, rfl⟩
      replace h := h S47 eS47
      replace K := fun i oo z => K i oo ⟨S47, eS47, z⟩
      obtain ⟨a48, ea48⟩ : ∃ x9 : Int32, x9 = (v112_1 + Int32.ofInt 1) := ⟨_, rfl⟩
      replace h := h a48 ea48
      replace K := fun i oo z => K i oo ⟨a48, ea48, z⟩
      exact ih i00 (fun i oo ⟨n8, z⟩ => K (i, n8) oo z) h
set_option maxRecDepth 100000 in
theorem ru_layout_J104 {ι : Type} {P : MS ⊕ MS → Prop} {Q : MS → Prop} {E : MS → Prop} {U104 : MS} {t104_0 : Int32} (i0 : ι) (K : ∀ (i : ι) (oo : MS ⊕ MS), v_layout_J104 oo U104 t104_0 → P oo) (h : w_layout_J104 Q E U104 t104_0) : ∃ oo, P oo ∧ oV Q E oo := by
  unfold w_layout_J104 at h
  obtain ⟨Q9, E9, h0, h⟩ := h
  obtain ⟨o9, z9, g9⟩ := ru_must h0
  rcases o9 with S12 | u9
  · replace h := h.1 S12 g9
    replace K := fun i oo z => K i oo (Or.inl ⟨S12, z9, z⟩)
    obtain ⟨n9, h⟩ := h
    exact ru_layout_L112 n9 i0 K h
  · replace h := h.2 u9 g9
    replace K := fun i oo z => K i oo (Or.inr ⟨u9, z9, z⟩)
    exact ⟨.inr u9, K i0 _ rfl, h⟩
set_option maxRecDepth 100000 in
theorem ru_layout_J103 {ι : Type} {P : MS ⊕ MS → Prop} {Q : MS → Prop} {E : MS → Prop} {U103 : MS} (i0 : ι) (K : ∀ (i : ι) (oo : MS ⊕ MS), v_layout_J103 oo U103 → P oo) (h : w_layout_J103 Q E U103) : ∃ oo, P oo ∧ oV Q E oo := by
  unfold w_layout_J103 at h
  exact ru_layout_J104 i0 K h
set_option maxRecDepth 100000 in
theorem ru_layout_J48 {ι : Type} {P : MS ⊕ MS → Prop} {Q : MS → Prop} {E : MS → Prop} {k2 : MS → Int32 → Prop} {k2v : ι → MS ⊕ MS → MS → Int32 → Prop} {U48 : MS} {t48_0 : Int32} {v48_1 : Int32} (i0 : ι) (hk2 : ∀ (u : MS) (z0 : Int32), k2 u z0 → (∀ (i : ι) (oo : MS ⊕ MS), k2v i oo u z0 → P oo) → ∃ oo, P oo ∧ oV Q E oo) (K : ∀ (i : ι) (oo : MS ⊕ MS), v_layout_J48 oo (k2v i oo) U48 t48_0 v48_1 → P oo) (h : w_layout_J48 Q E k2 U48 t48_0 v48_1) : ∃ oo, P oo ∧ oV Q E oo := by
  unfold w_layout_J48 at h
  obtain ⟨Q9, E9, h0, h⟩ := h
  obtain ⟨o9, z9, g9⟩ := ru_must h0
  rcases o9 with S61 | u9
  · replace h := h.1 S61 g9
    replace K := fun i oo z => K i oo (Or.inl ⟨S61, z9, z⟩)
    obtain ⟨a63, ea63⟩ : ∃ x9 : Int32, x9 = (v48_1 + Int32.ofInt 1) := ⟨_, rfl⟩
    replace h := h a63 ea63
    replace K := fun i oo z => K i oo ⟨a63, ea63, z⟩
    exact hk2 _ _ h K
  · replace h := h.2 u9 g9
    replace K := fun i oo z => K i oo (Or.inr ⟨u9, z9, z⟩)
    exact ⟨.inr u9, K i0 _ rfl, h⟩
set_option maxRecDepth 100000 in
theorem ru_layout_J22 {ι : Type} {P : MS ⊕ MS → Prop} {Q : MS → Prop} {E : MS → Prop} {k2 : MS → Int32 → Prop} {k2v : ι → MS ⊕ MS → MS → Int32 → Prop} {U22 : MS} {t22_0 : Int32} {v22_1 : Int32} (i0 : ι) (hk2 : ∀ (u : MS) (z0 : Int32), k2 u z0 → (∀ (i : ι) (oo : MS ⊕ MS), k2v i oo u z0 → P oo) → ∃ oo, P oo ∧ oV Q E oo) (K : ∀ (i : ι) (oo : MS ⊕ MS), v_layout_J22 oo (k2v i oo) U22 t22_0 v22_1 → P oo) (h : w_layout_J22 Q E k2 U22 t22_0 v22_1) : ∃ oo, P oo ∧ oV Q E oo := by
  unfold w_layout_J22 at h
  obtain ⟨Q9, E9, h0, h⟩ := h
  obtain ⟨o9, z9, g9⟩ := ru_must h0
  rcases o9 with S52 | u9
  · replace h := h.1 S52 g9
    replace K := fun i oo z => K i oo (Or.inl ⟨S52, z9, z⟩)
    obtain ⟨g3_, h⟩ := h
    replace K := fun i oo z => K i oo ⟨g3_, z⟩
    obtain ⟨g4_, h⟩ := h
    replace K := fun i oo z => K i oo ⟨g4_, z⟩
    by_cases c : (f_octet S52 v22_1).toInt = (f_headByte S52 v22_1).toInt
    · replace h := h.1 c
      replace K := fun i oo z => K i oo (Or.inl ⟨c, z⟩)
      exact ru_layout_J48 i0 hk2 K h
    · replace h := h.2 c
      replace K := fun i oo z => K i oo (Or.inr ⟨c, z⟩)
      exact ru_layout_J48 i0 hk2 K h
  · replace h := h.2 u9 g9
    replace K := fun i oo z => K i oo (Or.inr ⟨u9, z9, z⟩)
    exact ⟨.inr u9, K i0 _ rfl, h⟩
set_option maxRecDepth 100000 in
theorem ru_layout_L2 {ι : Type} {P : MS ⊕ MS → Prop} {Q : MS → Prop} {E : MS → Prop} : ∀ (n : Nat) {U2 : MS} {v2_1 : Int32} (i0 : ι), (∀ (i : ι) (oo : MS ⊕ MS), (∃ n8, v_layout_L2 oo n8 U2 v2_1) → P oo) → w_layout_L2 Q E n U2 v2_1 → ∃ oo, P oo ∧ oV Q E oo := by
  intro n
  induction n with
  | zero => intro U2 v2_1 i0 K h; unfold w_layout_L2 at h; exact h.elim
  | succ n ih =>
    intro U2 v2_1 i0 K h
    unfold w_layout_L2 at h
    replace K := fun (i : ι × Nat) oo (z : v_layout_L2 oo (i.2 + 1) U2 v2_1) => K i.1 oo ⟨i.2 + 1, z⟩
    have i00 := i0
    replace i0 : ι × Nat := (i0, 0)
    by_cases c : 8 ≤ v2_1.toInt
    · replace h := h.1 c
      replace K := fun i oo z => K i oo (Or.inl ⟨c, z⟩)
      obtain ⟨S2, eS2⟩ : ∃ x9 : MS, x9 = wI U2 0 13 8 := ⟨_, rfl⟩
      replace h := h S2 eS2
      replace K := fun i oo z => K i oo ⟨S2, eS2, z⟩
      obtain ⟨Q9, E9, h0, h⟩ := h
      obtain ⟨o9, z9, g9⟩ := ru_over h0
      rcases o9 with ⟨r4, S5⟩ | u9
      · replace h := h.1 r4 S5 g9
        replace K := fun i oo z => K i oo (Or.inl ⟨r4, S5, z9, z⟩)
        obtain ⟨g5_, h⟩ := h
        replace K := fun i oo z => K i oo ⟨g5_, z⟩
        obtain ⟨S10, eS10⟩ : ∃ x9 : MS, x9 = wI S5 0 14 (f_two S5 r4) := ⟨_, rfl⟩
        replace h := h S10 eS10
        replace K := fun i oo z => K i oo ⟨S10, eS10, z⟩
        by_cases c : (qI S10 0 14).toInt < 1
        · replace h := h.1 c
          replace K := fun i oo z => K i oo (Or.inl ⟨c, z⟩)
          exact ru_layout_J103 i0 K h
        · replace h := h.2 c
          replace K := fun i oo z => K i oo (Or.inr ⟨c, z⟩)
          by_cases c : 500 < (qI S10 0 14).toInt
          · replace h := h.1 c
            replace K := fun i oo z => K i oo (Or.inl ⟨c, z⟩)
            exact ru_layout_J103 i0 K h
          · replace h := h.2 c
            replace K := fun i oo z => K i oo (Or.inr ⟨c, z⟩)
            exact ru_layout_J104 i0 K h
      · replace h := h.2 u9 g9
        replace K := fun i oo z => K i oo (Or.inr ⟨u9, z9, z⟩)
        exact ⟨.inr u9, K i0 _ rfl, h⟩
    · replace h := h.2 c
      replace K := fun i oo z => K i oo (Or.inr ⟨c, z⟩)
      by_cases c : (qI U2 0 12).toInt ≤ v2_1.toInt
      · replace h := h.1 c
        replace K := fun i oo z => K i oo (Or.inl ⟨c, z⟩)
        exact ru_layout_J22 i0 (fun _ _ h K => ih i00 (fun i oo ⟨n8, z⟩ => K (i, n8) oo z) h) K h
      · replace h := h.2 c
        replace K := fun i oo z => K i oo (Or.inr ⟨c, z⟩)
        exact ru_layout_J22 i0 (fun _ _ h K => ih i00 (fun i oo ⟨n8, z⟩ => K (i, n8) oo z) h) K h
set_option maxRecDepth 100000 in
theorem ru_layout {S : MS} {Q : MS → Prop} {E : MS → Prop} (h : w_layout S Q E) : ∃ oo, v_layout S oo ∧ oV Q E oo := by
  have i0 : Unit := ()
  have K : ∀ (i : Unit) (oo : MS ⊕ MS), v_layout S oo → v_layout S oo := fun _ _ z => z
  unfold w_layout at h
  obtain ⟨n9, h⟩ := h
  exact ru_layout_L2 n9 i0 K h
set_option maxRecDepth 100000 in
theorem vw_layout_J165 {oo : MS ⊕ MS} {k136 k136v : MS → Int32 → Prop} {U165 : MS} {t165_0 : Int32} {t165_1 : Int32} (hk136 : ∀ (u : MS) (z0 : Int32), k136v u z0 → k136 u z0) (h : v_layout_J165 oo k136v U165 t165_0 t165_1) : w_layout_J165 (fun u => oo = .inl u) (fun u => oo = .inr u) k136 U165 t165_0 t165_1 := by
  unfold v_layout_J165 at h
  unfold w_layout_J165
  obtain ⟨v9, e9, h⟩ := h
  intro x9 d9
  have c9 : v9 = x9 := e9.trans d9.symm
  subst c9
  exact hk136 _ _ h
set_option maxRecDepth 100000 in
theorem vz_layout_J165 {oo : MS ⊕ MS} {Q : MS → Prop} {E : MS → Prop} {k136 k136v : MS → Int32 → Prop} {U165 : MS} {t165_0 : Int32} {t165_1 : Int32} (hk136 : ∀ (u : MS) (z0 : Int32), k136v u z0 → k136 u z0 → oV Q E oo) (h : v_layout_J165 oo k136v U165 t165_0 t165_1) (w : w_layout_J165 Q E k136 U165 t165_0 t165_1) : oV Q E oo := by
  unfold v_layout_J165 at h
  unfold w_layout_J165 at w
  obtain ⟨v9, e9, h⟩ := h
  replace w := w v9 e9
  exact hk136 _ _ h w
set_option maxRecDepth 100000 in
theorem vw_layout_L136 {oo : MS ⊕ MS} : ∀ (n : Nat) {U136 : MS} {v136_1 : Int32}, v_layout_L136 oo n U136 v136_1 → w_layout_L136 (fun u => oo = .inl u) (fun u => oo = .inr u) n U136 v136_1 := by
  intro n
  induction n with
  | zero => intro U136 v136_1 h; unfold v_layout_L136 at h; exact h.elim
  | succ n ih =>
    intro U136 v136_1 h
    unfold v_layout_L136 at h
    unfold w_layout_L136
    rcases h with ⟨c, h⟩ | ⟨c, h⟩
    · refine ⟨fun _ => ?_, fun c2 => absurd c c2⟩
      rcases h with ⟨p9, q9, z9, h⟩ | ⟨q9, z9, h⟩
      · refine ⟨_, _, vw_over z9, ?_, ?_⟩
        · intro p8 q8 d9
          injection d9 with d9
          injection d9 with d8 d9
          subst d8
          subst d9
          obtain ⟨v9, e9, h⟩ := h
          intro x9 d9
          have c9 : v9 = x9 := e9.trans d9.symm
          subst c9
          rcases h with ⟨p9, q9, z9, h⟩ | ⟨q9, z9, h⟩
          · refine ⟨_, _, vw_over z9, ?_, ?_⟩
            · intro p8 q8 d9
              injection d9 with d9
              injection d9 with d8 d9
              subst d8
              subst d9
              obtain ⟨v9, e9, h⟩ := h
              intro x9 d9
              have c9 : v9 = x9 := e9.trans d9.symm
              subst c9
              obtain ⟨v9, e9, h⟩ := h
              intro x9 d9
              have c9 : v9 = x9 := e9.trans d9.symm
              subst c9
              rcases h with ⟨q9, z9, h⟩ | ⟨q9, z9, h⟩
              · refine ⟨_, _, vw_members z9, ?_, ?_⟩
                · intro q8 d9
                  injection d9 with d9
                  subst d9
                  obtain ⟨v9, e9, h⟩ := h
                  intro x9 d9
                  have c9 : v9 = x9 := e9.trans d9.symm
                  subst c9
                  rcases h with ⟨q9, z9, h⟩ | ⟨q9, z9, h⟩
                  · refine ⟨_, _, vw_members z9, ?_, ?_⟩
                    · intro q8 d9
                      injection d9 with d9
                      subst d9
                      rcases h with ⟨q9, z9, h⟩ | ⟨q9, z9, h⟩
                      · refine ⟨_, _, vw_attributesOf z9, ?_, ?_⟩
                        · intro q8 d9
                          injection d9 with d9
                          subst d9
                          obtain ⟨v9, e9, h⟩ := h
                          intro x9 d9
                          have c9 : v9 = x9 := e9.trans d9.symm
                          subst c9
                          exact h
                        · intro q8 d9
                          exact nomatch d9
                      · refine ⟨_, _, vw_attributesOf z9, ?_, ?_⟩
                        · intro q8 d9
                          exact nomatch d9
                        · intro q8 d9
                          injection d9 with d9
                          subst d9
                          exact h
                    · intro q8 d9
                      exact nomatch d9
                  · refine ⟨_, _, vw_members z9, ?_, ?_⟩
                    · intro q8 d9
                      exact nomatch d9
                    · intro q8 d9
                      injection d9 with d9
                      subst d9
                      exact h
                · intro q8 d9
                  exact nomatch d9
              · refine ⟨_, _, vw_members z9, ?_, ?_⟩
                · intro q8 d9
                  exact nomatch d9
                · intro q8 d9
                  injection d9 with d9
                  subst d9
                  exact h
            · intro q8 d9
              exact nomatch d9
          · refine ⟨_, _, vw_over z9, ?_, ?_⟩
            · intro p8 q8 d9
              exact nomatch d9
            · intro q8 d9
              injection d9 with d9
              subst d9
              exact h
        · intro q8 d9
          exact nomatch d9
      · refine ⟨_, _, vw_over z9, ?_, ?_⟩
        · intro p8 q8 d9
          exact nomatch d9
        · intro q8 d9
          injection d9 with d9
          subst d9
          exact h
    · refine ⟨fun c2 => absurd c2 c, fun _ => ?_⟩
      rcases h with ⟨q9, z9, h⟩ | ⟨q9, z9, h⟩
      · refine ⟨_, _, vw_entry z9, ?_, ?_⟩
        · intro q8 d9
          injection d9 with d9
          subst d9
          obtain ⟨g9, h⟩ := h
          refine ⟨g9, ?_⟩
          rcases h with ⟨c, h⟩ | ⟨c, h⟩
          · refine ⟨fun _ => ?_, fun c2 => absurd c c2⟩
            exact vw_layout_J165 (fun _ _ h => ih h) h
          · refine ⟨fun c2 => absurd c2 c, fun _ => ?_⟩
            exact vw_layout_J165 (fun _ _ h => ih h) h
        · intro q8 d9
          exact nomatch d9
      · refine ⟨_, _, vw_entry z9, ?_, ?_⟩
        · intro q8 d9
          exact nomatch d9
        · intro q8 d9
          injection d9 with d9
          subst d9
          exact h
set_option maxRecDepth 100000 in
theorem vz_layout_L136 {oo : MS ⊕ MS} {Q : MS → Prop} {E : MS → Prop} : ∀ (n m : Nat) {U136 : MS} {v136_1 : Int32}, v_layout_L136 oo n U136 v136_1 → w_layout_L136 Q E m U136 v136_1 → oV Q E oo := by
  intro n
  induction n with
  | zero => intro m U136 v136_1 h; unfold v_layout_L136 at h; exact h.elim
  | succ n ih =>
    intro m U136 v136_1 h w
    cases m with
    | zero => unfold w_layout_L136 at w; exact w.elim
    | succ m =>
      unfold v_layout_L136 at h
      unfold w_layout_L136 at w
      rcases h with ⟨c, h⟩ | ⟨c, h⟩
      · replace w := w.1 c
        obtain ⟨Q9, E9, w0, w⟩ := w
        rcases h with ⟨p9, q9, z9, h⟩ | ⟨q9, z9, h⟩
        · replace w := w.1 p9 q9 (vz_over z9 w0)
          obtain ⟨v9, e9, h⟩ := h
          replace w := w v9 e9
          obtain ⟨Q9, E9, w0, w⟩ := w
          rcases h with ⟨p9, q9, z9, h⟩ | ⟨q9, z9, h⟩
          · replace w := w.1 p9 q9 (vz_over z9 w0)
            obtain ⟨v9, e9, h⟩ := h
            replace w := w v9 e9
            obtain ⟨v9, e9, h⟩ := h
            replace w := w v9 e9
            obtain ⟨Q9, E9, w0, w⟩ := w
            rcases h with ⟨q9, z9, h⟩ | ⟨q9, z9, h⟩
            · replace w := w.1 q9 (vz_members z9 w0)
              obtain ⟨v9, e9, h⟩ := h
              replace w := w v9 e9
              obtain ⟨Q9, E9, w0, w⟩ := w
              rcases h with ⟨q9, z9, h⟩ | ⟨q9, z9, h⟩
              · replace w := w.1 q9 (vz_members z9 w0)
                obtain ⟨Q9, E9, w0, w⟩ := w
                rcases h with ⟨q9, z9, h⟩ | ⟨q9, z9, h⟩
                · replace w := w.1 q9 (vz_attributesOf z9 w0)
                  obtain ⟨v9, e9, h⟩ := h
                  replace w := w v9 e9
                  rw [h]
                  exact w
                · replace w := w.2 q9 (vz_attributesOf z9 w0)
                  rw [h]
                  exact w
              · replace w := w.2 q9 (vz_members z9 w0)
                rw [h]
                exact w
            · replace w := w.2 q9 (vz_members z9 w0)
              rw [h]
              exact w
          · replace w := w.2 q9 (vz_over z9 w0)
            rw [h]
            exact w
        · replace w := w.2 q9 (vz_over z9 w0)
          rw [h]
          exact w
      · replace w := w.2 c
        obtain ⟨Q9, E9, w0, w⟩ := w
        rcases h with ⟨q9, z9, h⟩ | ⟨q9, z9, h⟩
        · replace w := w.1 q9 (vz_entry z9 w0)
          replace h := h.2
          replace w := w.2
          rcases h with ⟨c, h⟩ | ⟨c, h⟩
          · replace w := w.1 c
            exact vz_layout_J165 (fun _ _ h w => ih m h w) h w
          · replace w := w.2 c
            exact vz_layout_J165 (fun _ _ h w => ih m h w) h w
        · replace w := w.2 q9 (vz_entry z9 w0)
          rw [h]
          exact w
set_option maxRecDepth 100000 in
theorem vw_layout_L112 {oo : MS ⊕ MS} : ∀ (n : Nat) {U112 : MS} {v112_1 : Int32}, v_layout_L112 oo n U112 v112_1 → w_layout_L112 (fun u => oo = .inl u) (fun u => oo = .inr u) n U112 v112_1 := by
  intro n
  induction n with
  | zero => intro U112 v112_1 h; unfold v_layout_L112 at h; exact h.elim
  | succ n ih =>
    intro U112 v112_1 h
    unfold v_layout_L112 at h
    unfold w_layout_L112
    rcases h with ⟨c, h⟩ | ⟨c, h⟩
    · refine ⟨fun _ => ?_, fun c2 => absurd c c2⟩
      obtain ⟨n9, h⟩ := h
      exact ⟨n9, vw_layout_L136 n9 h⟩
    · refine ⟨fun c2 => absurd c2 c, fun _ => ?_⟩
      obtain ⟨g9, h⟩ := h
      refine ⟨g9, ?_⟩
      obtain ⟨v9, e9, h⟩ := h
      intro x9 d9
      have c9 : v9 = x9 := e9.trans d9.symm
      subst c9
      obtain ⟨v9, e9, h⟩ := h
      intro x9 d9
      have c9 : v9 = x9 := e9.trans d9.symm
      subst c9
      exact ih h
set_option maxRecDepth 100000 in
theorem vz_layout_L112 {oo : MS ⊕ MS} {Q : MS → Prop} {E : MS → Prop} : ∀ (n m : Nat) {U112 : MS} {v112_1 : Int32}, v_layout_L112 oo n U112 v112_1 → w_layout_L112 Q E m U112 v112_1 → oV Q E oo := by
  intro n
  induction n with
  | zero => intro m U112 v112_1 h; unfold v_layout_L112 at h; exact h.elim
  | succ n ih =>
    intro m U112 v112_1 h w
    cases m with
    | zero => unfold w_layout_L112 at w; exact w.elim
    | succ m =>
      unfold v_layout_L112 at h
      unfold w_layout_L112 at w
      rcases h with ⟨c, h⟩ | ⟨c, h⟩
      · replace w := w.1 c
        obtain ⟨n9, h⟩ := h
        obtain ⟨n8, w⟩ := w
        exact vz_layout_L136 n9 n8 h w
      · replace w := w.2 c
        replace h := h.2
        replace w := w.2
        obtain ⟨v9, e9, h⟩ := h
        replace w := w v9 e9
        obtain ⟨v9, e9, h⟩ := h
        replace w := w v9 e9
        exact ih m h w
set_option maxRecDepth 100000 in
theorem vw_layout_J104 {oo : MS ⊕ MS} {U104 : MS} {t104_0 : Int32} (h : v_layout_J104 oo U104 t104_0) : w_layout_J104 (fun u => oo = .inl u) (fun u => oo = .inr u) U104 t104_0 := by
  unfold v_layout_J104 at h
  unfold w_layout_J104
  rcases h with ⟨q9, z9, h⟩ | ⟨q9, z9, h⟩
  · refine ⟨_, _, vw_must z9, ?_, ?_⟩
    · intro q8 d9
      injection d9 with d9
      subst d9
      obtain ⟨n9, h⟩ := h
      exact ⟨n9, vw_layout_L112 n9 h⟩
    · intro q8 d9
      exact nomatch d9
  · refine ⟨_, _, vw_must z9, ?_, ?_⟩
    · intro q8 d9
      exact nomatch d9
    · intro q8 d9
      injection d9 with d9
      subst d9
      exact h
set_option maxRecDepth 100000 in
theorem vz_layout_J104 {oo : MS ⊕ MS} {Q : MS → Prop} {E : MS → Prop} {U104 : MS} {t104_0 : Int32} (h : v_layout_J104 oo U104 t104_0) (w : w_layout_J104 Q E U104 t104_0) : oV Q E oo := by
  unfold v_layout_J104 at h
  unfold w_layout_J104 at w
  obtain ⟨Q9, E9, w0, w⟩ := w
  rcases h with ⟨q9, z9, h⟩ | ⟨q9, z9, h⟩
  · replace w := w.1 q9 (vz_must z9 w0)
    obtain ⟨n9, h⟩ := h
    obtain ⟨n8, w⟩ := w
    exact vz_layout_L112 n9 n8 h w
  · replace w := w.2 q9 (vz_must z9 w0)
    rw [h]
    exact w
set_option maxRecDepth 100000 in
theorem vw_layout_J103 {oo : MS ⊕ MS} {U103 : MS} (h : v_layout_J103 oo U103) : w_layout_J103 (fun u => oo = .inl u) (fun u => oo = .inr u) U103 := by
  unfold v_layout_J103 at h
  unfold w_layout_J103
  exact vw_layout_J104 h
set_option maxRecDepth 100000 in
theorem vz_layout_J103 {oo : MS ⊕ MS} {Q : MS → Prop} {E : MS → Prop} {U103 : MS} (h : v_layout_J103 oo U103) (w : w_layout_J103 Q E U103) : oV Q E oo := by
  unfold v_layout_J103 at h
  unfold w_layout_J103 at w
  exact vz_layout_J104 h w
set_option maxRecDepth 100000 in
theorem vw_layout_J48 {oo : MS ⊕ MS} {k2 k2v : MS → Int32 → Prop} {U48 : MS} {t48_0 : Int32} {v48_1 : Int32} (hk2 : ∀ (u : MS) (z0 : Int32), k2v u z0 → k2 u z0) (h : v_layout_J48 oo k2v U48 t48_0 v48_1) : w_layout_J48 (fun u => oo = .inl u) (fun u => oo = .inr u) k2 U48 t48_0 v48_1 := by
  unfold v_layout_J48 at h
  unfold w_layout_J48
  rcases h with ⟨q9, z9, h⟩ | ⟨q9, z9, h⟩
  · refine ⟨_, _, vw_must z9, ?_, ?_⟩
    · intro q8 d9
      injection d9 with d9
      subst d9
      obtain ⟨v9, e9, h⟩ := h
      intro x9 d9
      have c9 : v9 = x9 := e9.trans d9.symm
      subst c9
      exact hk2 _ _ h
    · intro q8 d9
      exact nomatch d9
  · refine ⟨_, _, vw_must z9, ?_, ?_⟩
    · intro q8 d9
      exact nomatch d9
    · intro q8 d9
      injection d9 with d9
      subst d9
      exact h
set_option maxRecDepth 100000 in
theorem vz_layout_J48 {oo : MS ⊕ MS} {Q : MS → Prop} {E : MS → Prop} {k2 k2v : MS → Int32 → Prop} {U48 : MS} {t48_0 : Int32} {v48_1 : Int32} (hk2 : ∀ (u : MS) (z0 : Int32), k2v u z0 → k2 u z0 → oV Q E oo) (h : v_layout_J48 oo k2v U48 t48_0 v48_1) (w : w_layout_J48 Q E k2 U48 t48_0 v48_1) : oV Q E oo := by
  unfold v_layout_J48 at h
  unfold w_layout_J48 at w
  obtain ⟨Q9, E9, w0, w⟩ := w
  rcases h with ⟨q9, z9, h⟩ | ⟨q9, z9, h⟩
  · replace w := w.1 q9 (vz_must z9 w0)
    obtain ⟨v9, e9, h⟩ := h
    replace w := w v9 e9
    exact hk2 _ _ h w
  · replace w := w.2 q9 (vz_must z9 w0)
    rw [h]
    exact w
set_option maxRecDepth 100000 in
theorem vw_layout_J22 {oo : MS ⊕ MS} {k2 k2v : MS → Int32 → Prop} {U22 : MS} {t22_0 : Int32} {v22_1 : Int32} (hk2 : ∀ (u : MS) (z0 : Int32), k2v u z0 → k2 u z0) (h : v_layout_J22 oo k2v U22 t22_0 v22_1) : w_layout_J22 (fun u => oo = .inl u) (fun u => oo = .inr u) k2 U22 t22_0 v22_1 := by
  unfold v_layout_J22 at h
  unfold w_layout_J22
  rcases h with ⟨q9, z9, h⟩ | ⟨q9, z9, h⟩
  · refine ⟨_, _, vw_must z9, ?_, ?_⟩
    · intro q8 d9
      injection d9 with d9
      subst d9
      obtain ⟨g9, h⟩ := h
      refine ⟨g9, ?_⟩
      obtain ⟨g9, h⟩ := h
      refine ⟨g9, ?_⟩
      rcases h with ⟨c, h⟩ | ⟨c, h⟩
      · refine ⟨fun _ => ?_, fun c2 => absurd c c2⟩
        exact vw_layout_J48 hk2 h
      · refine ⟨fun c2 => absurd c2 c, fun _ => ?_⟩
        exact vw_layout_J48 hk2 h
    · intro q8 d9
      exact nomatch d9
  · refine ⟨_, _, vw_must z9, ?_, ?_⟩
    · intro q8 d9
      exact nomatch d9
    · intro q8 d9
      injection d9 with d9
      subst d9
      exact h
set_option maxRecDepth 100000 in
theorem vz_layout_J22 {oo : MS ⊕ MS} {Q : MS → Prop} {E : MS → Prop} {k2 k2v : MS → Int32 → Prop} {U22 : MS} {t22_0 : Int32} {v22_1 : Int32} (hk2 : ∀ (u : MS) (z0 : Int32), k2v u z0 → k2 u z0 → oV Q E oo) (h : v_layout_J22 oo k2v U22 t22_0 v22_1) (w : w_layout_J22 Q E k2 U22 t22_0 v22_1) : oV Q E oo := by
  unfold v_layout_J22 at h
  unfold w_layout_J22 at w
  obtain ⟨Q9, E9, w0, w⟩ := w
  rcases h with ⟨q9, z9, h⟩ | ⟨q9, z9, h⟩
  · replace w := w.1 q9 (vz_must z9 w0)
    replace h := h.2
    replace w := w.2
    replace h := h.2
    replace w := w.2
    rcases h with ⟨c, h⟩ | ⟨c, h⟩
    · replace w := w.1 c
      exact vz_layout_J48 hk2 h w
    · replace w := w.2 c
      exact vz_layout_J48 hk2 h w
  · replace w := w.2 q9 (vz_must z9 w0)
    rw [h]
    exact w
set_option maxRecDepth 100000 in
theorem vw_layout_L2 {oo : MS ⊕ MS} : ∀ (n : Nat) {U2 : MS} {v2_1 : Int32}, v_layout_L2 oo n U2 v2_1 → w_layout_L2 (fun u => oo = .inl u) (fun u => oo = .inr u) n U2 v2_1 := by
  intro n
  induction n with
  | zero => intro U2 v2_1 h; unfold v_layout_L2 at h; exact h.elim
  | succ n ih =>
    intro U2 v2_1 h
    unfold v_layout_L2 at h
    unfold w_layout_L2
    rcases h with ⟨c, h⟩ | ⟨c, h⟩
    · refine ⟨fun _ => ?_, fun c2 => absurd c c2⟩
      obtain ⟨v9, e9, h⟩ := h
      intro x9 d9
      have c9 : v9 = x9 := e9.trans d9.symm
      subst c9
      rcases h with ⟨p9, q9, z9, h⟩ | ⟨q9, z9, h⟩
      · refine ⟨_, _, vw_over z9, ?_, ?_⟩
        · intro p8 q8 d9
          injection d9 with d9
          injection d9 with d8 d9
          subst d8
          subst d9
          obtain ⟨g9, h⟩ := h
          refine ⟨g9, ?_⟩
          obtain ⟨v9, e9, h⟩ := h
          intro x9 d9
          have c9 : v9 = x9 := e9.trans d9.symm
          subst c9
          rcases h with ⟨c, h⟩ | ⟨c, h⟩
          · refine ⟨fun _ => ?_, fun c2 => absurd c c2⟩
            exact vw_layout_J103 h
          · refine ⟨fun c2 => absurd c2 c, fun _ => ?_⟩
            rcases h with ⟨c, h⟩ | ⟨c, h⟩
            · refine ⟨fun _ => ?_, fun c2 => absurd c c2⟩
              exact vw_layout_J103 h
            · refine ⟨fun c2 => absurd c2 c, fun _ => ?_⟩
              exact vw_layout_J104 h
        · intro q8 d9
          exact nomatch d9
      · refine ⟨_, _, vw_over z9, ?_, ?_⟩
        · intro p8 q8 d9
          exact nomatch d9
        · intro q8 d9
          injection d9 with d9
          subst d9
          exact h
    · refine ⟨fun c2 => absurd c2 c, fun _ => ?_⟩
      rcases h with ⟨c, h⟩ | ⟨c, h⟩
      · refine ⟨fun _ => ?_, fun c2 => absurd c c2⟩
        exact vw_layout_J22 (fun _ _ h => ih h) h
      · refine ⟨fun c2 => absurd c2 c, fun _ => ?_⟩
        exact vw_layout_J22 (fun _ _ h => ih h) h
set_option maxRecDepth 100000 in
theorem vz_layout_L2 {oo : MS ⊕ MS} {Q : MS → Prop} {E : MS → Prop} : ∀ (n m : Nat) {U2 : MS} {v2_1 : Int32}, v_layout_L2 oo n U2 v2_1 → w_layout_L2 Q E m U2 v2_1 → oV Q E oo := by
  intro n
  induction n with
  | zero => intro m U2 v2_1 h; unfold v_layout_L2 at h; exact h.elim
  | succ n ih =>
    intro m U2 v2_1 h w
    cases m with
    | zero => unfold w_layout_L2 at w; exact w.elim
    | succ m =>
      unfold v_layout_L2 at h
      unfold w_layout_L2 at w
      rcases h with ⟨c, h⟩ | ⟨c, h⟩
      · replace w := w.1 c
        obtain ⟨v9, e9, h⟩ := h
        replace w := w v9 e9
        obtain ⟨Q9, E9, w0, w⟩ := w
        rcases h with ⟨p9, q9, z9, h⟩ | ⟨q9, z9, h⟩
        · replace w := w.1 p9 q9 (vz_over z9 w0)
          replace h := h.2
          replace w := w.2
          obtain ⟨v9, e9, h⟩ := h
          replace w := w v9 e9
          rcases h with ⟨c, h⟩ | ⟨c, h⟩
          · replace w := w.1 c
            exact vz_layout_J103 h w
          · replace w := w.2 c
            rcases h with ⟨c, h⟩ | ⟨c, h⟩
            · replace w := w.1 c
              exact vz_layout_J103 h w
            · replace w := w.2 c
              exact vz_layout_J104 h w
        · replace w := w.2 q9 (vz_over z9 w0)
          rw [h]
          exact w
      · replace w := w.2 c
        rcases h with ⟨c, h⟩ | ⟨c, h⟩
        · replace w := w.1 c
          exact vz_layout_J22 (fun _ _ h w => ih m h w) h w
        · replace w := w.2 c
          exact vz_layout_J22 (fun _ _ h w => ih m h w) h w
set_option maxRecDepth 100000 in
theorem vw_layout {S : MS} {oo : MS ⊕ MS} (h : v_layout S oo) : w_layout S (fun u => oo = .inl u) (fun u => oo = .inr u) := by
  unfold v_layout at h
  unfold w_layout
  obtain ⟨n9, h⟩ := h
  exact ⟨n9, vw_layout_L2 n9 h⟩
set_option maxRecDepth 100000 in
theorem vz_layout {S : MS} {oo : MS ⊕ MS} {Q : MS → Prop} {E : MS → Prop} (h : v_layout S oo) (w : w_layout S Q E) : oV Q E oo := by
  unfold v_layout at h
  unfold w_layout at w
  obtain ⟨n9, h⟩ := h
  obtain ⟨n8, w⟩ := w
  exact vz_layout_L2 n9 n8 h w
def v_letters_J72 (ro : Nat) (uo : MS) (k11 : MS → Nat → Nat → Int32 → Prop) (U72 : MS) (v72_0 : Nat) (v72_2 : Nat) (v72_3 : Int32) : Prop := (∃ a29 : Int32, a29 = (v72_3 + Int32.ofInt 1) ∧ (k11 U72 v72_0 v72_2 a29))
def v_letters_L11 (ro : Nat) (uo : MS) : Nat → MS → Nat → Nat → Int32 → Prop
  | 0, _, _, _, _ => False
  | n11 + 1, U11, v11_0, v11_2, v11_3 => (((Int32.ofNat (qN U11 (v11_0 + 1))).toInt ≤ v11_3.toInt ∧ (∃ (b17 : Nat) (S14 : MS), v_J4_toString_0e30d U11 v11_2 b17 S14 ∧ (ro = b17 ∧ uo = S14))) ∨ (¬ (Int32.ofNat (qN U11 (v11_0 + 1))).toInt ≤ v11_3.toInt ∧ (((0 : Int) ≤ v11_3.toInt ∧ v11_3.toInt < (qN U11 (v11_0 + 1) : Int)) ∧ (((cAt U11 v11_0 v11_3).toInt = 41 ∧ (∃ (b26 : Nat) (S23 : MS), v_J4_toString_0e30d U11 v11_2 b26 S23 ∧ (ro = b26 ∧ uo = S23))) ∨ (¬ (cAt U11 v11_0 v11_3).toInt = 41 ∧ (((0 : Int) ≤ v11_3.toInt ∧ v11_3.toInt < (qN U11 (v11_0 + 1) : Int)) ∧ (((cAt U11 v11_0 v11_3).toInt = 91 ∧ (∃ (b47 : Nat) (S44 : MS), v_J4_append_cf468 U11 v11_2 (65 : Int32) b47 S44 ∧ (∃ a48 : Int32, a48 = (v11_3 + Int32.ofInt 1) ∧ (v_letters_J72 ro uo (v_letters_L11 ro uo n11) S44 v11_0 v11_2 a48)))) ∨ (¬ (cAt U11 v11_0 v11_3).toInt = 91 ∧ (((0 : Int) ≤ v11_3.toInt ∧ v11_3.toInt < (qN U11 (v11_0 + 1) : Int)) ∧ (((cAt U11 v11_0 v11_3).toInt = 86 ∧ (v_letters_J72 ro uo (v_letters_L11 ro uo n11) U11 v11_0 v11_2 v11_3)) ∨ (¬ (cAt U11 v11_0 v11_3).toInt = 86 ∧ (((0 : Int) ≤ v11_3.toInt ∧ v11_3.toInt < (qN U11 (v11_0 + 1) : Int)) ∧ (∃ (b41 : Nat) (S38 : MS), v_J4_append_cf468 U11 v11_2 (cAt U11 v11_0 v11_3) b41 S38 ∧ (v_letters_J72 ro uo (v_letters_L11 ro uo n11) S38 v11_0 v11_2 v11_3))))))))))))))
def v_letters (S : MS) (p0 : Nat) (x1 : Int32) (ro : Nat) (uo : MS) : Prop := ((qn S + 1 ≤ KC ∧ qu S + 4 ≤ KS) ∧ (∃ S4 : MS, S4 = wN S 13 0 4 ∧ (∃ (S7 : MS), v_J4_init_d00df S4 (qn S) (4 : Int32) S7 ∧ (∃ n, v_letters_L11 ro uo n S7 p0 (qn S) x1))))
set_option maxRecDepth 100000 in
theorem ru_letters_J72 {ι : Type} {P : Nat → MS → Prop} {Q : Nat → MS → Prop} {k11 : MS → Nat → Nat → Int32 → Prop} {k11v : ι → Nat → MS → MS → Nat → Nat → Int32 → Prop} {U72 : MS} {v72_0 : Nat} {v72_2 : Nat} {v72_3 : Int32} (i0 : ι) (hk11 : ∀ (u : MS) (z0 : Nat) (z1 : Nat) (z2 : Int32), k11 u z0 z1 z2 → (∀ (i : ι) (ro : Nat) (uo : MS), k11v i ro uo u z0 z1 z2 → P ro uo) → ∃ ro uo, P ro uo ∧ Q ro uo) (K : ∀ (i : ι) (ro : Nat) (uo : MS), v_letters_J72 ro uo (k11v i ro uo) U72 v72_0 v72_2 v72_3 → P ro uo) (h : w_letters_J72 Q k11 U72 v72_0 v72_2 v72_3) : ∃ ro uo, P ro uo ∧ Q ro uo := by
  unfold w_letters_J72 at h
  obtain ⟨a29, ea29⟩ : ∃ x9 : Int32, x9 = (v72_3 + Int32.ofInt 1) := ⟨_, rfl⟩
  replace h := h a29 ea29
  replace K := fun i ro uo z => K i ro uo ⟨a29, ea29, z⟩
  exact hk11 _ _ _ _ h K
set_option maxRecDepth 100000 in
theorem ru_letters_L11 {ι : Type} {P : Nat → MS → Prop} {Q : Nat → MS → Prop} : ∀ (n : Nat) {U11 : MS} {v11_0 : Nat} {v11_2 : Nat} {v11_3 : Int32} (i0 : ι), (∀ (i : ι) (ro : Nat) (uo : MS), (∃ n8, v_letters_L11 ro uo n8 U11 v11_0 v11_2 v11_3) → P ro uo) → w_letters_L11 Q n U11 v11_0 v11_2 v11_3 → ∃ ro uo, P ro uo ∧ Q ro uo := by
  intro n
  induction n with
  | zero => intro U11 v11_0 v11_2 v11_3 i0 K h; unfold w_letters_L11 at h; exact h.elim
  | succ n ih =>
    intro U11 v11_0 v11_2 v11_3 i0 K h
    unfold w_letters_L11 at h
    replace K := fun (i : ι × Nat) ro uo (z : v_letters_L11 ro uo (i.2 + 1) U11 v11_0 v11_2 v11_3) => K i.1 ro uo ⟨i.2 + 1, z⟩
    have i00 := i0
    replace i0 : ι × Nat := (i0, 0)
    by_cases c : (Int32.ofNat (qN U11 (v11_0 + 1))).toInt ≤ v11_3.toInt
    · replace h := h.1 c
      replace K := fun i ro uo z => K i ro uo (Or.inl ⟨c, z⟩)
      obtain ⟨Q9, h0, h⟩ := h
      obtain ⟨b17, S14, z9, g9⟩ := ru_J4_toString_0e30d h0
      replace h := h b17 S14 g9
      replace K := fun i ro uo z => K i ro uo ⟨b17, S14, z9, z⟩
      exact ⟨_, _, K i0 _ _ ⟨rfl, rfl⟩, h⟩
    · replace h := h.2 c
      replace K := fun i ro uo z => K i ro uo (Or.inr ⟨c, z⟩)
      obtain ⟨g1_, h⟩ := h
      replace K := fun i ro uo z => K i ro uo ⟨g1_, z⟩
      by_cases c : (cAt U11 v11_0 v11_3).toInt = 41
      · replace h := h.1 c
        replace K := fun i ro uo z => K i ro uo (Or.inl ⟨c, z⟩)
        obtain ⟨Q9, h0, h⟩ := h
        obtain ⟨b26, S23, z9, g9⟩ := ru_J4_toString_0e30d h0
        replace h := h b26 S23 g9
        replace K := fun i ro uo z => K i ro uo ⟨b26, S23, z9, z⟩
        exact ⟨_, _, K i0 _ _ ⟨rfl, rfl⟩, h⟩
      · replace h := h.2 c
        replace K := fun i ro uo z => K i ro uo (Or.inr ⟨c, z⟩)
        obtain ⟨g2_, h⟩ := h
        replace K := fun i ro uo z => K i ro uo ⟨g2_, z⟩
        by_cases c : (cAt U11 v11_0 v11_3).toInt = 91
        · replace h := h.1 c
          replace K := fun i ro uo z => K i ro uo (Or.inl ⟨c, z⟩)
          obtain ⟨Q9, h0, h⟩ := h
          obtain ⟨b47, S44, z9, g9⟩ := ru_J4_append_cf468 h0
          replace h := h b47 S44 g9
          replace K := fun i ro uo z => K i ro uo ⟨b47, S44, z9, z⟩
          obtain ⟨a48, ea48⟩ : ∃ x9 : Int32, x9 = (v11_3 + Int32.ofInt 1) := ⟨_, rfl⟩
          replace h := h a48 ea48
          replace K := fun i ro uo z => K i ro uo ⟨a48, ea48, z⟩
          exact ru_letters_J72 i0 (fun _ _ _ _ h K => ih i00 (fun i ro uo ⟨n8, z⟩ => K (i, n8) ro uo z) h) K h
        · replace h := h.2 c
          replace K := fun i ro uo z => K i ro uo (Or.inr ⟨c, z⟩)
          obtain ⟨g3_, h⟩ := h
          replace K := fun i ro uo z => K i ro uo ⟨g3_, z⟩
          by_cases c : (cAt U11 v11_0 v11_3).toInt = 86
          · replace h := h.1 c
            replace K := fun i ro uo z => K i ro uo (Or.inl ⟨c, z⟩)
            exact ru_letters_J72 i0 (fun _ _ _ _ h K => ih i00 (fun i ro uo ⟨n8, z⟩ => K (i, n8) ro uo z) h) K h
          · replace h := h.2 c
            replace K := fun i ro uo z => K i ro uo (Or.inr ⟨c, z⟩)
            obtain ⟨g4_, h⟩ := h
            replace K := fun i ro uo z => K i ro uo ⟨g4_, z⟩
            obtain ⟨Q9, h0, h⟩ := h
            obtain ⟨b41, S38, z9, g9⟩ := ru_J4_append_cf468 h0
            replace h := h b41 S38 g9
            replace K := fun i ro uo z => K i ro uo ⟨b41, S38, z9, z⟩
            exact ru_letters_J72 i0 (fun _ _ _ _ h K => ih i00 (fun i ro uo ⟨n8, z⟩ => K (i, n8) ro uo z) h) K h
set_option maxRecDepth 100000 in
theorem ru_letters {S : MS} {p0 : Nat} {x1 : Int32} {Q : Nat → MS → Prop} (h : w_letters S p0 x1 Q) : ∃ ro uo, v_letters S p0 x1 ro uo ∧ Q ro uo := by
  have i0 : Unit := ()
  have K : ∀ (i : Unit) (ro : Nat) (uo : MS), v_letters S p0 x1 ro uo → v_letters S p0 x1 ro uo := fun _ _ _ z => z
  unfold w_letters at h
  obtain ⟨g5_, h⟩ := h
  replace K := fun i ro uo z => K i ro uo ⟨g5_, z⟩
  obtain ⟨S4, eS4⟩ : ∃ x9 : MS, x9 = wN S 13 0 4 := ⟨_, rfl⟩
  replace h := h S4 eS4
  replace K := fun i ro uo z => K i ro uo ⟨S4, eS4, z⟩
  obtain ⟨Q9, h0, h⟩ := h
  obtain ⟨S7, z9, g9⟩ := ru_J4_init_d00df h0
  replace h := h S7 g9
  replace K := fun i ro uo z => K i ro uo ⟨S7, z9, z⟩
  obtain ⟨n9, h⟩ := h
  exact ru_letters_L11 n9 i0 K h
set_option maxRecDepth 100000 in
theorem vw_letters_J72 {ro : Nat} {uo : MS} {k11 k11v : MS → Nat → Nat → Int32 → Prop} {U72 : MS} {v72_0 : Nat} {v72_2 : Nat} {v72_3 : Int32} (hk11 : ∀ (u : MS) (z0 : Nat) (z1 : Nat) (z2 : Int32), k11v u z0 z1 z2 → k11 u z0 z1 z2) (h : v_letters_J72 ro uo k11v U72 v72_0 v72_2 v72_3) : w_letters_J72 (fun r u => r = ro ∧ u = uo) k11 U72 v72_0 v72_2 v72_3 := by
  unfold v_letters_J72 at h
  unfold w_letters_J72
  obtain ⟨v9, e9, h⟩ := h
  intro x9 d9
  have c9 : v9 = x9 := e9.trans d9.symm
  subst c9
  exact hk11 _ _ _ _ h
set_option maxRecDepth 100000 in
theorem vz_letters_J72 {ro : Nat} {uo : MS} {Q : Nat → MS → Prop} {k11 k11v : MS → Nat → Nat → Int32 → Prop} {U72 : MS} {v72_0 : Nat} {v72_2 : Nat} {v72_3 : Int32} (hk11 : ∀ (u : MS) (z0 : Nat) (z1 : Nat) (z2 : Int32), k11v u z0 z1 z2 → k11 u z0 z1 z2 → Q ro uo) (h : v_letters_J72 ro uo k11v U72 v72_0 v72_2 v72_3) (w : w_letters_J72 Q k11 U72 v72_0 v72_2 v72_3) : Q ro uo := by
  unfold v_letters_J72 at h
  unfold w_letters_J72 at w
  obtain ⟨v9, e9, h⟩ := h
  replace w := w v9 e9
  exact hk11 _ _ _ _ h w
set_option maxRecDepth 100000 in
theorem vw_letters_L11 {ro : Nat} {uo : MS} : ∀ (n : Nat) {U11 : MS} {v11_0 : Nat} {v11_2 : Nat} {v11_3 : Int32}, v_letters_L11 ro uo n U11 v11_0 v11_2 v11_3 → w_letters_L11 (fun r u => r = ro ∧ u = uo) n U11 v11_0 v11_2 v11_3 := by
  intro n
  induction n with
  | zero => intro U11 v11_0 v11_2 v11_3 h; unfold v_letters_L11 at h; exact h.elim
  | succ n ih =>
    intro U11 v11_0 v11_2 v11_3 h
    unfold v_letters_L11 at h
    unfold w_letters_L11
    rcases h with ⟨c, h⟩ | ⟨c, h⟩
    · refine ⟨fun _ => ?_, fun c2 => absurd c c2⟩
      obtain ⟨p9, q9, z9, h⟩ := h
      refine ⟨_, vw_J4_toString_0e30d z9, ?_⟩
      rintro p8 q8 ⟨d8, d9⟩
      subst d8
      subst d9
      exact ⟨h.1.symm, h.2.symm⟩
    · refine ⟨fun c2 => absurd c2 c, fun _ => ?_⟩
      obtain ⟨g9, h⟩ := h
      refine ⟨g9, ?_⟩
      rcases h with ⟨c, h⟩ | ⟨c, h⟩
      · refine ⟨fun _ => ?_, fun c2 => absurd c c2⟩
        obtain ⟨p9, q9, z9, h⟩ := h
        refine ⟨_, vw_J4_toString_0e30d z9, ?_⟩
        rintro p8 q8 ⟨d8, d9⟩
        subst d8
        subst d9
        exact ⟨h.1.symm, h.2.symm⟩
      · refine ⟨fun c2 => absurd c2 c, fun _ => ?_⟩
        obtain ⟨g9, h⟩ := h
        refine ⟨g9, ?_⟩
        rcases h with ⟨c, h⟩ | ⟨c, h⟩
        · refine ⟨fun _ => ?_, fun c2 => absurd c c2⟩
          obtain ⟨p9, q9, z9, h⟩ := h
          refine ⟨_, vw_J4_append_cf468 z9, ?_⟩
          rintro p8 q8 ⟨d8, d9⟩
          subst d8
          subst d9
          obtain ⟨v9, e9, h⟩ := h
          intro x9 d9
          have c9 : v9 = x9 := e9.trans d9.symm
          subst c9
          exact vw_letters_J72 (fun _ _ _ _ h => ih h) h
        · refine ⟨fun c2 => absurd c2 c, fun _ => ?_⟩
          obtain ⟨g9, h⟩ := h
          refine ⟨g9, ?_⟩
          rcases h with ⟨c, h⟩ | ⟨c, h⟩
          · refine ⟨fun _ => ?_, fun c2 => absurd c c2⟩
            exact vw_letters_J72 (fun _ _ _ _ h => ih h) h
          · refine ⟨fun c2 => absurd c2 c, fun _ => ?_⟩
            obtain ⟨g9, h⟩ := h
            refine ⟨g9, ?_⟩
            obtain ⟨p9, q9, z9, h⟩ := h
            refine ⟨_, vw_J4_append_cf468 z9, ?_⟩
            rintro p8 q8 ⟨d8, d9⟩
            subst d8
            subst d9
            exact vw_letters_J72 (fun _ _ _ _ h => ih h) h
set_option maxRecDepth 100000 in
theorem vz_letters_L11 {ro : Nat} {uo : MS} {Q : Nat → MS → Prop} : ∀ (n m : Nat) {U11 : MS} {v11_0 : Nat} {v11_2 : Nat} {v11_3 : Int32}, v_letters_L11 ro uo n U11 v11_0 v11_2 v11_3 → w_letters_L11 Q m U11 v11_0 v11_2 v11_3 → Q ro uo := by
  intro n
  induction n with
  | zero => intro m U11 v11_0 v11_2 v11_3 h; unfold v_letters_L11 at h; exact h.elim
  | succ n ih =>
    intro m U11 v11_0 v11_2 v11_3 h w
    cases m with
    | zero => unfold w_letters_L11 at w; exact w.elim
    | succ m =>
      unfold v_letters_L11 at h
      unfold w_letters_L11 at w
      rcases h with ⟨c, h⟩ | ⟨c, h⟩
      · replace w := w.1 c
        obtain ⟨p9, q9, z9, h⟩ := h
        obtain ⟨Q9, w0, w⟩ := w
        replace w := w p9 q9 (vz_J4_toString_0e30d z9 w0)
        rw [h.1, h.2]
        exact w
      · replace w := w.2 c
        replace h := h.2
        replace w := w.2
        rcases h with ⟨c, h⟩ | ⟨c, h⟩
        · replace w := w.1 c
          obtain ⟨p9, q9, z9, h⟩ := h
          obtain ⟨Q9, w0, w⟩ := w
          replace w := w p9 q9 (vz_J4_toString_0e30d z9 w0)
          rw [h.1, h.2]
          exact w
        · replace w := w.2 c
          replace h := h.2
          replace w := w.2
          rcases h with ⟨c, h⟩ | ⟨c, h⟩
          · replace w := w.1 c
            obtain ⟨p9, q9, z9, h⟩ := h
            obtain ⟨Q9, w0, w⟩ := w
            replace w := w p9 q9 (vz_J4_append_cf468 z9 w0)
            obtain ⟨v9, e9, h⟩ := h
            replace w := w v9 e9
            exact vz_letters_J72 (fun _ _ _ _ h w => ih m h w) h w
          · replace w := w.2 c
            replace h := h.2
            replace w := w.2
            rcases h with ⟨c, h⟩ | ⟨c, h⟩
            · replace w := w.1 c
              exact vz_letters_J72 (fun _ _ _ _ h w => ih m h w) h w
            · replace w := w.2 c
              replace h := h.2
              replace w := w.2
              obtain ⟨p9, q9, z9, h⟩ := h
              obtain ⟨Q9, w0, w⟩ := w
              replace w := w p9 q9 (vz_J4_append_cf468 z9 w0)
              exact vz_letters_J72 (fun _ _ _ _ h w => ih m h w) h w
set_option maxRecDepth 100000 in
theorem vw_letters {S : MS} {p0 : Nat} {x1 : Int32} {ro : Nat} {uo : MS} (h : v_letters S p0 x1 ro uo) : w_letters S p0 x1 (fun r u => r = ro ∧ u = uo) := by
  unfold v_letters at h
  unfold w_letters
  obtain ⟨g9, h⟩ := h
  refine ⟨g9, ?_⟩
  obtain ⟨v9, e9, h⟩ := h
  intro x9 d9
  have c9 : v9 = x9 := e9.trans d9.symm
  subst c9
  obtain ⟨q9, z9, h⟩ := h
  refine ⟨_, vw_J4_init_d00df z9, ?_⟩
  intro q8 d9
  subst d9
  obtain ⟨n9, h⟩ := h
  exact ⟨n9, vw_letters_L11 n9 h⟩
set_option maxRecDepth 100000 in
theorem vz_letters {S : MS} {p0 : Nat} {x1 : Int32} {ro : Nat} {uo : MS} {Q : Nat → MS → Prop} (h : v_letters S p0 x1 ro uo) (w : w_letters S p0 x1 Q) : Q ro uo := by
  unfold v_letters at h
  unfold w_letters at w
  replace h := h.2
  replace w := w.2
  obtain ⟨v9, e9, h⟩ := h
  replace w := w v9 e9
  obtain ⟨q9, z9, h⟩ := h
  obtain ⟨Q9, w0, w⟩ := w
  replace w := w q9 (vz_J4_init_d00df z9 w0)
  obtain ⟨n9, h⟩ := h
  obtain ⟨n8, w⟩ := w
  exact vz_letters_L11 n9 n8 h w
