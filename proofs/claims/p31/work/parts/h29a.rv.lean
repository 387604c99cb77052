def v_J7_fill_53178_L5 (uo : MS) : Nat → MS → Nat → Int32 → Int32 → Int32 → Prop
  | 0, _, _, _, _, _ => False
  | n5 + 1, U5, v5_0, v5_1, v5_2, v5_3 => (wfC U5 ∧ ((v5_3.toInt ≤ v5_2.toInt ∧ (uo = U5)) ∨ (¬ v5_3.toInt ≤ v5_2.toInt ∧ (((0 : Int) ≤ v5_2.toInt ∧ v5_2.toInt < (qN U5 v5_0 : Int)) ∧ (∃ S4 : MS, S4 = wI U5 v5_0 v5_2.toInt.toNat v5_1 ∧ wfC S4 ∧ (∃ a5 : Int32, a5 = (v5_2 + Int32.ofInt 1) ∧ ((v_J7_fill_53178_L5 uo n5) S4 v5_0 v5_1 a5 v5_3)))))))
def vJ7_fill_53178 (S : MS) (p0 : Nat) (x1 : Int32) (uo : MS) : Prop := (∃ a1 : Int32, a1 = (Int32.ofNat (qN S p0)) ∧ (∃ n, v_J7_fill_53178_L5 uo n S p0 x1 0 a1))
set_option maxRecDepth 100000 in
theorem ru_J7_fill_53178_L5 {ι : Type} {P Q : MS → Prop} : ∀ (n : Nat) {U5 : MS} {v5_0 : Nat} {v5_1 : Int32} {v5_2 : Int32} {v5_3 : Int32} (i0 : ι), (∀ (i : ι) (uo : MS), (∃ n8, v_J7_fill_53178_L5 uo n8 U5 v5_0 v5_1 v5_2 v5_3) → P uo) → w_J7_fill_53178_L5 Q n U5 v5_0 v5_1 v5_2 v5_3 → w_J7_fill_53178_L5 (fun u => Q u ∧ P u) n U5 v5_0 v5_1 v5_2 v5_3 := by
  intro n
  induction n with
  | zero => intro U5 v5_0 v5_1 v5_2 v5_3 i0 K h; unfold w_J7_fill_53178_L5 at h; exact h.elim
  | succ n ih =>
    intro U5 v5_0 v5_1 v5_2 v5_3 i0 K h
    unfold w_J7_fill_53178_L5 at h ⊢
    replace K := fun (i : ι × Nat) uo (z : v_J7_fill_53178_L5 uo (i.2 + 1) U5 v5_0 v5_1 v5_2 v5_3) => K i.1 uo ⟨i.2 + 1, z⟩
    have i00 := i0
    replace i0 : ι × Nat := (i0, 0)
    intro y1_
    replace h := h y1_
    replace K := fun i uo z => K i uo ⟨y1_, z⟩
    refine ⟨fun c => ?_, fun c => ?_⟩
    · replace h := h.1 c
      replace K := fun i uo z => K i uo (Or.inl ⟨c, z⟩)
      exact ⟨h, K i0 _ rfl⟩
    · replace h := h.2 c
      replace K := fun i uo z => K i uo (Or.inr ⟨c, z⟩)
      obtain ⟨g2_, h⟩ := h
      refine ⟨g2_, ?_⟩
      replace K := fun i uo z => K i uo ⟨g2_, z⟩
      intro S4 eS4 y3_
      replace h := h S4 eS4 y3_
      replace K := fun i uo z => K i uo ⟨S4, eS4, y3_, z⟩
      intro a5 ea5 
      replace h := h a5 ea5 
      replace K := fun i uo z => K i uo ⟨a5, ea5, z⟩
      exact ih i00 (fun i uo ⟨n8, z⟩ => K (i, n8) uo z) h
set_option maxRecDepth 100000 in
theorem ruJ7_fill_53178 {S : MS} {p0 : Nat} {x1 : Int32} {Q : MS → Prop} (h : wJ7_fill_53178 S p0 x1 Q) : wJ7_fill_53178 S p0 x1 (fun u => Q u ∧ vJ7_fill_53178 S p0 x1 u) := by
  have i0 : Unit := ()
  have K : ∀ (i : Unit) (uo : MS), vJ7_fill_53178 S p0 x1 uo → vJ7_fill_53178 S p0 x1 uo := fun _ _ z => z
  unfold wJ7_fill_53178 at h ⊢
  intro a1 ea1 
  replace h := h a1 ea1 
  replace K := fun i uo z => K i uo ⟨a1, ea1, z⟩
  obtain ⟨n9, h⟩ := h
  exact ⟨n9, ru_J7_fill_53178_L5 n9 i0 K h⟩
set_option maxRecDepth 100000 in
theorem vw_J7_fill_53178_L5 {uo : MS} : ∀ (n : Nat) {U5 : MS} {v5_0 : Nat} {v5_1 : Int32} {v5_2 : Int32} {v5_3 : Int32}, v_J7_fill_53178_L5 uo n U5 v5_0 v5_1 v5_2 v5_3 → w_J7_fill_53178_L5 (fun u => u = uo) n U5 v5_0 v5_1 v5_2 v5_3 := by
  intro n
  induction n with
  | zero => intro U5 v5_0 v5_1 v5_2 v5_3 h; unfold v_J7_fill_53178_L5 at h; exact h.elim
  | succ n ih =>
    intro U5 v5_0 v5_1 v5_2 v5_3 h
    unfold v_J7_fill_53178_L5 at h
    unfold w_J7_fill_53178_L5
    intro _
    replace h := h.2
    rcases h with ⟨c, h⟩ | ⟨c, h⟩
    · refine ⟨fun _ => ?_, fun c2 => absurd c c2⟩
      exact h.symm
    · refine ⟨fun c2 => absurd c2 c, fun _ => ?_⟩
      obtain ⟨g9, h⟩ := h
      refine ⟨g9, ?_⟩
      obtain ⟨v9, e9, h⟩ := h
      intro x9 d9 _
      have c9 : v9 = x9 := e9.trans d9.symm
      subst c9
      replace h := h.2
      obtain ⟨v9, e9, h⟩ := h
      intro x9 d9 
      have c9 : v9 = x9 := e9.trans d9.symm
      subst c9
      exact ih h
set_option maxRecDepth 100000 in
theorem vp_J7_fill_53178_L5 {uo : MS} {P : MS → Prop} : ∀ (n m : Nat) {U5 : MS} {v5_0 : Nat} {v5_1 : Int32} {v5_2 : Int32} {v5_3 : Int32}, v_J7_fill_53178_L5 uo n U5 v5_0 v5_1 v5_2 v5_3 → w_J7_fill_53178_L5 P m U5 v5_0 v5_1 v5_2 v5_3 → P uo := by
  intro n
  induction n with
  | zero => intro m U5 v5_0 v5_1 v5_2 v5_3 h; unfold v_J7_fill_53178_L5 at h; exact h.elim
  | succ n ih =>
    intro m U5 v5_0 v5_1 v5_2 v5_3 h w
    cases m with
    | zero => unfold w_J7_fill_53178_L5 at w; exact w.elim
    | succ m =>
      unfold v_J7_fill_53178_L5 at h
      unfold w_J7_fill_53178_L5 at w
      obtain ⟨y1_, h⟩ := h
      replace w := w y1_
      rcases h with ⟨c, h⟩ | ⟨c, h⟩
      · replace w := w.1 c
        rw [h]
        exact w
      · replace w := w.2 c
        replace h := h.2
        replace w := w.2
        obtain ⟨v9, e9, y2_, h⟩ := h
        replace w := w v9 e9 y2_
        obtain ⟨v9, e9, h⟩ := h
        replace w := w v9 e9 
        exact ih m h w
set_option maxRecDepth 100000 in
theorem vwJ7_fill_53178 {S : MS} {p0 : Nat} {x1 : Int32} {uo : MS} (h : vJ7_fill_53178 S p0 x1 uo) : wJ7_fill_53178 S p0 x1 (fun u => u = uo) := by
  unfold vJ7_fill_53178 at h
  unfold wJ7_fill_53178
  obtain ⟨v9, e9, h⟩ := h
  intro x9 d9 
  have c9 : v9 = x9 := e9.trans d9.symm
  subst c9
  obtain ⟨n9, h⟩ := h
  exact ⟨n9, vw_J7_fill_53178_L5 n9 h⟩
set_option maxRecDepth 100000 in
theorem vpJ7_fill_53178 {S : MS} {p0 : Nat} {x1 : Int32} {uo : MS} {P : MS → Prop} (h : vJ7_fill_53178 S p0 x1 uo) (w : wJ7_fill_53178 S p0 x1 P) : P uo := by
  unfold vJ7_fill_53178 at h
  unfold wJ7_fill_53178 at w
  obtain ⟨v9, e9, h⟩ := h
  replace w := w v9 e9 
  obtain ⟨n9, h⟩ := h
  obtain ⟨n8, w⟩ := w
  exact vp_J7_fill_53178_L5 n9 n8 h w
def v_J7_fill_d0a16_L6 (uo : MS) : Nat → MS → Nat → Int64 → Int32 → Int32 → Prop
  | 0, _, _, _, _, _ => False
  | n6 + 1, U6, v6_0, v6_1, v6_3, v6_4 => (wfC U6 ∧ ((v6_4.toInt ≤ v6_3.toInt ∧ (uo = U6)) ∨ (¬ v6_4.toInt ≤ v6_3.toInt ∧ (((0 : Int) ≤ v6_3.toInt ∧ v6_3.toInt < (qN U6 v6_0 : Int)) ∧ (∃ S4 : MS, S4 = wJ U6 v6_0 v6_3.toInt.toNat v6_1 ∧ wfC S4 ∧ (∃ a5 : Int32, a5 = (v6_3 + Int32.ofInt 1) ∧ ((v_J7_fill_d0a16_L6 uo n6) S4 v6_0 v6_1 a5 v6_4)))))))
def vJ7_fill_d0a16 (S : MS) (p0 : Nat) (y1 : Int64) (uo : MS) : Prop := (∃ a1 : Int32, a1 = (Int32.ofNat (qN S p0)) ∧ (∃ n, v_J7_fill_d0a16_L6 uo n S p0 y1 0 a1))
set_option maxRecDepth 100000 in
theorem ru_J7_fill_d0a16_L6 {ι : Type} {P Q : MS → Prop} : ∀ (n : Nat) {U6 : MS} {v6_0 : Nat} {v6_1 : Int64} {v6_3 : Int32} {v6_4 : Int32} (i0 : ι), (∀ (i : ι) (uo : MS), (∃ n8, v_J7_fill_d0a16_L6 uo n8 U6 v6_0 v6_1 v6_3 v6_4) → P uo) → w_J7_fill_d0a16_L6 Q n U6 v6_0 v6_1 v6_3 v6_4 → w_J7_fill_d0a16_L6 (fun u => Q u ∧ P u) n U6 v6_0 v6_1 v6_3 v6_4 := by
  intro n
  induction n with
  | zero => intro U6 v6_0 v6_1 v6_3 v6_4 i0 K h; unfold w_J7_fill_d0a16_L6 at h; exact h.elim
  | succ n ih =>
    intro U6 v6_0 v6_1 v6_3 v6_4 i0 K h
    unfold w_J7_fill_d0a16_L6 at h ⊢
    replace K := fun (i : ι × Nat) uo (z : v_J7_fill_d0a16_L6 uo (i.2 + 1) U6 v6_0 v6_1 v6_3 v6_4) => K i.1 uo ⟨i.2 + 1, z⟩
    have i00 := i0
    replace i0 : ι × Nat := (i0, 0)
    intro y1_
    replace h := h y1_
    replace K := fun i uo z => K i uo ⟨y1_, z⟩
    refine ⟨fun c => ?_, fun c => ?_⟩
    · replace h := h.1 c
      replace K := fun i uo z => K i uo (Or.inl ⟨c, z⟩)
      exact ⟨h, K i0 _ rfl⟩
    · replace h := h.2 c
      replace K := fun i uo z => K i uo (Or.inr ⟨c, z⟩)
      obtain ⟨g2_, h⟩ := h
      refine ⟨g2_, ?_⟩
      replace K := fun i uo z => K i uo ⟨g2_, z⟩
      intro S4 eS4 y3_
      replace h := h S4 eS4 y3_
      replace K := fun i uo z => K i uo ⟨S4, eS4, y3_, z⟩
      intro a5 ea5 
      replace h := h a5 ea5 
      replace K := fun i uo z => K i uo ⟨a5, ea5, z⟩
      exact ih i00 (fun i uo ⟨n8, z⟩ => K (i, n8) uo z) h
set_option maxRecDepth 100000 in
theorem ruJ7_fill_d0a16 {S : MS} {p0 : Nat} {y1 : Int64} {Q : MS → Prop} (h : wJ7_fill_d0a16 S p0 y1 Q) : wJ7_fill_d0a16 S p0 y1 (fun u => Q u ∧ vJ7_fill_d0a16 S p0 y1 u) := by
  have i0 : Unit := ()
  have K : ∀ (i : Unit) (uo : MS), vJ7_fill_d0a16 S p0 y1 uo → vJ7_fill_d0a16 S p0 y1 uo := fun _ _ z => z
  unfold wJ7_fill_d0a16 at h ⊢
  intro a1 ea1 
  replace h := h a1 ea1 
  replace K := fun i uo z => K i uo ⟨a1, ea1, z⟩
  obtain ⟨n9, h⟩ := h
  exact ⟨n9, ru_J7_fill_d0a16_L6 n9 i0 K h⟩
set_option maxRecDepth 100000 in
theorem vw_J7_fill_d0a16_L6 {uo : MS} : ∀ (n : Nat) {U6 : MS} {v6_0 : Nat} {v6_1 : Int64} {v6_3 : Int32} {v6_4 : Int32}, v_J7_fill_d0a16_L6 uo n U6 v6_0 v6_1 v6_3 v6_4 → w_J7_fill_d0a16_L6 (fun u => u = uo) n U6 v6_0 v6_1 v6_3 v6_4 := by
  intro n
  induction n with
  | zero => intro U6 v6_0 v6_1 v6_3 v6_4 h; unfold v_J7_fill_d0a16_L6 at h; exact h.elim
  | succ n ih =>
    intro U6 v6_0 v6_1 v6_3 v6_4 h
    unfold v_J7_fill_d0a16_L6 at h
    unfold w_J7_fill_d0a16_L6
    intro _
    replace h := h.2
    rcases h with ⟨c, h⟩ | ⟨c, h⟩
    · refine ⟨fun _ => ?_, fun c2 => absurd c c2⟩
      exact h.symm
    · refine ⟨fun c2 => absurd c2 c, fun _ => ?_⟩
      obtain ⟨g9, h⟩ := h
      refine ⟨g9, ?_⟩
      obtain ⟨v9, e9, h⟩ := h
      intro x9 d9 _
      have c9 : v9 = x9 := e9.trans d9.symm
      subst c9
      replace h := h.2
      obtain ⟨v9, e9, h⟩ := h
      intro x9 d9 
      have c9 : v9 = x9 := e9.trans d9.symm
      subst c9
      exact ih h
set_option maxRecDepth 100000 in
theorem vp_J7_fill_d0a16_L6 {uo : MS} {P : MS → Prop} : ∀ (n m : Nat) {U6 : MS} {v6_0 : Nat} {v6_1 : Int64} {v6_3 : Int32} {v6_4 : Int32}, v_J7_fill_d0a16_L6 uo n U6 v6_0 v6_1 v6_3 v6_4 → w_J7_fill_d0a16_L6 P m U6 v6_0 v6_1 v6_3 v6_4 → P uo := by
  intro n
  induction n with
  | zero => intro m U6 v6_0 v6_1 v6_3 v6_4 h; unfold v_J7_fill_d0a16_L6 at h; exact h.elim
  | succ n ih =>
    intro m U6 v6_0 v6_1 v6_3 v6_4 h w
    cases m with
    | zero => unfold w_J7_fill_d0a16_L6 at w; exact w.elim
    | succ m =>
      unfold v_J7_fill_d0a16_L6 at h
      unfold w_J7_fill_d0a16_L6 at w
      obtain ⟨y1_, h⟩ := h
      replace w := w y1_
      rcases h with ⟨c, h⟩ | ⟨c, h⟩
      · replace w := w.1 c
        rw [h]
        exact w
      · replace w := w.2 c
        replace h := h.2
        replace w := w.2
        obtain ⟨v9, e9, y2_, h⟩ := h
        replace w := w v9 e9 y2_
        obtain ⟨v9, e9, h⟩ := h
        replace w := w v9 e9 
        exact ih m h w
set_option maxRecDepth 100000 in
theorem vwJ7_fill_d0a16 {S : MS} {p0 : Nat} {y1 : Int64} {uo : MS} (h : vJ7_fill_d0a16 S p0 y1 uo) : wJ7_fill_d0a16 S p0 y1 (fun u => u = uo) := by
  unfold vJ7_fill_d0a16 at h
  unfold wJ7_fill_d0a16
  obtain ⟨v9, e9, h⟩ := h
  intro x9 d9 
  have c9 : v9 = x9 := e9.trans d9.symm
  subst c9
  obtain ⟨n9, h⟩ := h
  exact ⟨n9, vw_J7_fill_d0a16_L6 n9 h⟩
set_option maxRecDepth 100000 in
theorem vpJ7_fill_d0a16 {S : MS} {p0 : Nat} {y1 : Int64} {uo : MS} {P : MS → Prop} (h : vJ7_fill_d0a16 S p0 y1 uo) (w : wJ7_fill_d0a16 S p0 y1 P) : P uo := by
  unfold vJ7_fill_d0a16 at h
  unfold wJ7_fill_d0a16 at w
  obtain ⟨v9, e9, h⟩ := h
  replace w := w v9 e9 
  obtain ⟨n9, h⟩ := h
  obtain ⟨n8, w⟩ := w
  exact vp_J7_fill_d0a16_L6 n9 n8 h w
def vJ7_copyOf_9075b (S : MS) (kd9 : Nat) (p0 : Nat) (x1 : Int32) (ro : Nat) (uo : MS) : Prop := ((x1.toInt = (Int32.ofNat (qN S p0)).toInt ∧ ((qn S + 1 ≤ KCC ∧ qu S + qN S p0 ≤ KSC) ∧ (∃ S13 : MS, S13 = wKC S kd9 p0 (qN S p0) ∧ wfC S13 ∧ (ro = (qn S) ∧ uo = S13)))) ∨ (¬ x1.toInt = (Int32.ofNat (qN S p0)).toInt ∧ (((0 : Int) ≤ x1.toInt ∧ (qn S + 1 ≤ KCC ∧ qu S + x1.toInt.toNat ≤ KSC)) ∧ (∃ S5 : MS, S5 = wN S kd9 x1.toInt.toNat x1.toInt.toNat ∧ wfC S5 ∧ ((¬ (0 : Int32) < 0 ∧ ¬ (0 : Int32) < 0 ∧ ¬ (if x1 < (Int32.ofNat (qN S5 p0)) then x1 else (Int32.ofNat (qN S5 p0))) < 0 ∧ (0 : Int32).toNatClampNeg + (if x1 < (Int32.ofNat (qN S5 p0)) then x1 else (Int32.ofNat (qN S5 p0))).toNatClampNeg ≤ qN S5 p0 ∧ (0 : Int32).toNatClampNeg + (if x1 < (Int32.ofNat (qN S5 p0)) then x1 else (Int32.ofNat (qN S5 p0))).toNatClampNeg ≤ qN S5 (qn S)) ∧ (∃ S9 : MS, S9 = wC S5 (qn S) (va_cpy (qI S5 p0) (qI S5 (qn S)) (0 : Int32).toNatClampNeg (0 : Int32).toNatClampNeg (if x1 < (Int32.ofNat (qN S5 p0)) then x1 else (Int32.ofNat (qN S5 p0))).toNatClampNeg) ∧ qT S5 (qn S) = kd9 ∧ wfC S9 ∧ (ro = (qn S) ∧ uo = S9)))))))
set_option maxRecDepth 100000 in
theorem ruJ7_copyOf_9075b {S : MS} {kd9 : Nat} {p0 : Nat} {x1 : Int32} {Q : Nat → MS → Prop} (h : wJ7_copyOf_9075b S kd9 p0 x1 Q) : wJ7_copyOf_9075b S kd9 p0 x1 (fun r u => Q r u ∧ vJ7_copyOf_9075b S kd9 p0 x1 r u) := by
  have i0 : Unit := ()
  have K : ∀ (i : Unit) (ro : Nat) (uo : MS), vJ7_copyOf_9075b S kd9 p0 x1 ro uo → vJ7_copyOf_9075b S kd9 p0 x1 ro uo := fun _ _ _ z => z
  unfold wJ7_copyOf_9075b at h ⊢
  refine ⟨fun c => ?_, fun c => ?_⟩
  · replace h := h.1 c
    replace K := fun i ro uo z => K i ro uo (Or.inl ⟨c, z⟩)
    obtain ⟨g1_, h⟩ := h
    refine ⟨g1_, ?_⟩
    replace K := fun i ro uo z => K i ro uo ⟨g1_, z⟩
    intro S13 eS13 y2_
    replace h := h S13 eS13 y2_
    replace K := fun i ro uo z => K i ro uo ⟨S13, eS13, y2_, z⟩
    exact ⟨h, K i0 _ _ ⟨rfl, rfl⟩⟩
  · replace h := h.2 c
    replace K := fun i ro uo z => K i ro uo (Or.inr ⟨c, z⟩)
    obtain ⟨g3_, h⟩ := h
    refine ⟨g3_, ?_⟩
    replace K := fun i ro uo z => K i ro uo ⟨g3_, z⟩
    intro S5 eS5 y4_
    replace h := h S5 eS5 y4_
    replace K := fun i ro uo z => K i ro uo ⟨S5, eS5, y4_, z⟩
    obtain ⟨g5_, h⟩ := h
    refine ⟨g5_, ?_⟩
    replace K := fun i ro uo z => K i ro uo ⟨g5_, z⟩
    intro S9 eS9 y6_ y7_
    replace h := h S9 eS9 y6_ y7_
    replace K := fun i ro uo z => K i ro uo ⟨S9, eS9, y6_, y7_, z⟩
    exact ⟨h, K i0 _ _ ⟨rfl, rfl⟩⟩
set_option maxRecDepth 100000 in
theorem vwJ7_copyOf_9075b {S : MS} {kd9 : Nat} {p0 : Nat} {x1 : Int32} {ro : Nat} {uo : MS} (h : vJ7_copyOf_9075b S kd9 p0 x1 ro uo) : wJ7_copyOf_9075b S kd9 p0 x1 (fun r u => r = ro ∧ u = uo) := by
  unfold vJ7_copyOf_9075b at h
  unfold wJ7_copyOf_9075b
  rcases h with ⟨c, h⟩ | ⟨c, h⟩
  · refine ⟨fun _ => ?_, fun c2 => absurd c c2⟩
    obtain ⟨g9, h⟩ := h
    refine ⟨g9, ?_⟩
    obtain ⟨v9, e9, h⟩ := h
    intro x9 d9 _
    have c9 : v9 = x9 := e9.trans d9.symm
    subst c9
    replace h := h.2
    exact ⟨h.1.symm, h.2.symm⟩
  · refine ⟨fun c2 => absurd c2 c, fun _ => ?_⟩
    obtain ⟨g9, h⟩ := h
    refine ⟨g9, ?_⟩
    obtain ⟨v9, e9, h⟩ := h
    intro x9 d9 _
    have c9 : v9 = x9 := e9.trans d9.symm
    subst c9
    replace h := h.2
    obtain ⟨g9, h⟩ := h
    refine ⟨g9, ?_⟩
    obtain ⟨v9, e9, h⟩ := h
    intro x9 d9 _ _
    have c9 : v9 = x9 := e9.trans d9.symm
    subst c9
    replace h := h.2.2
    exact ⟨h.1.symm, h.2.symm⟩
set_option maxRecDepth 100000 in
theorem vpJ7_copyOf_9075b {S : MS} {kd9 : Nat} {p0 : Nat} {x1 : Int32} {ro : Nat} {uo : MS} {P : Nat → MS → Prop} (h : vJ7_copyOf_9075b S kd9 p0 x1 ro uo) (w : wJ7_copyOf_9075b S kd9 p0 x1 P) : P ro uo := by
  unfold vJ7_copyOf_9075b at h
  unfold wJ7_copyOf_9075b at w
  rcases h with ⟨c, h⟩ | ⟨c, h⟩
  · replace w := w.1 c
    replace h := h.2
    replace w := w.2
    obtain ⟨v9, e9, y1_, h⟩ := h
    replace w := w v9 e9 y1_
    rw [h.1, h.2]
    exact w
  · replace w := w.2 c
    replace h := h.2
    replace w := w.2
    obtain ⟨v9, e9, y2_, h⟩ := h
    replace w := w v9 e9 y2_
    replace h := h.2
    replace w := w.2
    obtain ⟨v9, e9, y3_, y4_, h⟩ := h
    replace w := w v9 e9 y3_ y4_
    rw [h.1, h.2]
    exact w
def vJ7_copyOf_59c91 (S : MS) (kd9 : Nat) (p0 : Nat) (x1 : Int32) (ro : Nat) (uo : MS) : Prop := ((x1.toInt = (Int32.ofNat (qN S p0)).toInt ∧ False) ∨ (¬ x1.toInt = (Int32.ofNat (qN S p0)).toInt ∧ (((0 : Int) ≤ x1.toInt ∧ (qn S + 1 ≤ KCC ∧ qu S + x1.toInt.toNat ≤ KSC)) ∧ (∃ S5 : MS, S5 = wN S kd9 x1.toInt.toNat x1.toInt.toNat ∧ wfC S5 ∧ ((¬ (0 : Int32) < 0 ∧ ¬ (0 : Int32) < 0 ∧ ¬ (if x1 < (Int32.ofNat (qN S5 p0)) then x1 else (Int32.ofNat (qN S5 p0))) < 0 ∧ (0 : Int32).toNatClampNeg + (if x1 < (Int32.ofNat (qN S5 p0)) then x1 else (Int32.ofNat (qN S5 p0))).toNatClampNeg ≤ qN S5 p0 ∧ (0 : Int32).toNatClampNeg + (if x1 < (Int32.ofNat (qN S5 p0)) then x1 else (Int32.ofNat (qN S5 p0))).toNatClampNeg ≤ qN S5 (qn S)) ∧ (∃ S9 : MS, S9 = wC S5 (qn S) (va_cpy (qI S5 p0) (qI S5 (qn S)) (0 : Int32).toNatClampNeg (0 : Int32).toNatClampNeg (if x1 < (Int32.ofNat (qN S5 p0)) then x1 else (Int32.ofNat (qN S5 p0))).toNatClampNeg) ∧ qT S5 (qn S) = kd9 ∧ wfC S9 ∧ (ro = (qn S) ∧ uo = S9)))))))
set_option maxRecDepth 100000 in
theorem ruJ7_copyOf_59c91 {S : MS} {kd9 : Nat} {p0 : Nat} {x1 : Int32} {Q : Nat → MS → Prop} (h : wJ7_copyOf_59c91 S kd9 p0 x1 Q) : wJ7_copyOf_59c91 S kd9 p0 x1 (fun r u => Q r u ∧ vJ7_copyOf_59c91 S kd9 p0 x1 r u) := by
  have i0 : Unit := ()
  have K : ∀ (i : Unit) (ro : Nat) (uo : MS), vJ7_copyOf_59c91 S kd9 p0 x1 ro uo → vJ7_copyOf_59c91 S kd9 p0 x1 ro uo := fun _ _ _ z => z
  unfold wJ7_copyOf_59c91 at h ⊢
  refine ⟨fun c => ?_, fun c => ?_⟩
  · replace h := h.1 c
    replace K := fun i ro uo z => K i ro uo (Or.inl ⟨c, z⟩)
    exact h.elim
  · replace h := h.2 c
    replace K := fun i ro uo z => K i ro uo (Or.inr ⟨c, z⟩)
    obtain ⟨g1_, h⟩ := h
    refine ⟨g1_, ?_⟩
    replace K := fun i ro uo z => K i ro uo ⟨g1_, z⟩
    intro S5 eS5 y2_
    replace h := h S5 eS5 y2_
    replace K := fun i ro uo z => K i ro uo ⟨S5, eS5, y2_, z⟩
    obtain ⟨g3_, h⟩ := h
    refine ⟨g3_, ?_⟩
    replace K := fun i ro uo z => K i ro uo ⟨g3_, z⟩
    intro S9 eS9 y4_ y5_
    replace h := h S9 eS9 y4_ y5_
    replace K := fun i ro uo z => K i ro uo ⟨S9, eS9, y4_, y5_, z⟩
    exact ⟨h, K i0 _ _ ⟨rfl, rfl⟩⟩
set_option maxRecDepth 100000 in
theorem vwJ7_copyOf_59c91 {S : MS} {kd9 : Nat} {p0 : Nat} {x1 : Int32} {ro : Nat} {uo : MS} (h : vJ7_copyOf_59c91 S kd9 p0 x1 ro uo) : wJ7_copyOf_59c91 S kd9 p0 x1 (fun r u => r = ro ∧ u = uo) := by
  unfold vJ7_copyOf_59c91 at h
  unfold wJ7_copyOf_59c91
  rcases h with ⟨c, h⟩ | ⟨c, h⟩
  · refine ⟨fun _ => ?_, fun c2 => absurd c c2⟩
    exact h.elim
  · refine ⟨fun c2 => absurd c2 c, fun _ => ?_⟩
    obtain ⟨g9, h⟩ := h
    refine ⟨g9, ?_⟩
    obtain ⟨v9, e9, h⟩ := h
    intro x9 d9 _
    have c9 : v9 = x9 := e9.trans d9.symm
    subst c9
    replace h := h.2
    obtain ⟨g9, h⟩ := h
    refine ⟨g9, ?_⟩
    obtain ⟨v9, e9, h⟩ := h
    intro x9 d9 _ _
    have c9 : v9 = x9 := e9.trans d9.symm
    subst c9
    replace h := h.2.2
    exact ⟨h.1.symm, h.2.symm⟩
set_option maxRecDepth 100000 in
theorem vpJ7_copyOf_59c91 {S : MS} {kd9 : Nat} {p0 : Nat} {x1 : Int32} {ro : Nat} {uo : MS} {P : Nat → MS → Prop} (h : vJ7_copyOf_59c91 S kd9 p0 x1 ro uo) (w : wJ7_copyOf_59c91 S kd9 p0 x1 P) : P ro uo := by
  unfold vJ7_copyOf_59c91 at h
  unfold wJ7_copyOf_59c91 at w
  rcases h with ⟨c, h⟩ | ⟨c, h⟩
  · replace w := w.1 c
    exact h.elim
  · replace w := w.2 c
    replace h := h.2
    replace w := w.2
    obtain ⟨v9, e9, y1_, h⟩ := h
    replace w := w v9 e9 y1_
    replace h := h.2
    replace w := w.2
    obtain ⟨v9, e9, y2_, y3_, h⟩ := h
    replace w := w v9 e9 y2_ y3_
    rw [h.1, h.2]
    exact w
def v_X0_put_J30 (uo : MS) (U30 : MS) (v30_0 : Nat) (v30_1 : Int32) : Prop := (wfC U30 ∧ qT U30 v30_0 = 40 ∧ ((qR U30 v30_0 0 = some (qO U30 v30_0 0)) ∧ (((0 : Int) ≤ (qI U30 v30_0 1).toInt ∧ (qI U30 v30_0 1).toInt < (qN U30 (qO U30 v30_0 0) : Int)) ∧ (∃ S7 : MS, S7 = wI U30 (qO U30 v30_0 0) (((qI U30 v30_0 1).toInt).toNat) (vp_nar .byte (v30_1.toInt8.toInt32)) ∧ qT U30 (qO U30 v30_0 0) = 101 ∧ wfC S7 ∧ (∃ S9 : MS, S9 = wI S7 v30_0 1 ((qI S7 v30_0 1) + (1 : Int32)) ∧ qT S7 v30_0 = 40 ∧ wfC S9 ∧ (uo = S9))))))
def vX0_put (S : MS) (p0 : Nat) (x1 : Int32) (uo : MS) : Prop := ((qR S p0 0 = some (qO S p0 0)) ∧ (((qI S p0 1).toInt < (qN S (qO S p0 0) : Int) ∧ (v_X0_put_J30 uo S p0 x1)) ∨ (¬ (qI S p0 1).toInt < (qN S (qO S p0 0) : Int) ∧ ((qR S p0 0 = some (qO S p0 0)) ∧ ((qR S p0 0 = some (qO S p0 0)) ∧ (qT S (qO S p0 0) = 101 ∧ (∃ (b22 : Nat) (S19 : MS), vJ7_copyOf_9075b S 101 (qO S p0 0) ((2 : Int32) * (Int32.ofNat (qN S (qO S p0 0)))) b22 S19 ∧ wfC S19 ∧ shx S S19 ∧ qT S19 b22 = 101 ∧ (∃ S23 : MS, S23 = wR S19 p0 0 (some b22) ∧ qT S19 p0 = 40 ∧ wfC S23 ∧ (v_X0_put_J30 uo S23 p0 x1)))))))))
set_option maxRecDepth 100000 in
theorem ru_X0_put_J30 {ι : Type} {P Q : MS → Prop} {U30 : MS} {v30_0 : Nat} {v30_1 : Int32} (i0 : ι) (K : ∀ (i : ι) (uo : MS), v_X0_put_J30 uo U30 v30_0 v30_1 → P uo) (h : w_X0_put_J30 Q U30 v30_0 v30_1) : w_X0_put_J30 (fun u => Q u ∧ P u) U30 v30_0 v30_1 := by
  unfold w_X0_put_J30 at h ⊢
  intro y1_ y2_
  replace h := h y1_ y2_
  replace K := fun i uo z => K i uo ⟨y1_, y2_, z⟩
  obtain ⟨g3_, h⟩ := h
  refine ⟨g3_, ?_⟩
  replace K := fun i uo z => K i uo ⟨g3_, z⟩
  obtain ⟨g4_, h⟩ := h
  refine ⟨g4_, ?_⟩
  replace K := fun i uo z => K i uo ⟨g4_, z⟩
  intro S7 eS7 y5_ y6_
  replace h := h S7 eS7 y5_ y6_
  replace K := fun i uo z => K i uo ⟨S7, eS7, y5_, y6_, z⟩
  intro S9 eS9 y7_ y8_
  replace h := h S9 eS9 y7_ y8_
  replace K := fun i uo z => K i uo ⟨S9, eS9, y7_, y8_, z⟩
  exact ⟨h, K i0 _ rfl⟩
set_option maxRecDepth 100000 in
theorem ruX0_put {S : MS} {p0 : Nat} {x1 : Int32} {Q : MS → Prop} (h : wX0_put S p0 x1 Q) : wX0_put S p0 x1 (fun u => Q u ∧ vX0_put S p0 x1 u) := by
  have i0 : Unit := ()
  have K : ∀ (i : Unit) (uo : MS), vX0_put S p0 x1 uo → vX0_put S p0 x1 uo := fun _ _ z => z
  unfold wX0_put at h ⊢
  obtain ⟨g9_, h⟩ := h
  refine ⟨g9_, ?_⟩
  replace K := fun i uo z => K i uo ⟨g9_, z⟩
  refine ⟨fun c => ?_, fun c => ?_⟩
  · replace h := h.1 c
    replace K := fun i uo z => K i uo (Or.inl ⟨c, z⟩)
    exact ru_X0_put_J30 i0 K h
  · replace h := h.2 c
    replace K := fun i uo z => K i uo (Or.inr ⟨c, z⟩)
    obtain ⟨g10_, h⟩ := h
    refine ⟨g10_, ?_⟩
    replace K := fun i uo z => K i uo ⟨g10_, z⟩
    obtain ⟨g11_, h⟩ := h
    refine ⟨g11_, ?_⟩
    replace K := fun i uo z => K i uo ⟨g11_, z⟩
    intro y12_
    replace h := h y12_
    replace K := fun i uo z => K i uo ⟨y12_, z⟩
    obtain ⟨Q9, h0, h⟩ := h
    refine ⟨_, ruJ7_copyOf_9075b h0, ?_⟩
    intro b22 S19 q13_ y14_ y15_ y16_
    replace h := h b22 S19 q13_.1 y14_ y15_ y16_
    replace K := fun i uo z => K i uo ⟨b22, S19, q13_.2, y14_, y15_, y16_, z⟩
    intro S23 eS23 y17_ y18_
    replace h := h S23 eS23 y17_ y18_
    replace K := fun i uo z => K i uo ⟨S23, eS23, y17_, y18_, z⟩
    exact ru_X0_put_J30 i0 K h
set_option maxRecDepth 100000 in
theorem vw_X0_put_J30 {uo : MS} {U30 : MS} {v30_0 : Nat} {v30_1 : Int32} (h : v_X0_put_J30 uo U30 v30_0 v30_1) : w_X0_put_J30 (fun u => u = uo) U30 v30_0 v30_1 := by
  unfold v_X0_put_J30 at h
  unfold w_X0_put_J30
  intro _ _
  replace h := h.2.2
  obtain ⟨g9, h⟩ := h
  refine ⟨g9, ?_⟩
  obtain ⟨g9, h⟩ := h
  refine ⟨g9, ?_⟩
  obtain ⟨v9, e9, h⟩ := h
  intro x9 d9 _ _
  have c9 : v9 = x9 := e9.trans d9.symm
  subst c9
  replace h := h.2.2
  obtain ⟨v9, e9, h⟩ := h
  intro x9 d9 _ _
  have c9 : v9 = x9 := e9.trans d9.symm
  subst c9
  replace h := h.2.2
  exact h.symm
set_option maxRecDepth 100000 in
theorem vp_X0_put_J30 {uo : MS} {P : MS → Prop} {U30 : MS} {v30_0 : Nat} {v30_1 : Int32} (h : v_X0_put_J30 uo U30 v30_0 v30_1) (w : w_X0_put_J30 P U30 v30_0 v30_1) : P uo := by
  unfold v_X0_put_J30 at h
  unfold w_X0_put_J30 at w
  obtain ⟨y1_, y2_, h⟩ := h
  replace w := w y1_ y2_
  replace h := h.2
  replace w := w.2
  replace h := h.2
  replace w := w.2
  obtain ⟨v9, e9, y3_, y4_, h⟩ := h
  replace w := w v9 e9 y3_ y4_
  obtain ⟨v9, e9, y5_, y6_, h⟩ := h
  replace w := w v9 e9 y5_ y6_
  rw [h]
  exact w
set_option maxRecDepth 100000 in
theorem vwX0_put {S : MS} {p0 : Nat} {x1 : Int32} {uo : MS} (h : vX0_put S p0 x1 uo) : wX0_put S p0 x1 (fun u => u = uo) := by
  unfold vX0_put at h
  unfold wX0_put
  obtain ⟨g9, h⟩ := h
  refine ⟨g9, ?_⟩
  rcases h with ⟨c, h⟩ | ⟨c, h⟩
  · refine ⟨fun _ => ?_, fun c2 => absurd c c2⟩
    exact vw_X0_put_J30 h
  · refine ⟨fun c2 => absurd c2 c, fun _ => ?_⟩
    obtain ⟨g9, h⟩ := h
    refine ⟨g9, ?_⟩
    obtain ⟨g9, h⟩ := h
    refine ⟨g9, ?_⟩
    intro _
    replace h := h.2
    obtain ⟨p9, q9, z9, h⟩ := h
    refine ⟨_, vwJ7_copyOf_9075b z9, ?_⟩
    rintro p8 q8 ⟨d8, d9⟩ _ _ _
    subst d8
    subst d9
    replace h := h.2.2.2
    obtain ⟨v9, e9, h⟩ := h
    intro x9 d9 _ _
    have c9 : v9 = x9 := e9.trans d9.symm
    subst c9
    replace h := h.2.2
    exact vw_X0_put_J30 h
set_option maxRecDepth 100000 in
theorem vpX0_put {S : MS} {p0 : Nat} {x1 : Int32} {uo : MS} {P : MS → Prop} (h : vX0_put S p0 x1 uo) (w : wX0_put S p0 x1 P) : P uo := by
  unfold vX0_put at h
  unfold wX0_put at w
  replace h := h.2
  replace w := w.2
  rcases h with ⟨c, h⟩ | ⟨c, h⟩
  · replace w := w.1 c
    exact vp_X0_put_J30 h w
  · replace w := w.2 c
    replace h := h.2
    replace w := w.2
    replace h := h.2
    replace w := w.2
    obtain ⟨y7_, h⟩ := h
    replace w := w y7_
    obtain ⟨p9, q9, z9, y8_, y9_, y10_, h⟩ := h
    obtain ⟨Q9, w0, w⟩ := w
    replace w := w p9 q9 (vpJ7_copyOf_9075b z9 w0) y8_ y9_ y10_
    obtain ⟨v9, e9, y11_, y12_, h⟩ := h
    replace w := w v9 e9 y11_ y12_
    exact vp_X0_put_J30 h w
def vX0_put2 (S : MS) (p0 : Nat) (x1 : Int32) (uo : MS) : Prop := (qT S p0 = 40 ∧ (∃ (S3 : MS), vX0_put S p0 (x1 >>> ((8 : Int32) &&& 31)) S3 ∧ wfC S3 ∧ shx S S3 ∧ (qT S3 p0 = 40 ∧ (∃ (S7 : MS), vX0_put S3 p0 x1 S7 ∧ wfC S7 ∧ shx S3 S7 ∧ (uo = S7)))))
set_option maxRecDepth 100000 in
theorem ruX0_put2 {S : MS} {p0 : Nat} {x1 : Int32} {Q : MS → Prop} (h : wX0_put2 S p0 x1 Q) : wX0_put2 S p0 x1 (fun u => Q u ∧ vX0_put2 S p0 x1 u) := by
  have i0 : Unit := ()
  have K : ∀ (i : Unit) (uo : MS), vX0_put2 S p0 x1 uo → vX0_put2 S p0 x1 uo := fun _ _ z => z
  unfold wX0_put2 at h ⊢
  intro y1_
  replace h := h y1_
  replace K := fun i uo z => K i uo ⟨y1_, z⟩
  obtain ⟨Q9, h0, h⟩ := h
  refine ⟨_, ruX0_put h0, ?_⟩
  intro S3 q2_ y3_ y4_
  replace h := h S3 q2_.1 y3_ y4_
  replace K := fun i uo z => K i uo ⟨S3, q2_.2, y3_, y4_, z⟩
  intro y5_
  replace h := h y5_
  replace K := fun i uo z => K i uo ⟨y5_, z⟩
  obtain ⟨Q9, h0, h⟩ := h
  refine ⟨_, ruX0_put h0, ?_⟩
  intro S7 q6_ y7_ y8_
  replace h := h S7 q6_.1 y7_ y8_
  replace K := fun i uo z => K i uo ⟨S7, q6_.2, y7_, y8_, z⟩
  exact ⟨h, K i0 _ rfl⟩
set_option maxRecDepth 100000 in
theorem vwX0_put2 {S : MS} {p0 : Nat} {x1 : Int32} {uo : MS} (h : vX0_put2 S p0 x1 uo) : wX0_put2 S p0 x1 (fun u => u = uo) := by
  unfold vX0_put2 at h
  unfold wX0_put2
  intro _
  replace h := h.2
  obtain ⟨q9, z9, h⟩ := h
  refine ⟨_, vwX0_put z9, ?_⟩
  intro q8 d9 _ _
  subst d9
  replace h := h.2.2
  intro _
  replace h := h.2
  obtain ⟨q9, z9, h⟩ := h
  refine ⟨_, vwX0_put z9, ?_⟩
  intro q8 d9 _ _
  subst d9
  replace h := h.2.2
  exact h.symm
set_option maxRecDepth 100000 in
theorem vpX0_put2 {S : MS} {p0 : Nat} {x1 : Int32} {uo : MS} {P : MS → Prop} (h : vX0_put2 S p0 x1 uo) (w : wX0_put2 S p0 x1 P) : P uo := by
  unfold vX0_put2 at h
  unfold wX0_put2 at w
  obtain ⟨y1_, h⟩ := h
  replace w := w y1_
  obtain ⟨q9, z9, y2_, y3_, h⟩ := h
  obtain ⟨Q9, w0, w⟩ := w
  replace w := w q9 (vpX0_put z9 w0) y2_ y3_
  obtain ⟨y4_, h⟩ := h
  replace w := w y4_
  obtain ⟨q9, z9, y5_, y6_, h⟩ := h
  obtain ⟨Q9, w0, w⟩ := w
  replace w := w q9 (vpX0_put z9 w0) y5_ y6_
  rw [h]
  exact w
def vX0_put4 (S : MS) (p0 : Nat) (x1 : Int32) (uo : MS) : Prop := (qT S p0 = 40 ∧ (∃ (S3 : MS), vX0_put2 S p0 (x1 >>> ((16 : Int32) &&& 31)) S3 ∧ wfC S3 ∧ shx S S3 ∧ (qT S3 p0 = 40 ∧ (∃ (S7 : MS), vX0_put2 S3 p0 x1 S7 ∧ wfC S7 ∧ shx S3 S7 ∧ (uo = S7)))))
set_option maxRecDepth 100000 in
theorem ruX0_put4 {S : MS} {p0 : Nat} {x1 : Int32} {Q : MS → Prop} (h : wX0_put4 S p0 x1 Q) : wX0_put4 S p0 x1 (fun u => Q u ∧ vX0_put4 S p0 x1 u) := by
  have i0 : Unit := ()
  have K : ∀ (i : Unit) (uo : MS), vX0_put4 S p0 x1 uo → vX0_put4 S p0 x1 uo := fun _ _ z => z
  unfold wX0_put4 at h ⊢
  intro y1_
  replace h := h y1_
  replace K := fun i uo z => K i uo ⟨y1_, z⟩
  obtain ⟨Q9, h0, h⟩ := h
  refine ⟨_, ruX0_put2 h0, ?_⟩
  intro S3 q2_ y3_ y4_
  replace h := h S3 q2_.1 y3_ y4_
  replace K := fun i uo z => K i uo ⟨S3, q2_.2, y3_, y4_, z⟩
  intro y5_
  replace h := h y5_
  replace K := fun i uo z => K i uo ⟨y5_, z⟩
  obtain ⟨Q9, h0, h⟩ := h
  refine ⟨_, ruX0_put2 h0, ?_⟩
  intro S7 q6_ y7_ y8_
  replace h := h S7 q6_.1 y7_ y8_
  replace K := fun i uo z => K i uo ⟨S7, q6_.2, y7_, y8_, z⟩
  exact ⟨h, K i0 _ rfl⟩
set_option maxRecDepth 100000 in
theorem vwX0_put4 {S : MS} {p0 : Nat} {x1 : Int32} {uo : MS} (h : vX0_put4 S p0 x1 uo) : wX0_put4 S p0 x1 (fun u => u = uo) := by
  unfold vX0_put4 at h
  unfold wX0_put4
  intro _
  replace h := h.2
  obtain ⟨q9, z9, h⟩ := h
  refine ⟨_, vwX0_put2 z9, ?_⟩
  intro q8 d9 _ _
  subst d9
  replace h := h.2.2
  intro _
  replace h := h.2
  obtain ⟨q9, z9, h⟩ := h
  refine ⟨_, vwX0_put2 z9, ?_⟩
  intro q8 d9 _ _
  subst d9
  replace h := h.2.2
  exact h.symm
set_option maxRecDepth 100000 in
theorem vpX0_put4 {S : MS} {p0 : Nat} {x1 : Int32} {uo : MS} {P : MS → Prop} (h : vX0_put4 S p0 x1 uo) (w : wX0_put4 S p0 x1 P) : P uo := by
  unfold vX0_put4 at h
  unfold wX0_put4 at w
  obtain ⟨y1_, h⟩ := h
  replace w := w y1_
  obtain ⟨q9, z9, y2_, y3_, h⟩ := h
  obtain ⟨Q9, w0, w⟩ := w
  replace w := w q9 (vpX0_put2 z9 w0) y2_ y3_
  obtain ⟨y4_, h⟩ := h
  replace w := w y4_
  obtain ⟨q9, z9, y5_, y6_, h⟩ := h
  obtain ⟨Q9, w0, w⟩ := w
  replace w := w q9 (vpX0_put2 z9 w0) y5_ y6_
  rw [h]
  exact w
def v_X0_putAll_J58 (uo : MS) (U58 : MS) (v58_0 : Nat) (v58_1 : Nat) : Prop := (wfC U58 ∧ qT U58 v58_0 = 40 ∧ qT U58 v58_1 = 40 ∧ ((qR U58 v58_1 0 = some (qO U58 v58_1 0)) ∧ ((qR U58 v58_0 0 = some (qO U58 v58_0 0)) ∧ ((¬ (0 : Int32) < 0 ∧ ¬ (qI U58 v58_0 1) < 0 ∧ ¬ (qI U58 v58_1 1) < 0 ∧ (0 : Int32).toNatClampNeg + (qI U58 v58_1 1).toNatClampNeg ≤ qN U58 (qO U58 v58_1 0) ∧ (qI U58 v58_0 1).toNatClampNeg + (qI U58 v58_1 1).toNatClampNeg ≤ qN U58 (qO U58 v58_0 0)) ∧ (∃ S14 : MS, S14 = wC U58 (qO U58 v58_0 0) (va_cpy (qI U58 (qO U58 v58_1 0)) (qI U58 (qO U58 v58_0 0)) (0 : Int32).toNatClampNeg (qI U58 v58_0 1).toNatClampNeg (qI U58 v58_1 1).toNatClampNeg) ∧ qT U58 (qO U58 v58_0 0) = 101 ∧ wfC S14 ∧ (∃ S16 : MS, S16 = wI S14 v58_0 1 ((qI S14 v58_0 1) + (qI S14 v58_1 1)) ∧ qT S14 v58_0 = 40 ∧ wfC S16 ∧ (uo = S16)))))))
def v_X0_putAll_J37 (uo : MS) (U37 : MS) (v37_0 : Nat) (v37_1 : Nat) (v37_2 : Int32) : Prop := (wfC U37 ∧ qT U37 v37_0 = 40 ∧ qT U37 v37_1 = 40 ∧ ((qR U37 v37_0 0 = some (qO U37 v37_0 0)) ∧ ((v37_2.toInt ≤ (qN U37 (qO U37 v37_0 0) : Int) ∧ (v_X0_putAll_J58 uo U37 v37_0 v37_1)) ∨ (¬ v37_2.toInt ≤ (qN U37 (qO U37 v37_0 0) : Int) ∧ ((qR U37 v37_0 0 = some (qO U37 v37_0 0)) ∧ (qT U37 (qO U37 v37_0 0) = 101 ∧ (∃ (b25 : Nat) (S22 : MS), vJ7_copyOf_9075b U37 101 (qO U37 v37_0 0) v37_2 b25 S22 ∧ wfC S22 ∧ shx U37 S22 ∧ qT S22 b25 = 101 ∧ (∃ S26 : MS, S26 = wR S22 v37_0 0 (some b25) ∧ qT S22 v37_0 = 40 ∧ wfC S26 ∧ (v_X0_putAll_J58 uo S26 v37_0 v37_1)))))))))
def v_X0_putAll_L8 (uo : MS) : Nat → MS → Nat → Nat → Int32 → Int32 → Prop
  | 0, _, _, _, _, _ => False
  | n8 + 1, U8, v8_0, v8_1, v8_2, v8_3 => (wfC U8 ∧ qT U8 v8_0 = 40 ∧ qT U8 v8_1 = 40 ∧ ((((qI U8 v8_0 1) + (qI U8 v8_1 1)).toInt ≤ v8_2.toInt ∧ (v_X0_putAll_J37 uo U8 v8_0 v8_1 v8_2)) ∨ (¬ ((qI U8 v8_0 1) + (qI U8 v8_1 1)).toInt ≤ v8_2.toInt ∧ ((31 ≤ v8_3.toInt ∧ (v_X0_putAll_J37 uo U8 v8_0 v8_1 v8_2)) ∨ (¬ 31 ≤ v8_3.toInt ∧ (∃ a30 : Int32, a30 = (v8_2 * (2 : Int32)) ∧ (∃ a31 : Int32, a31 = (v8_3 + Int32.ofInt 1) ∧ ((v_X0_putAll_L8 uo n8) U8 v8_0 v8_1 a30 a31))))))))
def vX0_putAll (S : MS) (p0 : Nat) (p1 : Nat) (uo : MS) : Prop := ((qR S p0 0 = some (qO S p0 0)) ∧ (∃ a4 : Int32, a4 = (Int32.ofNat (qN S (qO S p0 0))) ∧ (∃ n, v_X0_putAll_L8 uo n S p0 p1 a4 0)))
set_option maxRecDepth 100000 in
theorem ru_X0_putAll_J58 {ι : Type} {P Q : MS → Prop} {U58 : MS} {v58_0 : Nat} {v58_1 : Nat} (i0 : ι) (K : ∀ (i : ι) (uo : MS), v_X0_putAll_J58 uo U58 v58_0 v58_1 → P uo) (h : w_X0_putAll_J58 Q U58 v58_0 v58_1) : w_X0_putAll_J58 (fun u => Q u ∧ P u) U58 v58_0 v58_1 := by
  unfold w_X0_putAll_J58 at h ⊢
  intro y1_ y2_ y3_
  replace h := h y1_ y2_ y3_
  replace K := fun i uo z => K i uo ⟨y1_, y2_, y3_, z⟩
  obtain ⟨g4_, h⟩ := h
  refine ⟨g4_, ?_⟩
  replace K := fun i uo z => K i uo ⟨g4_, z⟩
  obtain ⟨g5_, h⟩ := h
  refine ⟨g5_, ?_⟩
  replace K := fun i uo z => K i uo ⟨g5_, z⟩
  obtain ⟨g6_, h⟩ := h
  refine ⟨g6_, ?_⟩
  replace K := fun i uo z => K i uo ⟨g6_, z⟩
  intro S14 eS14 y7_ y8_
  replace h := h S14 eS14 y7_ y8_
  replace K := fun i uo z => K i uo ⟨S14, eS14, y7_, y8_, z⟩
  intro S16 eS16 y9_ y10_
  replace h := h S16 eS16 y9_ y10_
  replace K := fun i uo z => K i uo ⟨S16, eS16, y9_, y10_, z⟩
  exact ⟨h, K i0 _ rfl⟩
set_option maxRecDepth 100000 in
theorem ru_X0_putAll_J37 {ι : Type} {P Q : MS → Prop} {U37 : MS} {v37_0 : Nat} {v37_1 : Nat} {v37_2 : Int32} (i0 : ι) (K : ∀ (i : ι) (uo : MS), v_X0_putAll_J37 uo U37 v37_0 v37_1 v37_2 → P uo) (h : w_X0_putAll_J37 Q U37 v37_0 v37_1 v37_2) : w_X0_putAll_J37 (fun u => Q u ∧ P u) U37 v37_0 v37_1 v37_2 := by
  unfold w_X0_putAll_J37 at h ⊢
  intro y11_ y12_ y13_
  replace h := h y11_ y12_ y13_
  replace K := fun i uo z => K i uo ⟨y11_, y12_, y13_, z⟩
  obtain ⟨g14_, h⟩ := h
  refine ⟨g14_, ?_⟩
  replace K := fun i uo z => K i uo ⟨g14_, z⟩
  refine ⟨fun c => ?_, fun c => ?_⟩
  · replace h := h.1 c
    replace K := fun i uo z => K i uo (Or.inl ⟨c, z⟩)
    exact ru_X0_putAll_J58 i0 K h
  · replace h := h.2 c
    replace K := fun i uo z => K i uo (Or.inr ⟨c, z⟩)
    obtain ⟨g15_, h⟩ := h
    refine ⟨g15_, ?_⟩
    replace K := fun i uo z => K i uo ⟨g15_, z⟩
    intro y16_
    replace h := h y16_
    replace K := fun i uo z => K i uo ⟨y16_, z⟩
    obtain ⟨Q9, h0, h⟩ := h
    refine ⟨_, ruJ7_copyOf_9075b h0, ?_⟩
    intro b25 S22 q17_ y18_ y19_ y20_
    replace h := h b25 S22 q17_.1 y18_ y19_ y20_
    replace K := fun i uo z => K i uo ⟨b25, S22, q17_.2, y18_, y19_, y20_, z⟩
    intro S26 eS26 y21_ y22_
    replace h := h S26 eS26 y21_ y22_
    replace K := fun i uo z => K i uo ⟨S26, eS26, y21_, y22_, z⟩
    exact ru_X0_putAll_J58 i0 K h
set_option maxRecDepth 100000 in
theorem ru_X0_putAll_L8 {ι : Type} {P Q : MS → Prop} : ∀ (n : Nat) {U8 : MS} {v8_0 : Nat} {v8_1 : Nat} {v8_2 : Int32} {v8_3 : Int32} (i0 : ι), (∀ (i : ι) (uo : MS), (∃ n8, v_X0_putAll_L8 uo n8 U8 v8_0 v8_1 v8_2 v8_3) → P uo) → w_X0_putAll_L8 Q n U8 v8_0 v8_1 v8_2 v8_3 → w_X0_putAll_L8 (fun u => Q u ∧ P u) n U8 v8_0 v8_1 v8_2 v8_3 := by
  intro n
  induction n with
  | zero => intro U8 v8_0 v8_1 v8_2 v8_3 i0 K h; unfold w_X0_putAll_L8 at h; exact h.elim
  | succ n ih =>
    intro U8 v8_0 v8_1 v8_2 v8_3 i0 K h
    unfold w_X0_putAll_L8 at h ⊢
    replace K := fun (i : ι × Nat) uo (z : v_X0_putAll_L8 uo (i.2 + 1) U8 v8_0 v8_1 v8_2 v8_3) => K i.1 uo ⟨i.2 + 1, z⟩
    have i00 := i0
    replace i0 : ι × Nat := (i0, 0)
    intro y23_ y24_ y25_
    replace h := h y23_ y24_ y25_
    replace K := fun i uo z => K i uo ⟨y23_, y24_, y25_, z⟩
    refine ⟨fun c => ?_, fun c => ?_⟩
    · replace h := h.1 c
      replace K := fun i uo z => K i uo (Or.inl ⟨c, z⟩)
      exact ru_X0_putAll_J37 i0 K h
    · replace h := h.2 c
      replace K := fun i uo z => K i uo (Or.inr ⟨c, z⟩)
      refine ⟨fun c => ?_, fun c => ?_⟩
      · replace h := h.1 c
        replace K := fun i uo z => K i uo (Or.inl ⟨c, z⟩)
        exact ru_X0_putAll_J37 i0 K h
      · replace h := h.2 c
        replace K := fun i uo z => K i uo (Or.inr ⟨c, z⟩)
        intro a30 ea30 
        replace h := h a30 ea30 
        replace K := fun i uo z => K i uo ⟨a30, ea30, z⟩
        intro a31 ea31 
        replace h := h a31 ea31 
        replace K := fun i uo z => K i uo ⟨a31, ea31, z⟩
        exact ih i00 (fun i uo ⟨n8, z⟩ => K (i, n8) uo z) h
set_option maxRecDepth 100000 in
theorem ruX0_putAll {S : MS} {p0 : Nat} {p1 : Nat} {Q : MS → Prop} (h : wX0_putAll S p0 p1 Q) : wX0_putAll S p0 p1 (fun u => Q u ∧ vX0_putAll S p0 p1 u) := by
  have i0 : Unit := ()
  have K : ∀ (i : Unit) (uo : MS), vX0_putAll S p0 p1 uo → vX0_putAll S p0 p1 uo := fun _ _ z => z
  unfold wX0_putAll at h ⊢
  obtain ⟨g26_, h⟩ := h
  refine ⟨g26_, ?_⟩
  replace K := fun i uo z => K i uo ⟨g26_, z⟩
  intro a4 ea4 
  replace h := h a4 ea4 
  replace K := fun i uo z => K i uo ⟨a4, ea4, z⟩
  obtain ⟨n9, h⟩ := h
  exact ⟨n9, ru_X0_putAll_L8 n9 i0 K h⟩
set_option maxRecDepth 100000 in
theorem vw_X0_putAll_J58 {uo : MS} {U58 : MS} {v58_0 : Nat} {v58_1 : Nat} (h : v_X0_putAll_J58 uo U58 v58_0 v58_1) : w_X0_putAll_J58 (fun u => u = uo) U58 v58_0 v58_1 := by
  unfold v_X0_putAll_J58 at h
  unfold w_X0_putAll_J58
  intro _ _ _
  replace h := h.2.2.2
  obtain ⟨g9, h⟩ := h
  refine ⟨g9, ?_⟩
  obtain ⟨g9, h⟩ := h
  refine ⟨g9, ?_⟩
  obtain ⟨g9, h⟩ := h
  refine ⟨g9, ?_⟩
  obtain ⟨v9, e9, h⟩ := h
  intro x9 d9 _ _
  have c9 : v9 = x9 := e9.trans d9.symm
  subst c9
  replace h := h.2.2
  obtain ⟨v9, e9, h⟩ := h
  intro x9 d9 _ _
  have c9 : v9 = x9 := e9.trans d9.symm
  subst c9
  replace h := h.2.2
  exact h.symm
set_option maxRecDepth 100000 in
theorem vp_X0_putAll_J58 {uo : MS} {P : MS → Prop} {U58 : MS} {v58_0 : Nat} {v58_1 : Nat} (h : v_X0_putAll_J58 uo U58 v58_0 v58_1) (w : w_X0_putAll_J58 P U58 v58_0 v58_1) : P uo := by
  unfold v_X0_putAll_J58 at h
  unfold w_X0_putAll_J58 at w
  obtain ⟨y1_, y2_, y3_, h⟩ := h
  replace w := w y1_ y2_ y3_
  replace h := h.2
  replace w := w.2
  replace h := h.2
  replace w := w.2
  replace h := h.2
  replace w := w.2
  obtain ⟨v9, e9, y4_, y5_, h⟩ := h
  replace w := w v9 e9 y4_ y5_
  obtain ⟨v9, e9, y6_, y7_, h⟩ := h
  replace w := w v9 e9 y6_ y7_
  rw [h]
  exact w
set_option maxRecDepth 100000 in
theorem vw_X0_putAll_J37 {uo : MS} {U37 : MS} {v37_0 : Nat} {v37_1 : Nat} {v37_2 : Int32} (h : v_X0_putAll_J37 uo U37 v37_0 v37_1 v37_2) : w_X0_putAll_J37 (fun u => u = uo) U37 v37_0 v37_1 v37_2 := by
  unfold v_X0_putAll_J37 at h
  unfold w_X0_putAll_J37
  intro _ _ _
  replace h := h.2.2.2
  obtain ⟨g9, h⟩ := h
  refine ⟨g9, ?_⟩
  rcases h with ⟨c, h⟩ | ⟨c, h⟩
  · refine ⟨fun _ => ?_, fun c2 => absurd c c2⟩
    exact vw_X0_putAll_J58 h
  · refine ⟨fun c2 => absurd c2 c, fun _ => ?_⟩
    obtain ⟨g9, h⟩ := h
    refine ⟨g9, ?_⟩
    intro _
    replace h := h.2
    obtain ⟨p9, q9, z9, h⟩ := h
    refine ⟨_, vwJ7_copyOf_9075b z9, ?_⟩
    rintro p8 q8 ⟨d8, d9⟩ _ _ _
    subst d8
    subst d9
    replace h := h.2.2.2
    obtain ⟨v9, e9, h⟩ := h
    intro x9 d9 _ _
    have c9 : v9 = x9 := e9.trans d9.symm
    subst c9
    replace h := h.2.2
    exact vw_X0_putAll_J58 h
set_option maxRecDepth 100000 in
theorem vp_X0_putAll_J37 {uo : MS} {P : MS → Prop} {U37 : MS} {v37_0 : Nat} {v37_1 : Nat} {v37_2 : Int32} (h : v_X0_putAll_J37 uo U37 v37_0 v37_1 v37_2) (w : w_X0_putAll_J37 P U37 v37_0 v37_1 v37_2) : P uo := by
  unfold v_X0_putAll_J37 at h
  unfold w_X0_putAll_J37 at w
  obtain ⟨y8_, y9_, y10_, h⟩ := h
  replace w := w y8_ y9_ y10_
  replace h := h.2
  replace w := w.2
  rcases h with ⟨c, h⟩ | ⟨c, h⟩
  · replace w := w.1 c
    exact vp_X0_putAll_J58 h w
  · replace w := w.2 c
    replace h := h.2
    replace w := w.2
    obtain ⟨y11_, h⟩ := h
    replace w := w y11_
    obtain ⟨p9, q9, z9, y12_, y13_, y14_, h⟩ := h
    obtain ⟨Q9, w0, w⟩ := w
    replace w := w p9 q9 (vpJ7_copyOf_9075b z9 w0) y12_ y13_ y14_
    obtain ⟨v9, e9, y15_, y16_, h⟩ := h
    replace w := w v9 e9 y15_ y16_
    exact vp_X0_putAll_J58 h w
set_option maxRecDepth 100000 in
theorem vw_X0_putAll_L8 {uo : MS} : ∀ (n : Nat) {U8 : MS} {v8_0 : Nat} {v8_1 : Nat} {v8_2 : Int32} {v8_3 : Int32}, v_X0_putAll_L8 uo n U8 v8_0 v8_1 v8_2 v8_3 → w_X0_putAll_L8 (fun u => u = uo) n U8 v8_0 v8_1 v8_2 v8_3 := by
  intro n
  induction n with
  | zero => intro U8 v8_0 v8_1 v8_2 v8_3 h; unfold v_X0_putAll_L8 at h; exact h.elim
  | succ n ih =>
    intro U8 v8_0 v8_1 v8_2 v8_3 h
    unfold v_X0_putAll_L8 at h
    unfold w_X0_putAll_L8
    intro _ _ _
    replace h := h.2.2.2
    rcases h with ⟨c, h⟩ | ⟨c, h⟩
    · refine ⟨fun _ => ?_, fun c2 => absurd c c2⟩
      exact vw_X0_putAll_J37 h
    · refine ⟨fun c2 => absurd c2 c, fun _ => ?_⟩
      rcases h with ⟨c, h⟩ | ⟨c, h⟩
      · refine ⟨fun _ => ?_, fun c2 => absurd c c2⟩
        exact vw_X0_putAll_J37 h
      · refine ⟨fun c2 => absurd c2 c, fun _ => ?_⟩
        obtain ⟨v9, e9, h⟩ := h
        intro x9 d9 
        have c9 : v9 = x9 := e9.trans d9.symm
        subst c9
        obtain ⟨v9, e9, h⟩ := h
        intro x9 d9 
        have c9 : v9 = x9 := e9.trans d9.symm
        subst c9
        exact ih h
set_option maxRecDepth 100000 in
theorem vp_X0_putAll_L8 {uo : MS} {P : MS → Prop} : ∀ (n m : Nat) {U8 : MS} {v8_0 : Nat} {v8_1 : Nat} {v8_2 : Int32} {v8_3 : Int32}, v_X0_putAll_L8 uo n U8 v8_0 v8_1 v8_2 v8_3 → w_X0_putAll_L8 P m U8 v8_0 v8_1 v8_2 v8_3 → P uo := by
  intro n
  induction n with
  | zero => intro m U8 v8_0 v8_1 v8_2 v8_3 h; unfold v_X0_putAll_L8 at h; exact h.elim
  | succ n ih =>
    intro m U8 v8_0 v8_1 v8_2 v8_3 h w
    cases m with
    | zero => unfold w_X0_putAll_L8 at w; exact w.elim
    | succ m =>
      unfold v_X0_putAll_L8 at h
      unfold w_X0_putAll_L8 at w
      obtain ⟨y17_, y18_, y19_, h⟩ := h
      replace w := w y17_ y18_ y19_
      rcases h with ⟨c, h⟩ | ⟨c, h⟩
      · replace w := w.1 c
        exact vp_X0_putAll_J37 h w
      · replace w := w.2 c
        rcases h with ⟨c, h⟩ | ⟨c, h⟩
        · replace w := w.1 c
          exact vp_X0_putAll_J37 h w
        · replace w := w.2 c
          obtain ⟨v9, e9, h⟩ := h
          replace w := w v9 e9 
          obtain ⟨v9, e9, h⟩ := h
          replace w := w v9 e9 
          exact ih m h w
set_option maxRecDepth 100000 in
theorem vwX0_putAll {S : MS} {p0 : Nat} {p1 : Nat} {uo : MS} (h : vX0_putAll S p0 p1 uo) : wX0_putAll S p0 p1 (fun u => u = uo) := by
  unfold vX0_putAll at h
  unfold wX0_putAll
  obtain ⟨g9, h⟩ := h
  refine ⟨g9, ?_⟩
  obtain ⟨v9, e9, h⟩ := h
  intro x9 d9 
  have c9 : v9 = x9 := e9.trans d9.symm
  subst c9
  obtain ⟨n9, h⟩ := h
  exact ⟨n9, vw_X0_putAll_L8 n9 h⟩
set_option maxRecDepth 100000 in
theorem vpX0_putAll {S : MS} {p0 : Nat} {p1 : Nat} {uo : MS} {P : MS → Prop} (h : vX0_putAll S p0 p1 uo) (w : wX0_putAll S p0 p1 P) : P uo := by
  unfold vX0_putAll at h
  unfold wX0_putAll at w
  replace h := h.2
  replace w := w.2
  obtain ⟨v9, e9, h⟩ := h
  replace w := w v9 e9 
  obtain ⟨n9, h⟩ := h
  obtain ⟨n8, w⟩ := w
  exact vp_X0_putAll_L8 n9 n8 h w
def v_X1_makeRoom_L39 (uo : MS) : Nat → MS → Int32 → Prop
  | 0, _, _ => False
  | n39 + 1, U39, v39_2 => (wfC U39 ∧ (((qN U39 (qO U39 16 2) : Int) ≤ v39_2.toInt ∧ (uo = U39)) ∨ (¬ (qN U39 (qO U39 16 2) : Int) ≤ v39_2.toInt ∧ (((0 : Int) ≤ v39_2.toInt ∧ v39_2.toInt < (qN U39 (qO U39 16 2) : Int)) ∧ (∃ S8 : MS, S8 = wI U39 (qO U39 16 2) v39_2.toInt.toNat (vp_nar .boolean (0 : Int32)) ∧ qT U39 (qO U39 16 2) = 301 ∧ wfC S8 ∧ (((0 : Int) ≤ v39_2.toInt ∧ v39_2.toInt < (qN S8 (qO S8 16 3) : Int)) ∧ (∃ S11 : MS, S11 = wI S8 (qO S8 16 3) v39_2.toInt.toNat (vp_nar .boolean (0 : Int32)) ∧ qT S8 (qO S8 16 3) = 302 ∧ wfC S11 ∧ (∃ a12 : Int32, a12 = (v39_2 + Int32.ofInt 1) ∧ ((v_X1_makeRoom_L39 uo n39) S11 a12)))))))))
def v_X1_makeRoom_J37 (uo : MS) (U37 : MS) : Prop := (wfC U37 ∧ (∃ n, v_X1_makeRoom_L39 uo n U37 0))
def vX1_makeRoom (S : MS) (x1 : Int32) (uo : MS) : Prop := ((x1.toInt ≤ (qN S (qO S 16 2) : Int) ∧ (v_X1_makeRoom_J37 uo S)) ∨ (¬ x1.toInt ≤ (qN S (qO S 16 2) : Int) ∧ (((0 : Int) ≤ ((96 : Int32) * x1).toInt ∧ (qn S + 1 ≤ KCC ∧ qu S + ((96 : Int32) * x1).toInt.toNat ≤ KSC)) ∧ (∃ S18 : MS, S18 = wN S 102 (((96 : Int32) * x1).toInt.toNat) (((96 : Int32) * x1).toInt.toNat) ∧ wfC S18 ∧ (∃ S20 : MS, S20 = wR S18 16 1 (some (qn S)) ∧ qT S18 16 = 41 ∧ wfC S20 ∧ (((0 : Int) ≤ ((2 : Int32) * x1).toInt ∧ (qn S20 + 1 ≤ KCC ∧ qu S20 + ((2 : Int32) * x1).toInt.toNat ≤ KSC)) ∧ (∃ S25 : MS, S25 = wN S20 301 (((2 : Int32) * x1).toInt.toNat) (((2 : Int32) * x1).toInt.toNat) ∧ wfC S25 ∧ (∃ S27 : MS, S27 = wR S25 16 2 (some (qn S20)) ∧ qT S25 16 = 41 ∧ wfC S27 ∧ (((0 : Int) ≤ ((2 : Int32) * x1).toInt ∧ (qn S27 + 1 ≤ KCC ∧ qu S27 + ((2 : Int32) * x1).toInt.toNat ≤ KSC)) ∧ (∃ S32 : MS, S32 = wN S27 302 (((2 : Int32) * x1).toInt.toNat) (((2 : Int32) * x1).toInt.toNat) ∧ wfC S32 ∧ (∃ S34 : MS, S34 = wR S32 16 3 (some (qn S27)) ∧ qT S32 16 = 41 ∧ wfC S34 ∧ (v_X1_makeRoom_J37 uo S34))))))))))))
set_option maxRecDepth 100000 in
theorem ru_X1_makeRoom_L39 {ι : Type} {P Q : MS → Prop} : ∀ (n : Nat) {U39 : MS} {v39_2 : Int32} (i0 : ι), (∀ (i : ι) (uo : MS), (∃ n8, v_X1_makeRoom_L39 uo n8 U39 v39_2) → P uo) → w_X1_makeRoom_L39 Q n U39 v39_2 → w_X1_makeRoom_L39 (fun u => Q u ∧ P u) n U39 v39_2 := by
  intro n
  induction n with
  | zero => intro U39 v39_2 i0 K h; unfold w_X1_makeRoom_L39 at h; exact h.elim
  | succ n ih =>
    intro U39 v39_2 i0 K h
    unfold w_X1_makeRoom_L39 at h ⊢
    replace K := fun (i : ι × Nat) uo (z : v_X1_makeRoom_L39 uo (i.2 + 1) U39 v39_2) => K i.1 uo ⟨i.2 + 1, z⟩
    have i00 := i0
    replace i0 : ι × Nat := (i0, 0)
    intro y1_
    replace h := h y1_
    replace K := fun i uo z => K i uo ⟨y1_, z⟩
    refine ⟨fun c => ?_, fun c => ?_⟩
    · replace h := h.1 c
      replace K := fun i uo z => K i uo (Or.inl ⟨c, z⟩)
      exact ⟨h, K i0 _ rfl⟩
    · replace h := h.2 c
      replace K := fun i uo z => K i uo (Or.inr ⟨c, z⟩)
      obtain ⟨g2_, h⟩ := h
      refine ⟨g2_, ?_⟩
      replace K := fun i uo z => K i uo ⟨g2_, z⟩
      intro S8 eS8 y3_ y4_
      replace h := h S8 eS8 y3_ y4_
      replace K := fun i uo z => K i uo ⟨S8, eS8, y3_, y4_, z⟩
      obtain ⟨g5_, h⟩ := h
      refine ⟨g5_, ?_⟩
      replace K := fun i uo z => K i uo ⟨g5_, z⟩
      intro S11 eS11 y6_ y7_
      replace h := h S11 eS11 y6_ y7_
      replace K := fun i uo z => K i uo ⟨S11, eS11, y6_, y7_, z⟩
      intro a12 ea12 
      replace h := h a12 ea12 
      replace K := fun i uo z => K i uo ⟨a12, ea12, z⟩
      exact ih i00 (fun i uo ⟨n8, z⟩ => K (i, n8) uo z) h
set_option maxRecDepth 100000 in
theorem ru_X1_makeRoom_J37 {ι : Type} {P Q : MS → Prop} {U37 : MS} (i0 : ι) (K : ∀ (i : ι) (uo : MS), v_X1_makeRoom_J37 uo U37 → P uo) (h : w_X1_makeRoom_J37 Q U37) : w_X1_makeRoom_J37 (fun u => Q u ∧ P u) U37 := by
  unfold w_X1_makeRoom_J37 at h ⊢
  intro y8_
  replace h := h y8_
  replace K := fun i uo z => K i uo ⟨y8_, z⟩
  obtain ⟨n9, h⟩ := h
  exact ⟨n9, ru_X1_makeRoom_L39 n9 i0 K h⟩
set_option maxRecDepth 100000 in
theorem ruX1_makeRoom {S : MS} {x1 : Int32} {Q : MS → Prop} (h : wX1_makeRoom S x1 Q) : wX1_makeRoom S x1 (fun u => Q u ∧ vX1_makeRoom S x1 u) := by
  have i0 : Unit := ()
  have K : ∀ (i : Unit) (uo : MS), vX1_makeRoom S x1 uo → vX1_makeRoom S x1 uo := fun _ _ z => z
  unfold wX1_makeRoom at h ⊢
  refine ⟨fun c => ?_, fun c => ?_⟩
  · replace h := h.1 c
    replace K := fun i uo z => K i uo (Or.inl ⟨c, z⟩)
    exact ru_X1_makeRoom_J37 i0 K h
  · replace h := h.2 c
    replace K := fun i uo z => K i uo (Or.inr ⟨c, z⟩)
    obtain ⟨g9_, h⟩ := h
    refine ⟨g9_, ?_⟩
    replace K := fun i uo z => K i uo ⟨g9_, z⟩
    intro S18 eS18 y10_
    replace h := h S18 eS18 y10_
    replace K := fun i uo z => K i uo ⟨S18, eS18, y10_, z⟩
    intro S20 eS20 y11_ y12_
    replace h := h S20 eS20 y11_ y12_
    replace K := fun i uo z => K i uo ⟨S20, eS20, y11_, y12_, z⟩
    obtain ⟨g13_, h⟩ := h
    refine ⟨g13_, ?_⟩
    replace K := fun i uo z => K i uo ⟨g13_, z⟩
    intro S25 eS25 y14_
    replace h := h S25 eS25 y14_
    replace K := fun i uo z => K i uo ⟨S25, eS25, y14_, z⟩
    intro S27 eS27 y15_ y16_
    replace h := h S27 eS27 y15_ y16_
    replace K := fun i uo z => K i uo ⟨S27, eS27, y15_, y16_, z⟩
    obtain ⟨g17_, h⟩ := h
    refine ⟨g17_, ?_⟩
    replace K := fun i uo z => K i uo ⟨g17_, z⟩
    intro S32 eS32 y18_
    replace h := h S32 eS32 y18_
    replace K := fun i uo z => K i uo ⟨S32, eS32, y18_, z⟩
    intro S34 eS34 y19_ y20_
    replace h := h S34 eS34 y19_ y20_
    replace K := fun i uo z => K i uo ⟨S34, eS34, y19_, y20_, z⟩
    exact ru_X1_makeRoom_J37 i0 K h
set_option maxRecDepth 100000 in
theorem vw_X1_makeRoom_L39 {uo : MS} : ∀ (n : Nat) {U39 : MS} {v39_2 : Int32}, v_X1_makeRoom_L39 uo n U39 v39_2 → w_X1_makeRoom_L39 (fun u => u = uo) n U39 v39_2 := by
  intro n
  induction n with
  | zero => intro U39 v39_2 h; unfold v_X1_makeRoom_L39 at h; exact h.elim
  | succ n ih =>
    intro U39 v39_2 h
    unfold v_X1_makeRoom_L39 at h
    unfold w_X1_makeRoom_L39
    intro _
    replace h := h.2
    rcases h with ⟨c, h⟩ | ⟨c, h⟩
    · refine ⟨fun _ => ?_, fun c2 => absurd c c2⟩
      exact h.symm
    · refine ⟨fun c2 => absurd c2 c, fun _ => ?_⟩
      obtain ⟨g9, h⟩ := h
      refine ⟨g9, ?_⟩
      obtain ⟨v9, e9, h⟩ := h
      intro x9 d9 _ _
      have c9 : v9 = x9 := e9.trans d9.symm
      subst c9
      replace h := h.2.2
      obtain ⟨g9, h⟩ := h
      refine ⟨g9, ?_⟩
      obtain ⟨v9, e9, h⟩ := h
      intro x9 d9 _ _
      have c9 : v9 = x9 := e9.trans d9.symm
      subst c9
      replace h := h.2.2
      obtain ⟨v9, e9, h⟩ := h
      intro x9 d9 
      have c9 : v9 = x9 := e9.trans d9.symm
      subst c9
      exact ih h
set_option maxRecDepth 100000 in
theorem vp_X1_makeRoom_L39 {uo : MS} {P : MS → Prop} : ∀ (n m : Nat) {U39 : MS} {v39_2 : Int32}, v_X1_makeRoom_L39 uo n U39 v39_2 → w_X1_makeRoom_L39 P m U39 v39_2 → P uo := by
  intro n
  induction n with
  | zero => intro m U39 v39_2 h; unfold v_X1_makeRoom_L39 at h; exact h.elim
  | succ n ih =>
    intro m U39 v39_2 h w
    cases m with
    | zero => unfold w_X1_makeRoom_L39 at w; exact w.elim
    | succ m =>
      unfold v_X1_makeRoom_L39 at h
      unfold w_X1_makeRoom_L39 at w
      obtain ⟨y1_, h⟩ := h
      replace w := w y1_
      rcases h with ⟨c, h⟩ | ⟨c, h⟩
      · replace w := w.1 c
        rw [h]
        exact w
      · replace w := w.2 c
        replace h := h.2
        replace w := w.2
        obtain ⟨v9, e9, y2_, y3_, h⟩ := h
        replace w := w v9 e9 y2_ y3_
        replace h := h.2
        replace w := w.2
        obtain ⟨v9, e9, y4_, y5_, h⟩ := h
        replace w := w v9 e9 y4_ y5_
        obtain ⟨v9, e9, h⟩ := h
        replace w := w v9 e9 
        exact ih m h w
set_option maxRecDepth 100000 in
theorem vw_X1_makeRoom_J37 {uo : MS} {U37 : MS} (h : v_X1_makeRoom_J37 uo U37) : w_X1_makeRoom_J37 (fun u => u = uo) U37 := by
  unfold v_X1_makeRoom_J37 at h
  unfold w_X1_makeRoom_J37
  intro _
  replace h := h.2
  obtain ⟨n9, h⟩ := h
  exact ⟨n9, vw_X1_makeRoom_L39 n9 h⟩
set_option maxRecDepth 100000 in
theorem vp_X1_makeRoom_J37 {uo : MS} {P : MS → Prop} {U37 : MS} (h : v_X1_makeRoom_J37 uo U37) (w : w_X1_makeRoom_J37 P U37) : P uo := by
  unfold v_X1_makeRoom_J37 at h
  unfold w_X1_makeRoom_J37 at w
  obtain ⟨y6_, h⟩ := h
  replace w := w y6_
  obtain ⟨n9, h⟩ := h
  obtain ⟨n8, w⟩ := w
  exact vp_X1_makeRoom_L39 n9 n8 h w
set_option maxRecDepth 100000 in
theorem vwX1_makeRoom {S : MS} {x1 : Int32} {uo : MS} (h : vX1_makeRoom S x1 uo) : wX1_makeRoom S x1 (fun u => u = uo) := by
  unfold vX1_makeRoom at h
  unfold wX1_makeRoom
  rcases h with ⟨c, h⟩ | ⟨c, h⟩
  · refine ⟨fun _ => ?_, fun c2 => absurd c c2⟩
    exact vw_X1_makeRoom_J37 h
  · refine ⟨fun c2 => absurd c2 c, fun _ => ?_⟩
    obtain ⟨g9, h⟩ := h
    refine ⟨g9, ?_⟩
    obtain ⟨v9, e9, h⟩ := h
    intro x9 d9 _
    have c9 : v9 = x9 := e9.trans d9.symm
    subst c9
    replace h := h.2
    obtain ⟨v9, e9, h⟩ := h
    intro x9 d9 _ _
    have c9 : v9 = x9 := e9.trans d9.symm
    subst c9
    replace h := h.2.2
    obtain ⟨g9, h⟩ := h
    refine ⟨g9, ?_⟩
    obtain ⟨v9, e9, h⟩ := h
    intro x9 d9 _
    have c9 : v9 = x9 := e9.trans d9.symm
    subst c9
    replace h := h.2
    obtain ⟨v9, e9, h⟩ := h
    intro x9 d9 _ _
    have c9 : v9 = x9 := e9.trans d9.symm
    subst c9
    replace h := h.2.2
    obtain ⟨g9, h⟩ := h
    refine ⟨g9, ?_⟩
    obtain ⟨v9, e9, h⟩ := h
    intro x9 d9 _
    have c9 : v9 = x9 := e9.trans d9.symm
    subst c9
    replace h := h.2
    obtain ⟨v9, e9, h⟩ := h
    intro x9 d9 _ _
    have c9 : v9 = x9 := e9.trans d9.symm
    subst c9
    replace h := h.2.2
    exact vw_X1_makeRoom_J37 h
set_option maxRecDepth 100000 in
theorem vpX1_makeRoom {S : MS} {x1 : Int32} {uo : MS} {P : MS → Prop} (h : vX1_makeRoom S x1 uo) (w : wX1_makeRoom S x1 P) : P uo := by
  unfold vX1_makeRoom at h
  unfold wX1_makeRoom at w
  rcases h with ⟨c, h⟩ | ⟨c, h⟩
  · replace w := w.1 c
    exact vp_X1_makeRoom_J37 h w
  · replace w := w.2 c
    replace h := h.2
    replace w := w.2
    obtain ⟨v9, e9, y7_, h⟩ := h
    replace w := w v9 e9 y7_
    obtain ⟨v9, e9, y8_, y9_, h⟩ := h
    replace w := w v9 e9 y8_ y9_
    replace h := h.2
    replace w := w.2
    obtain ⟨v9, e9, y10_, h⟩ := h
    replace w := w v9 e9 y10_
    obtain ⟨v9, e9, y11_, y12_, h⟩ := h
    replace w := w v9 e9 y11_ y12_
    replace h := h.2
    replace w := w.2
    obtain ⟨v9, e9, y13_, h⟩ := h
    replace w := w v9 e9 y13_
    obtain ⟨v9, e9, y14_, y15_, h⟩ := h
    replace w := w v9 e9 y14_ y15_
    exact vp_X1_makeRoom_J37 h w
def vX1_setPlace (S : MS) (x1 : Int32) (x2 : Int32) (uo : MS) : Prop := ((x1.toInt < 0 ∧ (uo = S)) ∨ (¬ x1.toInt < 0 ∧ ((48 ≤ x1.toInt ∧ (uo = S)) ∨ (¬ 48 ≤ x1.toInt ∧ (((0 : Int) ≤ x1.toInt ∧ x1.toInt < 48) ∧ (∃ S4 : MS, S4 = wI S 24 x1.toInt.toNat (vp_nar .byte (x2.toInt8.toInt32)) ∧ qT S 24 = 103 ∧ wfC S4 ∧ (uo = S4)))))))
set_option maxRecDepth 100000 in
theorem ruX1_setPlace {S : MS} {x1 : Int32} {x2 : Int32} {Q : MS → Prop} (h : wX1_setPlace S x1 x2 Q) : wX1_setPlace S x1 x2 (fun u => Q u ∧ vX1_setPlace S x1 x2 u) := by
  have i0 : Unit := ()
  have K : ∀ (i : Unit) (uo : MS), vX1_setPlace S x1 x2 uo → vX1_setPlace S x1 x2 uo := fun _ _ z => z
  unfold wX1_setPlace at h ⊢
  refine ⟨fun c => ?_, fun c => ?_⟩
  · replace h := h.1 c
    replace K := fun i uo z => K i uo (Or.inl ⟨c, z⟩)
    exact ⟨h, K i0 _ rfl⟩
  · replace h := h.2 c
    replace K := fun i uo z => K i uo (Or.inr ⟨c, z⟩)
    refine ⟨fun c => ?_, fun c => ?_⟩
    · replace h := h.1 c
      replace K := fun i uo z => K i uo (Or.inl ⟨c, z⟩)
      exact ⟨h, K i0 _ rfl⟩
    · replace h := h.2 c
      replace K := fun i uo z => K i uo (Or.inr ⟨c, z⟩)
      obtain ⟨g1_, h⟩ := h
      refine ⟨g1_, ?_⟩
      replace K := fun i uo z => K i uo ⟨g1_, z⟩
      intro S4 eS4 y2_ y3_
      replace h := h S4 eS4 y2_ y3_
      replace K := fun i uo z => K i uo ⟨S4, eS4, y2_, y3_, z⟩
      exact ⟨h, K i0 _ rfl⟩
set_option maxRecDepth 100000 in
theorem vwX1_setPlace {S : MS} {x1 : Int32} {x2 : Int32} {uo : MS} (h : vX1_setPlace S x1 x2 uo) : wX1_setPlace S x1 x2 (fun u => u = uo) := by
  unfold vX1_setPlace at h
  unfold wX1_setPlace
  rcases h with ⟨c, h⟩ | ⟨c, h⟩
  · refine ⟨fun _ => ?_, fun c2 => absurd c c2⟩
    exact h.symm
  · refine ⟨fun c2 => absurd c2 c, fun _ => ?_⟩
    rcases h with ⟨c, h⟩ | ⟨c, h⟩
    · refine ⟨fun _ => ?_, fun c2 => absurd c c2⟩
      exact h.symm
    · refine ⟨fun c2 => absurd c2 c, fun _ => ?_⟩
      obtain ⟨g9, h⟩ := h
      refine ⟨g9, ?_⟩
      obtain ⟨v9, e9, h⟩ := h
      intro x9 d9 _ _
      have c9 : v9 = x9 := e9.trans d9.symm
      subst c9
      replace h := h.2.2
      exact h.symm
set_option maxRecDepth 100000 in
theorem vpX1_setPlace {S : MS} {x1 : Int32} {x2 : Int32} {uo : MS} {P : MS → Prop} (h : vX1_setPlace S x1 x2 uo) (w : wX1_setPlace S x1 x2 P) : P uo := by
  unfold vX1_setPlace at h
  unfold wX1_setPlace at w
  rcases h with ⟨c, h⟩ | ⟨c, h⟩
  · replace w := w.1 c
    rw [h]
    exact w
  · replace w := w.2 c
    rcases h with ⟨c, h⟩ | ⟨c, h⟩
    · replace w := w.1 c
      rw [h]
      exact w
    · replace w := w.2 c
      replace h := h.2
      replace w := w.2
      obtain ⟨v9, e9, y1_, y2_, h⟩ := h
      replace w := w v9 e9 y1_ y2_
      rw [h]
      exact w
def vX1_pop (S : MS) (ro : Int32) (uo : MS) : Prop := (((qI S 16 5).toInt < 1 ∧ (ro = (0 : Int32) ∧ uo = S)) ∨ (¬ (qI S 16 5).toInt < 1 ∧ (((qI S 16 5).toInt ≤ 24 ∧ (∃ S4 : MS, S4 = wI S 16 5 ((qI S 16 5) - (1 : Int32)) ∧ qT S 16 = 41 ∧ wfC S4 ∧ (((0 : Int) ≤ ((24 : Int32) + (qI S4 16 5)).toInt ∧ ((24 : Int32) + (qI S4 16 5)).toInt < 48) ∧ (ro = (qI S4 24 ((((24 : Int32) + (qI S4 16 5)).toInt).toNat)) ∧ uo = S4)))) ∨ (¬ (qI S 16 5).toInt ≤ 24 ∧ (ro = (0 : Int32) ∧ uo = S)))))
set_option maxRecDepth 100000 in
theorem ruX1_pop {S : MS} {Q : Int32 → MS → Prop} (h : wX1_pop S Q) : wX1_pop S (fun r u => Q r u ∧ vX1_pop S r u) := by
  have i0 : Unit := ()
  have K : ∀ (i : Unit) (ro : Int32) (uo : MS), vX1_pop S ro uo → vX1_pop S ro uo := fun _ _ _ z => z
  unfold wX1_pop at h ⊢
  refine ⟨fun c => ?_, fun c => ?_⟩
  · replace h := h.1 c
    replace K := fun i ro uo z => K i ro uo (Or.inl ⟨c, z⟩)
    exact ⟨h, K i0 _ _ ⟨rfl, rfl⟩⟩
  · replace h := h.2 c
    replace K := fun i ro uo z => K i ro uo (Or.inr ⟨c, z⟩)
    refine ⟨fun c => ?_, fun c => ?_⟩
    · replace h := h.1 c
      replace K := fun i ro uo z => K i ro uo (Or.inl ⟨c, z⟩)
      intro S4 eS4 y1_ y2_
      replace h := h S4 eS4 y1_ y2_
      replace K := fun i ro uo z => K i ro uo ⟨S4, eS4, y1_, y2_, z⟩
      obtain ⟨g3_, h⟩ := h
      refine ⟨g3_, ?_⟩
      replace K := fun i ro uo z => K i ro uo ⟨g3_, z⟩
      exact ⟨h, K i0 _ _ ⟨rfl, rfl⟩⟩
    · replace h := h.2 c
      replace K := fun i ro uo z => K i ro uo (Or.inr ⟨c, z⟩)
      exact ⟨h, K i0 _ _ ⟨rfl, rfl⟩⟩
set_option maxRecDepth 100000 in
theorem vwX1_pop {S : MS} {ro : Int32} {uo : MS} (h : vX1_pop S ro uo) : wX1_pop S (fun r u => r = ro ∧ u = uo) := by
  unfold vX1_pop at h
  unfold wX1_pop
  rcases h with ⟨c, h⟩ | ⟨c, h⟩
  · refine ⟨fun _ => ?_, fun c2 => absurd c c2⟩
    exact ⟨h.1.symm, h.2.symm⟩
  · refine ⟨fun c2 => absurd c2 c, fun _ => ?_⟩
    rcases h with ⟨c, h⟩ | ⟨c, h⟩
    · refine ⟨fun _ => ?_, fun c2 => absurd c c2⟩
      obtain ⟨v9, e9, h⟩ := h
      intro x9 d9 _ _
      have c9 : v9 = x9 := e9.trans d9.symm
      subst c9
      replace h := h.2.2
      obtain ⟨g9, h⟩ := h
      refine ⟨g9, ?_⟩
      exact ⟨h.1.symm, h.2.symm⟩
    · refine ⟨fun c2 => absurd c2 c, fun _ => ?_⟩
      exact ⟨h.1.symm, h.2.symm⟩
set_option maxRecDepth 100000 in
theorem vpX1_pop {S : MS} {ro : Int32} {uo : MS} {P : Int32 → MS → Prop} (h : vX1_pop S ro uo) (w : wX1_pop S P) : P ro uo := by
  unfold vX1_pop at h
  unfold wX1_pop at w
  rcases h with ⟨c, h⟩ | ⟨c, h⟩
  · replace w := w.1 c
    rw [h.1, h.2]
    exact w
  · replace w := w.2 c
    rcases h with ⟨c, h⟩ | ⟨c, h⟩
    · replace w := w.1 c
      obtain ⟨v9, e9, y1_, y2_, h⟩ := h
      replace w := w v9 e9 y1_ y2_
      replace h := h.2
      replace w := w.2
      rw [h.1, h.2]
      exact w
    · replace w := w.2 c
      rw [h.1, h.2]
      exact w
def vX1_push (S : MS) (x1 : Int32) (uo : MS) : Prop := (((qI S 16 5).toInt < 0 ∧ (uo = S)) ∨ (¬ (qI S 16 5).toInt < 0 ∧ ((24 ≤ (qI S 16 5).toInt ∧ (uo = S)) ∨ (¬ 24 ≤ (qI S 16 5).toInt ∧ (((0 : Int) ≤ ((24 : Int32) + (qI S 16 5)).toInt ∧ ((24 : Int32) + (qI S 16 5)).toInt < 48) ∧ (∃ S5 : MS, S5 = wI S 24 ((((24 : Int32) + (qI S 16 5)).toInt).toNat) (vp_nar .byte (x1.toInt8.toInt32)) ∧ qT S 24 = 103 ∧ wfC S5 ∧ (∃ S7 : MS, S7 = wI S5 16 5 ((qI S5 16 5) + (1 : Int32)) ∧ qT S5 16 = 41 ∧ wfC S7 ∧ (uo = S7))))))))
set_option maxRecDepth 100000 in
theorem ruX1_push {S : MS} {x1 : Int32} {Q : MS → Prop} (h : wX1_push S x1 Q) : wX1_push S x1 (fun u => Q u ∧ vX1_push S x1 u) := by
  have i0 : Unit := ()
  have K : ∀ (i : Unit) (uo : MS), vX1_push S x1 uo → vX1_push S x1 uo := fun _ _ z => z
  unfold wX1_push at h ⊢
  refine ⟨fun c => ?_, fun c => ?_⟩
  · replace h := h.1 c
    replace K := fun i uo z => K i uo (Or.inl ⟨c, z⟩)
    exact ⟨h, K i0 _ rfl⟩
  · replace h := h.2 c
    replace K := fun i uo z => K i uo (Or.inr ⟨c, z⟩)
    refine ⟨fun c => ?_, fun c => ?_⟩
    · replace h := h.1 c
      replace K := fun i uo z => K i uo (Or.inl ⟨c, z⟩)
      exact ⟨h, K i0 _ rfl⟩
    · replace h := h.2 c
      replace K := fun i uo z => K i uo (Or.inr ⟨c, z⟩)
      obtain ⟨g1_, h⟩ := h
      refine ⟨g1_, ?_⟩
      replace K := fun i uo z => K i uo ⟨g1_, z⟩
      intro S5 eS5 y2_ y3_
      replace h := h S5 eS5 y2_ y3_
      replace K := fun i uo z => K i uo ⟨S5, eS5, y2_, y3_, z⟩
      intro S7 eS7 y4_ y5_
      replace h := h S7 eS7 y4_ y5_
      replace K := fun i uo z => K i uo ⟨S7, eS7, y4_, y5_, z⟩
      exact ⟨h, K i0 _ rfl⟩
set_option maxRecDepth 100000 in
theorem vwX1_push {S : MS} {x1 : Int32} {uo : MS} (h : vX1_push S x1 uo) : wX1_push S x1 (fun u => u = uo) := by
  unfold vX1_push at h
  unfold wX1_push
  rcases h with ⟨c, h⟩ | ⟨c, h⟩
  · refine ⟨fun _ => ?_, fun c2 => absurd c c2⟩
    exact h.symm
  · refine ⟨fun c2 => absurd c2 c, fun _ => ?_⟩
    rcases h with ⟨c, h⟩ | ⟨c, h⟩
    · refine ⟨fun _ => ?_, fun c2 => absurd c c2⟩
      exact h.symm
    · refine ⟨fun c2 => absurd c2 c, fun _ => ?_⟩
      obtain ⟨g9, h⟩ := h
      refine ⟨g9, ?_⟩
      obtain ⟨v9, e9, h⟩ := h
      intro x9 d9 _ _
      have c9 : v9 = x9 := e9.trans d9.symm
      subst c9
      replace h := h.2.2
      obtain ⟨v9, e9, h⟩ := h
      intro x9 d9 _ _
      have c9 : v9 = x9 := e9.trans d9.symm
      subst c9
      replace h := h.2.2
      exact h.symm
set_option maxRecDepth 100000 in
theorem vpX1_push {S : MS} {x1 : Int32} {uo : MS} {P : MS → Prop} (h : vX1_push S x1 uo) (w : wX1_push S x1 P) : P uo := by
  unfold vX1_push at h
  unfold wX1_push at w
  rcases h with ⟨c, h⟩ | ⟨c, h⟩
  · replace w := w.1 c
    rw [h]
    exact w
  · replace w := w.2 c
    rcases h with ⟨c, h⟩ | ⟨c, h⟩
    · replace w := w.1 c
      rw [h]
      exact w
    · replace w := w.2 c
      replace h := h.2
      replace w := w.2
      obtain ⟨v9, e9, y1_, y2_, h⟩ := h
      replace w := w v9 e9 y1_ y2_
      obtain ⟨v9, e9, y3_, y4_, h⟩ := h
      replace w := w v9 e9 y3_ y4_
      rw [h]
      exact w
def v_X1_take_J55 (ro : Int32) (uo : MS) (U55 : MS) (t55_0 : Int32) (t55_1 : Int32) (v55_2 : Int32) : Prop := (wfC U55 ∧ (t55_0 = 0 ∨ t55_0 = 1) ∧ (((t55_1 ||| t55_0) = 0 ∨ (t55_1 ||| t55_0) = 1) ∧ (∃ S8 : MS, S8 = wI U55 16 6 (t55_1 ||| t55_0) ∧ qT U55 16 = 41 ∧ wfC S8 ∧ (ro = v55_2 ∧ uo = S8))))
def v_X1_take_J90 (ro : Int32) (uo : MS) (U90 : MS) (t90_0 : Int32) (t90_1 : Int32) (t90_2 : Int32) (v90_2 : Int32) : Prop := (wfC U90 ∧ (t90_0 = 0 ∨ t90_0 = 1) ∧ (((t90_2 ||| (t90_1 ||| t90_0)) = 0 ∨ (t90_2 ||| (t90_1 ||| t90_0)) = 1) ∧ (∃ S18 : MS, S18 = wI U90 16 6 (t90_2 ||| (t90_1 ||| t90_0)) ∧ qT U90 16 = 41 ∧ wfC S18 ∧ (ro = v90_2 ∧ uo = S18))))
def v_X1_take_J77 (ro : Int32) (uo : MS) (U77 : MS) (t77_0 : Int32) (t77_1 : Int32) (v77_2 : Int32) : Prop := (wfC U77 ∧ (t77_0 = 0 ∨ t77_0 = 1) ∧ (∃ (r12 : Int32) (S13 : MS), vX1_pop U77 r12 S13 ∧ wfC S13 ∧ shy U77 S13 ∧ ((r12.toInt = 2 ∧ (v_X1_take_J90 ro uo S13 0 t77_0 t77_1 v77_2)) ∨ (¬ r12.toInt = 2 ∧ (v_X1_take_J90 ro uo S13 1 t77_0 t77_1 v77_2)))))
def v_X1_take_J119 (ro : Int32) (uo : MS) (U119 : MS) (t119_0 : Int32) (t119_1 : Int32) (v119_2 : Int32) : Prop := (wfC U119 ∧ (t119_0 = 0 ∨ t119_0 = 1) ∧ (((t119_1 ||| t119_0) = 0 ∨ (t119_1 ||| t119_0) = 1) ∧ (∃ S24 : MS, S24 = wI U119 16 6 (t119_1 ||| t119_0) ∧ qT U119 16 = 41 ∧ wfC S24 ∧ (ro = v119_2 ∧ uo = S24))))
def v_X1_take_J118 (ro : Int32) (uo : MS) (U118 : MS) (t118_0 : Int32) (v118_2 : Int32) : Prop := (wfC U118 ∧ (v_X1_take_J119 ro uo U118 0 t118_0 v118_2))
def v_X1_take_J171 (ro : Int32) (uo : MS) (U171 : MS) (t171_0 : Int32) (t171_1 : Int32) (v171_2 : Int32) : Prop := (wfC U171 ∧ (t171_0 = 0 ∨ t171_0 = 1) ∧ (((t171_1 ||| t171_0) = 0 ∨ (t171_1 ||| t171_0) = 1) ∧ (∃ S33 : MS, S33 = wI U171 16 6 (t171_1 ||| t171_0) ∧ qT U171 16 = 41 ∧ wfC S33 ∧ (ro = v171_2 ∧ uo = S33))))
def v_X1_take_J147 (ro : Int32) (uo : MS) (U147 : MS) (t147_0 : Int32) (t147_1 : Int32) (v147_2 : Int32) : Prop := (wfC U147 ∧ (t147_0 = 0 ∨ t147_0 = 1) ∧ (((t147_1 ||| t147_0) = 0 ∨ (t147_1 ||| t147_0) = 1) ∧ (∃ S38 : MS, S38 = wI U147 16 6 (t147_1 ||| t147_0) ∧ qT U147 16 = 41 ∧ wfC S38 ∧ (ro = v147_2 ∧ uo = S38))))
def v_X1_take_J146 (ro : Int32) (uo : MS) (U146 : MS) (t146_0 : Int32) (v146_2 : Int32) : Prop := (wfC U146 ∧ (v_X1_take_J147 ro uo U146 0 t146_0 v146_2))
def v_X1_take_J195 (ro : Int32) (uo : MS) (U195 : MS) (t195_0 : Int32) (t195_1 : Int32) (v195_2 : Int32) : Prop := (wfC U195 ∧ (t195_0 = 0 ∨ t195_0 = 1) ∧ (((t195_1 ||| t195_0) = 0 ∨ (t195_1 ||| t195_0) = 1) ∧ (∃ S47 : MS, S47 = wI U195 16 6 (t195_1 ||| t195_0) ∧ qT U195 16 = 41 ∧ wfC S47 ∧ (ro = v195_2 ∧ uo = S47))))
def vX1_take (S : MS) (x1 : Int32) (ro : Int32) (uo : MS) : Prop := (∃ (r2 : Int32) (S3 : MS), vX1_pop S r2 S3 ∧ wfC S3 ∧ shy S S3 ∧ ((x1.toInt = 1 ∧ ((r2.toInt = 1 ∧ (v_X1_take_J55 ro uo S3 0 (qI S3 16 6) r2)) ∨ (¬ r2.toInt = 1 ∧ (v_X1_take_J55 ro uo S3 1 (qI S3 16 6) r2)))) ∨ (¬ x1.toInt = 1 ∧ ((x1.toInt = 2 ∧ ((r2.toInt = 3 ∧ (v_X1_take_J77 ro uo S3 0 (qI S3 16 6) r2)) ∨ (¬ r2.toInt = 3 ∧ (v_X1_take_J77 ro uo S3 1 (qI S3 16 6) r2)))) ∨ (¬ x1.toInt = 2 ∧ ((x1.toInt = 3 ∧ ((r2.toInt = 4 ∧ (v_X1_take_J118 ro uo S3 (qI S3 16 6) r2)) ∨ (¬ r2.toInt = 4 ∧ ((r2.toInt = 6 ∧ (v_X1_take_J118 ro uo S3 (qI S3 16 6) r2)) ∨ (¬ r2.toInt = 6 ∧ (v_X1_take_J119 ro uo S3 1 (qI S3 16 6) r2)))))) ∨ (¬ x1.toInt = 3 ∧ ((x1.toInt = 4 ∧ (d_X1_isReference S3 r2 ∧ (((fX1_isReference S3 r2).toInt = 0 ∧ (v_X1_take_J171 ro uo S3 1 (qI S3 16 6) r2)) ∨ (¬ (fX1_isReference S3 r2).toInt = 0 ∧ (v_X1_take_J171 ro uo S3 0 (qI S3 16 6) r2))))) ∨ (¬ x1.toInt = 4 ∧ ((x1.toInt = 5 ∧ ((r2.toInt = 5 ∧ (v_X1_take_J146 ro uo S3 (qI S3 16 6) r2)) ∨ (¬ r2.toInt = 5 ∧ ((r2.toInt = 6 ∧ (v_X1_take_J146 ro uo S3 (qI S3 16 6) r2)) ∨ (¬ r2.toInt = 6 ∧ (v_X1_take_J147 ro uo S3 1 (qI S3 16 6) r2)))))) ∨ (¬ x1.toInt = 5 ∧ (d_X1_isOnePlace S3 r2 ∧ (((fX1_isOnePlace S3 r2).toInt = 0 ∧ (v_X1_take_J195 ro uo S3 1 (qI S3 16 6) r2)) ∨ (¬ (fX1_isOnePlace S3 r2).toInt = 0 ∧ (v_X1_take_J195 ro uo S3 0 (qI S3 16 6) r2)))))))))))))))
set_option maxRecDepth 100000 in
theorem ru_X1_take_J55 {ι : Type} {P Q : Int32 → MS → Prop} {U55 : MS} {t55_0 : Int32} {t55_1 : Int32} {v55_2 : Int32} (i0 : ι) (K : ∀ (i : ι) (ro : Int32) (uo : MS), v_X1_take_J55 ro uo U55 t55_0 t55_1 v55_2 → P ro uo) (h : w_X1_take_J55 Q U55 t55_0 t55_1 v55_2) : w_X1_take_J55 (fun r u => Q r u ∧ P r u) U55 t55_0 t55_1 v55_2 := by
  unfold w_X1_take_J55 at h ⊢
  intro y1_ y2_
  replace h := h y1_ y2_
  replace K := fun i ro uo z => K i ro uo ⟨y1_, y2_, z⟩
  obtain ⟨g3_, h⟩ := h
  refine ⟨g3_, ?_⟩
  replace K := fun i ro uo z => K i ro uo ⟨g3_, z⟩
  intro S8 eS8 y4_ y5_
  replace h := h S8 eS8 y4_ y5_
  replace K := fun i ro uo z => K i ro uo ⟨S8, eS8, y4_, y5_, z⟩
  exact ⟨h, K i0 _ _ ⟨rfl, rfl⟩⟩
set_option maxRecDepth 100000 in
theorem ru_X1_take_J90 {ι : Type} {P Q : Int32 → MS → Prop} {U90 : MS} {t90_0 : Int32} {t90_1 : Int32} {t90_2 : Int32} {v90_2 : Int32} (i0 : ι) (K : ∀ (i : ι) (ro : Int32) (uo : MS), v_X1_take_J90 ro uo U90 t90_0 t90_1 t90_2 v90_2 → P ro uo) (h : w_X1_take_J90 Q U90 t90_0 t90_1 t90_2 v90_2) : w_X1_take_J90 (fun r u => Q r u ∧ P r u) U90 t90_0 t90_1 t90_2 v90_2 := by
  unfold w_X1_take_J90 at h ⊢
  intro y6_ y7_
  replace h := h y6_ y7_
  replace K := fun i ro uo z => K i ro uo ⟨y6_, y7_, z⟩
  obtain ⟨g8_, h⟩ := h
  refine ⟨g8_, ?_⟩
  replace K := fun i ro uo z => K i ro uo ⟨g8_, z⟩
  intro S18 eS18 y9_ y10_
  replace h := h S18 eS18 y9_ y10_
  replace K := fun i ro uo z => K i ro uo ⟨S18, eS18, y9_, y10_, z⟩
  exact ⟨h, K i0 _ _ ⟨rfl, rfl⟩⟩
set_option maxRecDepth 100000 in
theorem ru_X1_take_J77 {ι : Type} {P Q : Int32 → MS → Prop} {U77 : MS} {t77_0 : Int32} {t77_1 : Int32} {v77_2 : Int32} (i0 : ι) (K : ∀ (i : ι) (ro : Int32) (uo : MS), v_X1_take_J77 ro uo U77 t77_0 t77_1 v77_2 → P ro uo) (h : w_X1_take_J77 Q U77 t77_0 t77_1 v77_2) : w_X1_take_J77 (fun r u => Q r u ∧ P r u) U77 t77_0 t77_1 v77_2 := by
  unfold w_X1_take_J77 at h ⊢
  intro y11_ y12_
  replace h := h y11_ y12_
  replace K := fun i ro uo z => K i ro uo ⟨y11_, y12_, z⟩
  obtain ⟨Q9, h0, h⟩ := h
  refine ⟨_, ruX1_pop h0, ?_⟩
  intro r12 S13 q13_ y14_ y15_
  replace h := h r12 S13 q13_.1 y14_ y15_
  replace K := fun i ro uo z => K i ro uo ⟨r12, S13, q13_.2, y14_, y15_, z⟩
  refine ⟨fun c => ?_, fun c => ?_⟩
  · replace h := h.1 c
    replace K := fun i ro uo z => K i ro uo (Or.inl ⟨c, z⟩)
    exact ru_X1_take_J90 i0 K h
  · replace h := h.2 c
    replace K := fun i ro uo z => K i ro uo (Or.inr ⟨c, z⟩)
    exact ru_X1_take_J90 i0 K h
set_option maxRecDepth 100000 in
theorem ru_X1_take_J119 {ι : Type} {P Q : Int32 → MS → Prop} {U119 : MS} {t119_0 : Int32} {t119_1 : Int32} {v119_2 : Int32} (i0 : ι) (K : ∀ (i : ι) (ro : Int32) (uo : MS), v_X1_take_J119 ro uo U119 t119_0 t119_1 v119_2 → P ro uo) (h : w_X1_take_J119 Q U119 t119_0 t119_1 v119_2) : w_X1_take_J119 (fun r u => Q r u ∧ P r u) U119 t119_0 t119_1 v119_2 := by
  unfold w_X1_take_J119 at h ⊢
  intro y16_ y17_
  replace h := h y16_ y17_
  replace K := fun i ro uo z => K i ro uo ⟨y16_, y17_, z⟩
  obtain ⟨g18_, h⟩ := h
  refine ⟨g18_, ?_⟩
  replace K := fun i ro uo z => K i ro uo ⟨g18_, z⟩
  intro S24 eS24 y19_ y20_
  replace h := h S24 eS24 y19_ y20_
  replace K := fun i ro uo z => K i ro uo ⟨S24, eS24, y19_, y20_, z⟩
  exact ⟨h, K i0 _ _ ⟨rfl, rfl⟩⟩
set_option maxRecDepth 100000 in
theorem ru_X1_take_J118 {ι : Type} {P Q : Int32 → MS → Prop} {U118 : MS} {t118_0 : Int32} {v118_2 : Int32} (i0 : ι) (K : ∀ (i : ι) (ro : Int32) (uo : MS), v_X1_take_J118 ro uo U118 t118_0 v118_2 → P ro uo) (h : w_X1_take_J118 Q U118 t118_0 v118_2) : w_X1_take_J118 (fun r u => Q r u ∧ P r u) U118 t118_0 v118_2 := by
  unfold w_X1_take_J118 at h ⊢
  intro y21_
  replace h := h y21_
  replace K := fun i ro uo z => K i ro uo ⟨y21_, z⟩
  exact ru_X1_take_J119 i0 K h
set_option maxRecDepth 100000 in
theorem ru_X1_take_J171 {ι : Type} {P Q : Int32 → MS → Prop} {U171 : MS} {t171_0 : Int32} {t171_1 : Int32} {v171_2 : Int32} (i0 : ι) (K : ∀ (i : ι) (ro : Int32) (uo : MS), v_X1_take_J171 ro uo U171 t171_0 t171_1 v171_2 → P ro uo) (h : w_X1_take_J171 Q U171 t171_0 t171_1 v171_2) : w_X1_take_J171 (fun r u => Q r u ∧ P r u) U171 t171_0 t171_1 v171_2 := by
  unfold w_X1_take_J171 at h ⊢
  intro y22_ y23_
  replace h := h y22_ y23_
  replace K := fun i ro uo z => K i ro uo ⟨y22_, y23_, z⟩
  obtain ⟨g24_, h⟩ := h
  refine ⟨g24_, ?_⟩
  replace K := fun i ro uo z => K i ro uo ⟨g24_, z⟩
  intro S33 eS33 y25_ y26_
  replace h := h S33 eS33 y25_ y26_
  replace K := fun i ro uo z => K i ro uo ⟨S33, eS33, y25_, y26_, z⟩
  exact ⟨h, K i0 _ _ ⟨rfl, rfl⟩⟩
set_option maxRecDepth 100000 in
theorem ru_X1_take_J147 {ι : Type} {P Q : Int32 → MS → Prop} {U147 : MS} {t147_0 : Int32} {t147_1 : Int32} {v147_2 : Int32} (i0 : ι) (K : ∀ (i : ι) (ro : Int32) (uo : MS), v_X1_take_J147 ro uo U147 t147_0 t147_1 v147_2 → P ro uo) (h : w_X1_take_J147 Q U147 t147_0 t147_1 v147_2) : w_X1_take_J147 (fun r u => Q r u ∧ P r u) U147 t147_0 t147_1 v147_2 := by
  unfold w_X1_take_J147 at h ⊢
  intro y27_ y28_
  replace h := h y27_ y28_
  replace K := fun i ro uo z => K i ro uo ⟨y27_, y28_, z⟩
  obtain ⟨g29_, h⟩ := h
  refine ⟨g29_, ?_⟩
  replace K := fun i ro uo z => K i ro uo ⟨g29_, z⟩
  intro S38 eS38 y30_ y31_
  replace h := h S38 eS38 y30_ y31_
  replace K := fun i ro uo z => K i ro uo ⟨S38, eS38, y30_, y31_, z⟩
  exact ⟨h, K i0 _ _ ⟨rfl, rfl⟩⟩
set_option maxRecDepth 100000 in
theorem ru_X1_take_J146 {ι : Type} {P Q : Int32 → MS → Prop} {U146 : MS} {t146_0 : Int32} {v146_2 : Int32} (i0 : ι) (K : ∀ (i : ι) (ro : Int32) (uo : MS), v_X1_take_J146 ro uo U146 t146_0 v146_2 → P ro uo) (h : w_X1_take_J146 Q U146 t146_0 v146_2) : w_X1_take_J146 (fun r u => Q r u ∧ P r u) U146 t146_0 v146_2 := by
  unfold w_X1_take_J146 at h ⊢
  intro y32_
  replace h := h y32_
  replace K := fun i ro uo z => K i ro uo ⟨y32_, z⟩
  exact ru_X1_take_J147 i0 K h
set_option maxRecDepth 100000 in
theorem ru_X1_take_J195 {ι : Type} {P Q : Int32 → MS → Prop} {U195 : MS} {t195_0 : Int32} {t195_1 : Int32} {v195_2 : Int32} (i0 : ι) (K : ∀ (i : ι) (ro : Int32) (uo : MS), v_X1_take_J195 ro uo U195 t195_0 t195_1 v195_2 → P ro uo) (h : w_X1_take_J195 Q U195 t195_0 t195_1 v195_2) : w_X1_take_J195 (fun r u => Q r u ∧ P r u) U195 t195_0 t195_1 v195_2 := by
  unfold w_X1_take_J195 at h ⊢
  intro y33_ y34_
  replace h := h y33_ y34_
  replace K := fun i ro uo z => K i ro uo ⟨y33_, y34_, z⟩
  obtain ⟨g35_, h⟩ := h
  refine ⟨g35_, ?_⟩
  replace K := fun i ro uo z => K i ro uo ⟨g35_, z⟩
  intro S47 eS47 y36_ y37_
  replace h := h S47 eS47 y36_ y37_
  replace K := fun i ro uo z => K i ro uo ⟨S47, eS47, y36_, y37_, z⟩
  exact ⟨h, K i0 _ _ ⟨rfl, rfl⟩⟩
set_option maxRecDepth 100000 in
theorem ruX1_take {S : MS} {x1 : Int32} {Q : Int32 → MS → Prop} (h : wX1_take S x1 Q) : wX1_take S x1 (fun r u => Q r u ∧ vX1_take S x1 r u) := by
  have i0 : Unit := ()
  have K : ∀ (i : Unit) (ro : Int32) (uo : MS), vX1_take S x1 ro uo → vX1_take S x1 ro uo := fun _ _ _ z => z
  unfold wX1_take at h ⊢
  obtain ⟨Q9, h0, h⟩ := h
  refine ⟨_, ruX1_pop h0, ?_⟩
  intro r2 S3 q38_ y39_ y40_
  replace h := h r2 S3 q38_.1 y39_ y40_
  replace K := fun i ro uo z => K i ro uo ⟨r2, S3, q38_.2, y39_, y40_, z⟩
  refine ⟨fun c => ?_, fun c => ?_⟩
  · replace h := h.1 c
    replace K := fun i ro uo z => K i ro uo (Or.inl ⟨c, z⟩)
    refine ⟨fun c => ?_, fun c => ?_⟩
    · replace h := h.1 c
      replace K := fun i ro uo z => K i ro uo (Or.inl ⟨c, z⟩)
      exact ru_X1_take_J55 i0 K h
    · replace h := h.2 c
      replace K := fun i ro uo z => K i ro uo (Or.inr ⟨c, z⟩)
      exact ru_X1_take_J55 i0 K h
  · replace h := h.2 c
    replace K := fun i ro uo z => K i ro uo (Or.inr ⟨c, z⟩)
    refine ⟨fun c => ?_, fun c => ?_⟩
    · replace h := h.1 c
      replace K := fun i ro uo z => K i ro uo (Or.inl ⟨c, z⟩)
      refine ⟨fun c => ?_, fun c => ?_⟩
      · replace h := h.1 c
        replace K := fun i ro uo z => K i ro uo (Or.inl ⟨c, z⟩)
        exact ru_X1_take_J77 i0 K h
      · replace h := h.2 c
        replace K := fun i ro uo z => K i ro uo (Or.inr ⟨c, z⟩)
        exact ru_X1_take_J77 i0 K h
    · replace h := h.2 c
      replace K := fun i ro uo z => K i ro uo (Or.inr ⟨c, z⟩)
      refine ⟨fun c => ?_, fun c => ?_⟩
      · replace h := h.1 c
        replace K := fun i ro uo z => K i ro uo (Or.inl ⟨c, z⟩)
        refine ⟨fun c => ?_, fun c => ?_⟩
        · replace h := h.1 c
          replace K := fun i ro uo z => K i ro uo (Or.inl ⟨c, z⟩)
          exact ru_X1_take_J118 i0 K h
        · replace h := h.2 c
          replace K := fun i ro uo z => K i ro uo (Or.inr ⟨c, z⟩)
          refine ⟨fun c => ?_, fun c => ?_⟩
          · replace h := h.1 c
            replace K := fun i ro uo z => K i ro uo (Or.inl ⟨c, z⟩)
            exact ru_X1_take_J118 i0 K h
          · replace h := h.2 c
            replace K := fun i ro uo z => K i ro uo (Or.inr ⟨c, z⟩)
            exact ru_X1_take_J119 i0 K h
      · replace h := h.2 c
        replace K := fun i ro uo z => K i ro uo (Or.inr ⟨c, z⟩)
        refine ⟨fun c => ?_, fun c => ?_⟩
        · replace h := h.1 c
          replace K := fun i ro uo z => K i ro uo (Or.inl ⟨c, z⟩)
          obtain ⟨g41_, h⟩ := h
          refine ⟨g41_, ?_⟩
          replace K := fun i ro uo z => K i ro uo ⟨g41_, z⟩
          refine ⟨fun c => ?_, fun c => ?_⟩
          · replace h := h.1 c
            replace K := fun i ro uo z => K i ro uo (Or.inl ⟨c, z⟩)
            exact ru_X1_take_J171 i0 K h
          · replace h := h.2 c
            replace K := fun i ro uo z => K i ro uo (Or.inr ⟨c, z⟩)
            exact ru_X1_take_J171 i0 K h
        · replace h := h.2 c
          replace K := fun i ro uo z => K i ro uo (Or.inr ⟨c, z⟩)
          refine ⟨fun c => ?_, fun c => ?_⟩
          · replace h := h.1 c
            replace K := fun i ro uo z => K i ro uo (Or.inl ⟨c, z⟩)
            refine ⟨fun c => ?_, fun c => ?_⟩
            · replace h := h.1 c
              replace K := fun i ro uo z => K i ro uo (Or.inl ⟨c, z⟩)
              exact ru_X1_take_J146 i0 K h
            · replace h := h.2 c
              replace K := fun i ro uo z => K i ro uo (Or.inr ⟨c, z⟩)
              refine ⟨fun c => ?_, fun c => ?_⟩
              · replace h := h.1 c
                replace K := fun i ro uo z => K i ro uo (Or.inl ⟨c, z⟩)
                exact ru_X1_take_J146 i0 K h
              · replace h := h.2 c
                replace K := fun i ro uo z => K i ro uo (Or.inr ⟨c, z⟩)
                exact ru_X1_take_J147 i0 K h
          · replace h := h.2 c
            replace K := fun i ro uo z => K i ro uo (Or.inr ⟨c, z⟩)
            obtain ⟨g42_, h⟩ := h
            refine ⟨g42_, ?_⟩
            replace K := fun i ro uo z => K i ro uo ⟨g42_, z⟩
            refine ⟨fun c => ?_, fun c => ?_⟩
            · replace h := h.1 c
              replace K := fun i ro uo z => K i ro uo (Or.inl ⟨c, z⟩)
              exact ru_X1_take_J195 i0 K h
            · replace h := h.2 c
              replace K := fun i ro uo z => K i ro uo (Or.inr ⟨c, z⟩)
              exact ru_X1_take_J195 i0 K h
set_option maxRecDepth 100000 in
theorem vw_X1_take_J55 {ro : Int32} {uo : MS} {U55 : MS} {t55_0 : Int32} {t55_1 : Int32} {v55_2 : Int32} (h : v_X1_take_J55 ro uo U55 t55_0 t55_1 v55_2) : w_X1_take_J55 (fun r u => r = ro ∧ u = uo) U55 t55_0 t55_1 v55_2 := by
  unfold v_X1_take_J55 at h
  unfold w_X1_take_J55
  intro _ _
  replace h := h.2.2
  obtain ⟨g9, h⟩ := h
  refine ⟨g9, ?_⟩
  obtain ⟨v9, e9, h⟩ := h
  intro x9 d9 _ _
  have c9 : v9 = x9 := e9.trans d9.symm
  subst c9
  replace h := h.2.2
  exact ⟨h.1.symm, h.2.symm⟩
set_option maxRecDepth 100000 in
theorem vp_X1_take_J55 {ro : Int32} {uo : MS} {P : Int32 → MS → Prop} {U55 : MS} {t55_0 : Int32} {t55_1 : Int32} {v55_2 : Int32} (h : v_X1_take_J55 ro uo U55 t55_0 t55_1 v55_2) (w : w_X1_take_J55 P U55 t55_0 t55_1 v55_2) : P ro uo := by
  unfold v_X1_take_J55 at h
  unfold w_X1_take_J55 at w
  obtain ⟨y1_, y2_, h⟩ := h
  replace w := w y1_ y2_
  replace h := h.2
  replace w := w.2
  obtain ⟨v9, e9, y3_, y4_, h⟩ := h
  replace w := w v9 e9 y3_ y4_
  rw [h.1, h.2]
  exact w
set_option maxRecDepth 100000 in
theorem vw_X1_take_J90 {ro : Int32} {uo : MS} {U90 : MS} {t90_0 : Int32} {t90_1 : Int32} {t90_2 : Int32} {v90_2 : Int32} (h : v_X1_take_J90 ro uo U90 t90_0 t90_1 t90_2 v90_2) : w_X1_take_J90 (fun r u => r = ro ∧ u = uo) U90 t90_0 t90_1 t90_2 v90_2 := by
  unfold v_X1_take_J90 at h
  unfold w_X1_take_J90
  intro _ _
  replace h := h.2.2
  obtain ⟨g9, h⟩ := h
  refine ⟨g9, ?_⟩
  obtain ⟨v9, e9, h⟩ := h
  intro x9 d9 _ _
  have c9 : v9 = x9 := e9.trans d9.symm
  subst c9
  replace h := h.2.2
  exact ⟨h.1.symm, h.2.symm⟩
set_option maxRecDepth 100000 in
theorem vp_X1_take_J90 {ro : Int32} {uo : MS} {P : Int32 → MS → Prop} {U90 : MS} {t90_0 : Int32} {t90_1 : Int32} {t90_2 : Int32} {v90_2 : Int32} (h : v_X1_take_J90 ro uo U90 t90_0 t90_1 t90_2 v90_2) (w : w_X1_take_J90 P U90 t90_0 t90_1 t90_2 v90_2) : P ro uo := by
  unfold v_X1_take_J90 at h
  unfold w_X1_take_J90 at w
  obtain ⟨y5_, y6_, h⟩ := h
  replace w := w y5_ y6_
  replace h := h.2
  replace w := w.2
  obtain ⟨v9, e9, y7_, y8_, h⟩ := h
  replace w := w v9 e9 y7_ y8_
  rw [h.1, h.2]
  exact w
set_option maxRecDepth 100000 in
theorem vw_X1_take_J77 {ro : Int32} {uo : MS} {U77 : MS} {t77_0 : Int32} {t77_1 : Int32} {v77_2 : Int32} (h : v_X1_take_J77 ro uo U77 t77_0 t77_1 v77_2) : w_X1_take_J77 (fun r u => r = ro ∧ u = uo) U77 t77_0 t77_1 v77_2 := by
  unfold v_X1_take_J77 at h
  unfold w_X1_take_J77
  intro _ _
  replace h := h.2.2
  obtain ⟨p9, q9, z9, h⟩ := h
  refine ⟨_, vwX1_pop z9, ?_⟩
  rintro p8 q8 ⟨d8, d9⟩ _ _
  subst d8
  subst d9
  replace h := h.2.2
  rcases h with ⟨c, h⟩ | ⟨c, h⟩
  · refine ⟨fun _ => ?_, fun c2 => absurd c c2⟩
    exact vw_X1_take_J90 h
  · refine ⟨fun c2 => absurd c2 c, fun _ => ?_⟩
    exact vw_X1_take_J90 h
set_option maxRecDepth 100000 in
theorem vp_X1_take_J77 {ro : Int32} {uo : MS} {P : Int32 → MS → Prop} {U77 : MS} {t77_0 : Int32} {t77_1 : Int32} {v77_2 : Int32} (h : v_X1_take_J77 ro uo U77 t77_0 t77_1 v77_2) (w : w_X1_take_J77 P U77 t77_0 t77_1 v77_2) : P ro uo := by
  unfold v_X1_take_J77 at h
  unfold w_X1_take_J77 at w
  obtain ⟨y9_, y10_, h⟩ := h
  replace w := w y9_ y10_
  obtain ⟨p9, q9, z9, y11_, y12_, h⟩ := h
  obtain ⟨Q9, w0, w⟩ := w
  replace w := w p9 q9 (vpX1_pop z9 w0) y11_ y12_
  rcases h with ⟨c, h⟩ | ⟨c, h⟩
  · replace w := w.1 c
    exact vp_X1_take_J90 h w
  · replace w := w.2 c
    exact vp_X1_take_J90 h w
set_option maxRecDepth 100000 in
theorem vw_X1_take_J119 {ro : Int32} {uo : MS} {U119 : MS} {t119_0 : Int32} {t119_1 : Int32} {v119_2 : Int32} (h : v_X1_take_J119 ro uo U119 t119_0 t119_1 v119_2) : w_X1_take_J119 (fun r u => r = ro ∧ u = uo) U119 t119_0 t119_1 v119_2 := by
  unfold v_X1_take_J119 at h
  unfold w_X1_take_J119
  intro _ _
  replace h := h.2.2
  obtain ⟨g9, h⟩ := h
  refine ⟨g9, ?_⟩
  obtain ⟨v9, e9, h⟩ := h
  intro x9 d9 _ _
  have c9 : v9 = x9 := e9.trans d9.symm
  subst c9
  replace h := h.2.2
  exact ⟨h.1.symm, h.2.symm⟩
set_option maxRecDepth 100000 in
theorem vp_X1_take_J119 {ro : Int32} {uo : MS} {P : Int32 → MS → Prop} {U119 : MS} {t119_0 : Int32} {t119_1 : Int32} {v119_2 : Int32} (h : v_X1_take_J119 ro uo U119 t119_0 t119_1 v119_2) (w : w_X1_take_J119 P U119 t119_0 t119_1 v119_2) : P ro uo := by
  unfold v_X1_take_J119 at h
  unfold w_X1_take_J119 at w
  obtain ⟨y13_, y14_, h⟩ := h
  replace w := w y13_ y14_
  replace h := h.2
  replace w := w.2
  obtain ⟨v9, e9, y15_, y16_, h⟩ := h
  replace w := w v9 e9 y15_ y16_
  rw [h.1, h.2]
  exact w
set_option maxRecDepth 100000 in
theorem vw_X1_take_J118 {ro : Int32} {uo : MS} {U118 : MS} {t118_0 : Int32} {v118_2 : Int32} (h : v_X1_take_J118 ro uo U118 t118_0 v118_2) : w_X1_take_J118 (fun r u => r = ro ∧ u = uo) U118 t118_0 v118_2 := by
  unfold v_X1_take_J118 at h
  unfold w_X1_take_J118
  intro _
  replace h := h.2
  exact vw_X1_take_J119 h
set_option maxRecDepth 100000 in
theorem vp_X1_take_J118 {ro : Int32} {uo : MS} {P : Int32 → MS → Prop} {U118 : MS} {t118_0 : Int32} {v118_2 : Int32} (h : v_X1_take_J118 ro uo U118 t118_0 v118_2) (w : w_X1_take_J118 P U118 t118_0 v118_2) : P ro uo := by
  unfold v_X1_take_J118 at h
  unfold w_X1_take_J118 at w
  obtain ⟨y17_, h⟩ := h
  replace w := w y17_
  exact vp_X1_take_J119 h w
set_option maxRecDepth 100000 in
theorem vw_X1_take_J171 {ro : Int32} {uo : MS} {U171 : MS} {t171_0 : Int32} {t171_1 : Int32} {v171_2 : Int32} (h : v_X1_take_J171 ro uo U171 t171_0 t171_1 v171_2) : w_X1_take_J171 (fun r u => r = ro ∧ u = uo) U171 t171_0 t171_1 v171_2 := by
  unfold v_X1_take_J171 at h
  unfold w_X1_take_J171
  intro _ _
  replace h := h.2.2
  obtain ⟨g9, h⟩ := h
  refine ⟨g9, ?_⟩
  obtain ⟨v9, e9, h⟩ := h
  intro x9 d9 _ _
  have c9 : v9 = x9 := e9.trans d9.symm
  subst c9
  replace h := h.2.2
  exact ⟨h.1.symm, h.2.symm⟩
set_option maxRecDepth 100000 in
theorem vp_X1_take_J171 {ro : Int32} {uo : MS} {P : Int32 → MS → Prop} {U171 : MS} {t171_0 : Int32} {t171_1 : Int32} {v171_2 : Int32} (h : v_X1_take_J171 ro uo U171 t171_0 t171_1 v171_2) (w : w_X1_take_J171 P U171 t171_0 t171_1 v171_2) : P ro uo := by
  unfold v_X1_take_J171 at h
  unfold w_X1_take_J171 at w
  obtain ⟨y18_, y19_, h⟩ := h
  replace w := w y18_ y19_
  replace h := h.2
  replace w := w.2
  obtain ⟨v9, e9, y20_, y21_, h⟩ := h
  replace w := w v9 e9 y20_ y21_
  rw [h.1, h.2]
  exact w
set_option maxRecDepth 100000 in
theorem vw_X1_take_J147 {ro : Int32} {uo : MS} {U147 : MS} {t147_0 : Int32} {t147_1 : Int32} {v147_2 : Int32} (h : v_X1_take_J147 ro uo U147 t147_0 t147_1 v147_2) : w_X1_take_J147 (fun r u => r = ro ∧ u = uo) U147 t147_0 t147_1 v147_2 := by
  unfold v_X1_take_J147 at h
  unfold w_X1_take_J147
  intro _ _
  replace h := h.2.2
  obtain ⟨g9, h⟩ := h
  refine ⟨g9, ?_⟩
  obtain ⟨v9, e9, h⟩ := h
  intro x9 d9 _ _
  have c9 : v9 = x9 := e9.trans d9.symm
  subst c9
  replace h := h.2.2
  exact ⟨h.1.symm, h.2.symm⟩
set_option maxRecDepth 100000 in
theorem vp_X1_take_J147 {ro : Int32} {uo : MS} {P : Int32 → MS → Prop} {U147 : MS} {t147_0 : Int32} {t147_1 : Int32} {v147_2 : Int32} (h : v_X1_take_J147 ro uo U147 t147_0 t147_1 v147_2) (w : w_X1_take_J147 P U147 t147_0 t147_1 v147_2) : P ro uo := by
  unfold v_X1_take_J147 at h
  unfold w_X1_take_J147 at w
  obtain ⟨y22_, y23_, h⟩ := h
  replace w := w y22_ y23_
  replace h := h.2
  replace w := w.2
  obtain ⟨v9, e9, y24_, y25_, h⟩ := h
  replace w := w v9 e9 y24_ y25_
  rw [h.1, h.2]
  exact w
set_option maxRecDepth 100000 in
theorem vw_X1_take_J146 {ro : Int32} {uo : MS} {U146 : MS} {t146_0 : Int32} {v146_2 : Int32} (h : v_X1_take_J146 ro uo U146 t146_0 v146_2) : w_X1_take_J146 (fun r u => r = ro ∧ u = uo) U146 t146_0 v146_2 := by
  unfold v_X1_take_J146 at h
  unfold w_X1_take_J146
  intro _
  replace h := h.2
  exact vw_X1_take_J147 h
set_option maxRecDepth 100000 in
theorem vp_X1_take_J146 {ro : Int32} {uo : MS} {P : Int32 → MS → Prop} {U146 : MS} {t146_0 : Int32} {v146_2 : Int32} (h : v_X1_take_J146 ro uo U146 t146_0 v146_2) (w : w_X1_take_J146 P U146 t146_0 v146_2) : P ro uo := by
  unfold v_X1_take_J146 at h
  unfold w_X1_take_J146 at w
  obtain ⟨y26_, h⟩ := h
  replace w := w y26_
  exact vp_X1_take_J147 h w
set_option maxRecDepth 100000 in
theorem vw_X1_take_J195 {ro : Int32} {uo : MS} {U195 : MS} {t195_0 : Int32} {t195_1 : Int32} {v195_2 : Int32} (h : v_X1_take_J195 ro uo U195 t195_0 t195_1 v195_2) : w_X1_take_J195 (fun r u => r = ro ∧ u = uo) U195 t195_0 t195_1 v195_2 := by
  unfold v_X1_take_J195 at h
  unfold w_X1_take_J195
  intro _ _
  replace h := h.2.2
  obtain ⟨g9, h⟩ := h
  refine ⟨g9, ?_⟩
  obtain ⟨v9, e9, h⟩ := h
  intro x9 d9 _ _
  have c9 : v9 = x9 := e9.trans d9.symm
  subst c9
  replace h := h.2.2
  exact ⟨h.1.symm, h.2.symm⟩
set_option maxRecDepth 100000 in
theorem vp_X1_take_J195 {ro : Int32} {uo : MS} {P : Int32 → MS → Prop} {U195 : MS} {t195_0 : Int32} {t195_1 : Int32} {v195_2 : Int32} (h : v_X1_take_J195 ro uo U195 t195_0 t195_1 v195_2) (w : w_X1_take_J195 P U195 t195_0 t195_1 v195_2) : P ro uo := by
  unfold v_X1_take_J195 at h
  unfold w_X1_take_J195 at w
  obtain ⟨y27_, y28_, h⟩ := h
  replace w := w y27_ y28_
  replace h := h.2
  replace w := w.2
  obtain ⟨v9, e9, y29_, y30_, h⟩ := h
  replace w := w v9 e9 y29_ y30_
  rw [h.1, h.2]
  exact w
set_option maxRecDepth 100000 in
theorem vwX1_take {S : MS} {x1 : Int32} {ro : Int32} {uo : MS} (h : vX1_take S x1 ro uo) : wX1_take S x1 (fun r u => r = ro ∧ u = uo) := by
  unfold vX1_take at h
  unfold wX1_take
  obtain ⟨p9, q9, z9, h⟩ := h
  refine ⟨_, vwX1_pop z9, ?_⟩
  rintro p8 q8 ⟨d8, d9⟩ _ _
  subst d8
  subst d9
  replace h := h.2.2
  rcases h with ⟨c, h⟩ | ⟨c, h⟩
  · refine ⟨fun _ => ?_, fun c2 => absurd c c2⟩
    rcases h with ⟨c, h⟩ | ⟨c, h⟩
    · refine ⟨fun _ => ?_, fun c2 => absurd c c2⟩
      exact vw_X1_take_J55 h
    · refine ⟨fun c2 => absurd c2 c, fun _ => ?_⟩
      exact vw_X1_take_J55 h
  · refine ⟨fun c2 => absurd c2 c, fun _ => ?_⟩
    rcases h with ⟨c, h⟩ | ⟨c, h⟩
    · refine ⟨fun _ => ?_, fun c2 => absurd c c2⟩
      rcases h with ⟨c, h⟩ | ⟨c, h⟩
      · refine ⟨fun _ => ?_, fun c2 => absurd c c2⟩
        exact vw_X1_take_J77 h
      · refine ⟨fun c2 => absurd c2 c, fun _ => ?_⟩
        exact vw_X1_take_J77 h
    · refine ⟨fun c2 => absurd c2 c, fun _ => ?_⟩
      rcases h with ⟨c, h⟩ | ⟨c, h⟩
      · refine ⟨fun _ => ?_, fun c2 => absurd c c2⟩
        rcases h with ⟨c, h⟩ | ⟨c, h⟩
        · refine ⟨fun _ => ?_, fun c2 => absurd c c2⟩
          exact vw_X1_take_J118 h
        · refine ⟨fun c2 => absurd c2 c, fun _ => ?_⟩
          rcases h with ⟨c, h⟩ | ⟨c, h⟩
          · refine ⟨fun _ => ?_, fun c2 => absurd c c2⟩
            exact vw_X1_take_J118 h
          · refine ⟨fun c2 => absurd c2 c, fun _ => ?_⟩
            exact vw_X1_take_J119 h
      · refine ⟨fun c2 => absurd c2 c, fun _ => ?_⟩
        rcases h with ⟨c, h⟩ | ⟨c, h⟩
        · refine ⟨fun _ => ?_, fun c2 => absurd c c2⟩
          obtain ⟨g9, h⟩ := h
          refine ⟨g9, ?_⟩
          rcases h with ⟨c, h⟩ | ⟨c, h⟩
          · refine ⟨fun _ => ?_, fun c2 => absurd c c2⟩
            exact vw_X1_take_J171 h
          · refine ⟨fun c2 => absurd c2 c, fun _ => ?_⟩
            exact vw_X1_take_J171 h
        · refine ⟨fun c2 => absurd c2 c, fun _ => ?_⟩
          rcases h with ⟨c, h⟩ | ⟨c, h⟩
          · refine ⟨fun _ => ?_, fun c2 => absurd c c2⟩
            rcases h with ⟨c, h⟩ | ⟨c, h⟩
            · refine ⟨fun _ => ?_, fun c2 => absurd c c2⟩
              exact vw_X1_take_J146 h
            · refine ⟨fun c2 => absurd c2 c, fun _ => ?_⟩
              rcases h with ⟨c, h⟩ | ⟨c, h⟩
              · refine ⟨fun _ => ?_, fun c2 => absurd c c2⟩
                exact vw_X1_take_J146 h
              · refine ⟨fun c2 => absurd c2 c, fun _ => ?_⟩
                exact vw_X1_take_J147 h
          · refine ⟨fun c2 => absurd c2 c, fun _ => ?_⟩
            obtain ⟨g9, h⟩ := h
            refine ⟨g9, ?_⟩
            rcases h with ⟨c, h⟩ | ⟨c, h⟩
            · refine ⟨fun _ => ?_, fun c2 => absurd c c2⟩
              exact vw_X1_take_J195 h
            · refine ⟨fun c2 => absurd c2 c, fun _ => ?_⟩
              exact vw_X1_take_J195 h
set_option maxRecDepth 100000 in
theorem vpX1_take {S : MS} {x1 : Int32} {ro : Int32} {uo : MS} {P : Int32 → MS → Prop} (h : vX1_take S x1 ro uo) (w : wX1_take S x1 P) : P ro uo := by
  unfold vX1_take at h
  unfold wX1_take at w
  obtain ⟨p9, q9, z9, y31_, y32_, h⟩ := h
  obtain ⟨Q9, w0, w⟩ := w
  replace w := w p9 q9 (vpX1_pop z9 w0) y31_ y32_
  rcases h with ⟨c, h⟩ | ⟨c, h⟩
  · replace w := w.1 c
    rcases h with ⟨c, h⟩ | ⟨c, h⟩
    · replace w := w.1 c
      exact vp_X1_take_J55 h w
    · replace w := w.2 c
      exact vp_X1_take_J55 h w
  · replace w := w.2 c
    rcases h with ⟨c, h⟩ | ⟨c, h⟩
    · replace w := w.1 c
      rcases h with ⟨c, h⟩ | ⟨c, h⟩
      · replace w := w.1 c
        exact vp_X1_take_J77 h w
      · replace w := w.2 c
        exact vp_X1_take_J77 h w
    · replace w := w.2 c
      rcases h with ⟨c, h⟩ | ⟨c, h⟩
      · replace w := w.1 c
        rcases h with ⟨c, h⟩ | ⟨c, h⟩
        · replace w := w.1 c
          exact vp_X1_take_J118 h w
        · replace w := w.2 c
          rcases h with ⟨c, h⟩ | ⟨c, h⟩
          · replace w := w.1 c
            exact vp_X1_take_J118 h w
          · replace w := w.2 c
            exact vp_X1_take_J119 h w
      · replace w := w.2 c
        rcases h with ⟨c, h⟩ | ⟨c, h⟩
        · replace w := w.1 c
          replace h := h.2
          replace w := w.2
          rcases h with ⟨c, h⟩ | ⟨c, h⟩
          · replace w := w.1 c
            exact vp_X1_take_J171 h w
          · replace w := w.2 c
            exact vp_X1_take_J171 h w
        · replace w := w.2 c
          rcases h with ⟨c, h⟩ | ⟨c, h⟩
          · replace w := w.1 c
            rcases h with ⟨c, h⟩ | ⟨c, h⟩
            · replace w := w.1 c
              exact vp_X1_take_J146 h w
            · replace w := w.2 c
              rcases h with ⟨c, h⟩ | ⟨c, h⟩
              · replace w := w.1 c
                exact vp_X1_take_J146 h w
              · replace w := w.2 c
                exact vp_X1_take_J147 h w
          · replace w := w.2 c
            replace h := h.2
            replace w := w.2
            rcases h with ⟨c, h⟩ | ⟨c, h⟩
            · replace w := w.1 c
              exact vp_X1_take_J195 h w
            · replace w := w.2 c
              exact vp_X1_take_J195 h w
def v_X1_give_J12 (uo : MS) (U12 : MS) (v12_1 : Int32) : Prop := (wfC U12 ∧ ((v12_1.toInt = 2 ∧ (∃ (S3 : MS), vX1_push U12 (3 : Int32) S3 ∧ wfC S3 ∧ shy U12 S3 ∧ (uo = S3))) ∨ (¬ v12_1.toInt = 2 ∧ (uo = U12))))
def vX1_give (S : MS) (x1 : Int32) (uo : MS) : Prop := ((x1.toInt = 0 ∧ (v_X1_give_J12 uo S x1)) ∨ (¬ x1.toInt = 0 ∧ (d_X1_lowerType S x1 ∧ (∃ a9 : Int32, a9 = (fX1_lowerType S x1) ∧ (∃ (S11 : MS), vX1_push S a9 S11 ∧ wfC S11 ∧ shy S S11 ∧ (v_X1_give_J12 uo S11 x1))))))
set_option maxRecDepth 100000 in
theorem ru_X1_give_J12 {ι : Type} {P Q : MS → Prop} {U12 : MS} {v12_1 : Int32} (i0 : ι) (K : ∀ (i : ι) (uo : MS), v_X1_give_J12 uo U12 v12_1 → P uo) (h : w_X1_give_J12 Q U12 v12_1) : w_X1_give_J12 (fun u => Q u ∧ P u) U12 v12_1 := by
  unfold w_X1_give_J12 at h ⊢
  intro y1_
  replace h := h y1_
  replace K := fun i uo z => K i uo ⟨y1_, z⟩
  refine ⟨fun c => ?_, fun c => ?_⟩
  · replace h := h.1 c
    replace K := fun i uo z => K i uo (Or.inl ⟨c, z⟩)
    obtain ⟨Q9, h0, h⟩ := h
    refine ⟨_, ruX1_push h0, ?_⟩
    intro S3 q2_ y3_ y4_
    replace h := h S3 q2_.1 y3_ y4_
    replace K := fun i uo z => K i uo ⟨S3, q2_.2, y3_, y4_, z⟩
    exact ⟨h, K i0 _ rfl⟩
  · replace h := h.2 c
    replace K := fun i uo z => K i uo (Or.inr ⟨c, z⟩)
    exact ⟨h, K i0 _ rfl⟩
set_option maxRecDepth 100000 in
theorem ruX1_give {S : MS} {x1 : Int32} {Q : MS → Prop} (h : wX1_give S x1 Q) : wX1_give S x1 (fun u => Q u ∧ vX1_give S x1 u) := by
  have i0 : Unit := ()
  have K : ∀ (i : Unit) (uo : MS), vX1_give S x1 uo → vX1_give S x1 uo := fun _ _ z => z
  unfold wX1_give at h ⊢
  refine ⟨fun c => ?_, fun c => ?_⟩
  · replace h := h.1 c
    replace K := fun i uo z => K i uo (Or.inl ⟨c, z⟩)
    exact ru_X1_give_J12 i0 K h
  · replace h := h.2 c
    replace K := fun i uo z => K i uo (Or.inr ⟨c, z⟩)
    obtain ⟨g5_, h⟩ := h
    refine ⟨g5_, ?_⟩
    replace K := fun i uo z => K i uo ⟨g5_, z⟩
    intro a9 ea9 
    replace h := h a9 ea9 
    replace K := fun i uo z => K i uo ⟨a9, ea9, z⟩
    obtain ⟨Q9, h0, h⟩ := h
    refine ⟨_, ruX1_push h0, ?_⟩
    intro S11 q6_ y7_ y8_
    replace h := h S11 q6_.1 y7_ y8_
    replace K := fun i uo z => K i uo ⟨S11, q6_.2, y7_, y8_, z⟩
    exact ru_X1_give_J12 i0 K h
set_option maxRecDepth 100000 in
theorem vw_X1_give_J12 {uo : MS} {U12 : MS} {v12_1 : Int32} (h : v_X1_give_J12 uo U12 v12_1) : w_X1_give_J12 (fun u => u = uo) U12 v12_1 := by
  unfold v_X1_give_J12 at h
  unfold w_X1_give_J12
  intro _
  replace h := h.2
  rcases h with ⟨c, h⟩ | ⟨c, h⟩
  · refine ⟨fun _ => ?_, fun c2 => absurd c c2⟩
    obtain ⟨q9, z9, h⟩ := h
    refine ⟨_, vwX1_push z9, ?_⟩
    intro q8 d9 _ _
    subst d9
    replace h := h.2.2
    exact h.symm
  · refine ⟨fun c2 => absurd c2 c, fun _ => ?_⟩
    exact h.symm
set_option maxRecDepth 100000 in
theorem vp_X1_give_J12 {uo : MS} {P : MS → Prop} {U12 : MS} {v12_1 : Int32} (h : v_X1_give_J12 uo U12 v12_1) (w : w_X1_give_J12 P U12 v12_1) : P uo := by
  unfold v_X1_give_J12 at h
  unfold w_X1_give_J12 at w
  obtain ⟨y1_, h⟩ := h
  replace w := w y1_
  rcases h with ⟨c, h⟩ | ⟨c, h⟩
  · replace w := w.1 c
    obtain ⟨q9, z9, y2_, y3_, h⟩ := h
    obtain ⟨Q9, w0, w⟩ := w
    replace w := w q9 (vpX1_push z9 w0) y2_ y3_
    rw [h]
    exact w
  · replace w := w.2 c
    rw [h]
    exact w
set_option maxRecDepth 100000 in
theorem vwX1_give {S : MS} {x1 : Int32} {uo : MS} (h : vX1_give S x1 uo) : wX1_give S x1 (fun u => u = uo) := by
  unfold vX1_give at h
  unfold wX1_give
  rcases h with ⟨c, h⟩ | ⟨c, h⟩
  · refine ⟨fun _ => ?_, fun c2 => absurd c c2⟩
    exact vw_X1_give_J12 h
  · refine ⟨fun c2 => absurd c2 c, fun _ => ?_⟩
    obtain ⟨g9, h⟩ := h
    refine ⟨g9, ?_⟩
    obtain ⟨v9, e9, h⟩ := h
    intro x9 d9 
    have c9 : v9 = x9 := e9.trans d9.symm
    subst c9
    obtain ⟨q9, z9, h⟩ := h
    refine ⟨_, vwX1_push z9, ?_⟩
    intro q8 d9 _ _
    subst d9
    replace h := h.2.2
    exact vw_X1_give_J12 h
set_option maxRecDepth 100000 in
theorem vpX1_give {S : MS} {x1 : Int32} {uo : MS} {P : MS → Prop} (h : vX1_give S x1 uo) (w : wX1_give S x1 P) : P uo := by
  unfold vX1_give at h
  unfold wX1_give at w
  rcases h with ⟨c, h⟩ | ⟨c, h⟩
  · replace w := w.1 c
    exact vp_X1_give_J12 h w
  · replace w := w.2 c
    replace h := h.2
    replace w := w.2
    obtain ⟨v9, e9, h⟩ := h
    replace w := w v9 e9 
    obtain ⟨q9, z9, y4_, y5_, h⟩ := h
    obtain ⟨Q9, w0, w⟩ := w
    replace w := w q9 (vpX1_push z9 w0) y4_ y5_
    exact vp_X1_give_J12 h w
def vX1_takeCopy (S : MS) (ro : Int32) (uo : MS) : Prop := (∃ (r2 : Int32) (S3 : MS), vX1_take S (6 : Int32) r2 S3 ∧ wfC S3 ∧ shy S S3 ∧ (d_X1_isOnePlace S3 r2 ∧ (((fX1_isOnePlace S3 r2).toInt = 0 ∧ (ro = (0 : Int32) ∧ uo = S3)) ∨ (¬ (fX1_isOnePlace S3 r2).toInt = 0 ∧ (ro = r2 ∧ uo = S3)))))
set_option maxRecDepth 100000 in
theorem ruX1_takeCopy {S : MS} {Q : Int32 → MS → Prop} (h : wX1_takeCopy S Q) : wX1_takeCopy S (fun r u => Q r u ∧ vX1_takeCopy S r u) := by
  have i0 : Unit := ()
  have K : ∀ (i : Unit) (ro : Int32) (uo : MS), vX1_takeCopy S ro uo → vX1_takeCopy S ro uo := fun _ _ _ z => z
  unfold wX1_takeCopy at h ⊢
  obtain ⟨Q9, h0, h⟩ := h
  refine ⟨_, ruX1_take h0, ?_⟩
  intro r2 S3 q1_ y2_ y3_
  replace h := h r2 S3 q1_.1 y2_ y3_
  replace K := fun i ro uo z => K i ro uo ⟨r2, S3, q1_.2, y2_, y3_, z⟩
  obtain ⟨g4_, h⟩ := h
  refine ⟨g4_, ?_⟩
  replace K := fun i ro uo z => K i ro uo ⟨g4_, z⟩
  refine ⟨fun c => ?_, fun c => ?_⟩
  · replace h := h.1 c
    replace K := fun i ro uo z => K i ro uo (Or.inl ⟨c, z⟩)
    exact ⟨h, K i0 _ _ ⟨rfl, rfl⟩⟩
  · replace h := h.2 c
    replace K := fun i ro uo z => K i ro uo (Or.inr ⟨c, z⟩)
    exact ⟨h, K i0 _ _ ⟨rfl, rfl⟩⟩
set_option maxRecDepth 100000 in
theorem vwX1_takeCopy {S : MS} {ro : Int32} {uo : MS} (h : vX1_takeCopy S ro uo) : wX1_takeCopy S (fun r u => r = ro ∧ u = uo) := by
  unfold vX1_takeCopy at h
  unfold wX1_takeCopy
  obtain ⟨p9, q9, z9, h⟩ := h
  refine ⟨_, vwX1_take z9, ?_⟩
  rintro p8 q8 ⟨d8, d9⟩ _ _
  subst d8
  subst d9
  replace h := h.2.2
  obtain ⟨g9, h⟩ := h
  refine ⟨g9, ?_⟩
  rcases h with ⟨c, h⟩ | ⟨c, h⟩
  · refine ⟨fun _ => ?_, fun c2 => absurd c c2⟩
    exact ⟨h.1.symm, h.2.symm⟩
  · refine ⟨fun c2 => absurd c2 c, fun _ => ?_⟩
    exact ⟨h.1.symm, h.2.symm⟩
set_option maxRecDepth 100000 in
theorem vpX1_takeCopy {S : MS} {ro : Int32} {uo : MS} {P : Int32 → MS → Prop} (h : vX1_takeCopy S ro uo) (w : wX1_takeCopy S P) : P ro uo := by
  unfold vX1_takeCopy at h
  unfold wX1_takeCopy at w
  obtain ⟨p9, q9, z9, y1_, y2_, h⟩ := h
  obtain ⟨Q9, w0, w⟩ := w
  replace w := w p9 q9 (vpX1_take z9 w0) y1_ y2_
  replace h := h.2
  replace w := w.2
  rcases h with ⟨c, h⟩ | ⟨c, h⟩
  · replace w := w.1 c
    rw [h.1, h.2]
    exact w
  · replace w := w.2 c
    rw [h.1, h.2]
    exact w
def v_X1_shuffle_J65 (uo : MS) (U65 : MS) (t65_0 : Int32) (v65_1 : Int32) (v65_2 : Int32) : Prop := (wfC U65 ∧ ((v65_1.toInt = 89 ∧ (∃ (S6 : MS), vX1_push U65 v65_2 S6 ∧ wfC S6 ∧ shy U65 S6 ∧ (∃ (S9 : MS), vX1_push S6 v65_2 S9 ∧ wfC S9 ∧ shy S6 S9 ∧ (uo = S9)))) ∨ (¬ v65_1.toInt = 89 ∧ ((v65_1.toInt = 90 ∧ (∃ (S12 : MS), vX1_push U65 v65_2 S12 ∧ wfC S12 ∧ shy U65 S12 ∧ (∃ (S15 : MS), vX1_push S12 t65_0 S15 ∧ wfC S15 ∧ shy S12 S15 ∧ (∃ (S18 : MS), vX1_push S15 v65_2 S18 ∧ wfC S18 ∧ shy S15 S18 ∧ (uo = S18))))) ∨ (¬ v65_1.toInt = 90 ∧ ((v65_1.toInt = 91 ∧ (uo = U65)) ∨ (¬ v65_1.toInt = 91 ∧ ((v65_1.toInt = 92 ∧ (∃ (S21 : MS), vX1_push U65 t65_0 S21 ∧ wfC S21 ∧ shy U65 S21 ∧ (∃ (S24 : MS), vX1_push S21 v65_2 S24 ∧ wfC S24 ∧ shy S21 S24 ∧ (∃ (S27 : MS), vX1_push S24 t65_0 S27 ∧ wfC S27 ∧ shy S24 S27 ∧ (∃ (S30 : MS), vX1_push S27 v65_2 S30 ∧ wfC S30 ∧ shy S27 S30 ∧ (uo = S30)))))) ∨ (¬ v65_1.toInt = 92 ∧ ((v65_1.toInt = 93 ∧ (uo = U65)) ∨ (¬ v65_1.toInt = 93 ∧ ((v65_1.toInt = 94 ∧ (uo = U65)) ∨ (¬ v65_1.toInt = 94 ∧ ((v65_1.toInt = 95 ∧ (∃ (S33 : MS), vX1_push U65 v65_2 S33 ∧ wfC S33 ∧ shy U65 S33 ∧ (∃ (S36 : MS), vX1_push S33 t65_0 S36 ∧ wfC S36 ∧ shy S33 S36 ∧ (uo = S36)))) ∨ (¬ v65_1.toInt = 95 ∧ (uo = U65))))))))))))))))
def v_X1_shuffle_J57 (uo : MS) (U57 : MS) (v57_1 : Int32) (v57_2 : Int32) : Prop := (wfC U57 ∧ (v_X1_shuffle_J65 uo U57 0 v57_1 v57_2))
def v_X1_shuffle_J40 (uo : MS) (U40 : MS) (v40_1 : Int32) : Prop := (wfC U40 ∧ (∃ (r2 : Int32) (S3 : MS), vX1_takeCopy U40 r2 S3 ∧ wfC S3 ∧ shy U40 S3 ∧ ((v40_1.toInt = 87 ∧ (v_X1_shuffle_J57 uo S3 v40_1 r2)) ∨ (¬ v40_1.toInt = 87 ∧ ((v40_1.toInt = 89 ∧ (v_X1_shuffle_J57 uo S3 v40_1 r2)) ∨ (¬ v40_1.toInt = 89 ∧ (∃ (r41 : Int32) (S42 : MS), vX1_takeCopy S3 r41 S42 ∧ wfC S42 ∧ shy S3 S42 ∧ (v_X1_shuffle_J65 uo S42 r41 v40_1 r2))))))))
def v_X1_shuffle_J12 (uo : MS) (U12 : MS) (v12_1 : Int32) : Prop := (wfC U12 ∧ (d_X1_hasLong U12 ∧ (((fX1_hasLong U12).toInt = 0 ∧ (v_X1_shuffle_J40 uo U12 v12_1)) ∨ (¬ (fX1_hasLong U12).toInt = 0 ∧ ((v12_1.toInt = 88 ∧ (∃ (r53 : Int32) (S54 : MS), vX1_take U12 (2 : Int32) r53 S54 ∧ wfC S54 ∧ shy U12 S54 ∧ (uo = S54))) ∨ (¬ v12_1.toInt = 88 ∧ (∃ (S50 : MS), vX1_give U12 (2 : Int32) S50 ∧ wfC S50 ∧ shy U12 S50 ∧ (uo = S50))))))))
def vX1_shuffle (S : MS) (x1 : Int32) (uo : MS) : Prop := ((x1.toInt = 88 ∧ (v_X1_shuffle_J12 uo S x1)) ∨ (¬ x1.toInt = 88 ∧ ((x1.toInt = 92 ∧ (v_X1_shuffle_J12 uo S x1)) ∨ (¬ x1.toInt = 92 ∧ (v_X1_shuffle_J40 uo S x1)))))
set_option maxRecDepth 100000 in
theorem ru_X1_shuffle_J65 {ι : Type} {P Q : MS → Prop} {U65 : MS} {t65_0 : Int32} {v65_1 : Int32} {v65_2 : Int32} (i0 : ι) (K : ∀ (i : ι) (uo : MS), v_X1_shuffle_J65 uo U65 t65_0 v65_1 v65_2 → P uo) (h : w_X1_shuffle_J65 Q U65 t65_0 v65_1 v65_2) : w_X1_shuffle_J65 (fun u => Q u ∧ P u) U65 t65_0 v65_1 v65_2 := by
  unfold w_X1_shuffle_J65 at h ⊢
  intro y1_
  replace h := h y1_
  replace K := fun i uo z => K i uo ⟨y1_, z⟩
  refine ⟨fun c => ?_, fun c => ?_⟩
  · replace h := h.1 c
    replace K := fun i uo z => K i uo (Or.inl ⟨c, z⟩)
    obtain ⟨Q9, h0, h⟩ := h
    refine ⟨_, ruX1_push h0, ?_⟩
    intro S6 q2_ y3_ y4_
    replace h := h S6 q2_.1 y3_ y4_
    replace K := fun i uo z => K i uo ⟨S6, q2_.2, y3_, y4_, z⟩
    obtain ⟨Q9, h0, h⟩ := h
    refine ⟨_, ruX1_push h0, ?_⟩
    intro S9 q5_ y6_ y7_
    replace h := h S9 q5_.1 y6_ y7_
    replace K := fun i uo z => K i uo ⟨S9, q5_.2, y6_, y7_, z⟩
    exact ⟨h, K i0 _ rfl⟩
  · replace h := h.2 c
    replace K := fun i uo z => K i uo (Or.inr ⟨c, z⟩)
    refine ⟨fun c => ?_, fun c => ?_⟩
    · replace h := h.1 c
      replace K := fun i uo z => K i uo (Or.inl ⟨c, z⟩)
      obtain ⟨Q9, h0, h⟩ := h
      refine ⟨_, ruX1_push h0, ?_⟩
      intro S12 q8_ y9_ y10_
      replace h := h S12 q8_.1 y9_ y10_
      replace K := fun i uo z => K i uo ⟨S12, q8_.2, y9_, y10_, z⟩
      obtain ⟨Q9, h0, h⟩ := h
      refine ⟨_, ruX1_push h0, ?_⟩
      intro S15 q11_ y12_ y13_
      replace h := h S15 q11_.1 y12_ y13_
      replace K := fun i uo z => K i uo ⟨S15, q11_.2, y12_, y13_, z⟩
      obtain ⟨Q9, h0, h⟩ := h
      refine ⟨_, ruX1_push h0, ?_⟩
      intro S18 q14_ y15_ y16_
      replace h := h S18 q14_.1 y15_ y16_
      replace K := fun i uo z => K i uo ⟨S18, q14_.2, y15_, y16_, z⟩
      exact ⟨h, K i0 _ rfl⟩
    · replace h := h.2 c
      replace K := fun i uo z => K i uo (Or.inr ⟨c, z⟩)
      refine ⟨fun c => ?_, fun c => ?_⟩
      · replace h := h.1 c
        replace K := fun i uo z => K i uo (Or.inl ⟨c, z⟩)
        exact ⟨h, K i0 _ rfl⟩
      · replace h := h.2 c
        replace K := fun i uo z => K i uo (Or.inr ⟨c, z⟩)
        refine ⟨fun c => ?_, fun c => ?_⟩
        · replace h := h.1 c
          replace K := fun i uo z => K i uo (Or.inl ⟨c, z⟩)
          obtain ⟨Q9, h0, h⟩ := h
          refine ⟨_, ruX1_push h0, ?_⟩
          intro S21 q17_ y18_ y19_
          replace h := h S21 q17_.1 y18_ y19_
          replace K := fun i uo z => K i uo ⟨S21, q17_.2, y18_, y19_, z⟩
          obtain ⟨Q9, h0, h⟩ := h
          refine ⟨_, ruX1_push h0, ?_⟩
          intro S24 q20_ y21_ y22_
          replace h := h S24 q20_.1 y21_ y22_
          replace K := fun i uo z => K i uo ⟨S24, q20_.2, y21_, y22_, z⟩
          obtain ⟨Q9, h0, h⟩ := h
          refine ⟨_, ruX1_push h0, ?_⟩
          intro S27 q23_ y24_ y25_
          replace h := h S27 q23_.1 y24_ y25_
          replace K := fun i uo z => K i uo ⟨S27, q23_.2, y24_, y25_, z⟩
          obtain ⟨Q9, h0, h⟩ := h
          refine ⟨_, ruX1_push h0, ?_⟩
          intro S30 q26_ y27_ y28_
          replace h := h S30 q26_.1 y27_ y28_
          replace K := fun i uo z => K i uo ⟨S30, q26_.2, y27_, y28_, z⟩
          exact ⟨h, K i0 _ rfl⟩
        · replace h := h.2 c
          replace K := fun i uo z => K i uo (Or.inr ⟨c, z⟩)
          refine ⟨fun c => ?_, fun c => ?_⟩
          · replace h := h.1 c
            replace K := fun i uo z => K i uo (Or.inl ⟨c, z⟩)
            exact ⟨h, K i0 _ rfl⟩
          · replace h := h.2 c
            replace K := fun i uo z => K i uo (Or.inr ⟨c, z⟩)
            refine ⟨fun c => ?_, fun c => ?_⟩
            · replace h := h.1 c
              replace K := fun i uo z => K i uo (Or.inl ⟨c, z⟩)
              exact ⟨h, K i0 _ rfl⟩
            · replace h := h.2 c
              replace K := fun i uo z => K i uo (Or.inr ⟨c, z⟩)
              refine ⟨fun c => ?_, fun c => ?_⟩
              · replace h := h.1 c
                replace K := fun i uo z => K i uo (Or.inl ⟨c, z⟩)
                obtain ⟨Q9, h0, h⟩ := h
                refine ⟨_, ruX1_push h0, ?_⟩
                intro S33 q29_ y30_ y31_
                replace h := h S33 q29_.1 y30_ y31_
                replace K := fun i uo z => K i uo ⟨S33, q29_.2, y30_, y31_, z⟩
                obtain ⟨Q9, h0, h⟩ := h
                refine ⟨_, ruX1_push h0, ?_⟩
                intro S36 q32_ y33_ y34_
                replace h := h S36 q32_.1 y33_ y34_
                replace K := fun i uo z => K i uo ⟨S36, q32_.2, y33_, y34_, z⟩
                exact ⟨h, K i0 _ rfl⟩
              · replace h := h.2 c
                replace K := fun i uo z => K i uo (Or.inr ⟨c, z⟩)
                exact ⟨h, K i0 _ rfl⟩
set_option maxRecDepth 100000 in
theorem ru_X1_shuffle_J57 {ι : Type} {P Q : MS → Prop} {U57 : MS} {v57_1 : Int32} {v57_2 : Int32} (i0 : ι) (K : ∀ (i : ι) (uo : MS), v_X1_shuffle_J57 uo U57 v57_1 v57_2 → P uo) (h : w_X1_shuffle_J57 Q U57 v57_1 v57_2) : w_X1_shuffle_J57 (fun u => Q u ∧ P u) U57 v57_1 v57_2 := by
  unfold w_X1_shuffle_J57 at h ⊢
  intro y35_
  replace h := h y35_
  replace K := fun i uo z => K i uo ⟨y35_, z⟩
  exact ru_X1_shuffle_J65 i0 K h
set_option maxRecDepth 100000 in
theorem ru_X1_shuffle_J40 {ι : Type} {P Q : MS → Prop} {U40 : MS} {v40_1 : Int32} (i0 : ι) (K : ∀ (i : ι) (uo : MS), v_X1_shuffle_J40 uo U40 v40_1 → P uo) (h : w_X1_shuffle_J40 Q U40 v40_1) : w_X1_shuffle_J40 (fun u => Q u ∧ P u) U40 v40_1 := by
  unfold w_X1_shuffle_J40 at h ⊢
  intro y36_
  replace h := h y36_
  replace K := fun i uo z => K i uo ⟨y36_, z⟩
  obtain ⟨Q9, h0, h⟩ := h
  refine ⟨_, ruX1_takeCopy h0, ?_⟩
  intro r2 S3 q37_ y38_ y39_
  replace h := h r2 S3 q37_.1 y38_ y39_
  replace K := fun i uo z => K i uo ⟨r2, S3, q37_.2, y38_, y39_, z⟩
  refine ⟨fun c => ?_, fun c => ?_⟩
  · replace h := h.1 c
    replace K := fun i uo z => K i uo (Or.inl ⟨c, z⟩)
    exact ru_X1_shuffle_J57 i0 K h
  · replace h := h.2 c
    replace K := fun i uo z => K i uo (Or.inr ⟨c, z⟩)
    refine ⟨fun c => ?_, fun c => ?_⟩
    · replace h := h.1 c
      replace K := fun i uo z => K i uo (Or.inl ⟨c, z⟩)
      exact ru_X1_shuffle_J57 i0 K h
    · replace h := h.2 c
      replace K := fun i uo z => K i uo (Or.inr ⟨c, z⟩)
      obtain ⟨Q9, h0, h⟩ := h
      refine ⟨_, ruX1_takeCopy h0, ?_⟩
      intro r41 S42 q40_ y41_ y42_
      replace h := h r41 S42 q40_.1 y41_ y42_
      replace K := fun i uo z => K i uo ⟨r41, S42, q40_.2, y41_, y42_, z⟩
      exact ru_X1_shuffle_J65 i0 K h
set_option maxRecDepth 100000 in
theorem ru_X1_shuffle_J12 {ι : Type} {P Q : MS → Prop} {U12 : MS} {v12_1 : Int32} (i0 : ι) (K : ∀ (i : ι) (uo : MS), v_X1_shuffle_J12 uo U12 v12_1 → P uo) (h : w_X1_shuffle_J12 Q U12 v12_1) : w_X1_shuffle_J12 (fun u => Q u ∧ P u) U12 v12_1 := by
  unfold w_X1_shuffle_J12 at h ⊢
  intro y43_
  replace h := h y43_
  replace K := fun i uo z => K i uo ⟨y43_, z⟩
  obtain ⟨g44_, h⟩ := h
  refine ⟨g44_, ?_⟩
  replace K := fun i uo z => K i uo ⟨g44_, z⟩
  refine ⟨fun c => ?_, fun c => ?_⟩
  · replace h := h.1 c
    replace K := fun i uo z => K i uo (Or.inl ⟨c, z⟩)
    exact ru_X1_shuffle_J40 i0 K h
  · replace h := h.2 c
    replace K := fun i uo z => K i uo (Or.inr ⟨c, z⟩)
    refine ⟨fun c => ?_, fun c => ?_⟩
    · replace h := h.1 c
      replace K := fun i uo z => K i uo (Or.inl ⟨c, z⟩)
      obtain ⟨Q9, h0, h⟩ := h
      refine ⟨_, ruX1_take h0, ?_⟩
      intro r53 S54 q45_ y46_ y47_
      replace h := h r53 S54 q45_.1 y46_ y47_
      replace K := fun i uo z => K i uo ⟨r53, S54, q45_.2, y46_, y47_, z⟩
      exact ⟨h, K i0 _ rfl⟩
    · replace h := h.2 c
      replace K := fun i uo z => K i uo (Or.inr ⟨c, z⟩)
      obtain ⟨Q9, h0, h⟩ := h
      refine ⟨_, ruX1_give h0, ?_⟩
      intro S50 q48_ y49_ y50_
      replace h := h S50 q48_.1 y49_ y50_
      replace K := fun i uo z => K i uo ⟨S50, q48_.2, y49_, y50_, z⟩
      exact ⟨h, K i0 _ rfl⟩
set_option maxRecDepth 100000 in
theorem ruX1_shuffle {S : MS} {x1 : Int32} {Q : MS → Prop} (h : wX1_shuffle S x1 Q) : wX1_shuffle S x1 (fun u => Q u ∧ vX1_shuffle S x1 u) := by
  have i0 : Unit := ()
  have K : ∀ (i : Unit) (uo : MS), vX1_shuffle S x1 uo → vX1_shuffle S x1 uo := fun _ _ z => z
  unfold wX1_shuffle at h ⊢
  refine ⟨fun c => ?_, fun c => ?_⟩
  · replace h := h.1 c
    replace K := fun i uo z => K i uo (Or.inl ⟨c, z⟩)
    exact ru_X1_shuffle_J12 i0 K h
  · replace h := h.2 c
    replace K := fun i uo z => K i uo (Or.inr ⟨c, z⟩)
    refine ⟨fun c => ?_, fun c => ?_⟩
    · replace h := h.1 c
      replace K := fun i uo z => K i uo (Or.inl ⟨c, z⟩)
      exact ru_X1_shuffle_J12 i0 K h
    · replace h := h.2 c
      replace K := fun i uo z => K i uo (Or.inr ⟨c, z⟩)
      exact ru_X1_shuffle_J40 i0 K h
set_option maxRecDepth 100000 in
theorem vw_X1_shuffle_J65 {uo : MS} {U65 : MS} {t65_0 : Int32} {v65_1 : Int32} {v65_2 : Int32} (h : v_X1_shuffle_J65 uo U65 t65_0 v65_1 v65_2) : w_X1_shuffle_J65 (fun u => u = uo) U65 t65_0 v65_1 v65_2 := by
  unfold v_X1_shuffle_J65 at h
  unfold w_X1_shuffle_J65
  intro _
  replace h := h.2
  rcases h with ⟨c, h⟩ | ⟨c, h⟩
  · refine ⟨fun _ => ?_, fun c2 => absurd c c2⟩
    obtain ⟨q9, z9, h⟩ := h
    refine ⟨_, vwX1_push z9, ?_⟩
    intro q8 d9 _ _
    subst d9
    replace h := h.2.2
    obtain ⟨q9, z9, h⟩ := h
    refine ⟨_, vwX1_push z9, ?_⟩
    intro q8 d9 _ _
    subst d9
    replace h := h.2.2
    exact h.symm
  · refine ⟨fun c2 => absurd c2 c, fun _ => ?_⟩
    rcases h with ⟨c, h⟩ | ⟨c, h⟩
    · refine ⟨fun _ => ?_, fun c2 => absurd c c2⟩
      obtain ⟨q9, z9, h⟩ := h
      refine ⟨_, vwX1_push z9, ?_⟩
      intro q8 d9 _ _
      subst d9
      replace h := h.2.2
      obtain ⟨q9, z9, h⟩ := h
      refine ⟨_, vwX1_push z9, ?_⟩
      intro q8 d9 _ _
      subst d9
      replace h := h.2.2
      obtain ⟨q9, z9, h⟩ := h
      refine ⟨_, vwX1_push z9, ?_⟩
      intro q8 d9 _ _
      subst d9
      replace h := h.2.2
      exact h.symm
    · refine ⟨fun c2 => absurd c2 c, fun _ => ?_⟩
      rcases h with ⟨c, h⟩ | ⟨c, h⟩
      · refine ⟨fun _ => ?_, fun c2 => absurd c c2⟩
        exact h.symm
      · refine ⟨fun c2 => absurd c2 c, fun _ => ?_⟩
        rcases h with ⟨c, h⟩ | ⟨c, h⟩
        · refine ⟨fun _ => ?_, fun c2 => absurd c c2⟩
          obtain ⟨q9, z9, h⟩ := h
          refine ⟨_, vwX1_push z9, ?_⟩
          intro q8 d9 _ _
          subst d9
          replace h := h.2.2
          obtain ⟨q9, z9, h⟩ := h
          refine ⟨_, vwX1_push z9, ?_⟩
          intro q8 d9 _ _
          subst d9
          replace h := h.2.2
          obtain ⟨q9, z9, h⟩ := h
          refine ⟨_, vwX1_push z9, ?_⟩
          intro q8 d9 _ _
          subst d9
          replace h := h.2.2
          obtain ⟨q9, z9, h⟩ := h
          refine ⟨_, vwX1_push z9, ?_⟩
          intro q8 d9 _ _
          subst d9
          replace h := h.2.2
          exact h.symm
        · refine ⟨fun c2 => absurd c2 c, fun _ => ?_⟩
          rcases h with ⟨c, h⟩ | ⟨c, h⟩
          · refine ⟨fun _ => ?_, fun c2 => absurd c c2⟩
            exact h.symm
          · refine ⟨fun c2 => absurd c2 c, fun _ => ?_⟩
            rcases h with ⟨c, h⟩ | ⟨c, h⟩
            · refine ⟨fun _ => ?_, fun c2 => absurd c c2⟩
              exact h.symm
            · refine ⟨fun c2 => absurd c2 c, fun _ => ?_⟩
              rcases h with ⟨c, h⟩ | ⟨c, h⟩
              · refine ⟨fun _ => ?_, fun c2 => absurd c c2⟩
                obtain ⟨q9, z9, h⟩ := h
                refine ⟨_, vwX1_push z9, ?_⟩
                intro q8 d9 _ _
                subst d9
                replace h := h.2.2
                obtain ⟨q9, z9, h⟩ := h
                refine ⟨_, vwX1_push z9, ?_⟩
                intro q8 d9 _ _
                subst d9
                replace h := h.2.2
                exact h.symm
              · refine ⟨fun c2 => absurd c2 c, fun _ => ?_⟩
                exact h.symm
set_option maxRecDepth 100000 in
theorem vp_X1_shuffle_J65 {uo : MS} {P : MS → Prop} {U65 : MS} {t65_0 : Int32} {v65_1 : Int32} {v65_2 : Int32} (h : v_X1_shuffle_J65 uo U65 t65_0 v65_1 v65_2) (w : w_X1_shuffle_J65 P U65 t65_0 v65_1 v65_2) : P uo := by
  unfold v_X1_shuffle_J65 at h
  unfold w_X1_shuffle_J65 at w
  obtain ⟨y1_, h⟩ := h
  replace w := w y1_
  rcases h with ⟨c, h⟩ | ⟨c, h⟩
  · replace w := w.1 c
    obtain ⟨q9, z9, y2_, y3_, h⟩ := h
    obtain ⟨Q9, w0, w⟩ := w
    replace w := w q9 (vpX1_push z9 w0) y2_ y3_
    obtain ⟨q9, z9, y4_, y5_, h⟩ := h
    obtain ⟨Q9, w0, w⟩ := w
    replace w := w q9 (vpX1_push z9 w0) y4_ y5_
    rw [h]
    exact w
  · replace w := w.2 c
    rcases h with ⟨c, h⟩ | ⟨c, h⟩
    · replace w := w.1 c
      obtain ⟨q9, z9, y6_, y7_, h⟩ := h
      obtain ⟨Q9, w0, w⟩ := w
      replace w := w q9 (vpX1_push z9 w0) y6_ y7_
      obtain ⟨q9, z9, y8_, y9_, h⟩ := h
      obtain ⟨Q9, w0, w⟩ := w
      replace w := w q9 (vpX1_push z9 w0) y8_ y9_
      obtain ⟨q9, z9, y10_, y11_, h⟩ := h
      obtain ⟨Q9, w0, w⟩ := w
      replace w := w q9 (vpX1_push z9 w0) y10_ y11_
      rw [h]
      exact w
    · replace w := w.2 c
      rcases h with ⟨c, h⟩ | ⟨c, h⟩
      · replace w := w.1 c
        rw [h]
        exact w
      · replace w := w.2 c
        rcases h with ⟨c, h⟩ | ⟨c, h⟩
        · replace w := w.1 c
          obtain ⟨q9, z9, y12_, y13_, h⟩ := h
          obtain ⟨Q9, w0, w⟩ := w
          replace w := w q9 (vpX1_push z9 w0) y12_ y13_
          obtain ⟨q9, z9, y14_, y15_, h⟩ := h
          obtain ⟨Q9, w0, w⟩ := w
          replace w := w q9 (vpX1_push z9 w0) y14_ y15_
          obtain ⟨q9, z9, y16_, y17_, h⟩ := h
          obtain ⟨Q9, w0, w⟩ := w
          replace w := w q9 (vpX1_push z9 w0) y16_ y17_
          obtain ⟨q9, z9, y18_, y19_, h⟩ := h
          obtain ⟨Q9, w0, w⟩ := w
          replace w := w q9 (vpX1_push z9 w0) y18_ y19_
          rw [h]
          exact w
        · replace w := w.2 c
          rcases h with ⟨c, h⟩ | ⟨c, h⟩
          · replace w := w.1 c
            rw [h]
            exact w
          · replace w := w.2 c
            rcases h with ⟨c, h⟩ | ⟨c, h⟩
            · replace w := w.1 c
              rw [h]
              exact w
            · replace w := w.2 c
              rcases h with ⟨c, h⟩ | ⟨c, h⟩
              · replace w := w.1 c
                obtain ⟨q9, z9, y20_, y21_, h⟩ := h
                obtain ⟨Q9, w0, w⟩ := w
                replace w := w q9 (vpX1_push z9 w0) y20_ y21_
                obtain ⟨q9, z9, y22_, y23_, h⟩ := h
                obtain ⟨Q9, w0, w⟩ := w
                replace w := w q9 (vpX1_push z9 w0) y22_ y23_
                rw [h]
                exact w
              · replace w := w.2 c
                rw [h]
                exact w
set_option maxRecDepth 100000 in
theorem vw_X1_shuffle_J57 {uo : MS} {U57 : MS} {v57_1 : Int32} {v57_2 : Int32} (h : v_X1_shuffle_J57 uo U57 v57_1 v57_2) : w_X1_shuffle_J57 (fun u => u = uo) U57 v57_1 v57_2 := by
  unfold v_X1_shuffle_J57 at h
  unfold w_X1_shuffle_J57
  intro _
  replace h := h.2
  exact vw_X1_shuffle_J65 h
set_option maxRecDepth 100000 in
theorem vp_X1_shuffle_J57 {uo : MS} {P : MS → Prop} {U57 : MS} {v57_1 : Int32} {v57_2 : Int32} (h : v_X1_shuffle_J57 uo U57 v57_1 v57_2) (w : w_X1_shuffle_J57 P U57 v57_1 v57_2) : P uo := by
  unfold v_X1_shuffle_J57 at h
  unfold w_X1_shuffle_J57 at w
  obtain ⟨y24_, h⟩ := h
  replace w := w y24_
  exact vp_X1_shuffle_J65 h w
set_option maxRecDepth 100000 in
theorem vw_X1_shuffle_J40 {uo : MS} {U40 : MS} {v40_1 : Int32} (h : v_X1_shuffle_J40 uo U40 v40_1) : w_X1_shuffle_J40 (fun u => u = uo) U40 v40_1 := by
  unfold v_X1_shuffle_J40 at h
  unfold w_X1_shuffle_J40
  intro _
  replace h := h.2
  obtain ⟨p9, q9, z9, h⟩ := h
  refine ⟨_, vwX1_takeCopy z9, ?_⟩
  rintro p8 q8 ⟨d8, d9⟩ _ _
  subst d8
  subst d9
  replace h := h.2.2
  rcases h with ⟨c, h⟩ | ⟨c, h⟩
  · refine ⟨fun _ => ?_, fun c2 => absurd c c2⟩
    exact vw_X1_shuffle_J57 h
  · refine ⟨fun c2 => absurd c2 c, fun _ => ?_⟩
    rcases h with ⟨c, h⟩ | ⟨c, h⟩
    · refine ⟨fun _ => ?_, fun c2 => absurd c c2⟩
      exact vw_X1_shuffle_J57 h
    · refine ⟨fun c2 => absurd c2 c, fun _ => ?_⟩
      obtain ⟨p9, q9, z9, h⟩ := h
      refine ⟨_, vwX1_takeCopy z9, ?_⟩
      rintro p8 q8 ⟨d8, d9⟩ _ _
      subst d8
      subst d9
      replace h := h.2.2
      exact vw_X1_shuffle_J65 h
set_option maxRecDepth 100000 in
theorem vp_X1_shuffle_J40 {uo : MS} {P : MS → Prop} {U40 : MS} {v40_1 : Int32} (h : v_X1_shuffle_J40 uo U40 v40_1) (w : w_X1_shuffle_J40 P U40 v40_1) : P uo := by
  unfold v_X1_shuffle_J40 at h
  unfold w_X1_shuffle_J40 at w
  obtain ⟨y25_, h⟩ := h
  replace w := w y25_
  obtain ⟨p9, q9, z9, y26_, y27_, h⟩ := h
  obtain ⟨Q9, w0, w⟩ := w
  replace w := w p9 q9 (vpX1_takeCopy z9 w0) y26_ y27_
  rcases h with ⟨c, h⟩ | ⟨c, h⟩
  · replace w := w.1 c
    exact vp_X1_shuffle_J57 h w
  · replace w := w.2 c
    rcases h with ⟨c, h⟩ | ⟨c, h⟩
    · replace w := w.1 c
      exact vp_X1_shuffle_J57 h w
    · replace w := w.2 c
      obtain ⟨p9, q9, z9, y28_, y29_, h⟩ := h
      obtain ⟨Q9, w0, w⟩ := w
      replace w := w p9 q9 (vpX1_takeCopy z9 w0) y28_ y29_
      exact vp_X1_shuffle_J65 h w
set_option maxRecDepth 100000 in
theorem vw_X1_shuffle_J12 {uo : MS} {U12 : MS} {v12_1 : Int32} (h : v_X1_shuffle_J12 uo U12 v12_1) : w_X1_shuffle_J12 (fun u => u = uo) U12 v12_1 := by
  unfold v_X1_shuffle_J12 at h
  unfold w_X1_shuffle_J12
  intro _
  replace h := h.2
  obtain ⟨g9, h⟩ := h
  refine ⟨g9, ?_⟩
  rcases h with ⟨c, h⟩ | ⟨c, h⟩
  · refine ⟨fun _ => ?_, fun c2 => absurd c c2⟩
    exact vw_X1_shuffle_J40 h
  · refine ⟨fun c2 => absurd c2 c, fun _ => ?_⟩
    rcases h with ⟨c, h⟩ | ⟨c, h⟩
    · refine ⟨fun _ => ?_, fun c2 => absurd c c2⟩
      obtain ⟨p9, q9, z9, h⟩ := h
      refine ⟨_, vwX1_take z9, ?_⟩
      rintro p8 q8 ⟨d8, d9⟩ _ _
      subst d8
      subst d9
      replace h := h.2.2
      exact h.symm
    · refine ⟨fun c2 => absurd c2 c, fun _ => ?_⟩
      obtain ⟨q9, z9, h⟩ := h
      refine ⟨_, vwX1_give z9, ?_⟩
      intro q8 d9 _ _
      subst d9
      replace h := h.2.2
      exact h.symm
set_option maxRecDepth 100000 in
theorem vp_X1_shuffle_J12 {uo : MS} {P : MS → Prop} {U12 : MS} {v12_1 : Int32} (h : v_X1_shuffle_J12 uo U12 v12_1) (w : w_X1_shuffle_J12 P U12 v12_1) : P uo := by
  unfold v_X1_shuffle_J12 at h
  unfold w_X1_shuffle_J12 at w
  obtain ⟨y30_, h⟩ := h
  replace w := w y30_
  replace h := h.2
  replace w := w.2
  rcases h with ⟨c, h⟩ | ⟨c, h⟩
  · replace w := w.1 c
    exact vp_X1_shuffle_J40 h w
  · replace w := w.2 c
    rcases h with ⟨c, h⟩ | ⟨c, h⟩
    · replace w := w.1 c
      obtain ⟨p9, q9, z9, y31_, y32_, h⟩ := h
      obtain ⟨Q9, w0, w⟩ := w
      replace w := w p9 q9 (vpX1_take z9 w0) y31_ y32_
      rw [h]
      exact w
    · replace w := w.2 c
      obtain ⟨q9, z9, y33_, y34_, h⟩ := h
      obtain ⟨Q9, w0, w⟩ := w
      replace w := w q9 (vpX1_give z9 w0) y33_ y34_
      rw [h]
      exact w
set_option maxRecDepth 100000 in
theorem vwX1_shuffle {S : MS} {x1 : Int32} {uo : MS} (h : vX1_shuffle S x1 uo) : wX1_shuffle S x1 (fun u => u = uo) := by
  unfold vX1_shuffle at h
  unfold wX1_shuffle
  rcases h with ⟨c, h⟩ | ⟨c, h⟩
  · refine ⟨fun _ => ?_, fun c2 => absurd c c2⟩
    exact vw_X1_shuffle_J12 h
  · refine ⟨fun c2 => absurd c2 c, fun _ => ?_⟩
    rcases h with ⟨c, h⟩ | ⟨c, h⟩
    · refine ⟨fun _ => ?_, fun c2 => absurd c c2⟩
      exact vw_X1_shuffle_J12 h
    · refine ⟨fun c2 => absurd c2 c, fun _ => ?_⟩
      exact vw_X1_shuffle_J40 h
set_option maxRecDepth 100000 in
theorem vpX1_shuffle {S : MS} {x1 : Int32} {uo : MS} {P : MS → Prop} (h : vX1_shuffle S x1 uo) (w : wX1_shuffle S x1 P) : P uo := by
  unfold vX1_shuffle at h
  unfold wX1_shuffle at w
  rcases h with ⟨c, h⟩ | ⟨c, h⟩
  · replace w := w.1 c
    exact vp_X1_shuffle_J12 h w
  · replace w := w.2 c
    rcases h with ⟨c, h⟩ | ⟨c, h⟩
    · replace w := w.1 c
      exact vp_X1_shuffle_J12 h w
    · replace w := w.2 c
      exact vp_X1_shuffle_J40 h w
def vX2_set (S : MS) (x1 : Int32) (y2 : Int64) (uo : MS) : Prop := (∃ S1 : MS, S1 = wI S 8 9 x1 ∧ qT S 8 = 42 ∧ wfC S1 ∧ (∃ S2 : MS, S2 = wJ S1 8 10 y2 ∧ qT S1 8 = 42 ∧ wfC S2 ∧ (uo = S2)))
set_option maxRecDepth 100000 in
theorem ruX2_set {S : MS} {x1 : Int32} {y2 : Int64} {Q : MS → Prop} (h : wX2_set S x1 y2 Q) : wX2_set S x1 y2 (fun u => Q u ∧ vX2_set S x1 y2 u) := by
  have i0 : Unit := ()
  have K : ∀ (i : Unit) (uo : MS), vX2_set S x1 y2 uo → vX2_set S x1 y2 uo := fun _ _ z => z
  unfold wX2_set at h ⊢
  intro S1 eS1 y1_ y2_
  replace h := h S1 eS1 y1_ y2_
  replace K := fun i uo z => K i uo ⟨S1, eS1, y1_, y2_, z⟩
  intro S2 eS2 y3_ y4_
  replace h := h S2 eS2 y3_ y4_
  replace K := fun i uo z => K i uo ⟨S2, eS2, y3_, y4_, z⟩
  exact ⟨h, K i0 _ rfl⟩
set_option maxRecDepth 100000 in
theorem vwX2_set {S : MS} {x1 : Int32} {y2 : Int64} {uo : MS} (h : vX2_set S x1 y2 uo) : wX2_set S x1 y2 (fun u => u = uo) := by
  unfold vX2_set at h
  unfold wX2_set
  obtain ⟨v9, e9, h⟩ := h
  intro x9 d9 _ _
  have c9 : v9 = x9 := e9.trans d9.symm
  subst c9
  replace h := h.2.2
  obtain ⟨v9, e9, h⟩ := h
  intro x9 d9 _ _
  have c9 : v9 = x9 := e9.trans d9.symm
  subst c9
  replace h := h.2.2
  exact h.symm
set_option maxRecDepth 100000 in
theorem vpX2_set {S : MS} {x1 : Int32} {y2 : Int64} {uo : MS} {P : MS → Prop} (h : vX2_set S x1 y2 uo) (w : wX2_set S x1 y2 P) : P uo := by
  unfold vX2_set at h
  unfold wX2_set at w
  obtain ⟨v9, e9, y1_, y2_, h⟩ := h
  replace w := w v9 e9 y1_ y2_
  obtain ⟨v9, e9, y3_, y4_, h⟩ := h
  replace w := w v9 e9 y3_ y4_
  rw [h]
  exact w
def v_X3_hasEdge_L21 (ro : Int32) (uo : MS) : Nat → MS → Int32 → Int32 → Int32 → Prop
  | 0, _, _, _, _ => False
  | n21 + 1, U21, v21_1, v21_2, v21_3 => (wfC U21 ∧ (((0 : Int) ≤ (v21_1 + (1 : Int32)).toInt ∧ (v21_1 + (1 : Int32)).toInt < (qN U21 (qO U21 52 4) : Int)) ∧ (((qI U21 (qO U21 52 4) (((v21_1 + (1 : Int32)).toInt).toNat)).toInt ≤ v21_3.toInt ∧ (ro = (0 : Int32) ∧ uo = U21)) ∨ (¬ (qI U21 (qO U21 52 4) (((v21_1 + (1 : Int32)).toInt).toNat)).toInt ≤ v21_3.toInt ∧ (((0 : Int) ≤ v21_3.toInt ∧ v21_3.toInt < (qN U21 (qO U21 52 5) : Int)) ∧ (((qI U21 (qO U21 52 5) v21_3.toInt.toNat).toInt = v21_2.toInt ∧ (ro = (1 : Int32) ∧ uo = U21)) ∨ (¬ (qI U21 (qO U21 52 5) v21_3.toInt.toNat).toInt = v21_2.toInt ∧ (∃ a16 : Int32, a16 = (v21_3 + Int32.ofInt 1) ∧ ((v_X3_hasEdge_L21 ro uo n21) U21 v21_1 v21_2 a16)))))))))
def vX3_hasEdge (S : MS) (x1 : Int32) (x2 : Int32) (ro : Int32) (uo : MS) : Prop := ((x1.toInt < 0 ∧ (ro = (0 : Int32) ∧ uo = S)) ∨ (¬ x1.toInt < 0 ∧ ((x1.toInt < (qI S 52 1).toInt ∧ (((0 : Int) ≤ x1.toInt ∧ x1.toInt < (qN S (qO S 52 4) : Int)) ∧ (∃ a6 : Int32, a6 = (qI S (qO S 52 4) x1.toInt.toNat) ∧ (∃ n, v_X3_hasEdge_L21 ro uo n S x1 x2 a6)))) ∨ (¬ x1.toInt < (qI S 52 1).toInt ∧ (ro = (0 : Int32) ∧ uo = S)))))
set_option maxRecDepth 100000 in
theorem ru_X3_hasEdge_L21 {ι : Type} {P Q : Int32 → MS → Prop} : ∀ (n : Nat) {U21 : MS} {v21_1 : Int32} {v21_2 : Int32} {v21_3 : Int32} (i0 : ι), (∀ (i : ι) (ro : Int32) (uo : MS), (∃ n8, v_X3_hasEdge_L21 ro uo n8 U21 v21_1 v21_2 v21_3) → P ro uo) → w_X3_hasEdge_L21 Q n U21 v21_1 v21_2 v21_3 → w_X3_hasEdge_L21 (fun r u => Q r u ∧ P r u) n U21 v21_1 v21_2 v21_3 := by
  intro n
  induction n with
  | zero => intro U21 v21_1 v21_2 v21_3 i0 K h; unfold w_X3_hasEdge_L21 at h; exact h.elim
  | succ n ih =>
    intro U21 v21_1 v21_2 v21_3 i0 K h
    unfold w_X3_hasEdge_L21 at h ⊢
    replace K := fun (i : ι × Nat) ro uo (z : v_X3_hasEdge_L21 ro uo (i.2 + 1) U21 v21_1 v21_2 v21_3) => K i.1 ro uo ⟨i.2 + 1, z⟩
    have i00 := i0
    replace i0 : ι × Nat := (i0, 0)
    intro y1_
    replace h := h y1_
    replace K := fun i ro uo z => K i ro uo ⟨y1_, z⟩
    obtain ⟨g2_, h⟩ := h
    refine ⟨g2_, ?_⟩
    replace K := fun i ro uo z => K i ro uo ⟨g2_, z⟩
    refine ⟨fun c => ?_, fun c => ?_⟩
    · replace h := h.1 c
      replace K := fun i ro uo z => K i ro uo (Or.inl ⟨c, z⟩)
      exact ⟨h, K i0 _ _ ⟨rfl, rfl⟩⟩
    · replace h := h.2 c
      replace K := fun i ro uo z => K i ro uo (Or.inr ⟨c, z⟩)
      obtain ⟨g3_, h⟩ := h
      refine ⟨g3_, ?_⟩
      replace K := fun i ro uo z => K i ro uo ⟨g3_, z⟩
      refine ⟨fun c => ?_, fun c => ?_⟩
      · replace h := h.1 c
        replace K := fun i ro uo z => K i ro uo (Or.inl ⟨c, z⟩)
        exact ⟨h, K i0 _ _ ⟨rfl, rfl⟩⟩
      · replace h := h.2 c
        replace K := fun i ro uo z => K i ro uo (Or.inr ⟨c, z⟩)
        intro a16 ea16 
        replace h := h a16 ea16 
        replace K := fun i ro uo z => K i ro uo ⟨a16, ea16, z⟩
        exact ih i00 (fun i ro uo ⟨n8, z⟩ => K (i, n8) ro uo z) h
set_option maxRecDepth 100000 in
theorem ruX3_hasEdge {S : MS} {x1 : Int32} {x2 : Int32} {Q : Int32 → MS → Prop} (h : wX3_hasEdge S x1 x2 Q) : wX3_hasEdge S x1 x2 (fun r u => Q r u ∧ vX3_hasEdge S x1 x2 r u) := by
  have i0 : Unit := ()
  have K : ∀ (i : Unit) (ro : Int32) (uo : MS), vX3_hasEdge S x1 x2 ro uo → vX3_hasEdge S x1 x2 ro uo := fun _ _ _ z => z
  unfold wX3_hasEdge at h ⊢
  refine ⟨fun c => ?_, fun c => ?_⟩
  · replace h := h.1 c
    replace K := fun i ro uo z => K i ro uo (Or.inl ⟨c, z⟩)
    exact ⟨h, K i0 _ _ ⟨rfl, rfl⟩⟩
  · replace h := h.2 c
    replace K := fun i ro uo z => K i ro uo (Or.inr ⟨c, z⟩)
    refine ⟨fun c => ?_, fun c => ?_⟩
    · replace h := h.1 c
      replace K := fun i ro uo z => K i ro uo (Or.inl ⟨c, z⟩)
      obtain ⟨g4_, h⟩ := h
      refine ⟨g4_, ?_⟩
      replace K := fun i ro uo z => K i ro uo ⟨g4_, z⟩
      intro a6 ea6 
      replace h := h a6 ea6 
      replace K := fun i ro uo z => K i ro uo ⟨a6, ea6, z⟩
      obtain ⟨n9, h⟩ := h
      exact ⟨n9, ru_X3_hasEdge_L21 n9 i0 K h⟩
    · replace h := h.2 c
      replace K := fun i ro uo z => K i ro uo (Or.inr ⟨c, z⟩)
      exact ⟨h, K i0 _ _ ⟨rfl, rfl⟩⟩
set_option maxRecDepth 100000 in
theorem vw_X3_hasEdge_L21 {ro : Int32} {uo : MS} : ∀ (n : Nat) {U21 : MS} {v21_1 : Int32} {v21_2 : Int32} {v21_3 : Int32}, v_X3_hasEdge_L21 ro uo n U21 v21_1 v21_2 v21_3 → w_X3_hasEdge_L21 (fun r u => r = ro ∧ u = uo) n U21 v21_1 v21_2 v21_3 := by
  intro n
  induction n with
  | zero => intro U21 v21_1 v21_2 v21_3 h; unfold v_X3_hasEdge_L21 at h; exact h.elim
  | succ n ih =>
    intro U21 v21_1 v21_2 v21_3 h
    unfold v_X3_hasEdge_L21 at h
    unfold w_X3_hasEdge_L21
    intro _
    replace h := h.2
    obtain ⟨g9, h⟩ := h
    refine ⟨g9, ?_⟩
    rcases h with ⟨c, h⟩ | ⟨c, h⟩
    · refine ⟨fun _ => ?_, fun c2 => absurd c c2⟩
      exact ⟨h.1.symm, h.2.symm⟩
    · refine ⟨fun c2 => absurd c2 c, fun _ => ?_⟩
      obtain ⟨g9, h⟩ := h
      refine ⟨g9, ?_⟩
      rcases h with ⟨c, h⟩ | ⟨c, h⟩
      · refine ⟨fun _ => ?_, fun c2 => absurd c c2⟩
        exact ⟨h.1.symm, h.2.symm⟩
      · refine ⟨fun c2 => absurd c2 c, fun _ => ?_⟩
        obtain ⟨v9, e9, h⟩ := h
        intro x9 d9 
        have c9 : v9 = x9 := e9.trans d9.symm
        subst c9
        exact ih h
set_option maxRecDepth 100000 in
theorem vp_X3_hasEdge_L21 {ro : Int32} {uo : MS} {P : Int32 → MS → Prop} : ∀ (n m : Nat) {U21 : MS} {v21_1 : Int32} {v21_2 : Int32} {v21_3 : Int32}, v_X3_hasEdge_L21 ro uo n U21 v21_1 v21_2 v21_3 → w_X3_hasEdge_L21 P m U21 v21_1 v21_2 v21_3 → P ro uo := by
  intro n
  induction n with
  | zero => intro m U21 v21_1 v21_2 v21_3 h; unfold v_X3_hasEdge_L21 at h; exact h.elim
  | succ n ih =>
    intro m U21 v21_1 v21_2 v21_3 h w
    cases m with
    | zero => unfold w_X3_hasEdge_L21 at w; exact w.elim
    | succ m =>
      unfold v_X3_hasEdge_L21 at h
      unfold w_X3_hasEdge_L21 at w
      obtain ⟨y1_, h⟩ := h
      replace w := w y1_
      replace h := h.2
      replace w := w.2
      rcases h with ⟨c, h⟩ | ⟨c, h⟩
      · replace w := w.1 c
        rw [h.1, h.2]
        exact w
      · replace w := w.2 c
        replace h := h.2
        replace w := w.2
        rcases h with ⟨c, h⟩ | ⟨c, h⟩
        · replace w := w.1 c
          rw [h.1, h.2]
          exact w
        · replace w := w.2 c
          obtain ⟨v9, e9, h⟩ := h
          replace w := w v9 e9 
          exact ih m h w
set_option maxRecDepth 100000 in
theorem vwX3_hasEdge {S : MS} {x1 : Int32} {x2 : Int32} {ro : Int32} {uo : MS} (h : vX3_hasEdge S x1 x2 ro uo) : wX3_hasEdge S x1 x2 (fun r u => r = ro ∧ u = uo) := by
  unfold vX3_hasEdge at h
  unfold wX3_hasEdge
  rcases h with ⟨c, h⟩ | ⟨c, h⟩
  · refine ⟨fun _ => ?_, fun c2 => absurd c c2⟩
    exact ⟨h.1.symm, h.2.symm⟩
  · refine ⟨fun c2 => absurd c2 c, fun _ => ?_⟩
    rcases h with ⟨c, h⟩ | ⟨c, h⟩
    · refine ⟨fun _ => ?_, fun c2 => absurd c c2⟩
      obtain ⟨g9, h⟩ := h
      refine ⟨g9, ?_⟩
      obtain ⟨v9, e9, h⟩ := h
      intro x9 d9 
      have c9 : v9 = x9 := e9.trans d9.symm
      subst c9
      obtain ⟨n9, h⟩ := h
      exact ⟨n9, vw_X3_hasEdge_L21 n9 h⟩
    · refine ⟨fun c2 => absurd c2 c, fun _ => ?_⟩
      exact ⟨h.1.symm, h.2.symm⟩
set_option maxRecDepth 100000 in
theorem vpX3_hasEdge {S : MS} {x1 : Int32} {x2 : Int32} {ro : Int32} {uo : MS} {P : Int32 → MS → Prop} (h : vX3_hasEdge S x1 x2 ro uo) (w : wX3_hasEdge S x1 x2 P) : P ro uo := by
  unfold vX3_hasEdge at h
  unfold wX3_hasEdge at w
  rcases h with ⟨c, h⟩ | ⟨c, h⟩
  · replace w := w.1 c
    rw [h.1, h.2]
    exact w
  · replace w := w.2 c
    rcases h with ⟨c, h⟩ | ⟨c, h⟩
    · replace w := w.1 c
      replace h := h.2
      replace w := w.2
      obtain ⟨v9, e9, h⟩ := h
      replace w := w v9 e9 
      obtain ⟨n9, h⟩ := h
      obtain ⟨n8, w⟩ := w
      exact vp_X3_hasEdge_L21 n9 n8 h w
    · replace w := w.2 c
      rw [h.1, h.2]
      exact w
def v_X3_reachedCount_J27 (ro : Int32) (uo : MS) (k4 : MS → Int32 → Int32 → Prop) (U27 : MS) (t27_0 : Int32) (t27_1 : Int32) (v27_2 : Int32) : Prop := (wfC U27 ∧ (t27_0 = 0 ∨ t27_0 = 1) ∧ (∃ a7 : Int32, a7 = (t27_1 + t27_0) ∧ (∃ a8 : Int32, a8 = (v27_2 + Int32.ofInt 1) ∧ (k4 U27 a7 a8))))
def v_X3_reachedCount_L4 (ro : Int32) (uo : MS) : Nat → MS → Int32 → Int32 → Prop
  | 0, _, _, _ => False
  | n4 + 1, U4, v4_1, v4_2 => (wfC U4 ∧ (((qI U4 52 1).toInt ≤ v4_2.toInt ∧ (ro = v4_1 ∧ uo = U4)) ∨ (¬ (qI U4 52 1).toInt ≤ v4_2.toInt ∧ (((0 : Int) ≤ v4_2.toInt ∧ v4_2.toInt < (qN U4 (qO U4 52 8) : Int)) ∧ (((qI U4 (qO U4 52 8) v4_2.toInt.toNat).toInt = 0 ∧ (v_X3_reachedCount_J27 ro uo (v_X3_reachedCount_L4 ro uo n4) U4 0 v4_1 v4_2)) ∨ (¬ (qI U4 (qO U4 52 8) v4_2.toInt.toNat).toInt = 0 ∧ (v_X3_reachedCount_J27 ro uo (v_X3_reachedCount_L4 ro uo n4) U4 1 v4_1 v4_2)))))))
def vX3_reachedCount (S : MS) (ro : Int32) (uo : MS) : Prop := (∃ n, v_X3_reachedCount_L4 ro uo n S 0 0)
set_option maxRecDepth 100000 in
theorem ru_X3_reachedCount_J27 {ι : Type} {P Q : Int32 → MS → Prop} {k4 k4' : MS → Int32 → Int32 → Prop} {k4v : ι → Int32 → MS → MS → Int32 → Int32 → Prop} {U27 : MS} {t27_0 : Int32} {t27_1 : Int32} {v27_2 : Int32} (i0 : ι) (hk4 : ∀ (u : MS) (z0 : Int32) (z1 : Int32), k4 u z0 z1 → (∀ (i : ι) (ro : Int32) (uo : MS), k4v i ro uo u z0 z1 → P ro uo) → k4' u z0 z1) (K : ∀ (i : ι) (ro : Int32) (uo : MS), v_X3_reachedCount_J27 ro uo (k4v i ro uo) U27 t27_0 t27_1 v27_2 → P ro uo) (h : w_X3_reachedCount_J27 Q k4 U27 t27_0 t27_1 v27_2) : w_X3_reachedCount_J27 (fun r u => Q r u ∧ P r u) k4' U27 t27_0 t27_1 v27_2 := by
  unfold w_X3_reachedCount_J27 at h ⊢
  intro y1_ y2_
  replace h := h y1_ y2_
  replace K := fun i ro uo z => K i ro uo ⟨y1_, y2_, z⟩
  intro a7 ea7 
  replace h := h a7 ea7 
  replace K := fun i ro uo z => K i ro uo ⟨a7, ea7, z⟩
  intro a8 ea8 
  replace h := h a8 ea8 
  replace K := fun i ro uo z => K i ro uo ⟨a8, ea8, z⟩
  exact hk4 _ _ _ h K
set_option maxRecDepth 100000 in
theorem ru_X3_reachedCount_L4 {ι : Type} {P Q : Int32 → MS → Prop} : ∀ (n : Nat) {U4 : MS} {v4_1 : Int32} {v4_2 : Int32} (i0 : ι), (∀ (i : ι) (ro : Int32) (uo : MS), (∃ n8, v_X3_reachedCount_L4 ro uo n8 U4 v4_1 v4_2) → P ro uo) → w_X3_reachedCount_L4 Q n U4 v4_1 v4_2 → w_X3_reachedCount_L4 (fun r u => Q r u ∧ P r u) n U4 v4_1 v4_2 := by
  intro n
  induction n with
  | zero => intro U4 v4_1 v4_2 i0 K h; unfold w_X3_reachedCount_L4 at h; exact h.elim
  | succ n ih =>
    intro U4 v4_1 v4_2 i0 K h
    unfold w_X3_reachedCount_L4 at h ⊢
    replace K := fun (i : ι × Nat) ro uo (z : v_X3_reachedCount_L4 ro uo (i.2 + 1) U4 v4_1 v4_2) => K i.1 ro uo ⟨i.2 + 1, z⟩
    have i00 := i0
    replace i0 : ι × Nat := (i0, 0)
    intro y3_
    replace h := h y3_
    replace K := fun i ro uo z => K i ro uo ⟨y3_, z⟩
    refine ⟨fun c => ?_, fun c => ?_⟩
    · replace h := h.1 c
      replace K := fun i ro uo z => K i ro uo (Or.inl ⟨c, z⟩)
      exact ⟨h, K i0 _ _ ⟨rfl, rfl⟩⟩
    · replace h := h.2 c
      replace K := fun i ro uo z => K i ro uo (Or.inr ⟨c, z⟩)
      obtain ⟨g4_, h⟩ := h
      refine ⟨g4_, ?_⟩
      replace K := fun i ro uo z => K i ro uo ⟨g4_, z⟩
      refine ⟨fun c => ?_, fun c => ?_⟩
      · replace h := h.1 c
        replace K := fun i ro uo z => K i ro uo (Or.inl ⟨c, z⟩)
        exact ru_X3_reachedCount_J27 i0 (fun _ _ _ h K => ih i00 (fun i ro uo ⟨n8, z⟩ => K (i, n8) ro uo z) h) K h
      · replace h := h.2 c
        replace K := fun i ro uo z => K i ro uo (Or.inr ⟨c, z⟩)
        exact ru_X3_reachedCount_J27 i0 (fun _ _ _ h K => ih i00 (fun i ro uo ⟨n8, z⟩ => K (i, n8) ro uo z) h) K h
set_option maxRecDepth 100000 in
theorem ruX3_reachedCount {S : MS} {Q : Int32 → MS → Prop} (h : wX3_reachedCount S Q) : wX3_reachedCount S (fun r u => Q r u ∧ vX3_reachedCount S r u) := by
  have i0 : Unit := ()
  have K : ∀ (i : Unit) (ro : Int32) (uo : MS), vX3_reachedCount S ro uo → vX3_reachedCount S ro uo := fun _ _ _ z => z
  unfold wX3_reachedCount at h ⊢
  obtain ⟨n9, h⟩ := h
  exact ⟨n9, ru_X3_reachedCount_L4 n9 i0 K h⟩
set_option maxRecDepth 100000 in
theorem vw_X3_reachedCount_J27 {ro : Int32} {uo : MS} {k4 k4v : MS → Int32 → Int32 → Prop} {U27 : MS} {t27_0 : Int32} {t27_1 : Int32} {v27_2 : Int32} (hk4 : ∀ (u : MS) (z0 : Int32) (z1 : Int32), k4v u z0 z1 → k4 u z0 z1) (h : v_X3_reachedCount_J27 ro uo k4v U27 t27_0 t27_1 v27_2) : w_X3_reachedCount_J27 (fun r u => r = ro ∧ u = uo) k4 U27 t27_0 t27_1 v27_2 := by
  unfold v_X3_reachedCount_J27 at h
  unfold w_X3_reachedCount_J27
  intro _ _
  replace h := h.2.2
  obtain ⟨v9, e9, h⟩ := h
  intro x9 d9 
  have c9 : v9 = x9 := e9.trans d9.symm
  subst c9
  obtain ⟨v9, e9, h⟩ := h
  intro x9 d9 
  have c9 : v9 = x9 := e9.trans d9.symm
  subst c9
  exact hk4 _ _ _ h
set_option maxRecDepth 100000 in
theorem vp_X3_reachedCount_J27 {ro : Int32} {uo : MS} {P : Int32 → MS → Prop} {k4 k4v : MS → Int32 → Int32 → Prop} {U27 : MS} {t27_0 : Int32} {t27_1 : Int32} {v27_2 : Int32} (hk4 : ∀ (u : MS) (z0 : Int32) (z1 : Int32), k4v u z0 z1 → k4 u z0 z1 → P ro uo) (h : v_X3_reachedCount_J27 ro uo k4v U27 t27_0 t27_1 v27_2) (w : w_X3_reachedCount_J27 P k4 U27 t27_0 t27_1 v27_2) : P ro uo := by
  unfold v_X3_reachedCount_J27 at h
  unfold w_X3_reachedCount_J27 at w
  obtain ⟨y1_, y2_, h⟩ := h
  replace w := w y1_ y2_
  obtain ⟨v9, e9, h⟩ := h
  replace w := w v9 e9 
  obtain ⟨v9, e9, h⟩ := h
  replace w := w v9 e9 
  exact hk4 _ _ _ h w
set_option maxRecDepth 100000 in
theorem vw_X3_reachedCount_L4 {ro : Int32} {uo : MS} : ∀ (n : Nat) {U4 : MS} {v4_1 : Int32} {v4_2 : Int32}, v_X3_reachedCount_L4 ro uo n U4 v4_1 v4_2 → w_X3_reachedCount_L4 (fun r u => r = ro ∧ u = uo) n U4 v4_1 v4_2 := by
  intro n
  induction n with
  | zero => intro U4 v4_1 v4_2 h; unfold v_X3_reachedCount_L4 at h; exact h.elim
  | succ n ih =>
    intro U4 v4_1 v4_2 h
    unfold v_X3_reachedCount_L4 at h
    unfold w_X3_reachedCount_L4
    intro _
    replace h := h.2
    rcases h with ⟨c, h⟩ | ⟨c, h⟩
    · refine ⟨fun _ => ?_, fun c2 => absurd c c2⟩
      exact ⟨h.1.symm, h.2.symm⟩
    · refine ⟨fun c2 => absurd c2 c, fun _ => ?_⟩
      obtain ⟨g9, h⟩ := h
      refine ⟨g9, ?_⟩
      rcases h with ⟨c, h⟩ | ⟨c, h⟩
      · refine ⟨fun _ => ?_, fun c2 => absurd c c2⟩
        exact vw_X3_reachedCount_J27 (fun _ _ _ h => ih h) h
      · refine ⟨fun c2 => absurd c2 c, fun _ => ?_⟩
        exact vw_X3_reachedCount_J27 (fun _ _ _ h => ih h) h
set_option maxRecDepth 100000 in
theorem vp_X3_reachedCount_L4 {ro : Int32} {uo : MS} {P : Int32 → MS → Prop} : ∀ (n m : Nat) {U4 : MS} {v4_1 : Int32} {v4_2 : Int32}, v_X3_reachedCount_L4 ro uo n U4 v4_1 v4_2 → w_X3_reachedCount_L4 P m U4 v4_1 v4_2 → P ro uo := by
  intro n
  induction n with
  | zero => intro m U4 v4_1 v4_2 h; unfold v_X3_reachedCount_L4 at h; exact h.elim
  | succ n ih =>
    intro m U4 v4_1 v4_2 h w
    cases m with
    | zero => unfold w_X3_reachedCount_L4 at w; exact w.elim
    | succ m =>
      unfold v_X3_reachedCount_L4 at h
      unfold w_X3_reachedCount_L4 at w
      obtain ⟨y3_, h⟩ := h
      replace w := w y3_
      rcases h with ⟨c, h⟩ | ⟨c, h⟩
      · replace w := w.1 c
        rw [h.1, h.2]
        exact w
      · replace w := w.2 c
        replace h := h.2
        replace w := w.2
        rcases h with ⟨c, h⟩ | ⟨c, h⟩
        · replace w := w.1 c
          exact vp_X3_reachedCount_J27 (fun _ _ _ h w => ih m h w) h w
        · replace w := w.2 c
          exact vp_X3_reachedCount_J27 (fun _ _ _ h w => ih m h w) h w
set_option maxRecDepth 100000 in
theorem vwX3_reachedCount {S : MS} {ro : Int32} {uo : MS} (h : vX3_reachedCount S ro uo) : wX3_reachedCount S (fun r u => r = ro ∧ u = uo) := by
  unfold vX3_reachedCount at h
  unfold wX3_reachedCount
  obtain ⟨n9, h⟩ := h
  exact ⟨n9, vw_X3_reachedCount_L4 n9 h⟩
set_option maxRecDepth 100000 in
theorem vpX3_reachedCount {S : MS} {ro : Int32} {uo : MS} {P : Int32 → MS → Prop} (h : vX3_reachedCount S ro uo) (w : wX3_reachedCount S P) : P ro uo := by
  unfold vX3_reachedCount at h
  unfold wX3_reachedCount at w
  obtain ⟨n9, h⟩ := h
  obtain ⟨n8, w⟩ := w
  exact vp_X3_reachedCount_L4 n9 n8 h w
def vX3_begin (S : MS) (x1 : Int32) (uo : MS) : Prop := ((x1.toInt < 0 ∧ (uo = S)) ∨ (¬ x1.toInt < 0 ∧ ((qR S 52 0 = some (qO S 52 0)) ∧ (((qI S (qO S 52 0) 2).toInt ≤ x1.toInt ∧ (uo = S)) ∨ (¬ (qI S (qO S 52 0) 2).toInt ≤ x1.toInt ∧ (((0 : Int) ≤ x1.toInt ∧ x1.toInt < (qN S (qO S 52 3) : Int)) ∧ (∃ S7 : MS, S7 = wI S (qO S 52 3) x1.toInt.toNat (1 : Int32) ∧ qT S (qO S 52 3) = 203 ∧ wfC S7 ∧ (uo = S7))))))))
set_option maxRecDepth 100000 in
theorem ruX3_begin {S : MS} {x1 : Int32} {Q : MS → Prop} (h : wX3_begin S x1 Q) : wX3_begin S x1 (fun u => Q u ∧ vX3_begin S x1 u) := by
  have i0 : Unit := ()
  have K : ∀ (i : Unit) (uo : MS), vX3_begin S x1 uo → vX3_begin S x1 uo := fun _ _ z => z
  unfold wX3_begin at h ⊢
  refine ⟨fun c => ?_, fun c => ?_⟩
  · replace h := h.1 c
    replace K := fun i uo z => K i uo (Or.inl ⟨c, z⟩)
    exact ⟨h, K i0 _ rfl⟩
  · replace h := h.2 c
    replace K := fun i uo z => K i uo (Or.inr ⟨c, z⟩)
    obtain ⟨g1_, h⟩ := h
    refine ⟨g1_, ?_⟩
    replace K := fun i uo z => K i uo ⟨g1_, z⟩
    refine ⟨fun c => ?_, fun c => ?_⟩
    · replace h := h.1 c
      replace K := fun i uo z => K i uo (Or.inl ⟨c, z⟩)
      exact ⟨h, K i0 _ rfl⟩
    · replace h := h.2 c
      replace K := fun i uo z => K i uo (Or.inr ⟨c, z⟩)
      obtain ⟨g2_, h⟩ := h
      refine ⟨g2_, ?_⟩
      replace K := fun i uo z => K i uo ⟨g2_, z⟩
      intro S7 eS7 y3_ y4_
      replace h := h S7 eS7 y3_ y4_
      replace K := fun i uo z => K i uo ⟨S7, eS7, y3_, y4_, z⟩
      exact ⟨h, K i0 _ rfl⟩
set_option maxRecDepth 100000 in
theorem vwX3_begin {S : MS} {x1 : Int32} {uo : MS} (h : vX3_begin S x1 uo) : wX3_begin S x1 (fun u => u = uo) := by
  unfold vX3_begin at h
  unfold wX3_begin
  rcases h with ⟨c, h⟩ | ⟨c, h⟩
  · refine ⟨fun _ => ?_, fun c2 => absurd c c2⟩
    exact h.symm
  · refine ⟨fun c2 => absurd c2 c, fun _ => ?_⟩
    obtain ⟨g9, h⟩ := h
    refine ⟨g9, ?_⟩
    rcases h with ⟨c, h⟩ | ⟨c, h⟩
    · refine ⟨fun _ => ?_, fun c2 => absurd c c2⟩
      exact h.symm
    · refine ⟨fun c2 => absurd c2 c, fun _ => ?_⟩
      obtain ⟨g9, h⟩ := h
      refine ⟨g9, ?_⟩
      obtain ⟨v9, e9, h⟩ := h
      intro x9 d9 _ _
      have c9 : v9 = x9 := e9.trans d9.symm
      subst c9
      replace h := h.2.2
      exact h.symm
set_option maxRecDepth 100000 in
theorem vpX3_begin {S : MS} {x1 : Int32} {uo : MS} {P : MS → Prop} (h : vX3_begin S x1 uo) (w : wX3_begin S x1 P) : P uo := by
  unfold vX3_begin at h
  unfold wX3_begin at w
  rcases h with ⟨c, h⟩ | ⟨c, h⟩
  · replace w := w.1 c
    rw [h]
    exact w
  · replace w := w.2 c
    replace h := h.2
    replace w := w.2
    rcases h with ⟨c, h⟩ | ⟨c, h⟩
    · replace w := w.1 c
      rw [h]
      exact w
    · replace w := w.2 c
      replace h := h.2
      replace w := w.2
      obtain ⟨v9, e9, y1_, y2_, h⟩ := h
      replace w := w v9 e9 y1_ y2_
      rw [h]
      exact w
def v_X3_makeRoom_J79 (uo : MS) (U79 : MS) : Prop := (wfC U79 ∧ (∃ S5 : MS, S5 = wI U79 52 10 (((qI U79 52 1) + (63 : Int32)) / (64 : Int32)) ∧ qT U79 52 = 43 ∧ wfC S5 ∧ ((((qI S5 52 1) * (qI S5 52 10)).toInt ≤ (qN S5 (qO S5 52 9) : Int) ∧ (uo = S5)) ∨ (¬ ((qI S5 52 1) * (qI S5 52 10)).toInt ≤ (qN S5 (qO S5 52 9) : Int) ∧ (((0 : Int) ≤ (((2 : Int32) * (qI S5 52 1)) * (qI S5 52 10)).toInt ∧ (qn S5 + 1 ≤ KCC ∧ qu S5 + (((2 : Int32) * (qI S5 52 1)) * (qI S5 52 10)).toInt.toNat ≤ KSC)) ∧ (∃ S15 : MS, S15 = wN S5 401 ((((2 : Int32) * (qI S5 52 1)) * (qI S5 52 10)).toInt.toNat) ((((2 : Int32) * (qI S5 52 1)) * (qI S5 52 10)).toInt.toNat) ∧ wfC S15 ∧ (∃ S17 : MS, S17 = wR S15 52 9 (some (qn S5)) ∧ qT S15 52 = 43 ∧ wfC S17 ∧ (uo = S17))))))))
def vX3_makeRoom (S : MS) (uo : MS) : Prop := (((qI S 52 1).toInt ≤ (qN S (qO S 52 13) : Int) ∧ (v_X3_makeRoom_J79 uo S)) ∨ (¬ (qI S 52 1).toInt ≤ (qN S (qO S 52 13) : Int) ∧ (∃ a20 : Int32, a20 = ((2 : Int32) * (qI S 52 1)) ∧ (((0 : Int) ≤ (a20 + (1 : Int32)).toInt ∧ (qn S + 1 ≤ KCC ∧ qu S + (a20 + (1 : Int32)).toInt.toNat ≤ KSC)) ∧ (∃ S25 : MS, S25 = wN S 204 ((a20 + (1 : Int32)).toInt.toNat) ((a20 + (1 : Int32)).toInt.toNat) ∧ wfC S25 ∧ (∃ S27 : MS, S27 = wR S25 52 4 (some (qn S)) ∧ qT S25 52 = 43 ∧ wfC S27 ∧ (((0 : Int) ≤ (a20 + (1 : Int32)).toInt ∧ (qn S27 + 1 ≤ KCC ∧ qu S27 + (a20 + (1 : Int32)).toInt.toNat ≤ KSC)) ∧ (∃ S32 : MS, S32 = wN S27 206 ((a20 + (1 : Int32)).toInt.toNat) ((a20 + (1 : Int32)).toInt.toNat) ∧ wfC S32 ∧ (∃ S34 : MS, S34 = wR S32 52 6 (some (qn S27)) ∧ qT S32 52 = 43 ∧ wfC S34 ∧ (((0 : Int) ≤ a20.toInt ∧ (qn S34 + 1 ≤ KCC ∧ qu S34 + a20.toInt.toNat ≤ KSC)) ∧ (∃ S38 : MS, S38 = wN S34 303 a20.toInt.toNat a20.toInt.toNat ∧ wfC S38 ∧ (∃ S40 : MS, S40 = wR S38 52 8 (some (qn S34)) ∧ qT S38 52 = 43 ∧ wfC S40 ∧ (((0 : Int) ≤ a20.toInt ∧ (qn S40 + 1 ≤ KCC ∧ qu S40 + a20.toInt.toNat ≤ KSC)) ∧ (∃ S44 : MS, S44 = wN S40 208 a20.toInt.toNat a20.toInt.toNat ∧ wfC S44 ∧ (∃ S46 : MS, S46 = wR S44 52 11 (some (qn S40)) ∧ qT S44 52 = 43 ∧ wfC S46 ∧ (((0 : Int) ≤ a20.toInt ∧ (qn S46 + 1 ≤ KCC ∧ qu S46 + a20.toInt.toNat ≤ KSC)) ∧ (∃ S50 : MS, S50 = wN S46 209 a20.toInt.toNat a20.toInt.toNat ∧ wfC S50 ∧ (∃ S52 : MS, S52 = wR S50 52 12 (some (qn S46)) ∧ qT S50 52 = 43 ∧ wfC S52 ∧ (((0 : Int) ≤ a20.toInt ∧ (qn S52 + 1 ≤ KCC ∧ qu S52 + a20.toInt.toNat ≤ KSC)) ∧ (∃ S56 : MS, S56 = wN S52 210 a20.toInt.toNat a20.toInt.toNat ∧ wfC S56 ∧ (∃ S58 : MS, S58 = wR S56 52 13 (some (qn S52)) ∧ qT S56 52 = 43 ∧ wfC S58 ∧ (((0 : Int) ≤ a20.toInt ∧ (qn S58 + 1 ≤ KCC ∧ qu S58 + a20.toInt.toNat ≤ KSC)) ∧ (∃ S62 : MS, S62 = wN S58 211 a20.toInt.toNat a20.toInt.toNat ∧ wfC S62 ∧ (∃ S64 : MS, S64 = wR S62 52 14 (some (qn S58)) ∧ qT S62 52 = 43 ∧ wfC S64 ∧ (((0 : Int) ≤ a20.toInt ∧ (qn S64 + 1 ≤ KCC ∧ qu S64 + a20.toInt.toNat ≤ KSC)) ∧ (∃ S68 : MS, S68 = wN S64 212 a20.toInt.toNat a20.toInt.toNat ∧ wfC S68 ∧ (∃ S70 : MS, S70 = wR S68 52 15 (some (qn S64)) ∧ qT S68 52 = 43 ∧ wfC S70 ∧ (v_X3_makeRoom_J79 uo S70))))))))))))))))))))))))))))
set_option maxRecDepth 100000 in
theorem ru_X3_makeRoom_J79 {ι : Type} {P Q : MS → Prop} {U79 : MS} (i0 : ι) (K : ∀ (i : ι) (uo : MS), v_X3_makeRoom_J79 uo U79 → P uo) (h : w_X3_makeRoom_J79 Q U79) : w_X3_makeRoom_J79 (fun u => Q u ∧ P u) U79 := by
  unfold w_X3_makeRoom_J79 at h ⊢
  intro y1_
  replace h := h y1_
  replace K := fun i uo z => K i uo ⟨y1_, z⟩
  intro S5 eS5 y2_ y3_
  replace h := h S5 eS5 y2_ y3_
  replace K := fun i uo z => K i uo ⟨S5, eS5, y2_, y3_, z⟩
  refine ⟨fun c => ?_, fun c => ?_⟩
  · replace h := h.1 c
    replace K := fun i uo z => K i uo (Or.inl ⟨c, z⟩)
    exact ⟨h, K i0 _ rfl⟩
  · replace h := h.2 c
    replace K := fun i uo z => K i uo (Or.inr ⟨c, z⟩)
    obtain ⟨g4_, h⟩ := h
    refine ⟨g4_, ?_⟩
    replace K := fun i uo z => K i uo ⟨g4_, z⟩
    intro S15 eS15 y5_
    replace h := h S15 eS15 y5_
    replace K := fun i uo z => K i uo ⟨S15, eS15, y5_, z⟩
    intro S17 eS17 y6_ y7_
    replace h := h S17 eS17 y6_ y7_
    replace K := fun i uo z => K i uo ⟨S17, eS17, y6_, y7_, z⟩
    exact ⟨h, K i0 _ rfl⟩
set_option maxRecDepth 100000 in
theorem ruX3_makeRoom {S : MS} {Q : MS → Prop} (h : wX3_makeRoom S Q) : wX3_makeRoom S (fun u => Q u ∧ vX3_makeRoom S u) := by
  have i0 : Unit := ()
  have K : ∀ (i : Unit) (uo : MS), vX3_makeRoom S uo → vX3_makeRoom S uo := fun _ _ z => z
  unfold wX3_makeRoom at h ⊢
  refine ⟨fun c => ?_, fun c => ?_⟩
  · replace h := h.1 c
    replace K := fun i uo z => K i uo (Or.inl ⟨c, z⟩)
    exact ru_X3_makeRoom_J79 i0 K h
  · replace h := h.2 c
    replace K := fun i uo z => K i uo (Or.inr ⟨c, z⟩)
    intro a20 ea20 
    replace h := h a20 ea20 
    replace K := fun i uo z => K i uo ⟨a20, ea20, z⟩
    obtain ⟨g8_, h⟩ := h
    refine ⟨g8_, ?_⟩
    replace K := fun i uo z => K i uo ⟨g8_, z⟩
    intro S25 eS25 y9_
    replace h := h S25 eS25 y9_
    replace K := fun i uo z => K i uo ⟨S25, eS25, y9_, z⟩
    intro S27 eS27 y10_ y11_
    replace h := h S27 eS27 y10_ y11_
    replace K := fun i uo z => K i uo ⟨S27, eS27, y10_, y11_, z⟩
    obtain ⟨g12_, h⟩ := h
    refine ⟨g12_, ?_⟩
    replace K := fun i uo z => K i uo ⟨g12_, z⟩
    intro S32 eS32 y13_
    replace h := h S32 eS32 y13_
    replace K := fun i uo z => K i uo ⟨S32, eS32, y13_, z⟩
    intro S34 eS34 y14_ y15_
    replace h := h S34 eS34 y14_ y15_
    replace K := fun i uo z => K i uo ⟨S34, eS34, y14_, y15_, z⟩
    obtain ⟨g16_, h⟩ := h
    refine ⟨g16_, ?_⟩
    replace K := fun i uo z => K i uo ⟨g16_, z⟩
    intro S38 eS38 y17_
    replace h := h S38 eS38 y17_
    replace K := fun i uo z => K i uo ⟨S38, eS38, y17_, z⟩
    intro S40 eS40 y18_ y19_
    replace h := h S40 eS40 y18_ y19_
    replace K := fun i uo z => K i uo ⟨S40, eS40, y18_, y19_, z⟩
    obtain ⟨g20_, h⟩ := h
    refine ⟨g20_, ?_⟩
    replace K := fun i uo z => K i uo ⟨g20_, z⟩
    intro S44 eS44 y21_
    replace h := h S44 eS44 y21_
    replace K := fun i uo z => K i uo ⟨S44, eS44, y21_, z⟩
    intro S46 eS46 y22_ y23_
    replace h := h S46 eS46 y22_ y23_
    replace K := fun i uo z => K i uo ⟨S46, eS46, y22_, y23_, z⟩
    obtain ⟨g24_, h⟩ := h
    refine ⟨g24_, ?_⟩
    replace K := fun i uo z => K i uo ⟨g24_, z⟩
    intro S50 eS50 y25_
    replace h := h S50 eS50 y25_
    replace K := fun i uo z => K i uo ⟨S50, eS50, y25_, z⟩
    intro S52 eS52 y26_ y27_
    replace h := h S52 eS52 y26_ y27_
    replace K := fun i uo z => K i uo ⟨S52, eS52, y26_, y27_, z⟩
    obtain ⟨g28_, h⟩ := h
    refine ⟨g28_, ?_⟩
    replace K := fun i uo z => K i uo ⟨g28_, z⟩
    intro S56 eS56 y29_
    replace h := h S56 eS56 y29_
    replace K := fun i uo z => K i uo ⟨S56, eS56, y29_, z⟩
    intro S58 eS58 y30_ y31_
    replace h := h S58 eS58 y30_ y31_
    replace K := fun i uo z => K i uo ⟨S58, eS58, y30_, y31_, z⟩
    obtain ⟨g32_, h⟩ := h
    refine ⟨g32_, ?_⟩
    replace K := fun i uo z => K i uo ⟨g32_, z⟩
    intro S62 eS62 y33_
    replace h := h S62 eS62 y33_
    replace K := fun i uo z => K i uo ⟨S62, eS62, y33_, z⟩
    intro S64 eS64 y34_ y35_
    replace h := h S64 eS64 y34_ y35_
    replace K := fun i uo z => K i uo ⟨S64, eS64, y34_, y35_, z⟩
    obtain ⟨g36_, h⟩ := h
    refine ⟨g36_, ?_⟩
    replace K := fun i uo z => K i uo ⟨g36_, z⟩
    intro S68 eS68 y37_
    replace h := h S68 eS68 y37_
    replace K := fun i uo z => K i uo ⟨S68, eS68, y37_, z⟩
    intro S70 eS70 y38_ y39_
    replace h := h S70 eS70 y38_ y39_
    replace K := fun i uo z => K i uo ⟨S70, eS70, y38_, y39_, z⟩
    exact ru_X3_makeRoom_J79 i0 K h
set_option maxRecDepth 100000 in
theorem vw_X3_makeRoom_J79 {uo : MS} {U79 : MS} (h : v_X3_makeRoom_J79 uo U79) : w_X3_makeRoom_J79 (fun u => u = uo) U79 := by
  unfold v_X3_makeRoom_J79 at h
  unfold w_X3_makeRoom_J79
  intro _
  replace h := h.2
  obtain ⟨v9, e9, h⟩ := h
  intro x9 d9 _ _
  have c9 : v9 = x9 := e9.trans d9.symm
  subst c9
  replace h := h.2.2
  rcases h with ⟨c, h⟩ | ⟨c, h⟩
  · refine ⟨fun _ => ?_, fun c2 => absurd c c2⟩
    exact h.symm
  · refine ⟨fun c2 => absurd c2 c, fun _ => ?_⟩
    obtain ⟨g9, h⟩ := h
    refine ⟨g9, ?_⟩
    obtain ⟨v9, e9, h⟩ := h
    intro x9 d9 _
    have c9 : v9 = x9 := e9.trans d9.symm
    subst c9
    replace h := h.2
    obtain ⟨v9, e9, h⟩ := h
    intro x9 d9 _ _
    have c9 : v9 = x9 := e9.trans d9.symm
    subst c9
    replace h := h.2.2
    exact h.symm
set_option maxRecDepth 100000 in
theorem vp_X3_makeRoom_J79 {uo : MS} {P : MS → Prop} {U79 : MS} (h : v_X3_makeRoom_J79 uo U79) (w : w_X3_makeRoom_J79 P U79) : P uo := by
  unfold v_X3_makeRoom_J79 at h
  unfold w_X3_makeRoom_J79 at w
  obtain ⟨y1_, h⟩ := h
  replace w := w y1_
  obtain ⟨v9, e9, y2_, y3_, h⟩ := h
  replace w := w v9 e9 y2_ y3_
  rcases h with ⟨c, h⟩ | ⟨c, h⟩
  · replace w := w.1 c
    rw [h]
    exact w
  · replace w := w.2 c
    replace h := h.2
    replace w := w.2
    obtain ⟨v9, e9, y4_, h⟩ := h
    replace w := w v9 e9 y4_
    obtain ⟨v9, e9, y5_, y6_, h⟩ := h
    replace w := w v9 e9 y5_ y6_
    rw [h]
    exact w
set_option maxRecDepth 100000 in
theorem vwX3_makeRoom {S : MS} {uo : MS} (h : vX3_makeRoom S uo) : wX3_makeRoom S (fun u => u = uo) := by
  unfold vX3_makeRoom at h
  unfold wX3_makeRoom
  rcases h with ⟨c, h⟩ | ⟨c, h⟩
  · refine ⟨fun _ => ?_, fun c2 => absurd c c2⟩
    exact vw_X3_makeRoom_J79 h
  · refine ⟨fun c2 => absurd c2 c, fun _ => ?_⟩
    obtain ⟨v9, e9, h⟩ := h
    intro x9 d9 
    have c9 : v9 = x9 := e9.trans d9.symm
    subst c9
    obtain ⟨g9, h⟩ := h
    refine ⟨g9, ?_⟩
    obtain ⟨v9, e9, h⟩ := h
    intro x9 d9 _
    have c9 : v9 = x9 := e9.trans d9.symm
    subst c9
    replace h := h.2
    obtain ⟨v9, e9, h⟩ := h
    intro x9 d9 _ _
    have c9 : v9 = x9 := e9.trans d9.symm
    subst c9
    replace h := h.2.2
    obtain ⟨g9, h⟩ := h
    refine ⟨g9, ?_⟩
    obtain ⟨v9, e9, h⟩ := h
    intro x9 d9 _
    have c9 : v9 = x9 := e9.trans d9.symm
    subst c9
    replace h := h.2
    obtain ⟨v9, e9, h⟩ := h
    intro x9 d9 _ _
    have c9 : v9 = x9 := e9.trans d9.symm
    subst c9
    replace h := h.2.2
    obtain ⟨g9, h⟩ := h
    refine ⟨g9, ?_⟩
    obtain ⟨v9, e9, h⟩ := h
    intro x9 d9 _
    have c9 : v9 = x9 := e9.trans d9.symm
    subst c9
    replace h := h.2
    obtain ⟨v9, e9, h⟩ := h
    intro x9 d9 _ _
    have c9 : v9 = x9 := e9.trans d9.symm
    subst c9
    replace h := h.2.2
    obtain ⟨g9, h⟩ := h
    refine ⟨g9, ?_⟩
    obtain ⟨v9, e9, h⟩ := h
    intro x9 d9 _
    have c9 : v9 = x9 := e9.trans d9.symm
    subst c9
    replace h := h.2
    obtain ⟨v9, e9, h⟩ := h
    intro x9 d9 _ _
    have c9 : v9 = x9 := e9.trans d9.symm
    subst c9
    replace h := h.2.2
    obtain ⟨g9, h⟩ := h
    refine ⟨g9, ?_⟩
    obtain ⟨v9, e9, h⟩ := h
    intro x9 d9 _
    have c9 : v9 = x9 := e9.trans d9.symm
    subst c9
    replace h := h.2
    obtain ⟨v9, e9, h⟩ := h
    intro x9 d9 _ _
    have c9 : v9 = x9 := e9.trans d9.symm
    subst c9
    replace h := h.2.2
    obtain ⟨g9, h⟩ := h
    refine ⟨g9, ?_⟩
    obtain ⟨v9, e9, h⟩ := h
    intro x9 d9 _
    have c9 : v9 = x9 := e9.trans d9.symm
    subst c9
    replace h := h.2
    obtain ⟨v9, e9, h⟩ := h
    intro x9 d9 _ _
    have c9 : v9 = x9 := e9.trans d9.symm
    subst c9
    replace h := h.2.2
    obtain ⟨g9, h⟩ := h
    refine ⟨g9, ?_⟩
    obtain ⟨v9, e9, h⟩ := h
    intro x9 d9 _
    have c9 : v9 = x9 := e9.trans d9.symm
    subst c9
    replace h := h.2
    obtain ⟨v9, e9, h⟩ := h
    intro x9 d9 _ _
    have c9 : v9 = x9 := e9.trans d9.symm
    subst c9
    replace h := h.2.2
    obtain ⟨g9, h⟩ := h
    refine ⟨g9, ?_⟩
    obtain ⟨v9, e9, h⟩ := h
    intro x9 d9 _
    have c9 : v9 = x9 := e9.trans d9.symm
    subst c9
    replace h := h.2
    obtain ⟨v9, e9, h⟩ := h
    intro x9 d9 _ _
    have c9 : v9 = x9 := e9.trans d9.symm
    subst c9
    replace h := h.2.2
    exact vw_X3_makeRoom_J79 h
set_option maxRecDepth 100000 in
theorem vpX3_makeRoom {S : MS} {uo : MS} {P : MS → Prop} (h : vX3_makeRoom S uo) (w : wX3_makeRoom S P) : P uo := by
  unfold vX3_makeRoom at h
  unfold wX3_makeRoom at w
  rcases h with ⟨c, h⟩ | ⟨c, h⟩
  · replace w := w.1 c
    exact vp_X3_makeRoom_J79 h w
  · replace w := w.2 c
    obtain ⟨v9, e9, h⟩ := h
    replace w := w v9 e9 
    replace h := h.2
    replace w := w.2
    obtain ⟨v9, e9, y7_, h⟩ := h
    replace w := w v9 e9 y7_
    obtain ⟨v9, e9, y8_, y9_, h⟩ := h
    replace w := w v9 e9 y8_ y9_
    replace h := h.2
    replace w := w.2
    obtain ⟨v9, e9, y10_, h⟩ := h
    replace w := w v9 e9 y10_
    obtain ⟨v9, e9, y11_, y12_, h⟩ := h
    replace w := w v9 e9 y11_ y12_
    replace h := h.2
    replace w := w.2
    obtain ⟨v9, e9, y13_, h⟩ := h
    replace w := w v9 e9 y13_
    obtain ⟨v9, e9, y14_, y15_, h⟩ := h
    replace w := w v9 e9 y14_ y15_
    replace h := h.2
    replace w := w.2
    obtain ⟨v9, e9, y16_, h⟩ := h
    replace w := w v9 e9 y16_
    obtain ⟨v9, e9, y17_, y18_, h⟩ := h
    replace w := w v9 e9 y17_ y18_
    replace h := h.2
    replace w := w.2
    obtain ⟨v9, e9, y19_, h⟩ := h
    replace w := w v9 e9 y19_
    obtain ⟨v9, e9, y20_, y21_, h⟩ := h
    replace w := w v9 e9 y20_ y21_
    replace h := h.2
    replace w := w.2
    obtain ⟨v9, e9, y22_, h⟩ := h
    replace w := w v9 e9 y22_
    obtain ⟨v9, e9, y23_, y24_, h⟩ := h
    replace w := w v9 e9 y23_ y24_
    replace h := h.2
    replace w := w.2
    obtain ⟨v9, e9, y25_, h⟩ := h
    replace w := w v9 e9 y25_
    obtain ⟨v9, e9, y26_, y27_, h⟩ := h
    replace w := w v9 e9 y26_ y27_
    replace h := h.2
    replace w := w.2
    obtain ⟨v9, e9, y28_, h⟩ := h
    replace w := w v9 e9 y28_
    obtain ⟨v9, e9, y29_, y30_, h⟩ := h
    replace w := w v9 e9 y29_ y30_
    exact vp_X3_makeRoom_J79 h w
