def v_loops_J54 (uo : MS) (k32 : MS → Int32 → Prop) (U54 : MS) (v54_1 : Int32) : Prop := (∃ a5 : Int32, a5 = (v54_1 + Int32.ofInt 1) ∧ (k32 U54 a5))
def v_loops_L32 (uo : MS) : Nat → MS → Int32 → Prop
  | 0, _, _ => False
  | n32 + 1, U32, v32_1 => (((qI U32 0 105).toInt ≤ v32_1.toInt ∧ (uo = U32)) ∨ (¬ (qI U32 0 105).toInt ≤ v32_1.toInt ∧ (((0 : Int) ≤ v32_1.toInt ∧ v32_1.toInt < 1200) ∧ (((qI U32 53 v32_1.toInt.toNat).toInt = 0 ∧ (v_loops_J54 uo (v_loops_L32 uo n32) U32 v32_1)) ∨ (¬ (qI U32 53 v32_1.toInt.toNat).toInt = 0 ∧ (∃ (S8 : MS), v_loop U32 v32_1 S8 ∧ (v_loops_J54 uo (v_loops_L32 uo n32) S8 v32_1)))))))
def v_loops_L2 (uo : MS) : Nat → MS → Int32 → Prop
  | 0, _, _ => False
  | n2 + 1, U2, v2_1 => (((qI U2 0 105).toInt ≤ v2_1.toInt ∧ (∃ n, v_loops_L32 uo n U2 0)) ∨ (¬ (qI U2 0 105).toInt ≤ v2_1.toInt ∧ (((0 : Int) ≤ v2_1.toInt ∧ v2_1.toInt < 1200) ∧ (∃ S11 : MS, S11 = wI U2 57 v2_1.toInt.toNat (0 : Int32) ∧ (((0 : Int) ≤ v2_1.toInt ∧ v2_1.toInt < 1200) ∧ (∃ S13 : MS, S13 = wI S11 56 v2_1.toInt.toNat (vp_nar .boolean (0 : Int32)) ∧ (∃ a14 : Int32, a14 = (v2_1 + Int32.ofInt 1) ∧ ((v_loops_L2 uo n2) S13 a14))))))))
def v_loops (S : MS) (uo : MS) : Prop := (∃ n, v_loops_L2 uo n S 0)
set_option maxRecDepth 100000 in
theorem ru_loops_J54 {ι : Type} {P : MS → Prop} {Q : MS → Prop} {k32 : MS → Int32 → Prop} {k32v : ι → MS → MS → Int32 → Prop} {U54 : MS} {v54_1 : Int32} (i0 : ι) (hk32 : ∀ (u : MS) (z0 : Int32), k32 u z0 → (∀ (i : ι) (uo : MS), k32v i uo u z0 → P uo) → ∃ uo, P uo ∧ Q uo) (K : ∀ (i : ι) (uo : MS), v_loops_J54 uo (k32v i uo) U54 v54_1 → P uo) (h : w_loops_J54 Q k32 U54 v54_1) : ∃ uo, P uo ∧ Q uo := by
  unfold w_loops_J54 at h
  obtain ⟨a5, ea5⟩ : ∃ x9 : Int32, x9 = (v54_1 + Int32.ofInt 1) := ⟨_, rfl⟩
  replace h := h a5 ea5
  replace K := fun i uo z => K i uo ⟨a5, ea5, z⟩
  exact hk32 _ _ h K
set_option maxRecDepth 100000 in
theorem ru_loops_L32 {ι : Type} {P : MS → Prop} {Q : MS → Prop} : ∀ (n : Nat) {U32 : MS} {v32_1 : Int32} (i0 : ι), (∀ (i : ι) (uo : MS), (∃ n8, v_loops_L32 uo n8 U32 v32_1) → P uo) → w_loops_L32 Q n U32 v32_1 → ∃ uo, P uo ∧ Q uo := by
  intro n
  induction n with
  | zero => intro U32 v32_1 i0 K h; unfold w_loops_L32 at h; exact h.elim
  | succ n ih =>
    intro U32 v32_1 i0 K h
    unfold w_loops_L32 at h
    replace K := fun (i : ι × Nat) uo (z : v_loops_L32 uo (i.2 + 1) U32 v32_1) => K i.1 uo ⟨i.2 + 1, z⟩
    have i00 := i0
    replace i0 : ι × Nat := (i0, 0)
    by_cases c : (qI U32 0 105).toInt ≤ v32_1.toInt
    · replace h := h.1 c
      replace K := fun i uo z => K i uo (Or.inl ⟨c, z⟩)
      exact ⟨_, K i0 _ rfl, h⟩
    · replace h := h.2 c
      replace K := fun i uo z => K i uo (Or.inr ⟨c, z⟩)
      obtain ⟨g1_, h⟩ := h
      replace K := fun i uo z => K i uo ⟨g1_, z⟩
      by_cases c : (qI U32 53 v32_1.toInt.toNat).toInt = 0
      · replace h := h.1 c
        replace K := fun i uo z => K i uo (Or.inl ⟨c, z⟩)
        exact ru_loops_J54 i0 (fun _ _ h K => ih i00 (fun i uo ⟨n8, z⟩ => K (i, n8) uo z) h) K h
      · replace h := h.2 c
        replace K := fun i uo z => K i uo (Or.inr ⟨c, z⟩)
        obtain ⟨Q9, h0, h⟩ := h
        obtain ⟨S8, z9, g9⟩ := ru_loop h0
        replace h := h S8 g9
        replace K := fun i uo z => K i uo ⟨S8, z9, z⟩
        exact ru_loops_J54 i0 (fun _ _ h K => ih i00 (fun i uo ⟨n8, z⟩ => K (i, n8) uo z) h) K h
set_option maxRecDepth 100000 in
theorem ru_loops_L2 {ι : Type} {P : MS → Prop} {Q : MS → Prop} : ∀ (n : Nat) {U2 : MS} {v2_1 : Int32} (i0 : ι), (∀ (i : ι) (uo : MS), (∃ n8, v_loops_L2 uo n8 U2 v2_1) → P uo) → w_loops_L2 Q n U2 v2_1 → ∃ uo, P uo ∧ Q uo := by
  intro n
  induction n with
  | zero => intro U2 v2_1 i0 K h; unfold w_loops_L2 at h; exact h.elim
  | succ n ih =>
    intro U2 v2_1 i0 K h
    unfold w_loops_L2 at h
    replace K := fun (i : ι × Nat) uo (z : v_loops_L2 uo (i.2 + 1) U2 v2_1) => K i.1 uo ⟨i.2 + 1, z⟩
    have i00 := i0
    replace i0 : ι × Nat := (i0, 0)
    by_cases c : (qI U2 0 105).toInt ≤ v2_1.toInt
    · replace h := h.1 c
      replace K := fun i uo z => K i uo (Or.inl ⟨c, z⟩)
      obtain ⟨n9, h⟩ := h
      exact ru_loops_L32 n9 i0 K h
    · replace h := h.2 c
      replace K := fun i uo z => K i uo (Or.inr ⟨c, z⟩)
      obtain ⟨g2_, h⟩ := h
      replace K := fun i uo z => K i uo ⟨g2_, z⟩
      obtain ⟨S11, eS11⟩ : ∃ x9 : MS, x9 = wI U2 57 v2_1.toInt.toNat (0 : Int32) := ⟨_, rfl⟩
      replace h := h S11 eS11
      replace K := fun i uo z => K i uo ⟨S11, eS11, z⟩
      obtain ⟨g3_, h⟩ := h
      replace K := fun i uo z => K i uo ⟨g3_, z⟩
      obtain ⟨S13, eS13⟩ : ∃ x9 : MS, x9 = wI S11 56 v2_1.toInt.toNat (vp_nar .boolean (0 : Int32)) := ⟨_, rfl⟩
      replace h := h S13 eS13
      replace K := fun i uo z => K i uo ⟨S13, eS13, z⟩
      obtain ⟨a14, ea14⟩ : ∃ x9 : Int32, x9 = (v2_1 + Int32.ofInt 1) := ⟨_, rfl⟩
      replace h := h a14 ea14
      replace K := fun i uo z => K i uo ⟨a14, ea14, z⟩
      exact ih i00 (fun i uo ⟨n8, z⟩ => K (i, n8) uo z) h
set_option maxRecDepth 100000 in
theorem ru_loops {S : MS} {Q : MS → Prop} (h : w_loops S Q) : ∃ uo, v_loops S uo ∧ Q uo := by
  have i0 : Unit := ()
  have K : ∀ (i : Unit) (uo : MS), v_loops S uo → v_loops S uo := fun _ _ z => z
  unfold w_loops at h
  obtain ⟨n9, h⟩ := h
  exact ru_loops_L2 n9 i0 K h
set_option maxRecDepth 100000 in
theorem vw_loops_J54 {uo : MS} {k32 k32v : MS → Int32 → Prop} {U54 : MS} {v54_1 : Int32} (hk32 : ∀ (u : MS) (z0 : Int32), k32v u z0 → k32 u z0) (h : v_loops_J54 uo k32v U54 v54_1) : w_loops_J54 (fun u => u = uo) k32 U54 v54_1 := by
  unfold v_loops_J54 at h
  unfold w_loops_J54
  obtain ⟨v9, e9, h⟩ := h
  intro x9 d9
  have c9 : v9 = x9 := e9.trans d9.symm
  subst c9
  exact hk32 _ _ h
set_option maxRecDepth 100000 in
theorem vz_loops_J54 {uo : MS} {Q : MS → Prop} {k32 k32v : MS → Int32 → Prop} {U54 : MS} {v54_1 : Int32} (hk32 : ∀ (u : MS) (z0 : Int32), k32v u z0 → k32 u z0 → Q uo) (h : v_loops_J54 uo k32v U54 v54_1) (w : w_loops_J54 Q k32 U54 v54_1) : Q uo := by
  unfold v_loops_J54 at h
  unfold w_loops_J54 at w
  obtain ⟨v9, e9, h⟩ := h
  replace w := w v9 e9
  exact hk32 _ _ h w
set_option maxRecDepth 100000 in
theorem vw_loops_L32 {uo : MS} : ∀ (n : Nat) {U32 : MS} {v32_1 : Int32}, v_loops_L32 uo n U32 v32_1 → w_loops_L32 (fun u => u = uo) n U32 v32_1 := by
  intro n
  induction n with
  | zero => intro U32 v32_1 h; unfold v_loops_L32 at h; exact h.elim
  | succ n ih =>
    intro U32 v32_1 h
    unfold v_loops_L32 at h
    unfold w_loops_L32
    rcases h with ⟨c, h⟩ | ⟨c, h⟩
    · refine ⟨fun _ => ?_, fun c2 => absurd c c2⟩
      exact h.symm
    · refine ⟨fun c2 => absurd c2 c, fun _ => ?_⟩
      obtain ⟨g9, h⟩ := h
      refine ⟨g9, ?_⟩
      rcases h with ⟨c, h⟩ | ⟨c, h⟩
      · refine ⟨fun _ => ?_, fun c2 => absurd c c2⟩
        exact vw_loops_J54 (fun _ _ h => ih h) h
      · refine ⟨fun c2 => absurd c2 c, fun _ => ?_⟩
        obtain ⟨q9, z9, h⟩ := h
        refine ⟨_, vw_loop z9, ?_⟩
        intro q8 d9
        subst d9
        exact vw_loops_J54 (fun _ _ h => ih h) h
set_option maxRecDepth 100000 in
theorem vz_loops_L32 {uo : MS} {Q : MS → Prop} : ∀ (n m : Nat) {U32 : MS} {v32_1 : Int32}, v_loops_L32 uo n U32 v32_1 → w_loops_L32 Q m U32 v32_1 → Q uo := by
  intro n
  induction n with
  | zero => intro m U32 v32_1 h; unfold v_loops_L32 at h; exact h.elim
  | succ n ih =>
    intro m U32 v32_1 h w
    cases m with
    | zero => unfold w_loops_L32 at w; exact w.elim
    | succ m =>
      unfold v_loops_L32 at h
      unfold w_loops_L32 at w
      rcases h with ⟨c, h⟩ | ⟨c, h⟩
      · replace w := w.1 c
        rw [h]
        exact w
      · replace w := w.2 c
        replace h := h.2
        replace w := w.2
        rcases h with ⟨c, h⟩ | ⟨c, h⟩
        · replace w := w.1 c
          exact vz_loops_J54 (fun _ _ h w => ih m h w) h w
        · replace w := w.2 c
          obtain ⟨q9, z9, h⟩ := h
          obtain ⟨Q9, w0, w⟩ := w
          replace w := w q9 (vz_loop z9 w0)
          exact vz_loops_J54 (fun _ _ h w => ih m h w) h w
set_option maxRecDepth 100000 in
theorem vw_loops_L2 {uo : MS} : ∀ (n : Nat) {U2 : MS} {v2_1 : Int32}, v_loops_L2 uo n U2 v2_1 → w_loops_L2 (fun u => u = uo) n U2 v2_1 := by
  intro n
  induction n with
  | zero => intro U2 v2_1 h; unfold v_loops_L2 at h; exact h.elim
  | succ n ih =>
    intro U2 v2_1 h
    unfold v_loops_L2 at h
    unfold w_loops_L2
    rcases h with ⟨c, h⟩ | ⟨c, h⟩
    · refine ⟨fun _ => ?_, fun c2 => absurd c c2⟩
      obtain ⟨n9, h⟩ := h
      exact ⟨n9, vw_loops_L32 n9 h⟩
    · refine ⟨fun c2 => absurd c2 c, fun _ => ?_⟩
      obtain ⟨g9, h⟩ := h
      refine ⟨g9, ?_⟩
      obtain ⟨v9, e9, h⟩ := h
      intro x9 d9
      have c9 : v9 = x9 := e9.trans d9.symm
      subst c9
      obtain ⟨g9, h⟩ := h
      refine ⟨g9, ?_⟩
      obtain ⟨v9, e9, h⟩ := h
      intro x9 d9
      have c9 : v9 = x9 := e9.trans d9.symm
      subst c9
      obtain ⟨v9, e9, h⟩ := h
      intro x9 d9
      have c9 : v9 = x9 := e9.trans d9.symm
      subst c9
      exact ih h
set_option maxRecDepth 100000 in
theorem vz_loops_L2 {uo : MS} {Q : MS → Prop} : ∀ (n m : Nat) {U2 : MS} {v2_1 : Int32}, v_loops_L2 uo n U2 v2_1 → w_loops_L2 Q m U2 v2_1 → Q uo := by
  intro n
  induction n with
  | zero => intro m U2 v2_1 h; unfold v_loops_L2 at h; exact h.elim
  | succ n ih =>
    intro m U2 v2_1 h w
    cases m with
    | zero => unfold w_loops_L2 at w; exact w.elim
    | succ m =>
      unfold v_loops_L2 at h
      unfold w_loops_L2 at w
      rcases h with ⟨c, h⟩ | ⟨c, h⟩
      · replace w := w.1 c
        obtain ⟨n9, h⟩ := h
        obtain ⟨n8, w⟩ := w
        exact vz_loops_L32 n9 n8 h w
      · replace w := w.2 c
        replace h := h.2
        replace w := w.2
        obtain ⟨v9, e9, h⟩ := h
        replace w := w v9 e9
        replace h := h.2
        replace w := w.2
        obtain ⟨v9, e9, h⟩ := h
        replace w := w v9 e9
        obtain ⟨v9, e9, h⟩ := h
        replace w := w v9 e9
        exact ih m h w
set_option maxRecDepth 100000 in
theorem vw_loops {S : MS} {uo : MS} (h : v_loops S uo) : w_loops S (fun u => u = uo) := by
  unfold v_loops at h
  unfold w_loops
  obtain ⟨n9, h⟩ := h
  exact ⟨n9, vw_loops_L2 n9 h⟩
set_option maxRecDepth 100000 in
theorem vz_loops {S : MS} {uo : MS} {Q : MS → Prop} (h : v_loops S uo) (w : w_loops S Q) : Q uo := by
  unfold v_loops at h
  unfold w_loops at w
  obtain ⟨n9, h⟩ := h
  obtain ⟨n8, w⟩ := w
  exact vz_loops_L2 n9 n8 h w
def v_graph_J17 (uo : MS) (U17 : MS) (v17_1 : Int32) (v17_2 : Int32) : Prop := (((0 : Int) ≤ v17_1.toInt ∧ v17_1.toInt < 12) ∧ ((qR U17 1 v17_1.toInt.toNat = some (qO U17 1 v17_1.toInt.toNat)) ∧ (∃ (S5 : MS), v_draw U17 (qO U17 1 v17_1.toInt.toNat) v17_2 S5 ∧ (∃ (S8 : MS), v_dominate S5 S8 ∧ (∃ (S11 : MS), v_loops S8 S11 ∧ (∃ S13 : MS, S13 = wI S11 0 106 v17_1 ∧ (∃ S14 : MS, S14 = wI S13 0 107 v17_2 ∧ (uo = S14))))))))
def v_graph (S : MS) (x1 : Int32) (x2 : Int32) (uo : MS) : Prop := (((qI S 0 106).toInt = x1.toInt ∧ (((qI S 0 107).toInt = x2.toInt ∧ (uo = S)) ∨ (¬ (qI S 0 107).toInt = x2.toInt ∧ (v_graph_J17 uo S x1 x2)))) ∨ (¬ (qI S 0 106).toInt = x1.toInt ∧ (v_graph_J17 uo S x1 x2)))
set_option maxRecDepth 100000 in
theorem ru_graph_J17 {ι : Type} {P : MS → Prop} {Q : MS → Prop} {U17 : MS} {v17_1 : Int32} {v17_2 : Int32} (i0 : ι) (K : ∀ (i : ι) (uo : MS), v_graph_J17 uo U17 v17_1 v17_2 → P uo) (h : w_graph_J17 Q U17 v17_1 v17_2) : ∃ uo, P uo ∧ Q uo := by
  unfold w_graph_J17 at h
  obtain ⟨g1_, h⟩ := h
  replace K := fun i uo z => K i uo ⟨g1_, z⟩
  obtain ⟨g2_, h⟩ := h
  replace K := fun i uo z => K i uo ⟨g2_, z⟩
  obtain ⟨Q9, h0, h⟩ := h
  obtain ⟨S5, z9, g9⟩ := ru_draw h0
  replace h := h S5 g9
  replace K := fun i uo z => K i uo ⟨S5, z9, z⟩
  obtain ⟨Q9, h0, h⟩ := h
  obtain ⟨S8, z9, g9⟩ := ru_dominate h0
  replace h := h S8 g9
  replace K := fun i uo z => K i uo ⟨S8, z9, z⟩
  obtain ⟨Q9, h0, h⟩ := h
  obtain ⟨S11, z9, g9⟩ := ru_loops h0
  replace h := h S11 g9
  replace K := fun i uo z => K i uo ⟨S11, z9, z⟩
  obtain ⟨S13, eS13⟩ : ∃ x9 : MS, x9 = wI S11 0 106 v17_1 := ⟨_, rfl⟩
  replace h := h S13 eS13
  replace K := fun i uo z => K i uo ⟨S13, eS13, z⟩
  obtain ⟨S14, eS14⟩ : ∃ x9 : MS, x9 = wI S13 0 107 v17_2 := ⟨_, rfl⟩
  replace h := h S14 eS14
  replace K := fun i uo z => K i uo ⟨S14, eS14, z⟩
  exact ⟨_, K i0 _ rfl, h⟩
set_option maxRecDepth 100000 in
theorem ru_graph {S : MS} {x1 : Int32} {x2 : Int32} {Q : MS → Prop} (h : w_graph S x1 x2 Q) : ∃ uo, v_graph S x1 x2 uo ∧ Q uo := by
  have i0 : Unit := ()
  have K : ∀ (i : Unit) (uo : MS), v_graph S x1 x2 uo → v_graph S x1 x2 uo := fun _ _ z => z
  unfold w_graph at h
  by_cases c : (qI S 0 106).toInt = x1.toInt
  · replace h := h.1 c
    replace K := fun i uo z => K i uo (Or.inl ⟨c, z⟩)
    by_cases c : (qI S 0 107).toInt = x2.toInt
    · replace h := h.1 c
      replace K := fun i uo z => K i uo (Or.inl ⟨c, z⟩)
      exact ⟨_, K i0 _ rfl, h⟩
    · replace h := h.2 c
      replace K := fun i uo z => K i uo (Or.inr ⟨c, z⟩)
      exact ru_graph_J17 i0 K h
  · replace h := h.2 c
    replace K := fun i uo z => K i uo (Or.inr ⟨c, z⟩)
    exact ru_graph_J17 i0 K h
set_option maxRecDepth 100000 in
theorem vw_graph_J17 {uo : MS} {U17 : MS} {v17_1 : Int32} {v17_2 : Int32} (h : v_graph_J17 uo U17 v17_1 v17_2) : w_graph_J17 (fun u => u = uo) U17 v17_1 v17_2 := by
  unfold v_graph_J17 at h
  unfold w_graph_J17
  obtain ⟨g9, h⟩ := h
  refine ⟨g9, ?_⟩
  obtain ⟨g9, h⟩ := h
  refine ⟨g9, ?_⟩
  obtain ⟨q9, z9, h⟩ := h
  refine ⟨_, vw_draw z9, ?_⟩
  intro q8 d9
  subst d9
  obtain ⟨q9, z9, h⟩ := h
  refine ⟨_, vw_dominate z9, ?_⟩
  intro q8 d9
  subst d9
  obtain ⟨q9, z9, h⟩ := h
  refine ⟨_, vw_loops z9, ?_⟩
  intro q8 d9
  subst d9
  obtain ⟨v9, e9, h⟩ := h
  intro x9 d9
  have c9 : v9 = x9 := e9.trans d9.symm
  subst c9
  obtain ⟨v9, e9, h⟩ := h
  intro x9 d9
  have c9 : v9 = x9 := e9.trans d9.symm
  subst c9
  exact h.symm
set_option maxRecDepth 100000 in
theorem vz_graph_J17 {uo : MS} {Q : MS → Prop} {U17 : MS} {v17_1 : Int32} {v17_2 : Int32} (h : v_graph_J17 uo U17 v17_1 v17_2) (w : w_graph_J17 Q U17 v17_1 v17_2) : Q uo := by
  unfold v_graph_J17 at h
  unfold w_graph_J17 at w
  replace h := h.2
  replace w := w.2
  replace h := h.2
  replace w := w.2
  obtain ⟨q9, z9, h⟩ := h
  obtain ⟨Q9, w0, w⟩ := w
  replace w := w q9 (vz_draw z9 w0)
  obtain ⟨q9, z9, h⟩ := h
  obtain ⟨Q9, w0, w⟩ := w
  replace w := w q9 (vz_dominate z9 w0)
  obtain ⟨q9, z9, h⟩ := h
  obtain ⟨Q9, w0, w⟩ := w
  replace w := w q9 (vz_loops z9 w0)
  obtain ⟨v9, e9, h⟩ := h
  replace w := w v9 e9
  obtain ⟨v9, e9, h⟩ := h
  replace w := w v9 e9
  rw [h]
  exact w
set_option maxRecDepth 100000 in
theorem vw_graph {S : MS} {x1 : Int32} {x2 : Int32} {uo : MS} (h : v_graph S x1 x2 uo) : w_graph S x1 x2 (fun u => u = uo) := by
  unfold v_graph at h
  unfold w_graph
  rcases h with ⟨c, h⟩ | ⟨c, h⟩
  · refine ⟨fun _ => ?_, fun c2 => absurd c c2⟩
    rcases h with ⟨c, h⟩ | ⟨c, h⟩
    · refine ⟨fun _ => ?_, fun c2 => absurd c c2⟩
      exact h.symm
    · refine ⟨fun c2 => absurd c2 c, fun _ => ?_⟩
      exact vw_graph_J17 h
  · refine ⟨fun c2 => absurd c2 c, fun _ => ?_⟩
    exact vw_graph_J17 h
set_option maxRecDepth 100000 in
theorem vz_graph {S : MS} {x1 : Int32} {x2 : Int32} {uo : MS} {Q : MS → Prop} (h : v_graph S x1 x2 uo) (w : w_graph S x1 x2 Q) : Q uo := by
  unfold v_graph at h
  unfold w_graph at w
  rcases h with ⟨c, h⟩ | ⟨c, h⟩
  · replace w := w.1 c
    rcases h with ⟨c, h⟩ | ⟨c, h⟩
    · replace w := w.1 c
      rw [h]
      exact w
    · replace w := w.2 c
      exact vz_graph_J17 h w
  · replace w := w.2 c
    exact vz_graph_J17 h w
def v_fileAt_J21 (ro : Option Nat) (uo : MS) (U21 : MS) : Prop := (ro = none ∧ uo = U21)
def v_fileAt (S : MS) (x1 : Int32) (ro : Option Nat) (uo : MS) : Prop := ((x1.toInt < 0 ∧ (v_fileAt_J21 ro uo S)) ∨ (¬ x1.toInt < 0 ∧ (((qI S 0 1).toInt ≤ x1.toInt ∧ (v_fileAt_J21 ro uo S)) ∨ (¬ (qI S 0 1).toInt ≤ x1.toInt ∧ (((0 : Int) ≤ x1.toInt ∧ x1.toInt < 12) ∧ ((qR S 1 x1.toInt.toNat = some (qO S 1 x1.toInt.toNat)) ∧ (ro = (some (qO S 1 x1.toInt.toNat)) ∧ uo = S)))))))
set_option maxRecDepth 100000 in
theorem ru_fileAt_J21 {ι : Type} {P : Option Nat → MS → Prop} {Q : Option Nat → MS → Prop} {U21 : MS} (i0 : ι) (K : ∀ (i : ι) (ro : Option Nat) (uo : MS), v_fileAt_J21 ro uo U21 → P ro uo) (h : w_fileAt_J21 Q U21) : ∃ ro uo, P ro uo ∧ Q ro uo := by
  unfold w_fileAt_J21 at h
  exact ⟨_, _, K i0 _ _ ⟨rfl, rfl⟩, h⟩
set_option maxRecDepth 100000 in
theorem ru_fileAt {S : MS} {x1 : Int32} {Q : Option Nat → MS → Prop} (h : w_fileAt S x1 Q) : ∃ ro uo, v_fileAt S x1 ro uo ∧ Q ro uo := by
  have i0 : Unit := ()
  have K : ∀ (i : Unit) (ro : Option Nat) (uo : MS), v_fileAt S x1 ro uo → v_fileAt S x1 ro uo := fun _ _ _ z => z
  unfold w_fileAt at h
  by_cases c : x1.toInt < 0
  · replace h := h.1 c
    replace K := fun i ro uo z => K i ro uo (Or.inl ⟨c, z⟩)
    exact ru_fileAt_J21 i0 K h
  · replace h := h.2 c
    replace K := fun i ro uo z => K i ro uo (Or.inr ⟨c, z⟩)
    by_cases c : (qI S 0 1).toInt ≤ x1.toInt
    · replace h := h.1 c
      replace K := fun i ro uo z => K i ro uo (Or.inl ⟨c, z⟩)
      exact ru_fileAt_J21 i0 K h
    · replace h := h.2 c
      replace K := fun i ro uo z => K i ro uo (Or.inr ⟨c, z⟩)
      obtain ⟨g1_, h⟩ := h
      replace K := fun i ro uo z => K i ro uo ⟨g1_, z⟩
      obtain ⟨g2_, h⟩ := h
      replace K := fun i ro uo z => K i ro uo ⟨g2_, z⟩
      exact ⟨_, _, K i0 _ _ ⟨rfl, rfl⟩, h⟩
set_option maxRecDepth 100000 in
theorem vw_fileAt_J21 {ro : Option Nat} {uo : MS} {U21 : MS} (h : v_fileAt_J21 ro uo U21) : w_fileAt_J21 (fun r u => r = ro ∧ u = uo) U21 := by
  unfold v_fileAt_J21 at h
  unfold w_fileAt_J21
  exact ⟨h.1.symm, h.2.symm⟩
set_option maxRecDepth 100000 in
theorem vz_fileAt_J21 {ro : Option Nat} {uo : MS} {Q : Option Nat → MS → Prop} {U21 : MS} (h : v_fileAt_J21 ro uo U21) (w : w_fileAt_J21 Q U21) : Q ro uo := by
  unfold v_fileAt_J21 at h
  unfold w_fileAt_J21 at w
  rw [h.1, h.2]
  exact w
set_option maxRecDepth 100000 in
theorem vw_fileAt {S : MS} {x1 : Int32} {ro : Option Nat} {uo : MS} (h : v_fileAt S x1 ro uo) : w_fileAt S x1 (fun r u => r = ro ∧ u = uo) := by
  unfold v_fileAt at h
  unfold w_fileAt
  rcases h with ⟨c, h⟩ | ⟨c, h⟩
  · refine ⟨fun _ => ?_, fun c2 => absurd c c2⟩
    exact vw_fileAt_J21 h
  · refine ⟨fun c2 => absurd c2 c, fun _ => ?_⟩
    rcases h with ⟨c, h⟩ | ⟨c, h⟩
    · refine ⟨fun _ => ?_, fun c2 => absurd c c2⟩
      exact vw_fileAt_J21 h
    · refine ⟨fun c2 => absurd c2 c, fun _ => ?_⟩
      obtain ⟨g9, h⟩ := h
      refine ⟨g9, ?_⟩
      obtain ⟨g9, h⟩ := h
      refine ⟨g9, ?_⟩
      exact ⟨h.1.symm, h.2.symm⟩
set_option maxRecDepth 100000 in
theorem vz_fileAt {S : MS} {x1 : Int32} {ro : Option Nat} {uo : MS} {Q : Option Nat → MS → Prop} (h : v_fileAt S x1 ro uo) (w : w_fileAt S x1 Q) : Q ro uo := by
  unfold v_fileAt at h
  unfold w_fileAt at w
  rcases h with ⟨c, h⟩ | ⟨c, h⟩
  · replace w := w.1 c
    exact vz_fileAt_J21 h w
  · replace w := w.2 c
    rcases h with ⟨c, h⟩ | ⟨c, h⟩
    · replace w := w.1 c
      exact vz_fileAt_J21 h w
    · replace w := w.2 c
      replace h := h.2
      replace w := w.2
      replace h := h.2
      replace w := w.2
      rw [h.1, h.2]
      exact w
def v_isMethod_J29 (ro : Int32) (uo : MS) (U29 : MS) : Prop := (ro = (0 : Int32) ∧ uo = U29)
def v_isMethod (S : MS) (x1 : Int32) (x2 : Int32) (ro : Int32) (uo : MS) : Prop := (∃ (b5 : Option Nat) (S3 : MS), v_fileAt S x1 b5 S3 ∧ ((b5 = none ∧ (v_isMethod_J29 ro uo S3)) ∨ (¬ b5 = none ∧ ((x2.toInt < 0 ∧ (v_isMethod_J29 ro uo S3)) ∨ (¬ x2.toInt < 0 ∧ (((0 : Int) ≤ x1.toInt ∧ x1.toInt < 12) ∧ ((qR S3 1 x1.toInt.toNat = some (qO S3 1 x1.toInt.toNat)) ∧ (((qI S3 (qO S3 1 x1.toInt.toNat) 4).toInt ≤ x2.toInt ∧ (v_isMethod_J29 ro uo S3)) ∨ (¬ (qI S3 (qO S3 1 x1.toInt.toNat) 4).toInt ≤ x2.toInt ∧ (ro = (1 : Int32) ∧ uo = S3))))))))))
set_option maxRecDepth 100000 in
theorem ru_isMethod_J29 {ι : Type} {P : Int32 → MS → Prop} {Q : Int32 → MS → Prop} {U29 : MS} (i0 : ι) (K : ∀ (i : ι) (ro : Int32) (uo : MS), v_isMethod_J29 ro uo U29 → P ro uo) (h : w_isMethod_J29 Q U29) : ∃ ro uo, P ro uo ∧ Q ro uo := by
  unfold w_isMethod_J29 at h
  exact ⟨_, _, K i0 _ _ ⟨rfl, rfl⟩, h⟩
set_option maxRecDepth 100000 in
theorem ru_isMethod {S : MS} {x1 : Int32} {x2 : Int32} {Q : Int32 → MS → Prop} (h : w_isMethod S x1 x2 Q) : ∃ ro uo, v_isMethod S x1 x2 ro uo ∧ Q ro uo := by
  have i0 : Unit := ()
  have K : ∀ (i : Unit) (ro : Int32) (uo : MS), v_isMethod S x1 x2 ro uo → v_isMethod S x1 x2 ro uo := fun _ _ _ z => z
  unfold w_isMethod at h
  obtain ⟨Q9, h0, h⟩ := h
  obtain ⟨b5, S3, z9, g9⟩ := ru_fileAt h0
  replace h := h b5 S3 g9
  replace K := fun i ro uo z => K i ro uo ⟨b5, S3, z9, z⟩
  by_cases c : b5 = none
  · replace h := h.1 c
    replace K := fun i ro uo z => K i ro uo (Or.inl ⟨c, z⟩)
    exact ru_isMethod_J29 i0 K h
  · replace h := h.2 c
    replace K := fun i ro uo z => K i ro uo (Or.inr ⟨c, z⟩)
    by_cases c : x2.toInt < 0
    · replace h := h.1 c
      replace K := fun i ro uo z => K i ro uo (Or.inl ⟨c, z⟩)
      exact ru_isMethod_J29 i0 K h
    · replace h := h.2 c
      replace K := fun i ro uo z => K i ro uo (Or.inr ⟨c, z⟩)
      obtain ⟨g1_, h⟩ := h
      replace K := fun i ro uo z => K i ro uo ⟨g1_, z⟩
      obtain ⟨g2_, h⟩ := h
      replace K := fun i ro uo z => K i ro uo ⟨g2_, z⟩
      by_cases c : (qI S3 (qO S3 1 x1.toInt.toNat) 4).toInt ≤ x2.toInt
      · replace h := h.1 c
        replace K := fun i ro uo z => K i ro uo (Or.inl ⟨c, z⟩)
        exact ru_isMethod_J29 i0 K h
      · replace h := h.2 c
        replace K := fun i ro uo z => K i ro uo (Or.inr ⟨c, z⟩)
        exact ⟨_, _, K i0 _ _ ⟨rfl, rfl⟩, h⟩
set_option maxRecDepth 100000 in
theorem vw_isMethod_J29 {ro : Int32} {uo : MS} {U29 : MS} (h : v_isMethod_J29 ro uo U29) : w_isMethod_J29 (fun r u => r = ro ∧ u = uo) U29 := by
  unfold v_isMethod_J29 at h
  unfold w_isMethod_J29
  exact ⟨h.1.symm, h.2.symm⟩
set_option maxRecDepth 100000 in
theorem vz_isMethod_J29 {ro : Int32} {uo : MS} {Q : Int32 → MS → Prop} {U29 : MS} (h : v_isMethod_J29 ro uo U29) (w : w_isMethod_J29 Q U29) : Q ro uo := by
  unfold v_isMethod_J29 at h
  unfold w_isMethod_J29 at w
  rw [h.1, h.2]
  exact w
set_option maxRecDepth 100000 in
theorem vw_isMethod {S : MS} {x1 : Int32} {x2 : Int32} {ro : Int32} {uo : MS} (h : v_isMethod S x1 x2 ro uo) : w_isMethod S x1 x2 (fun r u => r = ro ∧ u = uo) := by
  unfold v_isMethod at h
  unfold w_isMethod
  obtain ⟨p9, q9, z9, h⟩ := h
  refine ⟨_, vw_fileAt z9, ?_⟩
  rintro p8 q8 ⟨d8, d9⟩
  subst d8
  subst d9
  rcases h with ⟨c, h⟩ | ⟨c, h⟩
  · refine ⟨fun _ => ?_, fun c2 => absurd c c2⟩
    exact vw_isMethod_J29 h
  · refine ⟨fun c2 => absurd c2 c, fun _ => ?_⟩
    rcases h with ⟨c, h⟩ | ⟨c, h⟩
    · refine ⟨fun _ => ?_, fun c2 => absurd c c2⟩
      exact vw_isMethod_J29 h
    · refine ⟨fun c2 => absurd c2 c, fun _ => ?_⟩
      obtain ⟨g9, h⟩ := h
      refine ⟨g9, ?_⟩
      obtain ⟨g9, h⟩ := h
      refine ⟨g9, ?_⟩
      rcases h with ⟨c, h⟩ | ⟨c, h⟩
      · refine ⟨fun _ => ?_, fun c2 => absurd c c2⟩
        exact vw_isMethod_J29 h
      · refine ⟨fun c2 => absurd c2 c, fun _ => ?_⟩
        exact ⟨h.1.symm, h.2.symm⟩
set_option maxRecDepth 100000 in
theorem vz_isMethod {S : MS} {x1 : Int32} {x2 : Int32} {ro : Int32} {uo : MS} {Q : Int32 → MS → Prop} (h : v_isMethod S x1 x2 ro uo) (w : w_isMethod S x1 x2 Q) : Q ro uo := by
  unfold v_isMethod at h
  unfold w_isMethod at w
  obtain ⟨p9, q9, z9, h⟩ := h
  obtain ⟨Q9, w0, w⟩ := w
  replace w := w p9 q9 (vz_fileAt z9 w0)
  rcases h with ⟨c, h⟩ | ⟨c, h⟩
  · replace w := w.1 c
    exact vz_isMethod_J29 h w
  · replace w := w.2 c
    rcases h with ⟨c, h⟩ | ⟨c, h⟩
    · replace w := w.1 c
      exact vz_isMethod_J29 h w
    · replace w := w.2 c
      replace h := h.2
      replace w := w.2
      replace h := h.2
      replace w := w.2
      rcases h with ⟨c, h⟩ | ⟨c, h⟩
      · replace w := w.1 c
        exact vz_isMethod_J29 h w
      · replace w := w.2 c
        rw [h.1, h.2]
        exact w
def v_block (S : MS) (x1 : Int32) (x2 : Int32) (x3 : Int32) (x4 : Int32) (ro : Int32) (uo : MS) : Prop := (∃ (r2 : Int32) (S3 : MS), v_isMethod S x1 x2 r2 S3 ∧ ((r2.toInt = 0 ∧ (ro = (-1 : Int32) ∧ uo = S3)) ∨ (¬ r2.toInt = 0 ∧ (∃ (S7 : MS), v_graph S3 x1 x2 S7 ∧ ((x3.toInt < 0 ∧ (ro = (-1 : Int32) ∧ uo = S7)) ∨ (¬ x3.toInt < 0 ∧ ((x3.toInt < (qI S7 0 105).toInt ∧ ((x4.toInt = 0 ∧ (((0 : Int) ≤ x3.toInt ∧ x3.toInt < 1201) ∧ (ro = (qI S7 49 x3.toInt.toNat) ∧ uo = S7))) ∨ (¬ x4.toInt = 0 ∧ ((x4.toInt = 1 ∧ (((0 : Int) ≤ x3.toInt ∧ x3.toInt < 1200) ∧ (((qI S7 53 x3.toInt.toNat).toInt = 0 ∧ (ro = (0 : Int32) ∧ uo = S7)) ∨ (¬ (qI S7 53 x3.toInt.toNat).toInt = 0 ∧ (ro = (1 : Int32) ∧ uo = S7))))) ∨ (¬ x4.toInt = 1 ∧ ((x4.toInt = 2 ∧ (((0 : Int) ≤ x3.toInt ∧ x3.toInt < 1200) ∧ (ro = (qI S7 55 x3.toInt.toNat) ∧ uo = S7))) ∨ (¬ x4.toInt = 2 ∧ ((x4.toInt = 3 ∧ (((0 : Int) ≤ x3.toInt ∧ x3.toInt < 1200) ∧ (((qI S7 56 x3.toInt.toNat).toInt = 0 ∧ (ro = (0 : Int32) ∧ uo = S7)) ∨ (¬ (qI S7 56 x3.toInt.toNat).toInt = 0 ∧ (ro = (1 : Int32) ∧ uo = S7))))) ∨ (¬ x4.toInt = 3 ∧ ((x4.toInt = 4 ∧ (((0 : Int) ≤ x3.toInt ∧ x3.toInt < 1200) ∧ (ro = (qI S7 57 x3.toInt.toNat) ∧ uo = S7))) ∨ (¬ x4.toInt = 4 ∧ ((x4.toInt = 5 ∧ (((0 : Int) ≤ (x3 + (1 : Int32)).toInt ∧ (x3 + (1 : Int32)).toInt < 1202) ∧ (((0 : Int) ≤ x3.toInt ∧ x3.toInt < 1202) ∧ (ro = ((qI S7 51 (((x3 + (1 : Int32)).toInt).toNat)) - (qI S7 51 x3.toInt.toNat)) ∧ uo = S7)))) ∨ (¬ x4.toInt = 5 ∧ (ro = (-1 : Int32) ∧ uo = S7)))))))))))))) ∨ (¬ x3.toInt < (qI S7 0 105).toInt ∧ (ro = (-1 : Int32) ∧ uo = S7)))))))))
set_option maxRecDepth 100000 in
theorem ru_block {S : MS} {x1 : Int32} {x2 : Int32} {x3 : Int32} {x4 : Int32} {Q : Int32 → MS → Prop} (h : w_block S x1 x2 x3 x4 Q) : ∃ ro uo, v_block S x1 x2 x3 x4 ro uo ∧ Q ro uo := by
  have i0 : Unit := ()
  have K : ∀ (i : Unit) (ro : Int32) (uo : MS), v_block S x1 x2 x3 x4 ro uo → v_block S x1 x2 x3 x4 ro uo := fun _ _ _ z => z
  unfold w_block at h
  obtain ⟨Q9, h0, h⟩ := h
  obtain ⟨r2, S3, z9, g9⟩ := ru_isMethod h0
  replace h := h r2 S3 g9
  replace K := fun i ro uo z => K i ro uo ⟨r2, S3, z9, z⟩
  by_cases c : r2.toInt = 0
  · replace h := h.1 c
    replace K := fun i ro uo z => K i ro uo (Or.inl ⟨c, z⟩)
    exact ⟨_, _, K i0 _ _ ⟨rfl, rfl⟩, h⟩
  · replace h := h.2 c
    replace K := fun i ro uo z => K i ro uo (Or.inr ⟨c, z⟩)
    obtain ⟨Q9, h0, h⟩ := h
    obtain ⟨S7, z9, g9⟩ := ru_graph h0
    replace h := h S7 g9
    replace K := fun i ro uo z => K i ro uo ⟨S7, z9, z⟩
    by_cases c : x3.toInt < 0
    · replace h := h.1 c
      replace K := fun i ro uo z => K i ro uo (Or.inl ⟨c, z⟩)
      exact ⟨_, _, K i0 _ _ ⟨rfl, rfl⟩, h⟩
    · replace h := h.2 c
      replace K := fun i ro uo z => K i ro uo (Or.inr ⟨c, z⟩)
      by_cases c : x3.toInt < (qI S7 0 105).toInt
      · replace h := h.1 c
        replace K := fun i ro uo z => K i ro uo (Or.inl ⟨c, z⟩)
        by_cases c : x4.toInt = 0
        · replace h := h.1 c
          replace K := fun i ro uo z => K i ro uo (Or.inl ⟨c, z⟩)
          obtain ⟨g1_, h⟩ := h
          replace K := fun i ro uo z => K i ro uo ⟨g1_, z⟩
          exact ⟨_, _, K i0 _ _ ⟨rfl, rfl⟩, h⟩
        · replace h := h.2 c
          replace K := fun i ro uo z => K i ro uo (Or.inr ⟨c, z⟩)
          by_cases c : x4.toInt = 1
          · replace h := h.1 c
            replace K := fun i ro uo z => K i ro uo (Or.inl ⟨c, z⟩)
            obtain ⟨g2_, h⟩ := h
            replace K := fun i ro uo z => K i ro uo ⟨g2_, z⟩
            by_cases c : (qI S7 53 x3.toInt.toNat).toInt = 0
            · replace h := h.1 c
              replace K := fun i ro uo z => K i ro uo (Or.inl ⟨c, z⟩)
              exact ⟨_, _, K i0 _ _ ⟨rfl, rfl⟩, h⟩
            · replace h := h.2 c
              replace K := fun i ro uo z => K i ro uo (Or.inr ⟨c, z⟩)
              exact ⟨_, _, K i0 _ _ ⟨rfl, rfl⟩, h⟩
          · replace h := h.2 c
            replace K := fun i ro uo z => K i ro uo (Or.inr ⟨c, z⟩)
            by_cases c : x4.toInt = 2
            · replace h := h.1 c
              replace K := fun i ro uo z => K i ro uo (Or.inl ⟨c, z⟩)
              obtain ⟨g3_, h⟩ := h
              replace K := fun i ro uo z => K i ro uo ⟨g3_, z⟩
              exact ⟨_, _, K i0 _ _ ⟨rfl, rfl⟩, h⟩
            · replace h := h.2 c
              replace K := fun i ro uo z => K i ro uo (Or.inr ⟨c, z⟩)
              by_cases c : x4.toInt = 3
              · replace h := h.1 c
                replace K := fun i ro uo z => K i ro uo (Or.inl ⟨c, z⟩)
                obtain ⟨g4_, h⟩ := h
                replace K := fun i ro uo z => K i ro uo ⟨g4_, z⟩
                by_cases c : (qI S7 56 x3.toInt.toNat).toInt = 0
                · replace h := h.1 c
                  replace K := fun i ro uo z => K i ro uo (Or.inl ⟨c, z⟩)
                  exact ⟨_, _, K i0 _ _ ⟨rfl, rfl⟩, h⟩
                · replace h := h.2 c
                  replace K := fun i ro uo z => K i ro uo (Or.inr ⟨c, z⟩)
                  exact ⟨_, _, K i0 _ _ ⟨rfl, rfl⟩, h⟩
              · replace h := h.2 c
                replace K := fun i ro uo z => K i ro uo (Or.inr ⟨c, z⟩)
                by_cases c : x4.toInt = 4
                · replace h := h.1 c
                  replace K := fun i ro uo z => K i ro uo (Or.inl ⟨c, z⟩)
                  obtain ⟨g5_, h⟩ := h
                  replace K := fun i ro uo z => K i ro uo ⟨g5_, z⟩
                  exact ⟨_, _, K i0 _ _ ⟨rfl, rfl⟩, h⟩
                · replace h := h.2 c
                  replace K := fun i ro uo z => K i ro uo (Or.inr ⟨c, z⟩)
                  by_cases c : x4.toInt = 5
                  · replace h := h.1 c
                    replace K := fun i ro uo z => K i ro uo (Or.inl ⟨c, z⟩)
                    obtain ⟨g6_, h⟩ := h
                    replace K := fun i ro uo z => K i ro uo ⟨g6_, z⟩
                    obtain ⟨g7_, h⟩ := h
                    replace K := fun i ro uo z => K i ro uo ⟨g7_, z⟩
                    exact ⟨_, _, K i0 _ _ ⟨rfl, rfl⟩, h⟩
                  · replace h := h.2 c
                    replace K := fun i ro uo z => K i ro uo (Or.inr ⟨c, z⟩)
                    exact ⟨_, _, K i0 _ _ ⟨rfl, rfl⟩, h⟩
      · replace h := h.2 c
        replace K := fun i ro uo z => K i ro uo (Or.inr ⟨c, z⟩)
        exact ⟨_, _, K i0 _ _ ⟨rfl, rfl⟩, h⟩
set_option maxRecDepth 100000 in
theorem vw_block {S : MS} {x1 : Int32} {x2 : Int32} {x3 : Int32} {x4 : Int32} {ro : Int32} {uo : MS} (h : v_block S x1 x2 x3 x4 ro uo) : w_block S x1 x2 x3 x4 (fun r u => r = ro ∧ u = uo) := by
  unfold v_block at h
  unfold w_block
  obtain ⟨p9, q9, z9, h⟩ := h
  refine ⟨_, vw_isMethod z9, ?_⟩
  rintro p8 q8 ⟨d8, d9⟩
  subst d8
  subst d9
  rcases h with ⟨c, h⟩ | ⟨c, h⟩
  · refine ⟨fun _ => ?_, fun c2 => absurd c c2⟩
    exact ⟨h.1.symm, h.2.symm⟩
  · refine ⟨fun c2 => absurd c2 c, fun _ => ?_⟩
    obtain ⟨q9, z9, h⟩ := h
    refine ⟨_, vw_graph z9, ?_⟩
    intro q8 d9
    subst d9
    rcases h with ⟨c, h⟩ | ⟨c, h⟩
    · refine ⟨fun _ => ?_, fun c2 => absurd c c2⟩
      exact ⟨h.1.symm, h.2.symm⟩
    · refine ⟨fun c2 => absurd c2 c, fun _ => ?_⟩
      rcases h with ⟨c, h⟩ | ⟨c, h⟩
      · refine ⟨fun _ => ?_, fun c2 => absurd c c2⟩
        rcases h with ⟨c, h⟩ | ⟨c, h⟩
        · refine ⟨fun _ => ?_, fun c2 => absurd c c2⟩
          obtain ⟨g9, h⟩ := h
          refine ⟨g9, ?_⟩
          exact ⟨h.1.symm, h.2.symm⟩
        · refine ⟨fun c2 => absurd c2 c, fun _ => ?_⟩
          rcases h with ⟨c, h⟩ | ⟨c, h⟩
          · refine ⟨fun _ => ?_, fun c2 => absurd c c2⟩
            obtain ⟨g9, h⟩ := h
            refine ⟨g9, ?_⟩
            rcases h with ⟨c, h⟩ | ⟨c, h⟩
            · refine ⟨fun _ => ?_, fun c2 => absurd c c2⟩
              exact ⟨h.1.symm, h.2.symm⟩
            · refine ⟨fun c2 => absurd c2 c, fun _ => ?_⟩
              exact ⟨h.1.symm, h.2.symm⟩
          · refine ⟨fun c2 => absurd c2 c, fun _ => ?_⟩
            rcases h with ⟨c, h⟩ | ⟨c, h⟩
            · refine ⟨fun _ => ?_, fun c2 => absurd c c2⟩
              obtain ⟨g9, h⟩ := h
              refine ⟨g9, ?_⟩
              exact ⟨h.1.symm, h.2.symm⟩
            · refine ⟨fun c2 => absurd c2 c, fun _ => ?_⟩
              rcases h with ⟨c, h⟩ | ⟨c, h⟩
              · refine ⟨fun _ => ?_, fun c2 => absurd c c2⟩
                obtain ⟨g9, h⟩ := h
                refine ⟨g9, ?_⟩
                rcases h with ⟨c, h⟩ | ⟨c, h⟩
                · refine ⟨fun _ => ?_, fun c2 => absurd c c2⟩
                  exact ⟨h.1.symm, h.2.symm⟩
                · refine ⟨fun c2 => absurd c2 c, fun _ => ?_⟩
                  exact ⟨h.1.symm, h.2.symm⟩
              · refine ⟨fun c2 => absurd c2 c, fun _ => ?_⟩
                rcases h with ⟨c, h⟩ | ⟨c, h⟩
                · refine ⟨fun _ => ?_, fun c2 => absurd c c2⟩
                  obtain ⟨g9, h⟩ := h
                  refine ⟨g9, ?_⟩
                  exact ⟨h.1.symm, h.2.symm⟩
                · refine ⟨fun c2 => absurd c2 c, fun _ => ?_⟩
                  rcases h with ⟨c, h⟩ | ⟨c, h⟩
                  · refine ⟨fun _ => ?_, fun c2 => absurd c c2⟩
                    obtain ⟨g9, h⟩ := h
                    refine ⟨g9, ?_⟩
                    obtain ⟨g9, h⟩ := h
                    refine ⟨g9, ?_⟩
                    exact ⟨h.1.symm, h.2.symm⟩
                  · refine ⟨fun c2 => absurd c2 c, fun _ => ?_⟩
                    exact ⟨h.1.symm, h.2.symm⟩
      · refine ⟨fun c2 => absurd c2 c, fun _ => ?_⟩
        exact ⟨h.1.symm, h.2.symm⟩
set_option maxRecDepth 100000 in
theorem vz_block {S : MS} {x1 : Int32} {x2 : Int32} {x3 : Int32} {x4 : Int32} {ro : Int32} {uo : MS} {Q : Int32 → MS → Prop} (h : v_block S x1 x2 x3 x4 ro uo) (w : w_block S x1 x2 x3 x4 Q) : Q ro uo := by
  unfold v_block at h
  unfold w_block at w
  obtain ⟨p9, q9, z9, h⟩ := h
  obtain ⟨Q9, w0, w⟩ := w
  replace w := w p9 q9 (vz_isMethod z9 w0)
  rcases h with ⟨c, h⟩ | ⟨c, h⟩
  · replace w := w.1 c
    rw [h.1, h.2]
    exact w
  · replace w := w.2 c
    obtain ⟨q9, z9, h⟩ := h
    obtain ⟨Q9, w0, w⟩ := w
    replace w := w q9 (vz_graph z9 w0)
    rcases h with ⟨c, h⟩ | ⟨c, h⟩
    · replace w := w.1 c
      rw [h.1, h.2]
      exact w
    · replace w := w.2 c
      rcases h with ⟨c, h⟩ | ⟨c, h⟩
      · replace w := w.1 c
        rcases h with ⟨c, h⟩ | ⟨c, h⟩
        · replace w := w.1 c
          replace h := h.2
          replace w := w.2
          rw [h.1, h.2]
          exact w
        · replace w := w.2 c
          rcases h with ⟨c, h⟩ | ⟨c, h⟩
          · replace w := w.1 c
            replace h := h.2
            replace w := w.2
            rcases h with ⟨c, h⟩ | ⟨c, h⟩
            · replace w := w.1 c
              rw [h.1, h.2]
              exact w
            · replace w := w.2 c
              rw [h.1, h.2]
              exact w
          · replace w := w.2 c
            rcases h with ⟨c, h⟩ | ⟨c, h⟩
            · replace w := w.1 c
              replace h := h.2
              replace w := w.2
              rw [h.1, h.2]
              exact w
            · replace w := w.2 c
              rcases h with ⟨c, h⟩ | ⟨c, h⟩
              · replace w := w.1 c
                replace h := h.2
                replace w := w.2
                rcases h with ⟨c, h⟩ | ⟨c, h⟩
                · replace w := w.1 c
                  rw [h.1, h.2]
                  exact w
                · replace w := w.2 c
                  rw [h.1, h.2]
                  exact w
              · replace w := w.2 c
                rcases h with ⟨c, h⟩ | ⟨c, h⟩
                · replace w := w.1 c
                  replace h := h.2
                  replace w := w.2
                  rw [h.1, h.2]
                  exact w
                · replace w := w.2 c
                  rcases h with ⟨c, h⟩ | ⟨c, h⟩
                  · replace w := w.1 c
                    replace h := h.2
                    replace w := w.2
                    replace h := h.2
                    replace w := w.2
                    rw [h.1, h.2]
                    exact w
                  · replace w := w.2 c
                    rw [h.1, h.2]
                    exact w
      · replace w := w.2 c
        rw [h.1, h.2]
        exact w
def v_blocks (S : MS) (x1 : Int32) (x2 : Int32) (ro : Int32) (uo : MS) : Prop := (∃ (r2 : Int32) (S3 : MS), v_isMethod S x1 x2 r2 S3 ∧ ((r2.toInt = 0 ∧ (ro = (-1 : Int32) ∧ uo = S3)) ∨ (¬ r2.toInt = 0 ∧ (∃ (S7 : MS), v_graph S3 x1 x2 S7 ∧ (ro = (qI S7 0 105) ∧ uo = S7)))))
set_option maxRecDepth 100000 in
theorem ru_blocks {S : MS} {x1 : Int32} {x2 : Int32} {Q : Int32 → MS → Prop} (h : w_blocks S x1 x2 Q) : ∃ ro uo, v_blocks S x1 x2 ro uo ∧ Q ro uo := by
  have i0 : Unit := ()
  have K : ∀ (i : Unit) (ro : Int32) (uo : MS), v_blocks S x1 x2 ro uo → v_blocks S x1 x2 ro uo := fun _ _ _ z => z
  unfold w_blocks at h
  obtain ⟨Q9, h0, h⟩ := h
  obtain ⟨r2, S3, z9, g9⟩ := ru_isMethod h0
  replace h := h r2 S3 g9
  replace K := fun i ro uo z => K i ro uo ⟨r2, S3, z9, z⟩
  by_cases c : r2.toInt = 0
  · replace h := h.1 c
    replace K := fun i ro uo z => K i ro uo (Or.inl ⟨c, z⟩)
    exact ⟨_, _, K i0 _ _ ⟨rfl, rfl⟩, h⟩
  · replace h := h.2 c
    replace K := fun i ro uo z => K i ro uo (Or.inr ⟨c, z⟩)
    obtain ⟨Q9, h0, h⟩ := h
    obtain ⟨S7, z9, g9⟩ := ru_graph h0
    replace h := h S7 g9
    replace K := fun i ro uo z => K i ro uo ⟨S7, z9, z⟩
    exact ⟨_, _, K i0 _ _ ⟨rfl, rfl⟩, h⟩
set_option maxRecDepth 100000 in
theorem vw_blocks {S : MS} {x1 : Int32} {x2 : Int32} {ro : Int32} {uo : MS} (h : v_blocks S x1 x2 ro uo) : w_blocks S x1 x2 (fun r u => r = ro ∧ u = uo) := by
  unfold v_blocks at h
  unfold w_blocks
  obtain ⟨p9, q9, z9, h⟩ := h
  refine ⟨_, vw_isMethod z9, ?_⟩
  rintro p8 q8 ⟨d8, d9⟩
  subst d8
  subst d9
  rcases h with ⟨c, h⟩ | ⟨c, h⟩
  · refine ⟨fun _ => ?_, fun c2 => absurd c c2⟩
    exact ⟨h.1.symm, h.2.symm⟩
  · refine ⟨fun c2 => absurd c2 c, fun _ => ?_⟩
    obtain ⟨q9, z9, h⟩ := h
    refine ⟨_, vw_graph z9, ?_⟩
    intro q8 d9
    subst d9
    exact ⟨h.1.symm, h.2.symm⟩
set_option maxRecDepth 100000 in
theorem vz_blocks {S : MS} {x1 : Int32} {x2 : Int32} {ro : Int32} {uo : MS} {Q : Int32 → MS → Prop} (h : v_blocks S x1 x2 ro uo) (w : w_blocks S x1 x2 Q) : Q ro uo := by
  unfold v_blocks at h
  unfold w_blocks at w
  obtain ⟨p9, q9, z9, h⟩ := h
  obtain ⟨Q9, w0, w⟩ := w
  replace w := w p9 q9 (vz_isMethod z9 w0)
  rcases h with ⟨c, h⟩ | ⟨c, h⟩
  · replace w := w.1 c
    rw [h.1, h.2]
    exact w
  · replace w := w.2 c
    obtain ⟨q9, z9, h⟩ := h
    obtain ⟨Q9, w0, w⟩ := w
    replace w := w q9 (vz_graph z9 w0)
    rw [h.1, h.2]
    exact w
def v_needConstant_J212 (oo : (Int32 × MS) ⊕ MS) (U212 : MS) (t212_0 : Int32) (t212_1 : Int32) (v212_1 : Int32) : Prop := (∃ S18 : MS, S18 = wI U212 0 74 (t212_1 + t212_0) ∧ ((v212_1.toInt = 5 ∧ (oo = .inl (((qI S18 0 74) - (2 : Int32)), S18))) ∨ (¬ v212_1.toInt = 5 ∧ (oo = .inl (((qI S18 0 74) - (1 : Int32)), S18)))))
def v_needConstant_J98 (oo : (Int32 × MS) ⊕ MS) (k3 : MS → Int32 → Int32 → Int32 → Int64 → Nat → Int32 → Prop) (U98 : MS) (v98_1 : Int32) (v98_2 : Int32) (v98_3 : Int32) (v98_4 : Int64) (v98_6 : Nat) (v98_7 : Int32) : Prop := (∃ a30 : Int32, a30 = (v98_7 + Int32.ofInt 1) ∧ (k3 U98 v98_1 v98_2 v98_3 v98_4 v98_6 a30))
def v_needConstant_J90 (oo : (Int32 × MS) ⊕ MS) (U90 : MS) (v90_7 : Int32) : Prop := (((0 : Int) ≤ v90_7.toInt ∧ v90_7.toInt < 700) ∧ (oo = .inl ((qI U90 29 v90_7.toInt.toNat), U90)))
def v_needConstant_J63 (oo : (Int32 × MS) ⊕ MS) (k3 : MS → Int32 → Int32 → Int32 → Int64 → Nat → Int32 → Prop) (U63 : MS) (t63_0 : Int32) (v63_1 : Int32) (v63_2 : Int32) (v63_3 : Int32) (v63_4 : Int64) (v63_6 : Nat) (v63_7 : Int32) : Prop := ((t63_0.toInt = 0 ∧ (v_needConstant_J98 oo k3 U63 v63_1 v63_2 v63_3 v63_4 v63_6 v63_7)) ∨ (¬ t63_0.toInt = 0 ∧ ((v63_1.toInt = 1 ∧ (((0 : Int) ≤ v63_7.toInt ∧ v63_7.toInt < 700) ∧ ((qR U63 33 v63_7.toInt.toNat = some (qO U63 33 v63_7.toInt.toNat)) ∧ (((sEq U63 (qO U63 33 v63_7.toInt.toNat) v63_6).toInt = 0 ∧ (v_needConstant_J98 oo k3 U63 v63_1 v63_2 v63_3 v63_4 v63_6 v63_7)) ∨ (¬ (sEq U63 (qO U63 33 v63_7.toInt.toNat) v63_6).toInt = 0 ∧ (v_needConstant_J90 oo U63 v63_7)))))) ∨ (¬ v63_1.toInt = 1 ∧ (v_needConstant_J90 oo U63 v63_7)))))
def v_needConstant_J62 (oo : (Int32 × MS) ⊕ MS) (k3 : MS → Int32 → Int32 → Int32 → Int64 → Nat → Int32 → Prop) (U62 : MS) (v62_1 : Int32) (v62_2 : Int32) (v62_3 : Int32) (v62_4 : Int64) (v62_6 : Nat) (v62_7 : Int32) : Prop := (v_needConstant_J63 oo k3 U62 0 v62_1 v62_2 v62_3 v62_4 v62_6 v62_7)
def v_needConstant_L3 (oo : (Int32 × MS) ⊕ MS) : Nat → MS → Int32 → Int32 → Int32 → Int64 → Nat → Int32 → Prop
  | 0, _, _, _, _, _, _, _ => False
  | n3 + 1, U3, v3_1, v3_2, v3_3, v3_4, v3_6, v3_7 => (((qI U3 0 73).toInt ≤ v3_7.toInt ∧ (((qI U3 0 73).toInt = 700 ∧ (∃ (b27 : Nat) (S25 : MS), v_broken U3 (5 : Int32) (8 : Int32) b27 S25 ∧ (oo = .inr S25))) ∨ (¬ (qI U3 0 73).toInt = 700 ∧ (((0 : Int) ≤ (qI U3 0 73).toInt ∧ (qI U3 0 73).toInt < 700) ∧ (∃ S4 : MS, S4 = wI U3 28 (((qI U3 0 73).toInt).toNat) v3_1 ∧ (((0 : Int) ≤ (qI S4 0 73).toInt ∧ (qI S4 0 73).toInt < 700) ∧ (∃ S6 : MS, S6 = wI S4 30 (((qI S4 0 73).toInt).toNat) v3_2 ∧ (((0 : Int) ≤ (qI S6 0 73).toInt ∧ (qI S6 0 73).toInt < 700) ∧ (∃ S8 : MS, S8 = wI S6 31 (((qI S6 0 73).toInt).toNat) v3_3 ∧ (((0 : Int) ≤ (qI S8 0 73).toInt ∧ (qI S8 0 73).toInt < 700) ∧ (∃ S10 : MS, S10 = wJ S8 32 (((qI S8 0 73).toInt).toNat) v3_4 ∧ (((0 : Int) ≤ (qI S10 0 73).toInt ∧ (qI S10 0 73).toInt < 700) ∧ (∃ S12 : MS, S12 = wR S10 33 (((qI S10 0 73).toInt).toNat) (some v3_6) ∧ (((0 : Int) ≤ (qI S12 0 73).toInt ∧ (qI S12 0 73).toInt < 700) ∧ (∃ S14 : MS, S14 = wI S12 29 (((qI S12 0 73).toInt).toNat) (qI S12 0 74) ∧ (∃ S16 : MS, S16 = wI S14 0 73 ((qI S14 0 73) + (1 : Int32)) ∧ ((v3_1.toInt = 5 ∧ (v_needConstant_J212 oo S16 2 (qI S16 0 74) v3_1)) ∨ (¬ v3_1.toInt = 5 ∧ (v_needConstant_J212 oo S16 1 (qI S16 0 74) v3_1))))))))))))))))))) ∨ (¬ (qI U3 0 73).toInt ≤ v3_7.toInt ∧ (((0 : Int) ≤ v3_7.toInt ∧ v3_7.toInt < 700) ∧ (((qI U3 28 v3_7.toInt.toNat).toInt = v3_1.toInt ∧ (((0 : Int) ≤ v3_7.toInt ∧ v3_7.toInt < 700) ∧ (((qI U3 30 v3_7.toInt.toNat).toInt = v3_2.toInt ∧ (((0 : Int) ≤ v3_7.toInt ∧ v3_7.toInt < 700) ∧ (((qI U3 31 v3_7.toInt.toNat).toInt = v3_3.toInt ∧ (((0 : Int) ≤ v3_7.toInt ∧ v3_7.toInt < 700) ∧ (((lg_cmp (qJ U3 32 v3_7.toInt.toNat) v3_4).toInt = 0 ∧ (v_needConstant_J63 oo (v_needConstant_L3 oo n3) U3 1 v3_1 v3_2 v3_3 v3_4 v3_6 v3_7)) ∨ (¬ (lg_cmp (qJ U3 32 v3_7.toInt.toNat) v3_4).toInt = 0 ∧ (v_needConstant_J62 oo (v_needConstant_L3 oo n3) U3 v3_1 v3_2 v3_3 v3_4 v3_6 v3_7))))) ∨ (¬ (qI U3 31 v3_7.toInt.toNat).toInt = v3_3.toInt ∧ (v_needConstant_J62 oo (v_needConstant_L3 oo n3) U3 v3_1 v3_2 v3_3 v3_4 v3_6 v3_7))))) ∨ (¬ (qI U3 30 v3_7.toInt.toNat).toInt = v3_2.toInt ∧ (v_needConstant_J62 oo (v_needConstant_L3 oo n3) U3 v3_1 v3_2 v3_3 v3_4 v3_6 v3_7))))) ∨ (¬ (qI U3 28 v3_7.toInt.toNat).toInt = v3_1.toInt ∧ (v_needConstant_J62 oo (v_needConstant_L3 oo n3) U3 v3_1 v3_2 v3_3 v3_4 v3_6 v3_7))))))
def v_needConstant (S : MS) (x1 : Int32) (x2 : Int32) (x3 : Int32) (y4 : Int64) (p6 : Nat) (oo : (Int32 × MS) ⊕ MS) : Prop := (∃ n, v_needConstant_L3 oo n S x1 x2 x3 y4 p6 0)
set_option maxRecDepth 100000 in
theorem ru_needConstant_J212 {ι : Type} {P : (Int32 × MS) ⊕ MS → Prop} {Q : Int32 → MS → Prop} {E : MS → Prop} {U212 : MS} {t212_0 : Int32} {t212_1 : Int32} {v212_1 : Int32} (i0 : ι) (K : ∀ (i : ι) (oo : (Int32 × MS) ⊕ MS), v_needConstant_J212 oo U212 t212_0 t212_1 v212_1 → P oo) (h : w_needConstant_J212 Q E U212 t212_0 t212_1 v212_1) : ∃ oo, P oo ∧ oQ Q E oo := by
  unfold w_needConstant_J212 at h
  obtain ⟨S18, eS18⟩ : ∃ x9 : MS, x9 = wI U212 0 74 (t212_1 + t212_0) := ⟨_, rfl⟩
  replace h := h S18 eS18
  replace K := fun i oo z => K i oo ⟨S18, eS18, z⟩
  by_cases c : v212_1.toInt = 5
  · replace h := h.1 c
    replace K := fun i oo z => K i oo (Or.inl ⟨c, z⟩)
    exact ⟨.inl (_, _), K i0 _ rfl, h⟩
  · replace h := h.2 c
    replace K := fun i oo z => K i oo (Or.inr ⟨c, z⟩)
    exact ⟨.inl (_, _), K i0 _ rfl, h⟩
set_option maxRecDepth 100000 in
theorem ru_needConstant_J98 {ι : Type} {P : (Int32 × MS) ⊕ MS → Prop} {Q : Int32 → MS → Prop} {E : MS → Prop} {k3 : MS → Int32 → Int32 → Int32 → Int64 → Nat → Int32 → Prop} {k3v : ι → (Int32 × MS) ⊕ MS → MS → Int32 → Int32 → Int32 → Int64 → Nat → Int32 → Prop} {U98 : MS} {v98_1 : Int32} {v98_2 : Int32} {v98_3 : Int32} {v98_4 : Int64} {v98_6 : Nat} {v98_7 : Int32} (i0 : ι) (hk3 : ∀ (u : MS) (z0 : Int32) (z1 : Int32) (z2 : Int32) (z3 : Int64) (z4 : Nat) (z5 : Int32), k3 u z0 z1 z2 z3 z4 z5 → (∀ (i : ι) (oo : (Int32 × MS) ⊕ MS), k3v i oo u z0 z1 z2 z3 z4 z5 → P oo) → ∃ oo, P oo ∧ oQ Q E oo) (K : ∀ (i : ι) (oo : (Int32 × MS) ⊕ MS), v_needConstant_J98 oo (k3v i oo) U98 v98_1 v98_2 v98_3 v98_4 v98_6 v98_7 → P oo) (h : w_needConstant_J98 Q E k3 U98 v98_1 v98_2 v98_3 v98_4 v98_6 v98_7) : ∃ oo, P oo ∧ oQ Q E oo := by
  unfold w_needConstant_J98 at h
  obtain ⟨a30, ea30⟩ : ∃ x9 : Int32, x9 = (v98_7 + Int32.ofInt 1) := ⟨_, rfl⟩
  replace h := h a30 ea30
  replace K := fun i oo z => K i oo ⟨a30, ea30, z⟩
  exact hk3 _ _ _ _ _ _ _ h K
set_option maxRecDepth 100000 in
theorem ru_needConstant_J90 {ι : Type} {P : (Int32 × MS) ⊕ MS → Prop} {Q : Int32 → MS → Prop} {E : MS → Prop} {U90 : MS} {v90_7 : Int32} (i0 : ι) (K : ∀ (i : ι) (oo : (Int32 × MS) ⊕ MS), v_needConstant_J90 oo U90 v90_7 → P oo) (h : w_needConstant_J90 Q E U90 v90_7) : ∃ oo, P oo ∧ oQ Q E oo := by
  unfold w_needConstant_J90 at h
  obtain ⟨g1_, h⟩ := h
  replace K := fun i oo z => K i oo ⟨g1_, z⟩
  exact ⟨.inl (_, _), K i0 _ rfl, h⟩
set_option maxRecDepth 100000 in
theorem ru_needConstant_J63 {ι : Type} {P : (Int32 × MS) ⊕ MS → Prop} {Q : Int32 → MS → Prop} {E : MS → Prop} {k3 : MS → Int32 → Int32 → Int32 → Int64 → Nat → Int32 → Prop} {k3v : ι → (Int32 × MS) ⊕ MS → MS → Int32 → Int32 → Int32 → Int64 → Nat → Int32 → Prop} {U63 : MS} {t63_0 : Int32} {v63_1 : Int32} {v63_2 : Int32} {v63_3 : Int32} {v63_4 : Int64} {v63_6 : Nat} {v63_7 : Int32} (i0 : ι) (hk3 : ∀ (u : MS) (z0 : Int32) (z1 : Int32) (z2 : Int32) (z3 : Int64) (z4 : Nat) (z5 : Int32), k3 u z0 z1 z2 z3 z4 z5 → (∀ (i : ι) (oo : (Int32 × MS) ⊕ MS), k3v i oo u z0 z1 z2 z3 z4 z5 → P oo) → ∃ oo, P oo ∧ oQ Q E oo) (K : ∀ (i : ι) (oo : (Int32 × MS) ⊕ MS), v_needConstant_J63 oo (k3v i oo) U63 t63_0 v63_1 v63_2 v63_3 v63_4 v63_6 v63_7 → P oo) (h : w_needConstant_J63 Q E k3 U63 t63_0 v63_1 v63_2 v63_3 v63_4 v63_6 v63_7) : ∃ oo, P oo ∧ oQ Q E oo := by
  unfold w_needConstant_J63 at h
  by_cases c : t63_0.toInt = 0
  · replace h := h.1 c
    replace K := fun i oo z => K i oo (Or.inl ⟨c, z⟩)
    exact ru_needConstant_J98 i0 hk3 K h
  · replace h := h.2 c
    replace K := fun i oo z => K i oo (Or.inr ⟨c, z⟩)
    by_cases c : v63_1.toInt = 1
    · replace h := h.1 c
      replace K := fun i oo z => K i oo (Or.inl ⟨c, z⟩)
      obtain ⟨g2_, h⟩ := h
      replace K := fun i oo z => K i oo ⟨g2_, z⟩
      obtain ⟨g3_, h⟩ := h
      replace K := fun i oo z => K i oo ⟨g3_, z⟩
      by_cases c : (sEq U63 (qO U63 33 v63_7.toInt.toNat) v63_6).toInt = 0
      · replace h := h.1 c
        replace K := fun i oo z => K i oo (Or.inl ⟨c, z⟩)
        exact ru_needConstant_J98 i0 hk3 K h
      · replace h := h.2 c
        replace K := fun i oo z => K i oo (Or.inr ⟨c, z⟩)
        exact ru_needConstant_J90 i0 K h
    · replace h := h.2 c
      replace K := fun i oo z => K i oo (Or.inr ⟨c, z⟩)
      exact ru_needConstant_J90 i0 K h
set_option maxRecDepth 100000 in
theorem ru_needConstant_J62 {ι : Type} {P : (Int32 × MS) ⊕ MS → Prop} {Q : Int32 → MS → Prop} {E : MS → Prop} {k3 : MS → Int32 → Int32 → Int32 → Int64 → Nat → Int32 → Prop} {k3v : ι → (Int32 × MS) ⊕ MS → MS → Int32 → Int32 → Int32 → Int64 → Nat → Int32 → Prop} {U62 : MS} {v62_1 : Int32} {v62_2 : Int32} {v62_3 : Int32} {v62_4 : Int64} {v62_6 : Nat} {v62_7 : Int32} (i0 : ι) (hk3 : ∀ (u : MS) (z0 : Int32) (z1 : Int32) (z2 : Int32) (z3 : Int64) (z4 : Nat) (z5 : Int32), k3 u z0 z1 z2 z3 z4 z5 → (∀ (i : ι) (oo : (Int32 × MS) ⊕ MS), k3v i oo u z0 z1 z2 z3 z4 z5 → P oo) → ∃ oo, P oo ∧ oQ Q E oo) (K : ∀ (i : ι) (oo : (Int32 × MS) ⊕ MS), v_needConstant_J62 oo (k3v i oo) U62 v62_1 v62_2 v62_3 v62_4 v62_6 v62_7 → P oo) (h : w_needConstant_J62 Q E k3 U62 v62_1 v62_2 v62_3 v62_4 v62_6 v62_7) : ∃ oo, P oo ∧ oQ Q E oo := by
  unfold w_needConstant_J62 at h
  exact ru_needConstant_J63 i0 hk3 K h
set_option maxRecDepth 100000 in
theorem ru_needConstant_L3 {ι : Type} {P : (Int32 × MS) ⊕ MS → Prop} {Q : Int32 → MS → Prop} {E : MS → Prop} : ∀ (n : Nat) {U3 : MS} {v3_1 : Int32} {v3_2 : Int32} {v3_3 : Int32} {v3_4 : Int64} {v3_6 : Nat} {v3_7 : Int32} (i0 : ι), (∀ (i : ι) (oo : (Int32 × MS) ⊕ MS), (∃ n8, v_needConstant_L3 oo n8 U3 v3_1 v3_2 v3_3 v3_4 v3_6 v3_7) → P oo) → w_needConstant_L3 Q E n U3 v3_1 v3_2 v3_3 v3_4 v3_6 v3_7 → ∃ oo, P oo ∧ oQ Q E oo := by
  intro n
  induction n with
  | zero => intro U3 v3_1 v3_2 v3_3 v3_4 v3_6 v3_7 i0 K h; unfold w_needConstant_L3 at h; exact h.elim
  | succ n ih =>
    intro U3 v3_1 v3_2 v3_3 v3_4 v3_6 v3_7 i0 K h
    unfold w_needConstant_L3 at h
    replace K := fun (i : ι × Nat) oo (z : v_needConstant_L3 oo (i.2 + 1) U3 v3_1 v3_2 v3_3 v3_4 v3_6 v3_7) => K i.1 oo ⟨i.2 + 1, z⟩
    have i00 := i0
    replace i0 : ι × Nat := (i0, 0)
    by_cases c : (qI U3 0 73).toInt ≤ v3_7.toInt
    · replace h := h.1 c
      replace K := fun i oo z => K i oo (Or.inl ⟨c, z⟩)
      by_cases c : (qI U3 0 73).toInt = 700
      · replace h := h.1 c
        replace K := fun i oo z => K i oo (Or.inl ⟨c, z⟩)
        obtain ⟨Q9, h0, h⟩ := h
        obtain ⟨b27, S25, z9, g9⟩ := ru_broken h0
        replace h := h b27 S25 g9
        replace K := fun i oo z => K i oo ⟨b27, S25, z9, z⟩
        exact ⟨.inr S25, K i0 _ rfl, h⟩
      · replace h := h.2 c
        replace K := fun i oo z => K i oo (Or.inr ⟨c, z⟩)
        obtain ⟨g4_, h⟩ := h
        replace K := fun i oo z => K i oo ⟨g4_, z⟩
        obtain ⟨S4, eS4⟩ : ∃ x9 : MS, x9 = wI U3 28 (((qI U3 0 73).toInt).toNat) v3_1 := ⟨_, rfl⟩
        replace h := h S4 eS4
        replace K := fun i oo z => K i oo ⟨S4, eS4, z⟩
        obtain ⟨g5_, h⟩ := h
        replace K := fun i oo z => K i oo ⟨g5_, z⟩
        obtain ⟨S6, eS6⟩ : ∃ x9 : MS, x9 = wI S4 30 (((qI S4 0 73).toInt).toNat) v3_2 := ⟨_, rfl⟩
        replace h := h S6 eS6
        replace K := fun i oo z => K i oo ⟨S6, eS6, z⟩
        obtain ⟨g6_, h⟩ := h
        replace K := fun i oo z => K i oo ⟨g6_, z⟩
        obtain ⟨S8, eS8⟩ : ∃ x9 : MS, x9 = wI S6 31 (((qI S6 0 73).toInt).toNat) v3_3 := ⟨_, rfl⟩
        replace h := h S8 eS8
        replace K := fun i oo z => K i oo ⟨S8, eS8, z⟩
        obtain ⟨g7_, h⟩ := h
        replace K := fun i oo z => K i oo ⟨g7_, z⟩
        obtain ⟨S10, eS10⟩ : ∃ x9 : MS, x9 = wJ S8 32 (((qI S8 0 73).toInt).toNat) v3_4 := ⟨_, rfl⟩
        replace h := h S10 eS10
        replace K := fun i oo z => K i oo ⟨S10, eS10, z⟩
        obtain ⟨g8_, h⟩ := h
        replace K := fun i oo z => K i oo ⟨g8_, z⟩
        obtain ⟨S12, eS12⟩ : ∃ x9 : MS, x9 = wR S10 33 (((qI S10 0 73).toInt).toNat) (some v3_6) := ⟨_, rfl⟩
        replace h := h S12 eS12
        replace K := fun i oo z => K i oo ⟨S12, eS12, z⟩
        obtain ⟨g9_, h⟩ := h
        replace K := fun i oo z => K i oo ⟨g9_, z⟩
        obtain ⟨S14, eS14⟩ : ∃ x9 : MS, x9 = wI S12 29 (((qI S12 0 73).toInt).toNat) (qI S12 0 74) := ⟨_, rfl⟩
        replace h := h S14 eS14
        replace K := fun i oo z => K i oo ⟨S14, eS14, z⟩
        obtain ⟨S16, eS16⟩ : ∃ x9 : MS, x9 = wI S14 0 73 ((qI S14 0 73) + (1 : Int32)) := ⟨_, rfl⟩
        replace h := h S16 eS16
        replace K := fun i oo z => K i oo ⟨S16, eS16, z⟩
        by_cases c : v3_1.toInt = 5
        · replace h := h.1 c
          replace K := fun i oo z => K i oo (Or.inl ⟨c, z⟩)
          exact ru_needConstant_J212 i0 K h
        · replace h := h.2 c
          replace K := fun i oo z => K i oo (Or.inr ⟨c, z⟩)
          exact ru_needConstant_J212 i0 K h
    · replace h := h.2 c
      replace K := fun i oo z => K i oo (Or.inr ⟨c, z⟩)
      obtain ⟨g10_, h⟩ := h
      replace K := fun i oo z => K i oo ⟨g10_, z⟩
      by_cases c : (qI U3 28 v3_7.toInt.toNat).toInt = v3_1.toInt
      · replace h := h.1 c
        replace K := fun i oo z => K i oo (Or.inl ⟨c, z⟩)
        obtain ⟨g11_, h⟩ := h
        replace K := fun i oo z => K i oo ⟨g11_, z⟩
        by_cases c : (qI U3 30 v3_7.toInt.toNat).toInt = v3_2.toInt
        · replace h := h.1 c
          replace K := fun i oo z => K i oo (Or.inl ⟨c, z⟩)
          obtain ⟨g12_, h⟩ := h
          replace K := fun i oo z => K i oo ⟨g12_, z⟩
          by_cases c : (qI U3 31 v3_7.toInt.toNat).toInt = v3_3.toInt
          · replace h := h.1 c
            replace K := fun i oo z => K i oo (Or.inl ⟨c, z⟩)
            obtain ⟨g13_, h⟩ := h
            replace K := fun i oo z => K i oo ⟨g13_, z⟩
            by_cases c : (lg_cmp (qJ U3 32 v3_7.toInt.toNat) v3_4).toInt = 0
            · replace h := h.1 c
              replace K := fun i oo z => K i oo (Or.inl ⟨c, z⟩)
              exact ru_needConstant_J63 i0 (fun _ _ _ _ _ _ _ h K => ih i00 (fun i oo ⟨n8, z⟩ => K (i, n8) oo z) h) K h
            · replace h := h.2 c
              replace K := fun i oo z => K i oo (Or.inr ⟨c, z⟩)
              exact ru_needConstant_J62 i0 (fun _ _ _ _ _ _ _ h K => ih i00 (fun i oo ⟨n8, z⟩ => K (i, n8) oo z) h) K h
          · replace h := h.2 c
            replace K := fun i oo z => K i oo (Or.inr ⟨c, z⟩)
            exact ru_needConstant_J62 i0 (fun _ _ _ _ _ _ _ h K => ih i00 (fun i oo ⟨n8, z⟩ => K (i, n8) oo z) h) K h
        · replace h := h.2 c
          replace K := fun i oo z => K i oo (Or.inr ⟨c, z⟩)
          exact ru_needConstant_J62 i0 (fun _ _ _ _ _ _ _ h K => ih i00 (fun i oo ⟨n8, z⟩ => K (i, n8) oo z) h) K h
      · replace h := h.2 c
        replace K := fun i oo z => K i oo (Or.inr ⟨c, z⟩)
        exact ru_needConstant_J62 i0 (fun _ _ _ _ _ _ _ h K => ih i00 (fun i oo ⟨n8, z⟩ => K (i, n8) oo z) h) K h
set_option maxRecDepth 100000 in
theorem ru_needConstant {S : MS} {x1 : Int32} {x2 : Int32} {x3 : Int32} {y4 : Int64} {p6 : Nat} {Q : Int32 → MS → Prop} {E : MS → Prop} (h : w_needConstant S x1 x2 x3 y4 p6 Q E) : ∃ oo, v_needConstant S x1 x2 x3 y4 p6 oo ∧ oQ Q E oo := by
  have i0 : Unit := ()
  have K : ∀ (i : Unit) (oo : (Int32 × MS) ⊕ MS), v_needConstant S x1 x2 x3 y4 p6 oo → v_needConstant S x1 x2 x3 y4 p6 oo := fun _ _ z => z
  unfold w_needConstant at h
  obtain ⟨n9, h⟩ := h
  exact ru_needConstant_L3 n9 i0 K h
set_option maxRecDepth 100000 in
theorem vw_needConstant_J212 {oo : (Int32 × MS) ⊕ MS} {U212 : MS} {t212_0 : Int32} {t212_1 : Int32} {v212_1 : Int32} (h : v_needConstant_J212 oo U212 t212_0 t212_1 v212_1) : w_needConstant_J212 (fun r u => oo = .inl (r, u)) (fun u => oo = .inr u) U212 t212_0 t212_1 v212_1 := by
  unfold v_needConstant_J212 at h
  unfold w_needConstant_J212
  obtain ⟨v9, e9, h⟩ := h
  intro x9 d9
  have c9 : v9 = x9 := e9.trans d9.symm
  subst c9
  rcases h with ⟨c, h⟩ | ⟨c, h⟩
  · refine ⟨fun _ => ?_, fun c2 => absurd c c2⟩
    exact h
  · refine ⟨fun c2 => absurd c2 c, fun _ => ?_⟩
    exact h
set_option maxRecDepth 100000 in
theorem vz_needConstant_J212 {oo : (Int32 × MS) ⊕ MS} {Q : Int32 → MS → Prop} {E : MS → Prop} {U212 : MS} {t212_0 : Int32} {t212_1 : Int32} {v212_1 : Int32} (h : v_needConstant_J212 oo U212 t212_0 t212_1 v212_1) (w : w_needConstant_J212 Q E U212 t212_0 t212_1 v212_1) : oQ Q E oo := by
  unfold v_needConstant_J212 at h
  unfold w_needConstant_J212 at w
  obtain ⟨v9, e9, h⟩ := h
  replace w := w v9 e9
  rcases h with ⟨c, h⟩ | ⟨c, h⟩
  · replace w := w.1 c
    rw [h]
    exact w
  · replace w := w.2 c
    rw [h]
    exact w
set_option maxRecDepth 100000 in
theorem vw_needConstant_J98 {oo : (Int32 × MS) ⊕ MS} {k3 k3v : MS → Int32 → Int32 → Int32 → Int64 → Nat → Int32 → Prop} {U98 : MS} {v98_1 : Int32} {v98_2 : Int32} {v98_3 : Int32} {v98_4 : Int64} {v98_6 : Nat} {v98_7 : Int32} (hk3 : ∀ (u : MS) (z0 : Int32) (z1 : Int32) (z2 : Int32) (z3 : Int64) (z4 : Nat) (z5 : Int32), k3v u z0 z1 z2 z3 z4 z5 → k3 u z0 z1 z2 z3 z4 z5) (h : v_needConstant_J98 oo k3v U98 v98_1 v98_2 v98_3 v98_4 v98_6 v98_7) : w_needConstant_J98 (fun r u => oo = .inl (r, u)) (fun u => oo = .inr u) k3 U98 v98_1 v98_2 v98_3 v98_4 v98_6 v98_7 := by
  unfold v_needConstant_J98 at h
  unfold w_needConstant_J98
  obtain ⟨v9, e9, h⟩ := h
  intro x9 d9
  have c9 : v9 = x9 := e9.trans d9.symm
  subst c9
  exact hk3 _ _ _ _ _ _ _ h
set_option maxRecDepth 100000 in
theorem vz_needConstant_J98 {oo : (Int32 × MS) ⊕ MS} {Q : Int32 → MS → Prop} {E : MS → Prop} {k3 k3v : MS → Int32 → Int32 → Int32 → Int64 → Nat → Int32 → Prop} {U98 : MS} {v98_1 : Int32} {v98_2 : Int32} {v98_3 : Int32} {v98_4 : Int64} {v98_6 : Nat} {v98_7 : Int32} (hk3 : ∀ (u : MS) (z0 : Int32) (z1 : Int32) (z2 : Int32) (z3 : Int64) (z4 : Nat) (z5 : Int32), k3v u z0 z1 z2 z3 z4 z5 → k3 u z0 z1 z2 z3 z4 z5 → oQ Q E oo) (h : v_needConstant_J98 oo k3v U98 v98_1 v98_2 v98_3 v98_4 v98_6 v98_7) (w : w_needConstant_J98 Q E k3 U98 v98_1 v98_2 v98_3 v98_4 v98_6 v98_7) : oQ Q E oo := by
  unfold v_needConstant_J98 at h
  unfold w_needConstant_J98 at w
  obtain ⟨v9, e9, h⟩ := h
  replace w := w v9 e9
  exact hk3 _ _ _ _ _ _ _ h w
set_option maxRecDepth 100000 in
theorem vw_needConstant_J90 {oo : (Int32 × MS) ⊕ MS} {U90 : MS} {v90_7 : Int32} (h : v_needConstant_J90 oo U90 v90_7) : w_needConstant_J90 (fun r u => oo = .inl (r, u)) (fun u => oo = .inr u) U90 v90_7 := by
  unfold v_needConstant_J90 at h
  unfold w_needConstant_J90
  obtain ⟨g9, h⟩ := h
  refine ⟨g9, ?_⟩
  exact h
set_option maxRecDepth 100000 in
theorem vz_needConstant_J90 {oo : (Int32 × MS) ⊕ MS} {Q : Int32 → MS → Prop} {E : MS → Prop} {U90 : MS} {v90_7 : Int32} (h : v_needConstant_J90 oo U90 v90_7) (w : w_needConstant_J90 Q E U90 v90_7) : oQ Q E oo := by
  unfold v_needConstant_J90 at h
  unfold w_needConstant_J90 at w
  replace h := h.2
  replace w := w.2
  rw [h]
  exact w
set_option maxRecDepth 100000 in
theorem vw_needConstant_J63 {oo : (Int32 × MS) ⊕ MS} {k3 k3v : MS → Int32 → Int32 → Int32 → Int64 → Nat → Int32 → Prop} {U63 : MS} {t63_0 : Int32} {v63_1 : Int32} {v63_2 : Int32} {v63_3 : Int32} {v63_4 : Int64} {v63_6 : Nat} {v63_7 : Int32} (hk3 : ∀ (u : MS) (z0 : Int32) (z1 : Int32) (z2 : Int32) (z3 : Int64) (z4 : Nat) (z5 : Int32), k3v u z0 z1 z2 z3 z4 z5 → k3 u z0 z1 z2 z3 z4 z5) (h : v_needConstant_J63 oo k3v U63 t63_0 v63_1 v63_2 v63_3 v63_4 v63_6 v63_7) : w_needConstant_J63 (fun r u => oo = .inl (r, u)) (fun u => oo = .inr u) k3 U63 t63_0 v63_1 v63_2 v63_3 v63_4 v63_6 v63_7 := by
  unfold v_needConstant_J63 at h
  unfold w_needConstant_J63
  rcases h with ⟨c, h⟩ | ⟨c, h⟩
  · refine ⟨fun _ => ?_, fun c2 => absurd c c2⟩
    exact vw_needConstant_J98 hk3 h
  · refine ⟨fun c2 => absurd c2 c, fun _ => ?_⟩
    rcases h with ⟨c, h⟩ | ⟨c, h⟩
    · refine ⟨fun _ => ?_, fun c2 => absurd c c2⟩
      obtain ⟨g9, h⟩ := h
      refine ⟨g9, ?_⟩
      obtain ⟨g9, h⟩ := h
      refine ⟨g9, ?_⟩
      rcases h with ⟨c, h⟩ | ⟨c, h⟩
      · refine ⟨fun _ => ?_, fun c2 => absurd c c2⟩
        exact vw_needConstant_J98 hk3 h
      · refine ⟨fun c2 => absurd c2 c, fun _ => ?_⟩
        exact vw_needConstant_J90 h
    · refine ⟨fun c2 => absurd c2 c, fun _ => ?_⟩
      exact vw_needConstant_J90 h
set_option maxRecDepth 100000 in
theorem vz_needConstant_J63 {oo : (Int32 × MS) ⊕ MS} {Q : Int32 → MS → Prop} {E : MS → Prop} {k3 k3v : MS → Int32 → Int32 → Int32 → Int64 → Nat → Int32 → Prop} {U63 : MS} {t63_0 : Int32} {v63_1 : Int32} {v63_2 : Int32} {v63_3 : Int32} {v63_4 : Int64} {v63_6 : Nat} {v63_7 : Int32} (hk3 : ∀ (u : MS) (z0 : Int32) (z1 : Int32) (z2 : Int32) (z3 : Int64) (z4 : Nat) (z5 : Int32), k3v u z0 z1 z2 z3 z4 z5 → k3 u z0 z1 z2 z3 z4 z5 → oQ Q E oo) (h : v_needConstant_J63 oo k3v U63 t63_0 v63_1 v63_2 v63_3 v63_4 v63_6 v63_7) (w : w_needConstant_J63 Q E k3 U63 t63_0 v63_1 v63_2 v63_3 v63_4 v63_6 v63_7) : oQ Q E oo := by
  unfold v_needConstant_J63 at h
  unfold w_needConstant_J63 at w
  rcases h with ⟨c, h⟩ | ⟨c, h⟩
  · replace w := w.1 c
    exact vz_needConstant_J98 hk3 h w
  · replace w := w.2 c
    rcases h with ⟨c, h⟩ | ⟨c, h⟩
    · replace w := w.1 c
      replace h := h.2
      replace w := w.2
      replace h := h.2
      replace w := w.2
      rcases h with ⟨c, h⟩ | ⟨c, h⟩
      · replace w := w.1 c
        exact vz_needConstant_J98 hk3 h w
      · replace w := w.2 c
        exact vz_needConstant_J90 h w
    · replace w := w.2 c
      exact vz_needConstant_J90 h w
set_option maxRecDepth 100000 in
theorem vw_needConstant_J62 {oo : (Int32 × MS) ⊕ MS} {k3 k3v : MS → Int32 → Int32 → Int32 → Int64 → Nat → Int32 → Prop} {U62 : MS} {v62_1 : Int32} {v62_2 : Int32} {v62_3 : Int32} {v62_4 : Int64} {v62_6 : Nat} {v62_7 : Int32} (hk3 : ∀ (u : MS) (z0 : Int32) (z1 : Int32) (z2 : Int32) (z3 : Int64) (z4 : Nat) (z5 : Int32), k3v u z0 z1 z2 z3 z4 z5 → k3 u z0 z1 z2 z3 z4 z5) (h : v_needConstant_J62 oo k3v U62 v62_1 v62_2 v62_3 v62_4 v62_6 v62_7) : w_needConstant_J62 (fun r u => oo = .inl (r, u)) (fun u => oo = .inr u) k3 U62 v62_1 v62_2 v62_3 v62_4 v62_6 v62_7 := by
  unfold v_needConstant_J62 at h
  unfold w_needConstant_J62
  exact vw_needConstant_J63 hk3 h
set_option maxRecDepth 100000 in
theorem vz_needConstant_J62 {oo : (Int32 × MS) ⊕ MS} {Q : Int32 → MS → Prop} {E : MS → Prop} {k3 k3v : MS → Int32 → Int32 → Int32 → Int64 → Nat → Int32 → Prop} {U62 : MS} {v62_1 : Int32} {v62_2 : Int32} {v62_3 : Int32} {v62_4 : Int64} {v62_6 : Nat} {v62_7 : Int32} (hk3 : ∀ (u : MS) (z0 : Int32) (z1 : Int32) (z2 : Int32) (z3 : Int64) (z4 : Nat) (z5 : Int32), k3v u z0 z1 z2 z3 z4 z5 → k3 u z0 z1 z2 z3 z4 z5 → oQ Q E oo) (h : v_needConstant_J62 oo k3v U62 v62_1 v62_2 v62_3 v62_4 v62_6 v62_7) (w : w_needConstant_J62 Q E k3 U62 v62_1 v62_2 v62_3 v62_4 v62_6 v62_7) : oQ Q E oo := by
  unfold v_needConstant_J62 at h
  unfold w_needConstant_J62 at w
  exact vz_needConstant_J63 hk3 h w
set_option maxRecDepth 100000 in
theorem vw_needConstant_L3 {oo : (Int32 × MS) ⊕ MS} : ∀ (n : Nat) {U3 : MS} {v3_1 : Int32} {v3_2 : Int32} {v3_3 : Int32} {v3_4 : Int64} {v3_6 : Nat} {v3_7 : Int32}, v_needConstant_L3 oo n U3 v3_1 v3_2 v3_3 v3_4 v3_6 v3_7 → w_needConstant_L3 (fun r u => oo = .inl (r, u)) (fun u => oo = .inr u) n U3 v3_1 v3_2 v3_3 v3_4 v3_6 v3_7 := by
  intro n
  induction n with
  | zero => intro U3 v3_1 v3_2 v3_3 v3_4 v3_6 v3_7 h; unfold v_needConstant_L3 at h; exact h.elim
  | succ n ih =>
    intro U3 v3_1 v3_2 v3_3 v3_4 v3_6 v3_7 h
    unfold v_needConstant_L3 at h
    unfold w_needConstant_L3
    rcases h with ⟨c, h⟩ | ⟨c, h⟩
    · refine ⟨fun _ => ?_, fun c2 => absurd c c2⟩
      rcases h with ⟨c, h⟩ | ⟨c, h⟩
      · refine ⟨fun _ => ?_, fun c2 => absurd c c2⟩
        obtain ⟨p9, q9, z9, h⟩ := h
        refine ⟨_, vw_broken z9, ?_⟩
        rintro p8 q8 ⟨d8, d9⟩
        subst d8
        subst d9
        exact h
      · refine ⟨fun c2 => absurd c2 c, fun _ => ?_⟩
        obtain ⟨g9, h⟩ := h
        refine ⟨g9, ?_⟩
        obtain ⟨v9, e9, h⟩ := h
        intro x9 d9
        have c9 : v9 = x9 := e9.trans d9.symm
        subst c9
        obtain ⟨g9, h⟩ := h
        refine ⟨g9, ?_⟩
        obtain ⟨v9, e9, h⟩ := h
        intro x9 d9
        have c9 : v9 = x9 := e9.trans d9.symm
        subst c9
        obtain ⟨g9, h⟩ := h
        refine ⟨g9, ?_⟩
        obtain ⟨v9, e9, h⟩ := h
        intro x9 d9
        have c9 : v9 = x9 := e9.trans d9.symm
        subst c9
        obtain ⟨g9, h⟩ := h
        refine ⟨g9, ?_⟩
        obtain ⟨v9, e9, h⟩ := h
        intro x9 d9
        have c9 : v9 = x9 := e9.trans d9.symm
        subst c9
        obtain ⟨g9, h⟩ := h
        refine ⟨g9, ?_⟩
        obtain ⟨v9, e9, h⟩ := h
        intro x9 d9
        have c9 : v9 = x9 := e9.trans d9.symm
        subst c9
        obtain ⟨g9, h⟩ := h
        refine ⟨g9, ?_⟩
        obtain ⟨v9, e9, h⟩ := h
        intro x9 d9
        have c9 : v9 = x9 := e9.trans d9.symm
        subst c9
        obtain ⟨v9, e9, h⟩ := h
        intro x9 d9
        have c9 : v9 = x9 := e9.trans d9.symm
        subst c9
        rcases h with ⟨c, h⟩ | ⟨c, h⟩
        · refine ⟨fun _ => ?_, fun c2 => absurd c c2⟩
          exact vw_needConstant_J212 h
        · refine ⟨fun c2 => absurd c2 c, fun _ => ?_⟩
          exact vw_needConstant_J212 h
    · refine ⟨fun c2 => absurd c2 c, fun _ => ?_⟩
      obtain ⟨g9, h⟩ := h
      refine ⟨g9, ?_⟩
      rcases h with ⟨c, h⟩ | ⟨c, h⟩
      · refine ⟨fun _ => ?_, fun c2 => absurd c c2⟩
        obtain ⟨g9, h⟩ := h
        refine ⟨g9, ?_⟩
        rcases h with ⟨c, h⟩ | ⟨c, h⟩
        · refine ⟨fun _ => ?_, fun c2 => absurd c c2⟩
          obtain ⟨g9, h⟩ := h
          refine ⟨g9, ?_⟩
          rcases h with ⟨c, h⟩ | ⟨c, h⟩
          · refine ⟨fun _ => ?_, fun c2 => absurd c c2⟩
            obtain ⟨g9, h⟩ := h
            refine ⟨g9, ?_⟩
            rcases h with ⟨c, h⟩ | ⟨c, h⟩
            · refine ⟨fun _ => ?_, fun c2 => absurd c c2⟩
              exact vw_needConstant_J63 (fun _ _ _ _ _ _ _ h => ih h) h
            · refine ⟨fun c2 => absurd c2 c, fun _ => ?_⟩
              exact vw_needConstant_J62 (fun _ _ _ _ _ _ _ h => ih h) h
          · refine ⟨fun c2 => absurd c2 c, fun _ => ?_⟩
            exact vw_needConstant_J62 (fun _ _ _ _ _ _ _ h => ih h) h
        · refine ⟨fun c2 => absurd c2 c, fun _ => ?_⟩
          exact vw_needConstant_J62 (fun _ _ _ _ _ _ _ h => ih h) h
      · refine ⟨fun c2 => absurd c2 c, fun _ => ?_⟩
        exact vw_needConstant_J62 (fun _ _ _ _ _ _ _ h => ih h) h
set_option maxRecDepth 100000 in
theorem vz_needConstant_L3 {oo : (Int32 × MS) ⊕ MS} {Q : Int32 → MS → Prop} {E : MS → Prop} : ∀ (n m : Nat) {U3 : MS} {v3_1 : Int32} {v3_2 : Int32} {v3_3 : Int32} {v3_4 : Int64} {v3_6 : Nat} {v3_7 : Int32}, v_needConstant_L3 oo n U3 v3_1 v3_2 v3_3 v3_4 v3_6 v3_7 → w_needConstant_L3 Q E m U3 v3_1 v3_2 v3_3 v3_4 v3_6 v3_7 → oQ Q E oo := by
  intro n
  induction n with
  | zero => intro m U3 v3_1 v3_2 v3_3 v3_4 v3_6 v3_7 h; unfold v_needConstant_L3 at h; exact h.elim
  | succ n ih =>
    intro m U3 v3_1 v3_2 v3_3 v3_4 v3_6 v3_7 h w
    cases m with
    | zero => unfold w_needConstant_L3 at w; exact w.elim
    | succ m =>
      unfold v_needConstant_L3 at h
      unfold w_needConstant_L3 at w
      rcases h with ⟨c, h⟩ | ⟨c, h⟩
      · replace w := w.1 c
        rcases h with ⟨c, h⟩ | ⟨c, h⟩
        · replace w := w.1 c
          obtain ⟨p9, q9, z9, h⟩ := h
          obtain ⟨Q9, w0, w⟩ := w
          replace w := w p9 q9 (vz_broken z9 w0)
          rw [h]
          exact w
        · replace w := w.2 c
          replace h := h.2
          replace w := w.2
          obtain ⟨v9, e9, h⟩ := h
          replace w := w v9 e9
          replace h := h.2
          replace w := w.2
          obtain ⟨v9, e9, h⟩ := h
          replace w := w v9 e9
          replace h := h.2
          replace w := w.2
          obtain ⟨v9, e9, h⟩ := h
          replace w := w v9 e9
          replace h := h.2
          replace w := w.2
          obtain ⟨v9, e9, h⟩ := h
          replace w := w v9 e9
          replace h := h.2
          replace w := w.2
          obtain ⟨v9, e9, h⟩ := h
          replace w := w v9 e9
          replace h := h.2
          replace w := w.2
          obtain ⟨v9, e9, h⟩ := h
          replace w := w v9 e9
          obtain ⟨v9, e9, h⟩ := h
          replace w := w v9 e9
          rcases h with ⟨c, h⟩ | ⟨c, h⟩
          · replace w := w.1 c
            exact vz_needConstant_J212 h w
          · replace w := w.2 c
            exact vz_needConstant_J212 h w
      · replace w := w.2 c
        replace h := h.2
        replace w := w.2
        rcases h with ⟨c, h⟩ | ⟨c, h⟩
        · replace w := w.1 c
          replace h := h.2
          replace w := w.2
          rcases h with ⟨c, h⟩ | ⟨c, h⟩
          · replace w := w.1 c
            replace h := h.2
            replace w := w.2
            rcases h with ⟨c, h⟩ | ⟨c, h⟩
            · replace w := w.1 c
              replace h := h.2
              replace w := w.2
              rcases h with ⟨c, h⟩ | ⟨c, h⟩
              · replace w := w.1 c
                exact vz_needConstant_J63 (fun _ _ _ _ _ _ _ h w => ih m h w) h w
              · replace w := w.2 c
                exact vz_needConstant_J62 (fun _ _ _ _ _ _ _ h w => ih m h w) h w
            · replace w := w.2 c
              exact vz_needConstant_J62 (fun _ _ _ _ _ _ _ h w => ih m h w) h w
          · replace w := w.2 c
            exact vz_needConstant_J62 (fun _ _ _ _ _ _ _ h w => ih m h w) h w
        · replace w := w.2 c
          exact vz_needConstant_J62 (fun _ _ _ _ _ _ _ h w => ih m h w) h w
set_option maxRecDepth 100000 in
theorem vw_needConstant {S : MS} {x1 : Int32} {x2 : Int32} {x3 : Int32} {y4 : Int64} {p6 : Nat} {oo : (Int32 × MS) ⊕ MS} (h : v_needConstant S x1 x2 x3 y4 p6 oo) : w_needConstant S x1 x2 x3 y4 p6 (fun r u => oo = .inl (r, u)) (fun u => oo = .inr u) := by
  unfold v_needConstant at h
  unfold w_needConstant
  obtain ⟨n9, h⟩ := h
  exact ⟨n9, vw_needConstant_L3 n9 h⟩
set_option maxRecDepth 100000 in
theorem vz_needConstant {S : MS} {x1 : Int32} {x2 : Int32} {x3 : Int32} {y4 : Int64} {p6 : Nat} {oo : (Int32 × MS) ⊕ MS} {Q : Int32 → MS → Prop} {E : MS → Prop} (h : v_needConstant S x1 x2 x3 y4 p6 oo) (w : w_needConstant S x1 x2 x3 y4 p6 Q E) : oQ Q E oo := by
  unfold v_needConstant at h
  unfold w_needConstant at w
  obtain ⟨n9, h⟩ := h
  obtain ⟨n8, w⟩ := w
  exact vz_needConstant_L3 n9 n8 h w
def v_nameNumber (S : MS) (p1 : Nat) (oo : (Int32 × MS) ⊕ MS) : Prop := ((∃ (r2 : Int32) (S3 : MS), v_needConstant S (1 : Int32) (0 : Int32) (0 : Int32) 0 p1 (.inl (r2, S3)) ∧ (oo = .inl (r2, S3))) ∨ (∃ u9 : MS, v_needConstant S (1 : Int32) (0 : Int32) (0 : Int32) 0 p1 (.inr u9) ∧ (oo = .inr u9)))
set_option maxRecDepth 100000 in
theorem ru_nameNumber {S : MS} {p1 : Nat} {Q : Int32 → MS → Prop} {E : MS → Prop} (h : w_nameNumber S p1 Q E) : ∃ oo, v_nameNumber S p1 oo ∧ oQ Q E oo := by
  have i0 : Unit := ()
  have K : ∀ (i : Unit) (oo : (Int32 × MS) ⊕ MS), v_nameNumber S p1 oo → v_nameNumber S p1 oo := fun _ _ z => z
  unfold w_nameNumber at h
  obtain ⟨Q9, E9, h0, h⟩ := h
  obtain ⟨o9, z9, g9⟩ := ru_needConstant h0
  rcases o9 with ⟨r2, S3⟩ | u9
  · replace h := h.1 r2 S3 g9
    replace K := fun i oo z => K i oo (Or.inl ⟨r2, S3, z9, z⟩)
    exact ⟨.inl (_, _), K i0 _ rfl, h⟩
  · replace h := h.2 u9 g9
    replace K := fun i oo z => K i oo (Or.inr ⟨u9, z9, z⟩)
    exact ⟨.inr u9, K i0 _ rfl, h⟩
set_option maxRecDepth 100000 in
theorem vw_nameNumber {S : MS} {p1 : Nat} {oo : (Int32 × MS) ⊕ MS} (h : v_nameNumber S p1 oo) : w_nameNumber S p1 (fun r u => oo = .inl (r, u)) (fun u => oo = .inr u) := by
  unfold v_nameNumber at h
  unfold w_nameNumber
  rcases h with ⟨p9, q9, z9, h⟩ | ⟨q9, z9, h⟩
  · refine ⟨_, _, vw_needConstant z9, ?_, ?_⟩
    · intro p8 q8 d9
      injection d9 with d9
      injection d9 with d8 d9
      subst d8
      subst d9
      exact h
    · intro q8 d9
      exact nomatch d9
  · refine ⟨_, _, vw_needConstant z9, ?_, ?_⟩
    · intro p8 q8 d9
      exact nomatch d9
    · intro q8 d9
      injection d9 with d9
      subst d9
      exact h
set_option maxRecDepth 100000 in
theorem vz_nameNumber {S : MS} {p1 : Nat} {oo : (Int32 × MS) ⊕ MS} {Q : Int32 → MS → Prop} {E : MS → Prop} (h : v_nameNumber S p1 oo) (w : w_nameNumber S p1 Q E) : oQ Q E oo := by
  unfold v_nameNumber at h
  unfold w_nameNumber at w
  obtain ⟨Q9, E9, w0, w⟩ := w
  rcases h with ⟨p9, q9, z9, h⟩ | ⟨q9, z9, h⟩
  · replace w := w.1 p9 q9 (vz_needConstant z9 w0)
    rw [h]
    exact w
  · replace w := w.2 q9 (vz_needConstant z9 w0)
    rw [h]
    exact w
def v_classNumber (S : MS) (p1 : Nat) (oo : (Int32 × MS) ⊕ MS) : Prop := ((∃ (r2 : Int32) (S3 : MS), v_nameNumber S p1 (.inl (r2, S3)) ∧ ((∃ (r7 : Int32) (S8 : MS), v_needConstant S3 (7 : Int32) r2 (0 : Int32) 0 10000032 (.inl (r7, S8)) ∧ (oo = .inl (r7, S8))) ∨ (∃ u9 : MS, v_needConstant S3 (7 : Int32) r2 (0 : Int32) 0 10000032 (.inr u9) ∧ (oo = .inr u9)))) ∨ (∃ u9 : MS, v_nameNumber S p1 (.inr u9) ∧ (oo = .inr u9)))
set_option maxRecDepth 100000 in
theorem ru_classNumber {S : MS} {p1 : Nat} {Q : Int32 → MS → Prop} {E : MS → Prop} (h : w_classNumber S p1 Q E) : ∃ oo, v_classNumber S p1 oo ∧ oQ Q E oo := by
  have i0 : Unit := ()
  have K : ∀ (i : Unit) (oo : (Int32 × MS) ⊕ MS), v_classNumber S p1 oo → v_classNumber S p1 oo := fun _ _ z => z
  unfold w_classNumber at h
  obtain ⟨Q9, E9, h0, h⟩ := h
  obtain ⟨o9, z9, g9⟩ := ru_nameNumber h0
  rcases o9 with ⟨r2, S3⟩ | u9
  · replace h := h.1 r2 S3 g9
    replace K := fun i oo z => K i oo (Or.inl ⟨r2, S3, z9, z⟩)
    obtain ⟨Q9, E9, h0, h⟩ := h
    obtain ⟨o9, z9, g9⟩ := ru_needConstant h0
    rcases o9 with ⟨r7, S8⟩ | u9
    · replace h := h.1 r7 S8 g9
      replace K := fun i oo z => K i oo (Or.inl ⟨r7, S8, z9, z⟩)
      exact ⟨.inl (_, _), K i0 _ rfl, h⟩
    · replace h := h.2 u9 g9
      replace K := fun i oo z => K i oo (Or.inr ⟨u9, z9, z⟩)
      exact ⟨.inr u9, K i0 _ rfl, h⟩
  · replace h := h.2 u9 g9
    replace K := fun i oo z => K i oo (Or.inr ⟨u9, z9, z⟩)
    exact ⟨.inr u9, K i0 _ rfl, h⟩
set_option maxRecDepth 100000 in
theorem vw_classNumber {S : MS} {p1 : Nat} {oo : (Int32 × MS) ⊕ MS} (h : v_classNumber S p1 oo) : w_classNumber S p1 (fun r u => oo = .inl (r, u)) (fun u => oo = .inr u) := by
  unfold v_classNumber at h
  unfold w_classNumber
  rcases h with ⟨p9, q9, z9, h⟩ | ⟨q9, z9, h⟩
  · refine ⟨_, _, vw_nameNumber z9, ?_, ?_⟩
    · intro p8 q8 d9
      injection d9 with d9
      injection d9 with d8 d9
      subst d8
      subst d9
      rcases h with ⟨p9, q9, z9, h⟩ | ⟨q9, z9, h⟩
      · refine ⟨_, _, vw_needConstant z9, ?_, ?_⟩
        · intro p8 q8 d9
          injection d9 with d9
          injection d9 with d8 d9
          subst d8
          subst d9
          exact h
        · intro q8 d9
          exact nomatch d9
      · refine ⟨_, _, vw_needConstant z9, ?_, ?_⟩
        · intro p8 q8 d9
          exact nomatch d9
        · intro q8 d9
          injection d9 with d9
          subst d9
          exact h
    · intro q8 d9
      exact nomatch d9
  · refine ⟨_, _, vw_nameNumber z9, ?_, ?_⟩
    · intro p8 q8 d9
      exact nomatch d9
    · intro q8 d9
      injection d9 with d9
      subst d9
      exact h
set_option maxRecDepth 100000 in
theorem vz_classNumber {S : MS} {p1 : Nat} {oo : (Int32 × MS) ⊕ MS} {Q : Int32 → MS → Prop} {E : MS → Prop} (h : v_classNumber S p1 oo) (w : w_classNumber S p1 Q E) : oQ Q E oo := by
  unfold v_classNumber at h
  unfold w_classNumber at w
  obtain ⟨Q9, E9, w0, w⟩ := w
  rcases h with ⟨p9, q9, z9, h⟩ | ⟨q9, z9, h⟩
  · replace w := w.1 p9 q9 (vz_nameNumber z9 w0)
    obtain ⟨Q9, E9, w0, w⟩ := w
    rcases h with ⟨p9, q9, z9, h⟩ | ⟨q9, z9, h⟩
    · replace w := w.1 p9 q9 (vz_needConstant z9 w0)
      rw [h]
      exact w
    · replace w := w.2 q9 (vz_needConstant z9 w0)
      rw [h]
      exact w
  · replace w := w.2 q9 (vz_nameNumber z9 w0)
    rw [h]
    exact w
def v_memberNumber (S : MS) (x1 : Int32) (p2 : Nat) (p3 : Nat) (oo : (Int32 × MS) ⊕ MS) : Prop := ((qR S 0 47 = some (qO S 0 47)) ∧ ((qR S (qO S 0 47) 0 = some (qO S (qO S 0 47) 0)) ∧ ((∃ (r6 : Int32) (S7 : MS), v_classNumber S (qO S (qO S 0 47) 0) (.inl (r6, S7)) ∧ ((∃ (r10 : Int32) (S11 : MS), v_nameNumber S7 p2 (.inl (r10, S11)) ∧ ((∃ (r14 : Int32) (S15 : MS), v_nameNumber S11 p3 (.inl (r14, S15)) ∧ ((∃ (r19 : Int32) (S20 : MS), v_needConstant S15 (12 : Int32) r10 r14 0 10000032 (.inl (r19, S20)) ∧ ((∃ (r24 : Int32) (S25 : MS), v_needConstant S20 x1 r6 r19 0 10000032 (.inl (r24, S25)) ∧ (oo = .inl (r24, S25))) ∨ (∃ u9 : MS, v_needConstant S20 x1 r6 r19 0 10000032 (.inr u9) ∧ (oo = .inr u9)))) ∨ (∃ u9 : MS, v_needConstant S15 (12 : Int32) r10 r14 0 10000032 (.inr u9) ∧ (oo = .inr u9)))) ∨ (∃ u9 : MS, v_nameNumber S11 p3 (.inr u9) ∧ (oo = .inr u9)))) ∨ (∃ u9 : MS, v_nameNumber S7 p2 (.inr u9) ∧ (oo = .inr u9)))) ∨ (∃ u9 : MS, v_classNumber S (qO S (qO S 0 47) 0) (.inr u9) ∧ (oo = .inr u9)))))
set_option maxRecDepth 100000 in
theorem ru_memberNumber {S : MS} {x1 : Int32} {p2 : Nat} {p3 : Nat} {Q : Int32 → MS → Prop} {E : MS → Prop} (h : w_memberNumber S x1 p2 p3 Q E) : ∃ oo, v_memberNumber S x1 p2 p3 oo ∧ oQ Q E oo := by
  have i0 : Unit := ()
  have K : ∀ (i : Unit) (oo : (Int32 × MS) ⊕ MS), v_memberNumber S x1 p2 p3 oo → v_memberNumber S x1 p2 p3 oo := fun _ _ z => z
  unfold w_memberNumber at h
  obtain ⟨g1_, h⟩ := h
  replace K := fun i oo z => K i oo ⟨g1_, z⟩
  obtain ⟨g2_, h⟩ := h
  replace K := fun i oo z => K i oo ⟨g2_, z⟩
  obtain ⟨Q9, E9, h0, h⟩ := h
  obtain ⟨o9, z9, g9⟩ := ru_classNumber h0
  rcases o9 with ⟨r6, S7⟩ | u9
  · replace h := h.1 r6 S7 g9
    replace K := fun i oo z => K i oo (Or.inl ⟨r6, S7, z9, z⟩)
    obtain ⟨Q9, E9, h0, h⟩ := h
    obtain ⟨o9, z9, g9⟩ := ru_nameNumber h0
    rcases o9 with ⟨r10, S11⟩ | u9
    · replace h := h.1 r10 S11 g9
      replace K := fun i oo z => K i oo (Or.inl ⟨r10, S11, z9, z⟩)
      obtain ⟨Q9, E9, h0, h⟩ := h
      obtain ⟨o9, z9, g9⟩ := ru_nameNumber h0
      rcases o9 with ⟨r14, S15⟩ | u9
      · replace h := h.1 r14 S15 g9
        replace K := fun i oo z => K i oo (Or.inl ⟨r14, S15, z9, z⟩)
        obtain ⟨Q9, E9, h0, h⟩ := h
        obtain ⟨o9, z9, g9⟩ := ru_needConstant h0
        rcases o9 with ⟨r19, S20⟩ | u9
        · replace h := h.1 r19 S20 g9
          replace K := fun i oo z => K i oo (Or.inl ⟨r19, S20, z9, z⟩)
          obtain ⟨Q9, E9, h0, h⟩ := h
          obtain ⟨o9, z9, g9⟩ := ru_needConstant h0
          rcases o9 with ⟨r24, S25⟩ | u9
          · replace h := h.1 r24 S25 g9
            replace K := fun i oo z => K i oo (Or.inl ⟨r24, S25, z9, z⟩)
            exact ⟨.inl (_, _), K i0 _ rfl, h⟩
          · replace h := h.2 u9 g9
            replace K := fun i oo z => K i oo (Or.inr ⟨u9, z9, z⟩)
            exact ⟨.inr u9, K i0 _ rfl, h⟩
        · replace h := h.2 u9 g9
          replace K := fun i oo z => K i oo (Or.inr ⟨u9, z9, z⟩)
          exact ⟨.inr u9, K i0 _ rfl, h⟩
      · replace h := h.2 u9 g9
        replace K := fun i oo z => K i oo (Or.inr ⟨u9, z9, z⟩)
        exact ⟨.inr u9, K i0 _ rfl, h⟩
    · replace h := h.2 u9 g9
      replace K := fun i oo z => K i oo (Or.inr ⟨u9, z9, z⟩)
      exact ⟨.inr u9, K i0 _ rfl, h⟩
  · replace h := h.2 u9 g9
    replace K := fun i oo z => K i oo (Or.inr ⟨u9, z9, z⟩)
    exact ⟨.inr u9, K i0 _ rfl, h⟩
set_option maxRecDepth 100000 in
theorem vw_memberNumber {S : MS} {x1 : Int32} {p2 : Nat} {p3 : Nat} {oo : (Int32 × MS) ⊕ MS} (h : v_memberNumber S x1 p2 p3 oo) : w_memberNumber S x1 p2 p3 (fun r u => oo = .inl (r, u)) (fun u => oo = .inr u) := by
  unfold v_memberNumber at h
  unfold w_memberNumber
  obtain ⟨g9, h⟩ := h
  refine ⟨g9, ?_⟩
  obtain ⟨g9, h⟩ := h
  refine ⟨g9, ?_⟩
  rcases h with ⟨p9, q9, z9, h⟩ | ⟨q9, z9, h⟩
  · refine ⟨_, _, vw_classNumber z9, ?_, ?_⟩
    · intro p8 q8 d9
      injection d9 with d9
      injection d9 with d8 d9
      subst d8
      subst d9
      rcases h with ⟨p9, q9, z9, h⟩ | ⟨q9, z9, h⟩
      · refine ⟨_, _, vw_nameNumber z9, ?_, ?_⟩
        · intro p8 q8 d9
          injection d9 with d9
          injection d9 with d8 d9
          subst d8
          subst d9
          rcases h with ⟨p9, q9, z9, h⟩ | ⟨q9, z9, h⟩
          · refine ⟨_, _, vw_nameNumber z9, ?_, ?_⟩
            · intro p8 q8 d9
              injection d9 with d9
              injection d9 with d8 d9
              subst d8
              subst d9
              rcases h with ⟨p9, q9, z9, h⟩ | ⟨q9, z9, h⟩
              · refine ⟨_, _, vw_needConstant z9, ?_, ?_⟩
                · intro p8 q8 d9
                  injection d9 with d9
                  injection d9 with d8 d9
                  subst d8
                  subst d9
                  rcases h with ⟨p9, q9, z9, h⟩ | ⟨q9, z9, h⟩
                  · refine ⟨_, _, vw_needConstant z9, ?_, ?_⟩
                    · intro p8 q8 d9
                      injection d9 with d9
                      injection d9 with d8 d9
                      subst d8
                      subst d9
                      exact h
                    · intro q8 d9
                      exact nomatch d9
                  · refine ⟨_, _, vw_needConstant z9, ?_, ?_⟩
                    · intro p8 q8 d9
                      exact nomatch d9
                    · intro q8 d9
                      injection d9 with d9
                      subst d9
                      exact h
                · intro q8 d9
                  exact nomatch d9
              · refine ⟨_, _, vw_needConstant z9, ?_, ?_⟩
                · intro p8 q8 d9
                  exact nomatch d9
                · intro q8 d9
                  injection d9 with d9
                  subst d9
                  exact h
            · intro q8 d9
              exact nomatch d9
          · refine ⟨_, _, vw_nameNumber z9, ?_, ?_⟩
            · intro p8 q8 d9
              exact nomatch d9
            · intro q8 d9
              injection d9 with d9
              subst d9
              exact h
        · intro q8 d9
          exact nomatch d9
      · refine ⟨_, _, vw_nameNumber z9, ?_, ?_⟩
        · intro p8 q8 d9
          exact nomatch d9
        · intro q8 d9
          injection d9 with d9
          subst d9
          exact h
    · intro q8 d9
      exact nomatch d9
  · refine ⟨_, _, vw_classNumber z9, ?_, ?_⟩
    · intro p8 q8 d9
      exact nomatch d9
    · intro q8 d9
      injection d9 with d9
      subst d9
      exact h
set_option maxRecDepth 100000 in
theorem vz_memberNumber {S : MS} {x1 : Int32} {p2 : Nat} {p3 : Nat} {oo : (Int32 × MS) ⊕ MS} {Q : Int32 → MS → Prop} {E : MS → Prop} (h : v_memberNumber S x1 p2 p3 oo) (w : w_memberNumber S x1 p2 p3 Q E) : oQ Q E oo := by
  unfold v_memberNumber at h
  unfold w_memberNumber at w
  replace h := h.2
  replace w := w.2
  replace h := h.2
  replace w := w.2
  obtain ⟨Q9, E9, w0, w⟩ := w
  rcases h with ⟨p9, q9, z9, h⟩ | ⟨q9, z9, h⟩
  · replace w := w.1 p9 q9 (vz_classNumber z9 w0)
    obtain ⟨Q9, E9, w0, w⟩ := w
    rcases h with ⟨p9, q9, z9, h⟩ | ⟨q9, z9, h⟩
    · replace w := w.1 p9 q9 (vz_nameNumber z9 w0)
      obtain ⟨Q9, E9, w0, w⟩ := w
      rcases h with ⟨p9, q9, z9, h⟩ | ⟨q9, z9, h⟩
      · replace w := w.1 p9 q9 (vz_nameNumber z9 w0)
        obtain ⟨Q9, E9, w0, w⟩ := w
        rcases h with ⟨p9, q9, z9, h⟩ | ⟨q9, z9, h⟩
        · replace w := w.1 p9 q9 (vz_needConstant z9 w0)
          obtain ⟨Q9, E9, w0, w⟩ := w
          rcases h with ⟨p9, q9, z9, h⟩ | ⟨q9, z9, h⟩
          · replace w := w.1 p9 q9 (vz_needConstant z9 w0)
            rw [h]
            exact w
          · replace w := w.2 q9 (vz_needConstant z9 w0)
            rw [h]
            exact w
        · replace w := w.2 q9 (vz_needConstant z9 w0)
          rw [h]
          exact w
      · replace w := w.2 q9 (vz_nameNumber z9 w0)
        rw [h]
        exact w
    · replace w := w.2 q9 (vz_nameNumber z9 w0)
      rw [h]
      exact w
  · replace w := w.2 q9 (vz_classNumber z9 w0)
    rw [h]
    exact w
def v_needOf_J108 (oo : (Int32 × MS) ⊕ MS) (U108 : MS) : Prop := (oo = .inl ((0 : Int32), U108))
def v_needOf (S : MS) (x1 : Int32) (oo : (Int32 × MS) ⊕ MS) : Prop := (d_op S x1 ∧ (((f_op S x1).toInt = 18 ∧ (d_first S x1 ∧ (d_isShort S (f_first S x1) ∧ (((f_isShort S (f_first S x1)).toInt = 0 ∧ (d_first S x1 ∧ ((∃ (r16 : Int32) (S17 : MS), v_needConstant S (3 : Int32) (0 : Int32) (0 : Int32) ((f_first S x1).toInt64) 10000032 (.inl (r16, S17)) ∧ (oo = .inl (r16, S17))) ∨ (∃ u9 : MS, v_needConstant S (3 : Int32) (0 : Int32) (0 : Int32) ((f_first S x1).toInt64) 10000032 (.inr u9) ∧ (oo = .inr u9))))) ∨ (¬ (f_isShort S (f_first S x1)).toInt = 0 ∧ (oo = .inl ((0 : Int32), S))))))) ∨ (¬ (f_op S x1).toInt = 18 ∧ (((f_op S x1).toInt = 20 ∧ (d_longOf S x1 ∧ (((lg_cmp (f_longOf S x1) 0).toInt = 0 ∧ (v_needOf_J108 oo S)) ∨ (¬ (lg_cmp (f_longOf S x1) 0).toInt = 0 ∧ (d_longOf S x1 ∧ (((lg_cmp (f_longOf S x1) 1).toInt = 0 ∧ (v_needOf_J108 oo S)) ∨ (¬ (lg_cmp (f_longOf S x1) 1).toInt = 0 ∧ (d_longOf S x1 ∧ ((∃ (r34 : Int32) (S35 : MS), v_needConstant S (5 : Int32) (0 : Int32) (0 : Int32) (f_longOf S x1) 10000032 (.inl (r34, S35)) ∧ (oo = .inl (r34, S35))) ∨ (∃ u9 : MS, v_needConstant S (5 : Int32) (0 : Int32) (0 : Int32) (f_longOf S x1) 10000032 (.inr u9) ∧ (oo = .inr u9))))))))))) ∨ (¬ (f_op S x1).toInt = 20 ∧ (((f_op S x1).toInt = 178 ∧ ((qR S 0 47 = some (qO S 0 47)) ∧ ((qR S (qO S 0 47) 5 = some (qO S (qO S 0 47) 5)) ∧ (d_first S x1 ∧ (((0 : Int) ≤ (f_first S x1).toInt ∧ (f_first S x1).toInt < (qN S (qO S (qO S 0 47) 5) : Int)) ∧ ((qR S (qO S (qO S 0 47) 5) (((f_first S x1).toInt).toNat) = some (qO S (qO S (qO S 0 47) 5) (((f_first S x1).toInt).toNat))) ∧ ((qR S 0 47 = some (qO S 0 47)) ∧ ((qR S (qO S 0 47) 6 = some (qO S (qO S 0 47) 6)) ∧ (d_first S x1 ∧ (((0 : Int) ≤ (f_first S x1).toInt ∧ (f_first S x1).toInt < (qN S (qO S (qO S 0 47) 6) : Int)) ∧ ((qR S (qO S (qO S 0 47) 6) (((f_first S x1).toInt).toNat) = some (qO S (qO S (qO S 0 47) 6) (((f_first S x1).toInt).toNat))) ∧ ((∃ (r58 : Int32) (S59 : MS), v_memberNumber S (9 : Int32) (qO S (qO S (qO S 0 47) 5) (((f_first S x1).toInt).toNat)) (qO S (qO S (qO S 0 47) 6) (((f_first S x1).toInt).toNat)) (.inl (r58, S59)) ∧ (oo = .inl (r58, S59))) ∨ (∃ u9 : MS, v_memberNumber S (9 : Int32) (qO S (qO S (qO S 0 47) 5) (((f_first S x1).toInt).toNat)) (qO S (qO S (qO S 0 47) 6) (((f_first S x1).toInt).toNat)) (.inr u9) ∧ (oo = .inr u9)))))))))))))) ∨ (¬ (f_op S x1).toInt = 178 ∧ (((f_op S x1).toInt = 179 ∧ ((qR S 0 47 = some (qO S 0 47)) ∧ ((qR S (qO S 0 47) 5 = some (qO S (qO S 0 47) 5)) ∧ (d_first S x1 ∧ (((0 : Int) ≤ (f_first S x1).toInt ∧ (f_first S x1).toInt < (qN S (qO S (qO S 0 47) 5) : Int)) ∧ ((qR S (qO S (qO S 0 47) 5) (((f_first S x1).toInt).toNat) = some (qO S (qO S (qO S 0 47) 5) (((f_first S x1).toInt).toNat))) ∧ ((qR S 0 47 = some (qO S 0 47)) ∧ ((qR S (qO S 0 47) 6 = some (qO S (qO S 0 47) 6)) ∧ (d_first S x1 ∧ (((0 : Int) ≤ (f_first S x1).toInt ∧ (f_first S x1).toInt < (qN S (qO S (qO S 0 47) 6) : Int)) ∧ ((qR S (qO S (qO S 0 47) 6) (((f_first S x1).toInt).toNat) = some (qO S (qO S (qO S 0 47) 6) (((f_first S x1).toInt).toNat))) ∧ ((∃ (r82 : Int32) (S83 : MS), v_memberNumber S (9 : Int32) (qO S (qO S (qO S 0 47) 5) (((f_first S x1).toInt).toNat)) (qO S (qO S (qO S 0 47) 6) (((f_first S x1).toInt).toNat)) (.inl (r82, S83)) ∧ (oo = .inl (r82, S83))) ∨ (∃ u9 : MS, v_memberNumber S (9 : Int32) (qO S (qO S (qO S 0 47) 5) (((f_first S x1).toInt).toNat)) (qO S (qO S (qO S 0 47) 6) (((f_first S x1).toInt).toNat)) (.inr u9) ∧ (oo = .inr u9)))))))))))))) ∨ (¬ (f_op S x1).toInt = 179 ∧ (((f_op S x1).toInt = 184 ∧ ((qR S 0 47 = some (qO S 0 47)) ∧ ((qR S (qO S 0 47) 8 = some (qO S (qO S 0 47) 8)) ∧ (d_first S x1 ∧ (((0 : Int) ≤ (f_first S x1).toInt ∧ (f_first S x1).toInt < (qN S (qO S (qO S 0 47) 8) : Int)) ∧ ((qR S (qO S (qO S 0 47) 8) (((f_first S x1).toInt).toNat) = some (qO S (qO S (qO S 0 47) 8) (((f_first S x1).toInt).toNat))) ∧ ((qR S 0 47 = some (qO S 0 47)) ∧ ((qR S (qO S 0 47) 9 = some (qO S (qO S 0 47) 9)) ∧ (d_first S x1 ∧ (((0 : Int) ≤ (f_first S x1).toInt ∧ (f_first S x1).toInt < (qN S (qO S (qO S 0 47) 9) : Int)) ∧ ((qR S (qO S (qO S 0 47) 9) (((f_first S x1).toInt).toNat) = some (qO S (qO S (qO S 0 47) 9) (((f_first S x1).toInt).toNat))) ∧ ((∃ (r106 : Int32) (S107 : MS), v_memberNumber S (10 : Int32) (qO S (qO S (qO S 0 47) 8) (((f_first S x1).toInt).toNat)) (qO S (qO S (qO S 0 47) 9) (((f_first S x1).toInt).toNat)) (.inl (r106, S107)) ∧ (oo = .inl (r106, S107))) ∨ (∃ u9 : MS, v_memberNumber S (10 : Int32) (qO S (qO S (qO S 0 47) 8) (((f_first S x1).toInt).toNat)) (qO S (qO S (qO S 0 47) 9) (((f_first S x1).toInt).toNat)) (.inr u9) ∧ (oo = .inr u9)))))))))))))) ∨ (¬ (f_op S x1).toInt = 184 ∧ (oo = .inl ((0 : Int32), S)))))))))))))
set_option maxRecDepth 100000 in
theorem ru_needOf_J108 {ι : Type} {P : (Int32 × MS) ⊕ MS → Prop} {Q : Int32 → MS → Prop} {E : MS → Prop} {U108 : MS} (i0 : ι) (K : ∀ (i : ι) (oo : (Int32 × MS) ⊕ MS), v_needOf_J108 oo U108 → P oo) (h : w_needOf_J108 Q E U108) : ∃ oo, P oo ∧ oQ Q E oo := by
  unfold w_needOf_J108 at h
  exact ⟨.inl (_, _), K i0 _ rfl, h⟩
set_option maxRecDepth 100000 in
theorem ru_needOf {S : MS} {x1 : Int32} {Q : Int32 → MS → Prop} {E : MS → Prop} (h : w_needOf S x1 Q E) : ∃ oo, v_needOf S x1 oo ∧ oQ Q E oo := by
  have i0 : Unit := ()
  have K : ∀ (i : Unit) (oo : (Int32 × MS) ⊕ MS), v_needOf S x1 oo → v_needOf S x1 oo := fun _ _ z => z
  unfold w_needOf at h
  obtain ⟨g1_, h⟩ := h
  replace K := fun i oo z => K i oo ⟨g1_, z⟩
  by_cases c : (f_op S x1).toInt = 18
  · replace h := h.1 c
    replace K := fun i oo z => K i oo (Or.inl ⟨c, z⟩)
    obtain ⟨g2_, h⟩ := h
    replace K := fun i oo z => K i oo ⟨g2_, z⟩
    obtain ⟨g3_, h⟩ := h
    replace K := fun i oo z => K i oo ⟨g3_, z⟩
    by_cases c : (f_isShort S (f_first S x1)).toInt = 0
    · replace h := h.1 c
      replace K := fun i oo z => K i oo (Or.inl ⟨c, z⟩)
      obtain ⟨g4_, h⟩ := h
      replace K := fun i oo z => K i oo ⟨g4_, z⟩
      obtain ⟨Q9, E9, h0, h⟩ := h
      obtain ⟨o9, z9, g9⟩ := ru_needConstant h0
      rcases o9 with ⟨r16, S17⟩ | u9
      · replace h := h.1 r16 S17 g9
        replace K := fun i oo z => K i oo (Or.inl ⟨r16, S17, z9, z⟩)
        exact ⟨.inl (_, _), K i0 _ rfl, h⟩
      · replace h := h.2 u9 g9
        replace K := fun i oo z => K i oo (Or.inr ⟨u9, z9, z⟩)
        exact ⟨.inr u9, K i0 _ rfl, h⟩
    · replace h := h.2 c
      replace K := fun i oo z => K i oo (Or.inr ⟨c, z⟩)
      exact ⟨.inl (_, _), K i0 _ rfl, h⟩
  · replace h := h.2 c
    replace K := fun i oo z => K i oo (Or.inr ⟨c, z⟩)
    by_cases c : (f_op S x1).toInt = 20
    · replace h := h.1 c
      replace K := fun i oo z => K i oo (Or.inl ⟨c, z⟩)
      obtain ⟨g5_, h⟩ := h
      replace K := fun i oo z => K i oo ⟨g5_, z⟩
      by_cases c : (lg_cmp (f_longOf S x1) 0).toInt = 0
      · replace h := h.1 c
        replace K := fun i oo z => K i oo (Or.inl ⟨c, z⟩)
        exact ru_needOf_J108 i0 K h
      · replace h := h.2 c
        replace K := fun i oo z => K i oo (Or.inr ⟨c, z⟩)
        obtain ⟨g6_, h⟩ := h
        replace K := fun i oo z => K i oo ⟨g6_, z⟩
        by_cases c : (lg_cmp (f_longOf S x1) 1).toInt = 0
        · replace h := h.1 c
          replace K := fun i oo z => K i oo (Or.inl ⟨c, z⟩)
          exact ru_needOf_J108 i0 K h
        · replace h := h.2 c
          replace K := fun i oo z => K i oo (Or.inr ⟨c, z⟩)
          obtain ⟨g7_, h⟩ := h
          replace K := fun i oo z => K i oo ⟨g7_, z⟩
          obtain ⟨Q9, E9, h0, h⟩ := h
          obtain ⟨o9, z9, g9⟩ := ru_needConstant h0
          rcases o9 with ⟨r34, S35⟩ | u9
          · replace h := h.1 r34 S35 g9
            replace K := fun i oo z => K i oo (Or.inl ⟨r34, S35, z9, z⟩)
            exact ⟨.inl (_, _), K i0 _ rfl, h⟩
          · replace h := h.2 u9 g9
            replace K := fun i oo z => K i oo (Or.inr ⟨u9, z9, z⟩)
            exact ⟨.inr u9, K i0 _ rfl, h⟩
    · replace h := h.2 c
      replace K := fun i oo z => K i oo (Or.inr ⟨c, z⟩)
      by_cases c : (f_op S x1).toInt = 178
      · replace h := h.1 c
        replace K := fun i oo z => K i oo (Or.inl ⟨c, z⟩)
        obtain ⟨g8_, h⟩ := h
        replace K := fun i oo z => K i oo ⟨g8_, z⟩
        obtain ⟨g9_, h⟩ := h
        replace K := fun i oo z => K i oo ⟨g9_, z⟩
        obtain ⟨g10_, h⟩ := h
        replace K := fun i oo z => K i oo ⟨g10_, z⟩
        obtain ⟨g11_, h⟩ := h
        replace K := fun i oo z => K i oo ⟨g11_, z⟩
        obtain ⟨g12_, h⟩ := h
        replace K := fun i oo z => K i oo ⟨g12_, z⟩
        obtain ⟨g13_, h⟩ := h
        replace K := fun i oo z => K i oo ⟨g13_, z⟩
        obtain ⟨g14_, h⟩ := h
        replace K := fun i oo z => K i oo ⟨g14_, z⟩
        obtain ⟨g15_, h⟩ := h
        replace K := fun i oo z => K i oo ⟨g15_, z⟩
        obtain ⟨g16_, h⟩ := h
        replace K := fun i oo z => K i oo ⟨g16_, z⟩
        obtain ⟨g17_, h⟩ := h
        replace K := fun i oo z => K i oo ⟨g17_, z⟩
        obtain ⟨Q9, E9, h0, h⟩ := h
        obtain ⟨o9, z9, g9⟩ := ru_memberNumber h0
        rcases o9 with ⟨r58, S59⟩ | u9
        · replace h := h.1 r58 S59 g9
          replace K := fun i oo z => K i oo (Or.inl ⟨r58, S59, z9, z⟩)
          exact ⟨.inl (_, _), K i0 _ rfl, h⟩
        · replace h := h.2 u9 g9
          replace K := fun i oo z => K i oo (Or.inr ⟨u9, z9, z⟩)
          exact ⟨.inr u9, K i0 _ rfl, h⟩
      · replace h := h.2 c
        replace K := fun i oo z => K i oo (Or.inr ⟨c, z⟩)
        by_cases c : (f_op S x1).toInt = 179
        · replace h := h.1 c
          replace K := fun i oo z => K i oo (Or.inl ⟨c, z⟩)
          obtain ⟨g18_, h⟩ := h
          replace K := fun i oo z => K i oo ⟨g18_, z⟩
          obtain ⟨g19_, h⟩ := h
          replace K := fun i oo z => K i oo ⟨g19_, z⟩
          obtain ⟨g20_, h⟩ := h
          replace K := fun i oo z => K i oo ⟨g20_, z⟩
          obtain ⟨g21_, h⟩ := h
          replace K := fun i oo z => K i oo ⟨g21_, z⟩
          obtain ⟨g22_, h⟩ := h
          replace K := fun i oo z => K i oo ⟨g22_, z⟩
          obtain ⟨g23_, h⟩ := h
          replace K := fun i oo z => K i oo ⟨g23_, z⟩
          obtain ⟨g24_, h⟩ := h
          replace K := fun i oo z => K i oo ⟨g24_, z⟩
          obtain ⟨g25_, h⟩ := h
          replace K := fun i oo z => K i oo ⟨g25_, z⟩
          obtain ⟨g26_, h⟩ := h
          replace K := fun i oo z => K i oo ⟨g26_, z⟩
          obtain ⟨g27_, h⟩ := h
          replace K := fun i oo z => K i oo ⟨g27_, z⟩
          obtain ⟨Q9, E9, h0, h⟩ := h
          obtain ⟨o9, z9, g9⟩ := ru_memberNumber h0
          rcases o9 with ⟨r82, S83⟩ | u9
          · replace h := h.1 r82 S83 g9
            replace K := fun i oo z => K i oo (Or.inl ⟨r82, S83, z9, z⟩)
            exact ⟨.inl (_, _), K i0 _ rfl, h⟩
          · replace h := h.2 u9 g9
            replace K := fun i oo z => K i oo (Or.inr ⟨u9, z9, z⟩)
            exact ⟨.inr u9, K i0 _ rfl, h⟩
        · replace h := h.2 c
          replace K := fun i oo z => K i oo (Or.inr ⟨c, z⟩)
          by_cases c : (f_op S x1).toInt = 184
          · replace h := h.1 c
            replace K := fun i oo z => K i oo (Or.inl ⟨c, z⟩)
            obtain ⟨g28_, h⟩ := h
            replace K := fun i oo z => K i oo ⟨g28_, z⟩
            obtain ⟨g29_, h⟩ := h
            replace K := fun i oo z => K i oo ⟨g29_, z⟩
            obtain ⟨g30_, h⟩ := h
            replace K := fun i oo z => K i oo ⟨g30_, z⟩
            obtain ⟨g31_, h⟩ := h
            replace K := fun i oo z => K i oo ⟨g31_, z⟩
            obtain ⟨g32_, h⟩ := h
            replace K := fun i oo z => K i oo ⟨g32_, z⟩
            obtain ⟨g33_, h⟩ := h
            replace K := fun i oo z => K i oo ⟨g33_, z⟩
            obtain ⟨g34_, h⟩ := h
            replace K := fun i oo z => K i oo ⟨g34_, z⟩
            obtain ⟨g35_, h⟩ := h
            replace K := fun i oo z => K i oo ⟨g35_, z⟩
            obtain ⟨g36_, h⟩ := h
            replace K := fun i oo z => K i oo ⟨g36_, z⟩
            obtain ⟨g37_, h⟩ := h
            replace K := fun i oo z => K i oo ⟨g37_, z⟩
            obtain ⟨Q9, E9, h0, h⟩ := h
            obtain ⟨o9, z9, g9⟩ := ru_memberNumber h0
            rcases o9 with ⟨r106, S107⟩ | u9
            · replace h := h.1 r106 S107 g9
              replace K := fun i oo z => K i oo (Or.inl ⟨r106, S107, z9, z⟩)
              exact ⟨.inl (_, _), K i0 _ rfl, h⟩
            · replace h := h.2 u9 g9
              replace K := fun i oo z => K i oo (Or.inr ⟨u9, z9, z⟩)
              exact ⟨.inr u9, K i0 _ rfl, h⟩
          · replace h := h.2 c
            replace K := fun i oo z => K i oo (Or.inr ⟨c, z⟩)
            exact ⟨.inl (_, _), K i0 _ rfl, h⟩
set_option maxRecDepth 100000 in
theorem vw_needOf_J108 {oo : (Int32 × MS) ⊕ MS} {U108 : MS} (h : v_needOf_J108 oo U108) : w_needOf_J108 (fun r u => oo = .inl (r, u)) (fun u => oo = .inr u) U108 := by
  unfold v_needOf_J108 at h
  unfold w_needOf_J108
  exact h
set_option maxRecDepth 100000 in
theorem vz_needOf_J108 {oo : (Int32 × MS) ⊕ MS} {Q : Int32 → MS → Prop} {E : MS → Prop} {U108 : MS} (h : v_needOf_J108 oo U108) (w : w_needOf_J108 Q E U108) : oQ Q E oo := by
  unfold v_needOf_J108 at h
  unfold w_needOf_J108 at w
  rw [h]
  exact w
set_option maxRecDepth 100000 in
theorem vw_needOf {S : MS} {x1 : Int32} {oo : (Int32 × MS) ⊕ MS} (h : v_needOf S x1 oo) : w_needOf S x1 (fun r u => oo = .inl (r, u)) (fun u => oo = .inr u) := by
  unfold v_needOf at h
  unfold w_needOf
  obtain ⟨g9, h⟩ := h
  refine ⟨g9, ?_⟩
  rcases h with ⟨c, h⟩ | ⟨c, h⟩
  · refine ⟨fun _ => ?_, fun c2 => absurd c c2⟩
    obtain ⟨g9, h⟩ := h
    refine ⟨g9, ?_⟩
    obtain ⟨g9, h⟩ := h
    refine ⟨g9, ?_⟩
    rcases h with ⟨c, h⟩ | ⟨c, h⟩
    · refine ⟨fun _ => ?_, fun c2 => absurd c c2⟩
      obtain ⟨g9, h⟩ := h
      refine ⟨g9, ?_⟩
      rcases h with ⟨p9, q9, z9, h⟩ | ⟨q9, z9, h⟩
      · refine ⟨_, _, vw_needConstant z9, ?_, ?_⟩
        · intro p8 q8 d9
          injection d9 with d9
          injection d9 with d8 d9
          subst d8
          subst d9
          exact h
        · intro q8 d9
          exact nomatch d9
      · refine ⟨_, _, vw_needConstant z9, ?_, ?_⟩
        · intro p8 q8 d9
          exact nomatch d9
        · intro q8 d9
          injection d9 with d9
          subst d9
          exact h
    · refine ⟨fun c2 => absurd c2 c, fun _ => ?_⟩
      exact h
  · refine ⟨fun c2 => absurd c2 c, fun _ => ?_⟩
    rcases h with ⟨c, h⟩ | ⟨c, h⟩
    · refine ⟨fun _ => ?_, fun c2 => absurd c c2⟩
      obtain ⟨g9, h⟩ := h
      refine ⟨g9, ?_⟩
      rcases h with ⟨c, h⟩ | ⟨c, h⟩
      · refine ⟨fun _ => ?_, fun c2 => absurd c c2⟩
        exact vw_needOf_J108 h
      · refine ⟨fun c2 => absurd c2 c, fun _ => ?_⟩
        obtain ⟨g9, h⟩ := h
        refine ⟨g9, ?_⟩
        rcases h with ⟨c, h⟩ | ⟨c, h⟩
        · refine ⟨fun _ => ?_, fun c2 => absurd c c2⟩
          exact vw_needOf_J108 h
        · refine ⟨fun c2 => absurd c2 c, fun _ => ?_⟩
          obtain ⟨g9, h⟩ := h
          refine ⟨g9, ?_⟩
          rcases h with ⟨p9, q9, z9, h⟩ | ⟨q9, z9, h⟩
          · refine ⟨_, _, vw_needConstant z9, ?_, ?_⟩
            · intro p8 q8 d9
              injection d9 with d9
              injection d9 with d8 d9
              subst d8
              subst d9
              exact h
            · intro q8 d9
              exact nomatch d9
          · refine ⟨_, _, vw_needConstant z9, ?_, ?_⟩
            · intro p8 q8 d9
              exact nomatch d9
            · intro q8 d9
              injection d9 with d9
              subst d9
              exact h
    · refine ⟨fun c2 => absurd c2 c, fun _ => ?_⟩
      rcases h with ⟨c, h⟩ | ⟨c, h⟩
      · refine ⟨fun _ => ?_, fun c2 => absurd c c2⟩
        obtain ⟨g9, h⟩ := h
        refine ⟨g9, ?_⟩
        obtain ⟨g9, h⟩ := h
        refine ⟨g9, ?_⟩
        obtain ⟨g9, h⟩ := h
        refine ⟨g9, ?_⟩
        obtain ⟨g9, h⟩ := h
        refine ⟨g9, ?_⟩
        obtain ⟨g9, h⟩ := h
        refine ⟨g9, ?_⟩
        obtain ⟨g9, h⟩ := h
        refine ⟨g9, ?_⟩
        obtain ⟨g9, h⟩ := h
        refine ⟨g9, ?_⟩
        obtain ⟨g9, h⟩ := h
        refine ⟨g9, ?_⟩
        obtain ⟨g9, h⟩ := h
        refine ⟨g9, ?_⟩
        obtain ⟨g9, h⟩ := h
        refine ⟨g9, ?_⟩
        rcases h with ⟨p9, q9, z9, h⟩ | ⟨q9, z9, h⟩
        · refine ⟨_, _, vw_memberNumber z9, ?_, ?_⟩
          · intro p8 q8 d9
            injection d9 with d9
            injection d9 with d8 d9
            subst d8
            subst d9
            exact h
          · intro q8 d9
            exact nomatch d9
        · refine ⟨_, _, vw_memberNumber z9, ?_, ?_⟩
          · intro p8 q8 d9
            exact nomatch d9
          · intro q8 d9
            injection d9 with d9
            subst d9
            exact h
      · refine ⟨fun c2 => absurd c2 c, fun _ => ?_⟩
        rcases h with ⟨c, h⟩ | ⟨c, h⟩
        · refine ⟨fun _ => ?_, fun c2 => absurd c c2⟩
          obtain ⟨g9, h⟩ := h
          refine ⟨g9, ?_⟩
          obtain ⟨g9, h⟩ := h
          refine ⟨g9, ?_⟩
          obtain ⟨g9, h⟩ := h
          refine ⟨g9, ?_⟩
          obtain ⟨g9, h⟩ := h
          refine ⟨g9, ?_⟩
          obtain ⟨g9, h⟩ := h
          refine ⟨g9, ?_⟩
          obtain ⟨g9, h⟩ := h
          refine ⟨g9, ?_⟩
          obtain ⟨g9, h⟩ := h
          refine ⟨g9, ?_⟩
          obtain ⟨g9, h⟩ := h
          refine ⟨g9, ?_⟩
          obtain ⟨g9, h⟩ := h
          refine ⟨g9, ?_⟩
          obtain ⟨g9, h⟩ := h
          refine ⟨g9, ?_⟩
          rcases h with ⟨p9, q9, z9, h⟩ | ⟨q9, z9, h⟩
          · refine ⟨_, _, vw_memberNumber z9, ?_, ?_⟩
            · intro p8 q8 d9
              injection d9 with d9
              injection d9 with d8 d9
              subst d8
              subst d9
              exact h
            · intro q8 d9
              exact nomatch d9
          · refine ⟨_, _, vw_memberNumber z9, ?_, ?_⟩
            · intro p8 q8 d9
              exact nomatch d9
            · intro q8 d9
              injection d9 with d9
              subst d9
              exact h
        · refine ⟨fun c2 => absurd c2 c, fun _ => ?_⟩
          rcases h with ⟨c, h⟩ | ⟨c, h⟩
          · refine ⟨fun _ => ?_, fun c2 => absurd c c2⟩
            obtain ⟨g9, h⟩ := h
            refine ⟨g9, ?_⟩
            obtain ⟨g9, h⟩ := h
            refine ⟨g9, ?_⟩
            obtain ⟨g9, h⟩ := h
            refine ⟨g9, ?_⟩
            obtain ⟨g9, h⟩ := h
            refine ⟨g9, ?_⟩
            obtain ⟨g9, h⟩ := h
            refine ⟨g9, ?_⟩
            obtain ⟨g9, h⟩ := h
            refine ⟨g9, ?_⟩
            obtain ⟨g9, h⟩ := h
            refine ⟨g9, ?_⟩
            obtain ⟨g9, h⟩ := h
            refine ⟨g9, ?_⟩
            obtain ⟨g9, h⟩ := h
            refine ⟨g9, ?_⟩
            obtain ⟨g9, h⟩ := h
            refine ⟨g9, ?_⟩
            rcases h with ⟨p9, q9, z9, h⟩ | ⟨q9, z9, h⟩
            · refine ⟨_, _, vw_memberNumber z9, ?_, ?_⟩
              · intro p8 q8 d9
                injection d9 with d9
                injection d9 with d8 d9
                subst d8
                subst d9
                exact h
              · intro q8 d9
                exact nomatch d9
            · refine ⟨_, _, vw_memberNumber z9, ?_, ?_⟩
              · intro p8 q8 d9
                exact nomatch d9
              · intro q8 d9
                injection d9 with d9
                subst d9
                exact h
          · refine ⟨fun c2 => absurd c2 c, fun _ => ?_⟩
            exact h
set_option maxRecDepth 100000 in
theorem vz_needOf {S : MS} {x1 : Int32} {oo : (Int32 × MS) ⊕ MS} {Q : Int32 → MS → Prop} {E : MS → Prop} (h : v_needOf S x1 oo) (w : w_needOf S x1 Q E) : oQ Q E oo := by
  unfold v_needOf at h
  unfold w_needOf at w
  replace h := h.2
  replace w := w.2
  rcases h with ⟨c, h⟩ | ⟨c, h⟩
  · replace w := w.1 c
    replace h := h.2
    replace w := w.2
    replace h := h.2
    replace w := w.2
    rcases h with ⟨c, h⟩ | ⟨c, h⟩
    · replace w := w.1 c
      replace h := h.2
      replace w := w.2
      obtain ⟨Q9, E9, w0, w⟩ := w
      rcases h with ⟨p9, q9, z9, h⟩ | ⟨q9, z9, h⟩
      · replace w := w.1 p9 q9 (vz_needConstant z9 w0)
        rw [h]
        exact w
      · replace w := w.2 q9 (vz_needConstant z9 w0)
        rw [h]
        exact w
    · replace w := w.2 c
      rw [h]
      exact w
  · replace w := w.2 c
    rcases h with ⟨c, h⟩ | ⟨c, h⟩
    · replace w := w.1 c
      replace h := h.2
      replace w := w.2
      rcases h with ⟨c, h⟩ | ⟨c, h⟩
      · replace w := w.1 c
        exact vz_needOf_J108 h w
      · replace w := w.2 c
        replace h := h.2
        replace w := w.2
        rcases h with ⟨c, h⟩ | ⟨c, h⟩
        · replace w := w.1 c
          exact vz_needOf_J108 h w
        · replace w := w.2 c
          replace h := h.2
          replace w := w.2
          obtain ⟨Q9, E9, w0, w⟩ := w
          rcases h with ⟨p9, q9, z9, h⟩ | ⟨q9, z9, h⟩
          · replace w := w.1 p9 q9 (vz_needConstant z9 w0)
            rw [h]
            exact w
          · replace w := w.2 q9 (vz_needConstant z9 w0)
            rw [h]
            exact w
    · replace w := w.2 c
      rcases h with ⟨c, h⟩ | ⟨c, h⟩
      · replace w := w.1 c
        replace h := h.2
        replace w := w.2
        replace h := h.2
        replace w := w.2
        replace h := h.2
        replace w := w.2
        replace h := h.2
        replace w := w.2
        replace h := h.2
        replace w := w.2
        replace h := h.2
        replace w := w.2
        replace h := h.2
        replace w := w.2
        replace h := h.2
        replace w := w.2
        replace h := h.2
        replace w := w.2
        replace h := h.2
        replace w := w.2
        obtain ⟨Q9, E9, w0, w⟩ := w
        rcases h with ⟨p9, q9, z9, h⟩ | ⟨q9, z9, h⟩
        · replace w := w.1 p9 q9 (vz_memberNumber z9 w0)
          rw [h]
          exact w
        · replace w := w.2 q9 (vz_memberNumber z9 w0)
          rw [h]
          exact w
      · replace w := w.2 c
        rcases h with ⟨c, h⟩ | ⟨c, h⟩
        · replace w := w.1 c
          replace h := h.2
          replace w := w.2
          replace h := h.2
          replace w := w.2
          replace h := h.2
          replace w := w.2
          replace h := h.2
          replace w := w.2
          replace h := h.2
          replace w := w.2
          replace h := h.2
          replace w := w.2
          replace h := h.2
          replace w := w.2
          replace h := h.2
          replace w := w.2
          replace h := h.2
          replace w := w.2
          replace h := h.2
          replace w := w.2
          obtain ⟨Q9, E9, w0, w⟩ := w
          rcases h with ⟨p9, q9, z9, h⟩ | ⟨q9, z9, h⟩
          · replace w := w.1 p9 q9 (vz_memberNumber z9 w0)
            rw [h]
            exact w
          · replace w := w.2 q9 (vz_memberNumber z9 w0)
            rw [h]
            exact w
        · replace w := w.2 c
          rcases h with ⟨c, h⟩ | ⟨c, h⟩
          · replace w := w.1 c
            replace h := h.2
            replace w := w.2
            replace h := h.2
            replace w := w.2
            replace h := h.2
            replace w := w.2
            replace h := h.2
            replace w := w.2
            replace h := h.2
            replace w := w.2
            replace h := h.2
            replace w := w.2
            replace h := h.2
            replace w := w.2
            replace h := h.2
            replace w := w.2
            replace h := h.2
            replace w := w.2
            replace h := h.2
            replace w := w.2
            obtain ⟨Q9, E9, w0, w⟩ := w
            rcases h with ⟨p9, q9, z9, h⟩ | ⟨q9, z9, h⟩
            · replace w := w.1 p9 q9 (vz_memberNumber z9 w0)
              rw [h]
              exact w
            · replace w := w.2 q9 (vz_memberNumber z9 w0)
              rw [h]
              exact w
          · replace w := w.2 c
            rw [h]
            exact w
def v_bytesOf_J191 (oo : (Int32 × MS) ⊕ MS) (U191 : MS) : Prop := (oo = .inl ((3 : Int32), U191))
def v_bytesOf_J160 (oo : (Int32 × MS) ⊕ MS) (U160 : MS) (v160_1 : Int32) (v160_4 : Int32) : Prop := (d_isByte U160 v160_4 ∧ (((f_isByte U160 v160_4).toInt = 0 ∧ (d_isShort U160 v160_4 ∧ (((f_isShort U160 v160_4).toInt = 0 ∧ ((∃ (r18 : Int32) (S19 : MS), v_needOf U160 v160_1 (.inl (r18, S19)) ∧ ((r18.toInt ≤ 255 ∧ (oo = .inl ((2 : Int32), S19))) ∨ (¬ r18.toInt ≤ 255 ∧ (v_bytesOf_J191 oo S19)))) ∨ (∃ u9 : MS, v_needOf U160 v160_1 (.inr u9) ∧ (oo = .inr u9)))) ∨ (¬ (f_isShort U160 v160_4).toInt = 0 ∧ (v_bytesOf_J191 oo U160))))) ∨ (¬ (f_isByte U160 v160_4).toInt = 0 ∧ (oo = .inl ((2 : Int32), U160)))))
def v_bytesOf_J217 (oo : (Int32 × MS) ⊕ MS) (U217 : MS) : Prop := (oo = .inl ((1 : Int32), U217))
def v_bytesOf (S : MS) (x1 : Int32) (x2 : Int32) (oo : (Int32 × MS) ⊕ MS) : Prop := (d_op S x1 ∧ (∃ a4 : Int32, a4 = (f_op S x1) ∧ (d_first S x1 ∧ (∃ a8 : Int32, a8 = (f_first S x1) ∧ ((a4.toInt = 18 ∧ ((a8.toInt < (-1) ∧ (v_bytesOf_J160 oo S x1 a8)) ∨ (¬ a8.toInt < (-1) ∧ ((5 < a8.toInt ∧ (v_bytesOf_J160 oo S x1 a8)) ∨ (¬ 5 < a8.toInt ∧ (oo = .inl ((1 : Int32), S))))))) ∨ (¬ a4.toInt = 18 ∧ ((a4.toInt = 20 ∧ (d_longOf S x1 ∧ (((lg_cmp (f_longOf S x1) 0).toInt = 0 ∧ (v_bytesOf_J217 oo S)) ∨ (¬ (lg_cmp (f_longOf S x1) 0).toInt = 0 ∧ (d_longOf S x1 ∧ (((lg_cmp (f_longOf S x1) 1).toInt = 0 ∧ (v_bytesOf_J217 oo S)) ∨ (¬ (lg_cmp (f_longOf S x1) 1).toInt = 0 ∧ (oo = .inl ((3 : Int32), S))))))))) ∨ (¬ a4.toInt = 20 ∧ ((a4.toInt = 21 ∧ ((4 ≤ a8.toInt ∧ (oo = .inl ((2 : Int32), S))) ∨ (¬ 4 ≤ a8.toInt ∧ (oo = .inl ((1 : Int32), S))))) ∨ (¬ a4.toInt = 21 ∧ ((a4.toInt = 22 ∧ ((4 ≤ a8.toInt ∧ (oo = .inl ((2 : Int32), S))) ∨ (¬ 4 ≤ a8.toInt ∧ (oo = .inl ((1 : Int32), S))))) ∨ (¬ a4.toInt = 22 ∧ ((a4.toInt = 25 ∧ ((4 ≤ a8.toInt ∧ (oo = .inl ((2 : Int32), S))) ∨ (¬ 4 ≤ a8.toInt ∧ (oo = .inl ((1 : Int32), S))))) ∨ (¬ a4.toInt = 25 ∧ ((a4.toInt = 54 ∧ ((4 ≤ a8.toInt ∧ (oo = .inl ((2 : Int32), S))) ∨ (¬ 4 ≤ a8.toInt ∧ (oo = .inl ((1 : Int32), S))))) ∨ (¬ a4.toInt = 54 ∧ ((a4.toInt = 55 ∧ ((4 ≤ a8.toInt ∧ (oo = .inl ((2 : Int32), S))) ∨ (¬ 4 ≤ a8.toInt ∧ (oo = .inl ((1 : Int32), S))))) ∨ (¬ a4.toInt = 55 ∧ ((a4.toInt = 58 ∧ ((4 ≤ a8.toInt ∧ (oo = .inl ((2 : Int32), S))) ∨ (¬ 4 ≤ a8.toInt ∧ (oo = .inl ((1 : Int32), S))))) ∨ (¬ a4.toInt = 58 ∧ ((a4.toInt = 132 ∧ (d_second S x1 ∧ (d_isByte S (f_second S x1) ∧ (((f_isByte S (f_second S x1)).toInt = 0 ∧ (oo = .inl ((6 : Int32), S))) ∨ (¬ (f_isByte S (f_second S x1)).toInt = 0 ∧ (oo = .inl ((3 : Int32), S))))))) ∨ (¬ a4.toInt = 132 ∧ ((a4.toInt = 170 ∧ (d_switchFrom S x2 ∧ (d_second S x1 ∧ (oo = .inl (((((f_switchFrom S x2) - x2) + (12 : Int32)) + ((4 : Int32) * (f_second S x1))), S))))) ∨ (¬ a4.toInt = 170 ∧ ((a4.toInt = 171 ∧ (d_switchFrom S x2 ∧ (d_second S x1 ∧ (oo = .inl (((((f_switchFrom S x2) - x2) + (8 : Int32)) + ((8 : Int32) * (f_second S x1))), S))))) ∨ (¬ a4.toInt = 171 ∧ ((a4.toInt = 178 ∧ (oo = .inl ((3 : Int32), S))) ∨ (¬ a4.toInt = 178 ∧ ((a4.toInt = 179 ∧ (oo = .inl ((3 : Int32), S))) ∨ (¬ a4.toInt = 179 ∧ ((a4.toInt = 184 ∧ (oo = .inl ((3 : Int32), S))) ∨ (¬ a4.toInt = 184 ∧ ((a4.toInt = 188 ∧ (oo = .inl ((2 : Int32), S))) ∨ (¬ a4.toInt = 188 ∧ (d_isJump S a4 ∧ (((f_isJump S a4).toInt = 0 ∧ (oo = .inl ((1 : Int32), S))) ∨ (¬ (f_isJump S a4).toInt = 0 ∧ (oo = .inl ((3 : Int32), S)))))))))))))))))))))))))))))))))))))))
set_option maxRecDepth 100000 in
theorem ru_bytesOf_J191 {ι : Type} {P : (Int32 × MS) ⊕ MS → Prop} {Q : Int32 → MS → Prop} {E : MS → Prop} {U191 : MS} (i0 : ι) (K : ∀ (i : ι) (oo : (Int32 × MS) ⊕ MS), v_bytesOf_J191 oo U191 → P oo) (h : w_bytesOf_J191 Q E U191) : ∃ oo, P oo ∧ oQ Q E oo := by
  unfold w_bytesOf_J191 at h
  exact ⟨.inl (_, _), K i0 _ rfl, h⟩
set_option maxRecDepth 100000 in
theorem ru_bytesOf_J160 {ι : Type} {P : (Int32 × MS) ⊕ MS → Prop} {Q : Int32 → MS → Prop} {E : MS → Prop} {U160 : MS} {v160_1 : Int32} {v160_4 : Int32} (i0 : ι) (K : ∀ (i : ι) (oo : (Int32 × MS) ⊕ MS), v_bytesOf_J160 oo U160 v160_1 v160_4 → P oo) (h : w_bytesOf_J160 Q E U160 v160_1 v160_4) : ∃ oo, P oo ∧ oQ Q E oo := by
  unfold w_bytesOf_J160 at h
  obtain ⟨g1_, h⟩ := h
  replace K := fun i oo z => K i oo ⟨g1_, z⟩
  by_cases c : (f_isByte U160 v160_4).toInt = 0
  · replace h := h.1 c
    replace K := fun i oo z => K i oo (Or.inl ⟨c, z⟩)
    obtain ⟨g2_, h⟩ := h
    replace K := fun i oo z => K i oo ⟨g2_, z⟩
    by_cases c : (f_isShort U160 v160_4).toInt = 0
    · replace h := h.1 c
      replace K := fun i oo z => K i oo (Or.inl ⟨c, z⟩)
      obtain ⟨Q9, E9, h0, h⟩ := h
      obtain ⟨o9, z9, g9⟩ := ru_needOf h0
      rcases o9 with ⟨r18, S19⟩ | u9
      · replace h := h.1 r18 S19 g9
        replace K := fun i oo z => K i oo (Or.inl ⟨r18, S19, z9, z⟩)
        by_cases c : r18.toInt ≤ 255
        · replace h := h.1 c
          replace K := fun i oo z => K i oo (Or.inl ⟨c, z⟩)
          exact ⟨.inl (_, _), K i0 _ rfl, h⟩
        · replace h := h.2 c
          replace K := fun i oo z => K i oo (Or.inr ⟨c, z⟩)
          exact ru_bytesOf_J191 i0 K h
      · replace h := h.2 u9 g9
        replace K := fun i oo z => K i oo (Or.inr ⟨u9, z9, z⟩)
        exact ⟨.inr u9, K i0 _ rfl, h⟩
    · replace h := h.2 c
      replace K := fun i oo z => K i oo (Or.inr ⟨c, z⟩)
      exact ru_bytesOf_J191 i0 K h
  · replace h := h.2 c
    replace K := fun i oo z => K i oo (Or.inr ⟨c, z⟩)
    exact ⟨.inl (_, _), K i0 _ rfl, h⟩
set_option maxRecDepth 100000 in
theorem ru_bytesOf_J217 {ι : Type} {P : (Int32 × MS) ⊕ MS → Prop} {Q : Int32 → MS → Prop} {E : MS → Prop} {U217 : MS} (i0 : ι) (K : ∀ (i : ι) (oo : (Int32 × MS) ⊕ MS), v_bytesOf_J217 oo U217 → P oo) (h : w_bytesOf_J217 Q E U217) : ∃ oo, P oo ∧ oQ Q E oo := by
  unfold w_bytesOf_J217 at h
  exact ⟨.inl (_, _), K i0 _ rfl, h⟩
set_option maxRecDepth 100000 in
theorem ru_bytesOf {S : MS} {x1 : Int32} {x2 : Int32} {Q : Int32 → MS → Prop} {E : MS → Prop} (h : w_bytesOf S x1 x2 Q E) : ∃ oo, v_bytesOf S x1 x2 oo ∧ oQ Q E oo := by
  have i0 : Unit := ()
  have K : ∀ (i : Unit) (oo : (Int32 × MS) ⊕ MS), v_bytesOf S x1 x2 oo → v_bytesOf S x1 x2 oo := fun _ _ z => z
  unfold w_bytesOf at h
  obtain ⟨g3_, h⟩ := h
  replace K := fun i oo z => K i oo ⟨g3_, z⟩
  obtain ⟨a4, ea4⟩ : ∃ x9 : Int32, x9 = (f_op S x1) := ⟨_, rfl⟩
  replace h := h a4 ea4
  replace K := fun i oo z => K i oo ⟨a4, ea4, z⟩
  obtain ⟨g4_, h⟩ := h
  replace K := fun i oo z => K i oo ⟨g4_, z⟩
  obtain ⟨a8, ea8⟩ : ∃ x9 : Int32, x9 = (f_first S x1) := ⟨_, rfl⟩
  replace h := h a8 ea8
  replace K := fun i oo z => K i oo ⟨a8, ea8, z⟩
  by_cases c : a4.toInt = 18
  · replace h := h.1 c
    replace K := fun i oo z => K i oo (Or.inl ⟨c, z⟩)
    by_cases c : a8.toInt < (-1)
    · replace h := h.1 c
      replace K := fun i oo z => K i oo (Or.inl ⟨c, z⟩)
      exact ru_bytesOf_J160 i0 K h
    · replace h := h.2 c
      replace K := fun i oo z => K i oo (Or.inr ⟨c, z⟩)
      by_cases c : 5 < a8.toInt
      · replace h := h.1 c
        replace K := fun i oo z => K i oo (Or.inl ⟨c, z⟩)
        exact ru_bytesOf_J160 i0 K h
      · replace h := h.2 c
        replace K := fun i oo z => K i oo (Or.inr ⟨c, z⟩)
        exact ⟨.inl (_, _), K i0 _ rfl, h⟩
  · replace h := h.2 c
    replace K := fun i oo z => K i oo (Or.inr ⟨c, z⟩)
    by_cases c : a4.toInt = 20
    · replace h := h.1 c
      replace K := fun i oo z => K i oo (Or.inl ⟨c, z⟩)
      obtain ⟨g5_, h⟩ := h
      replace K := fun i oo z => K i oo ⟨g5_, z⟩
      by_cases c : (lg_cmp (f_longOf S x1) 0).toInt = 0
      · replace h := h.1 c
        replace K := fun i oo z => K i oo (Or.inl ⟨c, z⟩)
        exact ru_bytesOf_J217 i0 K h
      · replace h := h.2 c
        replace K := fun i oo z => K i oo (Or.inr ⟨c, z⟩)
        obtain ⟨g6_, h⟩ := h
        replace K := fun i oo z => K i oo ⟨g6_, z⟩
        by_cases c : (lg_cmp (f_longOf S x1) 1).toInt = 0
        · replace h := h.1 c
          replace K := fun i oo z => K i oo (Or.inl ⟨c, z⟩)
          exact ru_bytesOf_J217 i0 K h
        · replace h := h.2 c
          replace K := fun i oo z => K i oo (Or.inr ⟨c, z⟩)
          exact ⟨.inl (_, _), K i0 _ rfl, h⟩
    · replace h := h.2 c
      replace K := fun i oo z => K i oo (Or.inr ⟨c, z⟩)
      by_cases c : a4.toInt = 21
      · replace h := h.1 c
        replace K := fun i oo z => K i oo (Or.inl ⟨c, z⟩)
        by_cases c : 4 ≤ a8.toInt
        · replace h := h.1 c
          replace K := fun i oo z => K i oo (Or.inl ⟨c, z⟩)
          exact ⟨.inl (_, _), K i0 _ rfl, h⟩
        · replace h := h.2 c
          replace K := fun i oo z => K i oo (Or.inr ⟨c, z⟩)
          exact ⟨.inl (_, _), K i0 _ rfl, h⟩
      · replace h := h.2 c
        replace K := fun i oo z => K i oo (Or.inr ⟨c, z⟩)
        by_cases c : a4.toInt = 22
        · replace h := h.1 c
          replace K := fun i oo z => K i oo (Or.inl ⟨c, z⟩)
          by_cases c : 4 ≤ a8.toInt
          · replace h := h.1 c
            replace K := fun i oo z => K i oo (Or.inl ⟨c, z⟩)
            exact ⟨.inl (_, _), K i0 _ rfl, h⟩
          · replace h := h.2 c
            replace K := fun i oo z => K i oo (Or.inr ⟨c, z⟩)
            exact ⟨.inl (_, _), K i0 _ rfl, h⟩
        · replace h := h.2 c
          replace K := fun i oo z => K i oo (Or.inr ⟨c, z⟩)
          by_cases c : a4.toInt = 25
          · replace h := h.1 c
            replace K := fun i oo z => K i oo (Or.inl ⟨c, z⟩)
            by_cases c : 4 ≤ a8.toInt
            · replace h := h.1 c
              replace K := fun i oo z => K i oo (Or.inl ⟨c, z⟩)
              exact ⟨.inl (_, _), K i0 _ rfl, h⟩
            · replace h := h.2 c
              replace K := fun i oo z => K i oo (Or.inr ⟨c, z⟩)
              exact ⟨.inl (_, _), K i0 _ rfl, h⟩
          · replace h := h.2 c
            replace K := fun i oo z => K i oo (Or.inr ⟨c, z⟩)
            by_cases c : a4.toInt = 54
            · replace h := h.1 c
              replace K := fun i oo z => K i oo (Or.inl ⟨c, z⟩)
              by_cases c : 4 ≤ a8.toInt
              · replace h := h.1 c
                replace K := fun i oo z => K i oo (Or.inl ⟨c, z⟩)
                exact ⟨.inl (_, _), K i0 _ rfl, h⟩
              · replace h := h.2 c
                replace K := fun i oo z => K i oo (Or.inr ⟨c, z⟩)
                exact ⟨.inl (_, _), K i0 _ rfl, h⟩
            · replace h := h.2 c
              replace K := fun i oo z => K i oo (Or.inr ⟨c, z⟩)
              by_cases c : a4.toInt = 55
              · replace h := h.1 c
                replace K := fun i oo z => K i oo (Or.inl ⟨c, z⟩)
                by_cases c : 4 ≤ a8.toInt
                · replace h := h.1 c
                  replace K := fun i oo z => K i oo (Or.inl ⟨c, z⟩)
                  exact ⟨.inl (_, _), K i0 _ rfl, h⟩
                · replace h := h.2 c
                  replace K := fun i oo z => K i oo (Or.inr ⟨c, z⟩)
                  exact ⟨.inl (_, _), K i0 _ rfl, h⟩
              · replace h := h.2 c
                replace K := fun i oo z => K i oo (Or.inr ⟨c, z⟩)
                by_cases c : a4.toInt = 58
                · replace h := h.1 c
                  replace K := fun i oo z => K i oo (Or.inl ⟨c, z⟩)
                  by_cases c : 4 ≤ a8.toInt
                  · replace h := h.1 c
                    replace K := fun i oo z => K i oo (Or.inl ⟨c, z⟩)
                    exact ⟨.inl (_, _), K i0 _ rfl, h⟩
                  · replace h := h.2 c
                    replace K := fun i oo z => K i oo (Or.inr ⟨c, z⟩)
                    exact ⟨.inl (_, _), K i0 _ rfl, h⟩
                · replace h := h.2 c
                  replace K := fun i oo z => K i oo (Or.inr ⟨c, z⟩)
                  by_cases c : a4.toInt = 132
                  · replace h := h.1 c
                    replace K := fun i oo z => K i oo (Or.inl ⟨c, z⟩)
                    obtain ⟨g7_, h⟩ := h
                    replace K := fun i oo z => K i oo ⟨g7_, z⟩
                    obtain ⟨g8_, h⟩ := h
                    replace K := fun i oo z => K i oo ⟨g8_, z⟩
                    by_cases c : (f_isByte S (f_second S x1)).toInt = 0
                    · replace h := h.1 c
                      replace K := fun i oo z => K i oo (Or.inl ⟨c, z⟩)
                      exact ⟨.inl (_, _), K i0 _ rfl, h⟩
                    · replace h := h.2 c
                      replace K := fun i oo z => K i oo (Or.inr ⟨c, z⟩)
                      exact ⟨.inl (_, _), K i0 _ rfl, h⟩
                  · replace h := h.2 c
                    replace K := fun i oo z => K i oo (Or.inr ⟨c, z⟩)
                    by_cases c : a4.toInt = 170
                    · replace h := h.1 c
                      replace K := fun i oo z => K i oo (Or.inl ⟨c, z⟩)
                      obtain ⟨g9_, h⟩ := h
                      replace K := fun i oo z => K i oo ⟨g9_, z⟩
                      obtain ⟨g10_, h⟩ := h
                      replace K := fun i oo z => K i oo ⟨g10_, z⟩
                      exact ⟨.inl (_, _), K i0 _ rfl, h⟩
                    · replace h := h.2 c
                      replace K := fun i oo z => K i oo (Or.inr ⟨c, z⟩)
                      by_cases c : a4.toInt = 171
                      · replace h := h.1 c
                        replace K := fun i oo z => K i oo (Or.inl ⟨c, z⟩)
                        obtain ⟨g11_, h⟩ := h
                        replace K := fun i oo z => K i oo ⟨g11_, z⟩
                        obtain ⟨g12_, h⟩ := h
                        replace K := fun i oo z => K i oo ⟨g12_, z⟩
                        exact ⟨.inl (_, _), K i0 _ rfl, h⟩
                      · replace h := h.2 c
                        replace K := fun i oo z => K i oo (Or.inr ⟨c, z⟩)
                        by_cases c : a4.toInt = 178
                        · replace h := h.1 c
                          replace K := fun i oo z => K i oo (Or.inl ⟨c, z⟩)
                          exact ⟨.inl (_, _), K i0 _ rfl, h⟩
                        · replace h := h.2 c
                          replace K := fun i oo z => K i oo (Or.inr ⟨c, z⟩)
                          by_cases c : a4.toInt = 179
                          · replace h := h.1 c
                            replace K := fun i oo z => K i oo (Or.inl ⟨c, z⟩)
                            exact ⟨.inl (_, _), K i0 _ rfl, h⟩
                          · replace h := h.2 c
                            replace K := fun i oo z => K i oo (Or.inr ⟨c, z⟩)
                            by_cases c : a4.toInt = 184
                            · replace h := h.1 c
                              replace K := fun i oo z => K i oo (Or.inl ⟨c, z⟩)
                              exact ⟨.inl (_, _), K i0 _ rfl, h⟩
                            · replace h := h.2 c
                              replace K := fun i oo z => K i oo (Or.inr ⟨c, z⟩)
                              by_cases c : a4.toInt = 188
                              · replace h := h.1 c
                                replace K := fun i oo z => K i oo (Or.inl ⟨c, z⟩)
                                exact ⟨.inl (_, _), K i0 _ rfl, h⟩
                              · replace h := h.2 c
                                replace K := fun i oo z => K i oo (Or.inr ⟨c, z⟩)
                                obtain ⟨g13_, h⟩ := h
                                replace K := fun i oo z => K i oo ⟨g13_, z⟩
                                by_cases c : (f_isJump S a4).toInt = 0
                                · replace h := h.1 c
                                  replace K := fun i oo z => K i oo (Or.inl ⟨c, z⟩)
                                  exact ⟨.inl (_, _), K i0 _ rfl, h⟩
                                · replace h := h.2 c
                                  replace K := fun i oo z => K i oo (Or.inr ⟨c, z⟩)
                                  exact ⟨.inl (_, _), K i0 _ rfl, h⟩
set_option maxRecDepth 100000 in
theorem vw_bytesOf_J191 {oo : (Int32 × MS) ⊕ MS} {U191 : MS} (h : v_bytesOf_J191 oo U191) : w_bytesOf_J191 (fun r u => oo = .inl (r, u)) (fun u => oo = .inr u) U191 := by
  unfold v_bytesOf_J191 at h
  unfold w_bytesOf_J191
  exact h
set_option maxRecDepth 100000 in
theorem vz_bytesOf_J191 {oo : (Int32 × MS) ⊕ MS} {Q : Int32 → MS → Prop} {E : MS → Prop} {U191 : MS} (h : v_bytesOf_J191 oo U191) (w : w_bytesOf_J191 Q E U191) : oQ Q E oo := by
  unfold v_bytesOf_J191 at h
  unfold w_bytesOf_J191 at w
  rw [h]
  exact w
set_option maxRecDepth 100000 in
theorem vw_bytesOf_J160 {oo : (Int32 × MS) ⊕ MS} {U160 : MS} {v160_1 : Int32} {v160_4 : Int32} (h : v_bytesOf_J160 oo U160 v160_1 v160_4) : w_bytesOf_J160 (fun r u => oo = .inl (r, u)) (fun u => oo = .inr u) U160 v160_1 v160_4 := by
  unfold v_bytesOf_J160 at h
  unfold w_bytesOf_J160
  obtain ⟨g9, h⟩ := h
  refine ⟨g9, ?_⟩
  rcases h with ⟨c, h⟩ | ⟨c, h⟩
  · refine ⟨fun _ => ?_, fun c2 => absurd c c2⟩
    obtain ⟨g9, h⟩ := h
    refine ⟨g9, ?_⟩
    rcases h with ⟨c, h⟩ | ⟨c, h⟩
    · refine ⟨fun _ => ?_, fun c2 => absurd c c2⟩
      rcases h with ⟨p9, q9, z9, h⟩ | ⟨q9, z9, h⟩
      · refine ⟨_, _, vw_needOf z9, ?_, ?_⟩
        · intro p8 q8 d9
          injection d9 with d9
          injection d9 with d8 d9
          subst d8
          subst d9
          rcases h with ⟨c, h⟩ | ⟨c, h⟩
          · refine ⟨fun _ => ?_, fun c2 => absurd c c2⟩
            exact h
          · refine ⟨fun c2 => absurd c2 c, fun _ => ?_⟩
            exact vw_bytesOf_J191 h
        · intro q8 d9
          exact nomatch d9
      · refine ⟨_, _, vw_needOf z9, ?_, ?_⟩
        · intro p8 q8 d9
          exact nomatch d9
        · intro q8 d9
          injection d9 with d9
          subst d9
          exact h
    · refine ⟨fun c2 => absurd c2 c, fun _ => ?_⟩
      exact vw_bytesOf_J191 h
  · refine ⟨fun c2 => absurd c2 c, fun _ => ?_⟩
    exact h
set_option maxRecDepth 100000 in
theorem vz_bytesOf_J160 {oo : (Int32 × MS) ⊕ MS} {Q : Int32 → MS → Prop} {E : MS → Prop} {U160 : MS} {v160_1 : Int32} {v160_4 : Int32} (h : v_bytesOf_J160 oo U160 v160_1 v160_4) (w : w_bytesOf_J160 Q E U160 v160_1 v160_4) : oQ Q E oo := by
  unfold v_bytesOf_J160 at h
  unfold w_bytesOf_J160 at w
  replace h := h.2
  replace w := w.2
  rcases h with ⟨c, h⟩ | ⟨c, h⟩
  · replace w := w.1 c
    replace h := h.2
    replace w := w.2
    rcases h with ⟨c, h⟩ | ⟨c, h⟩
    · replace w := w.1 c
      obtain ⟨Q9, E9, w0, w⟩ := w
      rcases h with ⟨p9, q9, z9, h⟩ | ⟨q9, z9, h⟩
      · replace w := w.1 p9 q9 (vz_needOf z9 w0)
        rcases h with ⟨c, h⟩ | ⟨c, h⟩
        · replace w := w.1 c
          rw [h]
          exact w
        · replace w := w.2 c
          exact vz_bytesOf_J191 h w
      · replace w := w.2 q9 (vz_needOf z9 w0)
        rw [h]
        exact w
    · replace w := w.2 c
      exact vz_bytesOf_J191 h w
  · replace w := w.2 c
    rw [h]
    exact w
set_option maxRecDepth 100000 in
theorem vw_bytesOf_J217 {oo : (Int32 × MS) ⊕ MS} {U217 : MS} (h : v_bytesOf_J217 oo U217) : w_bytesOf_J217 (fun r u => oo = .inl (r, u)) (fun u => oo = .inr u) U217 := by
  unfold v_bytesOf_J217 at h
  unfold w_bytesOf_J217
  exact h
set_option maxRecDepth 100000 in
theorem vz_bytesOf_J217 {oo : (Int32 × MS) ⊕ MS} {Q : Int32 → MS → Prop} {E : MS → Prop} {U217 : MS} (h : v_bytesOf_J217 oo U217) (w : w_bytesOf_J217 Q E U217) : oQ Q E oo := by
  unfold v_bytesOf_J217 at h
  unfold w_bytesOf_J217 at w
  rw [h]
  exact w
set_option maxRecDepth 100000 in
theorem vw_bytesOf {S : MS} {x1 : Int32} {x2 : Int32} {oo : (Int32 × MS) ⊕ MS} (h : v_bytesOf S x1 x2 oo) : w_bytesOf S x1 x2 (fun r u => oo = .inl (r, u)) (fun u => oo = .inr u) := by
  unfold v_bytesOf at h
  unfold w_bytesOf
  obtain ⟨g9, h⟩ := h
  refine ⟨g9, ?_⟩
  obtain ⟨v9, e9, h⟩ := h
  intro x9 d9
  have c9 : v9 = x9 := e9.trans d9.symm
  subst c9
  obtain ⟨g9, h⟩ := h
  refine ⟨g9, ?_⟩
  obtain ⟨v9, e9, h⟩ := h
  intro x9 d9
  have c9 : v9 = x9 := e9.trans d9.symm
  subst c9
  rcases h with ⟨c, h⟩ | ⟨c, h⟩
  · refine ⟨fun _ => ?_, fun c2 => absurd c c2⟩
    rcases h with ⟨c, h⟩ | ⟨c, h⟩
    · refine ⟨fun _ => ?_, fun c2 => absurd c c2⟩
      exact vw_bytesOf_J160 h
    · refine ⟨fun c2 => absurd c2 c, fun _ => ?_⟩
      rcases h with ⟨c, h⟩ | ⟨c, h⟩
      · refine ⟨fun _ => ?_, fun c2 => absurd c c2⟩
        exact vw_bytesOf_J160 h
      · refine ⟨fun c2 => absurd c2 c, fun _ => ?_⟩
        exact h
  · refine ⟨fun c2 => absurd c2 c, fun _ => ?_⟩
    rcases h with ⟨c, h⟩ | ⟨c, h⟩
    · refine ⟨fun _ => ?_, fun c2 => absurd c c2⟩
      obtain ⟨g9, h⟩ := h
      refine ⟨g9, ?_⟩
      rcases h with ⟨c, h⟩ | ⟨c, h⟩
      · refine ⟨fun _ => ?_, fun c2 => absurd c c2⟩
        exact vw_bytesOf_J217 h
      · refine ⟨fun c2 => absurd c2 c, fun _ => ?_⟩
        obtain ⟨g9, h⟩ := h
        refine ⟨g9, ?_⟩
        rcases h with ⟨c, h⟩ | ⟨c, h⟩
        · refine ⟨fun _ => ?_, fun c2 => absurd c c2⟩
          exact vw_bytesOf_J217 h
        · refine ⟨fun c2 => absurd c2 c, fun _ => ?_⟩
          exact h
    · refine ⟨fun c2 => absurd c2 c, fun _ => ?_⟩
      rcases h with ⟨c, h⟩ | ⟨c, h⟩
      · refine ⟨fun _ => ?_, fun c2 => absurd c c2⟩
        rcases h with ⟨c, h⟩ | ⟨c, h⟩
        · refine ⟨fun _ => ?_, fun c2 => absurd c c2⟩
          exact h
        · refine ⟨fun c2 => absurd c2 c, fun _ => ?_⟩
          exact h
      · refine ⟨fun c2 => absurd c2 c, fun _ => ?_⟩
        rcases h with ⟨c, h⟩ | ⟨c, h⟩
        · refine ⟨fun _ => ?_, fun c2 => absurd c c2⟩
          rcases h with ⟨c, h⟩ | ⟨c, h⟩
          · refine ⟨fun _ => ?_, fun c2 => absurd c c2⟩
            exact h
          · refine ⟨fun c2 => absurd c2 c, fun _ => ?_⟩
            exact h
        · refine ⟨fun c2 => absurd c2 c, fun _ => ?_⟩
          rcases h with ⟨c, h⟩ | ⟨c, h⟩
          · refine ⟨fun _ => ?_, fun c2 => absurd c c2⟩
            rcases h with ⟨c, h⟩ | ⟨c, h⟩
            · refine ⟨fun _ => ?_, fun c2 => absurd c c2⟩
              exact h
            · refine ⟨fun c2 => absurd c2 c, fun _ => ?_⟩
              exact h
          · refine ⟨fun c2 => absurd c2 c, fun _ => ?_⟩
            rcases h with ⟨c, h⟩ | ⟨c, h⟩
            · refine ⟨fun _ => ?_, fun c2 => absurd c c2⟩
              rcases h with ⟨c, h⟩ | ⟨c, h⟩
              · refine ⟨fun _ => ?_, fun c2 => absurd c c2⟩
                exact h
              · refine ⟨fun c2 => absurd c2 c, fun _ => ?_⟩
                exact h
            · refine ⟨fun c2 => absurd c2 c, fun _ => ?_⟩
              rcases h with ⟨c, h⟩ | ⟨c, h⟩
              · refine ⟨fun _ => ?_, fun c2 => absurd c c2⟩
                rcases h with ⟨c, h⟩ | ⟨c, h⟩
                · refine ⟨fun _ => ?_, fun c2 => absurd c c2⟩
                  exact h
                · refine ⟨fun c2 => absurd c2 c, fun _ => ?_⟩
                  exact h
              · refine ⟨fun c2 => absurd c2 c, fun _ => ?_⟩
                rcases h with ⟨c, h⟩ | ⟨c, h⟩
                · refine ⟨fun _ => ?_, fun c2 => absurd c c2⟩
                  rcases h with ⟨c, h⟩ | ⟨c, h⟩
                  · refine ⟨fun _ => ?_, fun c2 => absurd c c2⟩
                    exact h
                  · refine ⟨fun c2 => absurd c2 c, fun _ => ?_⟩
                    exact h
                · refine ⟨fun c2 => absurd c2 c, fun _ => ?_⟩
                  rcases h with ⟨c, h⟩ | ⟨c, h⟩
                  · refine ⟨fun _ => ?_, fun c2 => absurd c c2⟩
                    obtain ⟨g9, h⟩ := h
                    refine ⟨g9, ?_⟩
                    obtain ⟨g9, h⟩ := h
                    refine ⟨g9, ?_⟩
                    rcases h with ⟨c, h⟩ | ⟨c, h⟩
                    · refine ⟨fun _ => ?_, fun c2 => absurd c c2⟩
                      exact h
                    · refine ⟨fun c2 => absurd c2 c, fun _ => ?_⟩
                      exact h
                  · refine ⟨fun c2 => absurd c2 c, fun _ => ?_⟩
                    rcases h with ⟨c, h⟩ | ⟨c, h⟩
                    · refine ⟨fun _ => ?_, fun c2 => absurd c c2⟩
                      obtain ⟨g9, h⟩ := h
                      refine ⟨g9, ?_⟩
                      obtain ⟨g9, h⟩ := h
                      refine ⟨g9, ?_⟩
                      exact h
                    · refine ⟨fun c2 => absurd c2 c, fun _ => ?_⟩
                      rcases h with ⟨c, h⟩ | ⟨c, h⟩
                      · refine ⟨fun _ => ?_, fun c2 => absurd c c2⟩
                        obtain ⟨g9, h⟩ := h
                        refine ⟨g9, ?_⟩
                        obtain ⟨g9, h⟩ := h
                        refine ⟨g9, ?_⟩
                        exact h
                      · refine ⟨fun c2 => absurd c2 c, fun _ => ?_⟩
                        rcases h with ⟨c, h⟩ | ⟨c, h⟩
                        · refine ⟨fun _ => ?_, fun c2 => absurd c c2⟩
                          exact h
                        · refine ⟨fun c2 => absurd c2 c, fun _ => ?_⟩
                          rcases h with ⟨c, h⟩ | ⟨c, h⟩
                          · refine ⟨fun _ => ?_, fun c2 => absurd c c2⟩
                            exact h
                          · refine ⟨fun c2 => absurd c2 c, fun _ => ?_⟩
                            rcases h with ⟨c, h⟩ | ⟨c, h⟩
                            · refine ⟨fun _ => ?_, fun c2 => absurd c c2⟩
                              exact h
                            · refine ⟨fun c2 => absurd c2 c, fun _ => ?_⟩
                              rcases h with ⟨c, h⟩ | ⟨c, h⟩
                              · refine ⟨fun _ => ?_, fun c2 => absurd c c2⟩
                                exact h
                              · refine ⟨fun c2 => absurd c2 c, fun _ => ?_⟩
                                obtain ⟨g9, h⟩ := h
                                refine ⟨g9, ?_⟩
                                rcases h with ⟨c, h⟩ | ⟨c, h⟩
                                · refine ⟨fun _ => ?_, fun c2 => absurd c c2⟩
                                  exact h
                                · refine ⟨fun c2 => absurd c2 c, fun _ => ?_⟩
                                  exact h
set_option maxRecDepth 100000 in
theorem vz_bytesOf {S : MS} {x1 : Int32} {x2 : Int32} {oo : (Int32 × MS) ⊕ MS} {Q : Int32 → MS → Prop} {E : MS → Prop} (h : v_bytesOf S x1 x2 oo) (w : w_bytesOf S x1 x2 Q E) : oQ Q E oo := by
  unfold v_bytesOf at h
  unfold w_bytesOf at w
  replace h := h.2
  replace w := w.2
  obtain ⟨v9, e9, h⟩ := h
  replace w := w v9 e9
  replace h := h.2
  replace w := w.2
  obtain ⟨v9, e9, h⟩ := h
  replace w := w v9 e9
  rcases h with ⟨c, h⟩ | ⟨c, h⟩
  · replace w := w.1 c
    rcases h with ⟨c, h⟩ | ⟨c, h⟩
    · replace w := w.1 c
      exact vz_bytesOf_J160 h w
    · replace w := w.2 c
      rcases h with ⟨c, h⟩ | ⟨c, h⟩
      · replace w := w.1 c
        exact vz_bytesOf_J160 h w
      · replace w := w.2 c
        rw [h]
        exact w
  · replace w := w.2 c
    rcases h with ⟨c, h⟩ | ⟨c, h⟩
    · replace w := w.1 c
      replace h := h.2
      replace w := w.2
      rcases h with ⟨c, h⟩ | ⟨c, h⟩
      · replace w := w.1 c
        exact vz_bytesOf_J217 h w
      · replace w := w.2 c
        replace h := h.2
        replace w := w.2
        rcases h with ⟨c, h⟩ | ⟨c, h⟩
        · replace w := w.1 c
          exact vz_bytesOf_J217 h w
        · replace w := w.2 c
          rw [h]
          exact w
    · replace w := w.2 c
      rcases h with ⟨c, h⟩ | ⟨c, h⟩
      · replace w := w.1 c
        rcases h with ⟨c, h⟩ | ⟨c, h⟩
        · replace w := w.1 c
          rw [h]
          exact w
        · replace w := w.2 c
          rw [h]
          exact w
      · replace w := w.2 c
        rcases h with ⟨c, h⟩ | ⟨c, h⟩
        · replace w := w.1 c
          rcases h with ⟨c, h⟩ | ⟨c, h⟩
          · replace w := w.1 c
            rw [h]
            exact w
          · replace w := w.2 c
            rw [h]
            exact w
        · replace w := w.2 c
          rcases h with ⟨c, h⟩ | ⟨c, h⟩
          · replace w := w.1 c
            rcases h with ⟨c, h⟩ | ⟨c, h⟩
            · replace w := w.1 c
              rw [h]
              exact w
            · replace w := w.2 c
              rw [h]
              exact w
          · replace w := w.2 c
            rcases h with ⟨c, h⟩ | ⟨c, h⟩
            · replace w := w.1 c
              rcases h with ⟨c, h⟩ | ⟨c, h⟩
              · replace w := w.1 c
                rw [h]
                exact w
              · replace w := w.2 c
                rw [h]
                exact w
            · replace w := w.2 c
              rcases h with ⟨c, h⟩ | ⟨c, h⟩
              · replace w := w.1 c
                rcases h with ⟨c, h⟩ | ⟨c, h⟩
                · replace w := w.1 c
                  rw [h]
                  exact w
                · replace w := w.2 c
                  rw [h]
                  exact w
              · replace w := w.2 c
                rcases h with ⟨c, h⟩ | ⟨c, h⟩
                · replace w := w.1 c
                  rcases h with ⟨c, h⟩ | ⟨c, h⟩
                  · replace w := w.1 c
                    rw [h]
                    exact w
                  · replace w := w.2 c
                    rw [h]
                    exact w
                · replace w := w.2 c
                  rcases h with ⟨c, h⟩ | ⟨c, h⟩
                  · replace w := w.1 c
                    replace h := h.2
                    replace w := w.2
                    replace h := h.2
                    replace w := w.2
                    rcases h with ⟨c, h⟩ | ⟨c, h⟩
                    · replace w := w.1 c
                      rw [h]
                      exact w
                    · replace w := w.2 c
                      rw [h]
                      exact w
                  · replace w := w.2 c
                    rcases h with ⟨c, h⟩ | ⟨c, h⟩
                    · replace w := w.1 c
                      replace h := h.2
                      replace w := w.2
                      replace h := h.2
                      replace w := w.2
                      rw [h]
                      exact w
                    · replace w := w.2 c
                      rcases h with ⟨c, h⟩ | ⟨c, h⟩
                      · replace w := w.1 c
                        replace h := h.2
                        replace w := w.2
                        replace h := h.2
                        replace w := w.2
                        rw [h]
                        exact w
                      · replace w := w.2 c
                        rcases h with ⟨c, h⟩ | ⟨c, h⟩
                        · replace w := w.1 c
                          rw [h]
                          exact w
                        · replace w := w.2 c
                          rcases h with ⟨c, h⟩ | ⟨c, h⟩
                          · replace w := w.1 c
                            rw [h]
                            exact w
                          · replace w := w.2 c
                            rcases h with ⟨c, h⟩ | ⟨c, h⟩
                            · replace w := w.1 c
                              rw [h]
                              exact w
                            · replace w := w.2 c
                              rcases h with ⟨c, h⟩ | ⟨c, h⟩
                              · replace w := w.1 c
                                rw [h]
                                exact w
                              · replace w := w.2 c
                                replace h := h.2
                                replace w := w.2
                                rcases h with ⟨c, h⟩ | ⟨c, h⟩
                                · replace w := w.1 c
                                  rw [h]
                                  exact w
                                · replace w := w.2 c
                                  rw [h]
                                  exact w
def v_enter_L32 (uo : MS) : Nat → MS → Int32 → Prop
  | 0, _, _ => False
  | n32 + 1, U32, v32_2 => ((24 ≤ v32_2.toInt ∧ (∃ S9 : MS, S9 = wI U32 0 97 ((qI U32 0 97) + (1 : Int32)) ∧ (uo = S9))) ∨ (¬ 24 ≤ v32_2.toInt ∧ (((0 : Int) ≤ (((24 : Int32) * (qI U32 0 97)) + v32_2).toInt ∧ (((24 : Int32) * (qI U32 0 97)) + v32_2).toInt < 1440) ∧ (∃ S13 : MS, S13 = wJ U32 45 (((((24 : Int32) * (qI U32 0 97)) + v32_2).toInt).toNat) 0 ∧ (((0 : Int) ≤ (((24 : Int32) * (qI S13 0 97)) + v32_2).toInt ∧ (((24 : Int32) * (qI S13 0 97)) + v32_2).toInt < 1440) ∧ (∃ S17 : MS, S17 = wI S13 47 (((((24 : Int32) * (qI S13 0 97)) + v32_2).toInt).toNat) (vp_nar .byte (0 : Int32)) ∧ (∃ a18 : Int32, a18 = (v32_2 + Int32.ofInt 1) ∧ ((v_enter_L32 uo n32) S17 a18))))))))
def v_enter (S : MS) (x1 : Int32) (uo : MS) : Prop := (((0 : Int) ≤ (qI S 0 97).toInt ∧ (qI S 0 97).toInt < 60) ∧ (∃ S2 : MS, S2 = wI S 42 (((qI S 0 97).toInt).toNat) x1 ∧ (((0 : Int) ≤ (qI S2 0 97).toInt ∧ (qI S2 0 97).toInt < 60) ∧ (∃ S4 : MS, S4 = wI S2 43 (((qI S2 0 97).toInt).toNat) (0 : Int32) ∧ (((0 : Int) ≤ (qI S4 0 97).toInt ∧ (qI S4 0 97).toInt < 60) ∧ (∃ S6 : MS, S6 = wI S4 44 (((qI S4 0 97).toInt).toNat) (0 : Int32) ∧ (∃ n, v_enter_L32 uo n S6 0)))))))
set_option maxRecDepth 100000 in
theorem ru_enter_L32 {ι : Type} {P : MS → Prop} {Q : MS → Prop} : ∀ (n : Nat) {U32 : MS} {v32_2 : Int32} (i0 : ι), (∀ (i : ι) (uo : MS), (∃ n8, v_enter_L32 uo n8 U32 v32_2) → P uo) → w_enter_L32 Q n U32 v32_2 → ∃ uo, P uo ∧ Q uo := by
  intro n
  induction n with
  | zero => intro U32 v32_2 i0 K h; unfold w_enter_L32 at h; exact h.elim
  | succ n ih =>
    intro U32 v32_2 i0 K h
    unfold w_enter_L32 at h
    replace K := fun (i : ι × Nat) uo (z : v_enter_L32 uo (i.2 + 1) U32 v32_2) => K i.1 uo ⟨i.2 + 1, z⟩
    have i00 := i0
    replace i0 : ι × Nat := (i0, 0)
    by_cases c : 24 ≤ v32_2.toInt
    · replace h := h.1 c
      replace K := fun i uo z => K i uo (Or.inl ⟨c, z⟩)
      obtain ⟨S9, eS9⟩ : ∃ x9 : MS, x9 = wI U32 0 97 ((qI U32 0 97) + (1 : Int32)) := ⟨_, rfl⟩
      replace h := h S9 eS9
      replace K := fun i uo z => K i uo ⟨S9, eS9, z⟩
      exact ⟨_, K i0 _ rfl, h⟩
    · replace h := h.2 c
      replace K := fun i uo z => K i uo (Or.inr ⟨c, z⟩)
      obtain ⟨g1_, h⟩ := h
      replace K := fun i uo z => K i uo ⟨g1_, z⟩
      obtain ⟨S13, eS13⟩ : ∃ x9 : MS, x9 = wJ U32 45 (((((24 : Int32) * (qI U32 0 97)) + v32_2).toInt).toNat) 0 := ⟨_, rfl⟩
      replace h := h S13 eS13
      replace K := fun i uo z => K i uo ⟨S13, eS13, z⟩
      obtain ⟨g2_, h⟩ := h
      replace K := fun i uo z => K i uo ⟨g2_, z⟩
      obtain ⟨S17, eS17⟩ : ∃ x9 : MS, x9 = wI S13 47 (((((24 : Int32) * (qI S13 0 97)) + v32_2).toInt).toNat) (vp_nar .byte (0 : Int32)) := ⟨_, rfl⟩
      replace h := h S17 eS17
      replace K := fun i uo z => K i uo ⟨S17, eS17, z⟩
      obtain ⟨a18, ea18⟩ : ∃ x9 : Int32, x9 = (v32_2 + Int32.ofInt 1) := ⟨_, rfl⟩
      replace h := h a18 ea18
      replace K := fun i uo z => K i uo ⟨a18, ea18, z⟩
      exact ih i00 (fun i uo ⟨n8, z⟩ => K (i, n8) uo z) h
set_option maxRecDepth 100000 in
theorem ru_enter {S : MS} {x1 : Int32} {Q : MS → Prop} (h : w_enter S x1 Q) : ∃ uo, v_enter S x1 uo ∧ Q uo := by
  have i0 : Unit := ()
  have K : ∀ (i : Unit) (uo : MS), v_enter S x1 uo → v_enter S x1 uo := fun _ _ z => z
  unfold w_enter at h
  obtain ⟨g3_, h⟩ := h
  replace K := fun i uo z => K i uo ⟨g3_, z⟩
  obtain ⟨S2, eS2⟩ : ∃ x9 : MS, x9 = wI S 42 (((qI S 0 97).toInt).toNat) x1 := ⟨_, rfl⟩
  replace h := h S2 eS2
  replace K := fun i uo z => K i uo ⟨S2, eS2, z⟩
  obtain ⟨g4_, h⟩ := h
  replace K := fun i uo z => K i uo ⟨g4_, z⟩
  obtain ⟨S4, eS4⟩ : ∃ x9 : MS, x9 = wI S2 43 (((qI S2 0 97).toInt).toNat) (0 : Int32) := ⟨_, rfl⟩
  replace h := h S4 eS4
  replace K := fun i uo z => K i uo ⟨S4, eS4, z⟩
  obtain ⟨g5_, h⟩ := h
  replace K := fun i uo z => K i uo ⟨g5_, z⟩
  obtain ⟨S6, eS6⟩ : ∃ x9 : MS, x9 = wI S4 44 (((qI S4 0 97).toInt).toNat) (0 : Int32) := ⟨_, rfl⟩
  replace h := h S6 eS6
  replace K := fun i uo z => K i uo ⟨S6, eS6, z⟩
  obtain ⟨n9, h⟩ := h
  exact ru_enter_L32 n9 i0 K h
set_option maxRecDepth 100000 in
theorem vw_enter_L32 {uo : MS} : ∀ (n : Nat) {U32 : MS} {v32_2 : Int32}, v_enter_L32 uo n U32 v32_2 → w_enter_L32 (fun u => u = uo) n U32 v32_2 := by
  intro n
  induction n with
  | zero => intro U32 v32_2 h; unfold v_enter_L32 at h; exact h.elim
  | succ n ih =>
    intro U32 v32_2 h
    unfold v_enter_L32 at h
    unfold w_enter_L32
    rcases h with ⟨c, h⟩ | ⟨c, h⟩
    · refine ⟨fun _ => ?_, fun c2 => absurd c c2⟩
      obtain ⟨v9, e9, h⟩ := h
      intro x9 d9
      have c9 : v9 = x9 := e9.trans d9.symm
      subst c9
      exact h.symm
    · refine ⟨fun c2 => absurd c2 c, fun _ => ?_⟩
      obtain ⟨g9, h⟩ := h
      refine ⟨g9, ?_⟩
      obtain ⟨v9, e9, h⟩ := h
      intro x9 d9
      have c9 : v9 = x9 := e9.trans d9.symm
      subst c9
      obtain ⟨g9, h⟩ := h
      refine ⟨g9, ?_⟩
      obtain ⟨v9, e9, h⟩ := h
      intro x9 d9
      have c9 : v9 = x9 := e9.trans d9.symm
      subst c9
      obtain ⟨v9, e9, h⟩ := h
      intro x9 d9
      have c9 : v9 = x9 := e9.trans d9.symm
      subst c9
      exact ih h
set_option maxRecDepth 100000 in
theorem vz_enter_L32 {uo : MS} {Q : MS → Prop} : ∀ (n m : Nat) {U32 : MS} {v32_2 : Int32}, v_enter_L32 uo n U32 v32_2 → w_enter_L32 Q m U32 v32_2 → Q uo := by
  intro n
  induction n with
  | zero => intro m U32 v32_2 h; unfold v_enter_L32 at h; exact h.elim
  | succ n ih =>
    intro m U32 v32_2 h w
    cases m with
    | zero => unfold w_enter_L32 at w; exact w.elim
    | succ m =>
      unfold v_enter_L32 at h
      unfold w_enter_L32 at w
      rcases h with ⟨c, h⟩ | ⟨c, h⟩
      · replace w := w.1 c
        obtain ⟨v9, e9, h⟩ := h
        replace w := w v9 e9
        rw [h]
        exact w
      · replace w := w.2 c
        replace h := h.2
        replace w := w.2
        obtain ⟨v9, e9, h⟩ := h
        replace w := w v9 e9
        replace h := h.2
        replace w := w.2
        obtain ⟨v9, e9, h⟩ := h
        replace w := w v9 e9
        obtain ⟨v9, e9, h⟩ := h
        replace w := w v9 e9
        exact ih m h w
set_option maxRecDepth 100000 in
theorem vw_enter {S : MS} {x1 : Int32} {uo : MS} (h : v_enter S x1 uo) : w_enter S x1 (fun u => u = uo) := by
  unfold v_enter at h
  unfold w_enter
  obtain ⟨g9, h⟩ := h
  refine ⟨g9, ?_⟩
  obtain ⟨v9, e9, h⟩ := h
  intro x9 d9
  have c9 : v9 = x9 := e9.trans d9.symm
  subst c9
  obtain ⟨g9, h⟩ := h
  refine ⟨g9, ?_⟩
  obtain ⟨v9, e9, h⟩ := h
  intro x9 d9
  have c9 : v9 = x9 := e9.trans d9.symm
  subst c9
  obtain ⟨g9, h⟩ := h
  refine ⟨g9, ?_⟩
  obtain ⟨v9, e9, h⟩ := h
  intro x9 d9
  have c9 : v9 = x9 := e9.trans d9.symm
  subst c9
  obtain ⟨n9, h⟩ := h
  exact ⟨n9, vw_enter_L32 n9 h⟩
set_option maxRecDepth 100000 in
theorem vz_enter {S : MS} {x1 : Int32} {uo : MS} {Q : MS → Prop} (h : v_enter S x1 uo) (w : w_enter S x1 Q) : Q uo := by
  unfold v_enter at h
  unfold w_enter at w
  replace h := h.2
  replace w := w.2
  obtain ⟨v9, e9, h⟩ := h
  replace w := w v9 e9
  replace h := h.2
  replace w := w.2
  obtain ⟨v9, e9, h⟩ := h
  replace w := w v9 e9
  replace h := h.2
  replace w := w.2
  obtain ⟨v9, e9, h⟩ := h
  replace w := w v9 e9
  obtain ⟨n9, h⟩ := h
  obtain ⟨n8, w⟩ := w
  exact vz_enter_L32 n9 n8 h w
def v_placesOf_J28 (ro : Int32) (uo : MS) (k4 : MS → Nat → Int32 → Int32 → Prop) (U28 : MS) (t28_0 : Int32) (t28_1 : Int32) (v28_0 : Nat) (v28_2 : Int32) : Prop := (∃ a6 : Int32, a6 = (t28_1 + t28_0) ∧ (∃ a7 : Int32, a7 = (v28_2 + Int32.ofInt 1) ∧ (k4 U28 v28_0 a6 a7)))
def v_placesOf_L4 (ro : Int32) (uo : MS) : Nat → MS → Nat → Int32 → Int32 → Prop
  | 0, _, _, _, _ => False
  | n4 + 1, U4, v4_0, v4_1, v4_2 => (((Int32.ofNat (qN U4 (v4_0 + 1))).toInt ≤ v4_2.toInt ∧ (ro = v4_1 ∧ uo = U4)) ∨ (¬ (Int32.ofNat (qN U4 (v4_0 + 1))).toInt ≤ v4_2.toInt ∧ (((0 : Int) ≤ v4_2.toInt ∧ v4_2.toInt < (qN U4 (v4_0 + 1) : Int)) ∧ (((cAt U4 v4_0 v4_2).toInt = 74 ∧ (v_placesOf_J28 ro uo (v_placesOf_L4 ro uo n4) U4 2 v4_1 v4_0 v4_2)) ∨ (¬ (cAt U4 v4_0 v4_2).toInt = 74 ∧ (v_placesOf_J28 ro uo (v_placesOf_L4 ro uo n4) U4 1 v4_1 v4_0 v4_2))))))
def v_placesOf (S : MS) (p0 : Nat) (ro : Int32) (uo : MS) : Prop := (∃ n, v_placesOf_L4 ro uo n S p0 0 0)
set_option maxRecDepth 100000 in
theorem ru_placesOf_J28 {ι : Type} {P : Int32 → MS → Prop} {Q : Int32 → MS → Prop} {k4 : MS → Nat → Int32 → Int32 → Prop} {k4v : ι → Int32 → MS → MS → Nat → Int32 → Int32 → Prop} {U28 : MS} {t28_0 : Int32} {t28_1 : Int32} {v28_0 : Nat} {v28_2 : Int32} (i0 : ι) (hk4 : ∀ (u : MS) (z0 : Nat) (z1 : Int32) (z2 : Int32), k4 u z0 z1 z2 → (∀ (i : ι) (ro : Int32) (uo : MS), k4v i ro uo u z0 z1 z2 → P ro uo) → ∃ ro uo, P ro uo ∧ Q ro uo) (K : ∀ (i : ι) (ro : Int32) (uo : MS), v_placesOf_J28 ro uo (k4v i ro uo) U28 t28_0 t28_1 v28_0 v28_2 → P ro uo) (h : w_placesOf_J28 Q k4 U28 t28_0 t28_1 v28_0 v28_2) : ∃ ro uo, P ro uo ∧ Q ro uo := by
  unfold w_placesOf_J28 at h
  obtain ⟨a6, ea6⟩ : ∃ x9 : Int32, x9 = (t28_1 + t28_0) := ⟨_, rfl⟩
  replace h := h a6 ea6
  replace K := fun i ro uo z => K i ro uo ⟨a6, ea6, z⟩
  obtain ⟨a7, ea7⟩ : ∃ x9 : Int32, x9 = (v28_2 + Int32.ofInt 1) := ⟨_, rfl⟩
  replace h := h a7 ea7
  replace K := fun i ro uo z => K i ro uo ⟨a7, ea7, z⟩
  exact hk4 _ _ _ _ h K
set_option maxRecDepth 100000 in
theorem ru_placesOf_L4 {ι : Type} {P : Int32 → MS → Prop} {Q : Int32 → MS → Prop} : ∀ (n : Nat) {U4 : MS} {v4_0 : Nat} {v4_1 : Int32} {v4_2 : Int32} (i0 : ι), (∀ (i : ι) (ro : Int32) (uo : MS), (∃ n8, v_placesOf_L4 ro uo n8 U4 v4_0 v4_1 v4_2) → P ro uo) → w_placesOf_L4 Q n U4 v4_0 v4_1 v4_2 → ∃ ro uo, P ro uo ∧ Q ro uo := by
  intro n
  induction n with
  | zero => intro U4 v4_0 v4_1 v4_2 i0 K h; unfold w_placesOf_L4 at h; exact h.elim
  | succ n ih =>
    intro U4 v4_0 v4_1 v4_2 i0 K h
    unfold w_placesOf_L4 at h
    replace K := fun (i : ι × Nat) ro uo (z : v_placesOf_L4 ro uo (i.2 + 1) U4 v4_0 v4_1 v4_2) => K i.1 ro uo ⟨i.2 + 1, z⟩
    have i00 := i0
    replace i0 : ι × Nat := (i0, 0)
    by_cases c : (Int32.ofNat (qN U4 (v4_0 + 1))).toInt ≤ v4_2.toInt
    · replace h := h.1 c
      replace K := fun i ro uo z => K i ro uo (Or.inl ⟨c, z⟩)
      exact ⟨_, _, K i0 _ _ ⟨rfl, rfl⟩, h⟩
    · replace h := h.2 c
      replace K := fun i ro uo z => K i ro uo (Or.inr ⟨c, z⟩)
      obtain ⟨g1_, h⟩ := h
      replace K := fun i ro uo z => K i ro uo ⟨g1_, z⟩
      by_cases c : (cAt U4 v4_0 v4_2).toInt = 74
      · replace h := h.1 c
        replace K := fun i ro uo z => K i ro uo (Or.inl ⟨c, z⟩)
        exact ru_placesOf_J28 i0 (fun _ _ _ _ h K => ih i00 (fun i ro uo ⟨n8, z⟩ => K (i, n8) ro uo z) h) K h
      · replace h := h.2 c
        replace K := fun i ro uo z => K i ro uo (Or.inr ⟨c, z⟩)
        exact ru_placesOf_J28 i0 (fun _ _ _ _ h K => ih i00 (fun i ro uo ⟨n8, z⟩ => K (i, n8) ro uo z) h) K h
set_option maxRecDepth 100000 in
theorem ru_placesOf {S : MS} {p0 : Nat} {Q : Int32 → MS → Prop} (h : w_placesOf S p0 Q) : ∃ ro uo, v_placesOf S p0 ro uo ∧ Q ro uo := by
  have i0 : Unit := ()
  have K : ∀ (i : Unit) (ro : Int32) (uo : MS), v_placesOf S p0 ro uo → v_placesOf S p0 ro uo := fun _ _ _ z => z
  unfold w_placesOf at h
  obtain ⟨n9, h⟩ := h
  exact ru_placesOf_L4 n9 i0 K h
set_option maxRecDepth 100000 in
theorem vw_placesOf_J28 {ro : Int32} {uo : MS} {k4 k4v : MS → Nat → Int32 → Int32 → Prop} {U28 : MS} {t28_0 : Int32} {t28_1 : Int32} {v28_0 : Nat} {v28_2 : Int32} (hk4 : ∀ (u : MS) (z0 : Nat) (z1 : Int32) (z2 : Int32), k4v u z0 z1 z2 → k4 u z0 z1 z2) (h : v_placesOf_J28 ro uo k4v U28 t28_0 t28_1 v28_0 v28_2) : w_placesOf_J28 (fun r u => r = ro ∧ u = uo) k4 U28 t28_0 t28_1 v28_0 v28_2 := by
  unfold v_placesOf_J28 at h
  unfold w_placesOf_J28
  obtain ⟨v9, e9, h⟩ := h
  intro x9 d9
  have c9 : v9 = x9 := e9.trans d9.symm
  subst c9
  obtain ⟨v9, e9, h⟩ := h
  intro x9 d9
  have c9 : v9 = x9 := e9.trans d9.symm
  subst c9
  exact hk4 _ _ _ _ h
set_option maxRecDepth 100000 in
theorem vz_placesOf_J28 {ro : Int32} {uo : MS} {Q : Int32 → MS → Prop} {k4 k4v : MS → Nat → Int32 → Int32 → Prop} {U28 : MS} {t28_0 : Int32} {t28_1 : Int32} {v28_0 : Nat} {v28_2 : Int32} (hk4 : ∀ (u : MS) (z0 : Nat) (z1 : Int32) (z2 : Int32), k4v u z0 z1 z2 → k4 u z0 z1 z2 → Q ro uo) (h : v_placesOf_J28 ro uo k4v U28 t28_0 t28_1 v28_0 v28_2) (w : w_placesOf_J28 Q k4 U28 t28_0 t28_1 v28_0 v28_2) : Q ro uo := by
  unfold v_placesOf_J28 at h
  unfold w_placesOf_J28 at w
  obtain ⟨v9, e9, h⟩ := h
  replace w := w v9 e9
  obtain ⟨v9, e9, h⟩ := h
  replace w := w v9 e9
  exact hk4 _ _ _ _ h w
set_option maxRecDepth 100000 in
theorem vw_placesOf_L4 {ro : Int32} {uo : MS} : ∀ (n : Nat) {U4 : MS} {v4_0 : Nat} {v4_1 : Int32} {v4_2 : Int32}, v_placesOf_L4 ro uo n U4 v4_0 v4_1 v4_2 → w_placesOf_L4 (fun r u => r = ro ∧ u = uo) n U4 v4_0 v4_1 v4_2 := by
  intro n
  induction n with
  | zero => intro U4 v4_0 v4_1 v4_2 h; unfold v_placesOf_L4 at h; exact h.elim
  | succ n ih =>
    intro U4 v4_0 v4_1 v4_2 h
    unfold v_placesOf_L4 at h
    unfold w_placesOf_L4
    rcases h with ⟨c, h⟩ | ⟨c, h⟩
    · refine ⟨fun _ => ?_, fun c2 => absurd c c2⟩
      exact ⟨h.1.symm, h.2.symm⟩
    · refine ⟨fun c2 => absurd c2 c, fun _ => ?_⟩
      obtain ⟨g9, h⟩ := h
      refine ⟨g9, ?_⟩
      rcases h with ⟨c, h⟩ | ⟨c, h⟩
      · refine ⟨fun _ => ?_, fun c2 => absurd c c2⟩
        exact vw_placesOf_J28 (fun _ _ _ _ h => ih h) h
      · refine ⟨fun c2 => absurd c2 c, fun _ => ?_⟩
        exact vw_placesOf_J28 (fun _ _ _ _ h => ih h) h
set_option maxRecDepth 100000 in
theorem vz_placesOf_L4 {ro : Int32} {uo : MS} {Q : Int32 → MS → Prop} : ∀ (n m : Nat) {U4 : MS} {v4_0 : Nat} {v4_1 : Int32} {v4_2 : Int32}, v_placesOf_L4 ro uo n U4 v4_0 v4_1 v4_2 → w_placesOf_L4 Q m U4 v4_0 v4_1 v4_2 → Q ro uo := by
  intro n
  induction n with
  | zero => intro m U4 v4_0 v4_1 v4_2 h; unfold v_placesOf_L4 at h; exact h.elim
  | succ n ih =>
    intro m U4 v4_0 v4_1 v4_2 h w
    cases m with
    | zero => unfold w_placesOf_L4 at w; exact w.elim
    | succ m =>
      unfold v_placesOf_L4 at h
      unfold w_placesOf_L4 at w
      rcases h with ⟨c, h⟩ | ⟨c, h⟩
      · replace w := w.1 c
        rw [h.1, h.2]
        exact w
      · replace w := w.2 c
        replace h := h.2
        replace w := w.2
        rcases h with ⟨c, h⟩ | ⟨c, h⟩
        · replace w := w.1 c
          exact vz_placesOf_J28 (fun _ _ _ _ h w => ih m h w) h w
        · replace w := w.2 c
          exact vz_placesOf_J28 (fun _ _ _ _ h w => ih m h w) h w
set_option maxRecDepth 100000 in
theorem vw_placesOf {S : MS} {p0 : Nat} {ro : Int32} {uo : MS} (h : v_placesOf S p0 ro uo) : w_placesOf S p0 (fun r u => r = ro ∧ u = uo) := by
  unfold v_placesOf at h
  unfold w_placesOf
  obtain ⟨n9, h⟩ := h
  exact ⟨n9, vw_placesOf_L4 n9 h⟩
set_option maxRecDepth 100000 in
theorem vz_placesOf {S : MS} {p0 : Nat} {ro : Int32} {uo : MS} {Q : Int32 → MS → Prop} (h : v_placesOf S p0 ro uo) (w : w_placesOf S p0 Q) : Q ro uo := by
  unfold v_placesOf at h
  unfold w_placesOf at w
  obtain ⟨n9, h⟩ := h
  obtain ⟨n8, w⟩ := w
  exact vz_placesOf_L4 n9 n8 h w
def v_called_L88 (uo : MS) : Nat → MS → Int32 → Int32 → Int32 → Prop
  | 0, _, _, _, _ => False
  | n88 + 1, U88, v88_3, v88_5, v88_6 => ((v88_5.toInt ≤ v88_6.toInt ∧ (uo = U88)) ∨ (¬ v88_5.toInt ≤ v88_6.toInt ∧ (d_slot U88 v88_6 ∧ (((0 : Int) ≤ (v88_3 + v88_6).toInt ∧ (v88_3 + v88_6).toInt < 1440) ∧ (((0 : Int) ≤ (f_slot U88 v88_6).toInt ∧ (f_slot U88 v88_6).toInt < 1440) ∧ (∃ S44 : MS, S44 = wJ U88 45 (((f_slot U88 v88_6).toInt).toNat) (qJ U88 46 (((v88_3 + v88_6).toInt).toNat)) ∧ (d_slot S44 v88_6 ∧ (((0 : Int) ≤ (v88_3 + v88_6).toInt ∧ (v88_3 + v88_6).toInt < 1440) ∧ (((0 : Int) ≤ (f_slot S44 v88_6).toInt ∧ (f_slot S44 v88_6).toInt < 1440) ∧ (∃ S52 : MS, S52 = wI S44 47 (((f_slot S44 v88_6).toInt).toNat) (vp_nar .byte (qI S44 48 (((v88_3 + v88_6).toInt).toNat))) ∧ (∃ a53 : Int32, a53 = (v88_6 + Int32.ofInt 1) ∧ ((v_called_L88 uo n88) S52 v88_3 v88_5 a53))))))))))))
def v_called (S : MS) (x1 : Int32) (uo : MS) : Prop := (((qI S 0 97).toInt = 60 ∧ (∃ S54 : MS, S54 = wI S 0 98 3 ∧ (uo = S54))) ∨ (¬ (qI S 0 97).toInt = 60 ∧ ((qR S 0 80 = some (qO S 0 80)) ∧ ((qR S (qO S 0 80) 10 = some (qO S (qO S 0 80) 10)) ∧ (((0 : Int) ≤ x1.toInt ∧ x1.toInt < (qN S (qO S (qO S 0 80) 10) : Int)) ∧ ((qR S (qO S (qO S 0 80) 10) x1.toInt.toNat = some (qO S (qO S (qO S 0 80) 10) x1.toInt.toNat)) ∧ (d_slot S (0 : Int32) ∧ (((0 : Int) ≤ ((qI S 0 97) - (1 : Int32)).toInt ∧ ((qI S 0 97) - (1 : Int32)).toInt < 60) ∧ (∃ (r17 : Int32) (S18 : MS), v_placesOf S (qO S (qO S (qO S 0 80) 10) x1.toInt.toNat) r17 S18 ∧ (∃ a21 : Int32, a21 = (((f_slot S (0 : Int32)) + (qI S 44 ((((qI S 0 97) - (1 : Int32)).toInt).toNat))) - r17) ∧ (∃ a25 : Int32, a25 = (a21 - ((24 : Int32) * ((qI S18 0 97) - (1 : Int32)))) ∧ (((0 : Int) ≤ ((qI S18 0 97) - (1 : Int32)).toInt ∧ ((qI S18 0 97) - (1 : Int32)).toInt < 60) ∧ (∃ S28 : MS, S28 = wI S18 44 ((((qI S18 0 97) - (1 : Int32)).toInt).toNat) a25 ∧ (∃ (S30 : MS), v_enter S28 x1 S30 ∧ (∃ (r33 : Int32) (S34 : MS), v_placesOf S30 (qO S (qO S (qO S 0 80) 10) x1.toInt.toNat) r33 S34 ∧ (∃ n, v_called_L88 uo n S34 a21 r33 0))))))))))))))))
set_option maxRecDepth 100000 in
theorem ru_called_L88 {ι : Type} {P : MS → Prop} {Q : MS → Prop} : ∀ (n : Nat) {U88 : MS} {v88_3 : Int32} {v88_5 : Int32} {v88_6 : Int32} (i0 : ι), (∀ (i : ι) (uo : MS), (∃ n8, v_called_L88 uo n8 U88 v88_3 v88_5 v88_6) → P uo) → w_called_L88 Q n U88 v88_3 v88_5 v88_6 → ∃ uo, P uo ∧ Q uo := by
  intro n
  induction n with
  | zero => intro U88 v88_3 v88_5 v88_6 i0 K h; unfold w_called_L88 at h; exact h.elim
  | succ n ih =>
    intro U88 v88_3 v88_5 v88_6 i0 K h
    unfold w_called_L88 at h
    replace K := fun (i : ι × Nat) uo (z : v_called_L88 uo (i.2 + 1) U88 v88_3 v88_5 v88_6) => K i.1 uo ⟨i.2 + 1, z⟩
    have i00 := i0
    replace i0 : ι × Nat := (i0, 0)
    by_cases c : v88_5.toInt ≤ v88_6.toInt
    · replace h := h.1 c
      replace K := fun i uo z => K i uo (Or.inl ⟨c, z⟩)
      exact ⟨_, K i0 _ rfl, h⟩
    · replace h := h.2 c
      replace K := fun i uo z => K i uo (Or.inr ⟨c, z⟩)
      obtain ⟨g1_, h⟩ := h
      replace K := fun i uo z => K i uo ⟨g1_, z⟩
      obtain ⟨g2_, h⟩ := h
      replace K := fun i uo z => K i uo ⟨g2_, z⟩
      obtain ⟨g3_, h⟩ := h
      replace K := fun i uo z => K i uo ⟨g3_, z⟩
      obtain ⟨S44, eS44⟩ : ∃ x9 : MS, x9 = wJ U88 45 (((f_slot U88 v88_6).toInt).toNat) (qJ U88 46 (((v88_3 + v88_6).toInt).toNat)) := ⟨_, rfl⟩
      replace h := h S44 eS44
      replace K := fun i uo z => K i uo ⟨S44, eS44, z⟩
      obtain ⟨g4_, h⟩ := h
      replace K := fun i uo z => K i uo ⟨g4_, z⟩
      obtain ⟨g5_, h⟩ := h
      replace K := fun i uo z => K i uo ⟨g5_, z⟩
      obtain ⟨g6_, h⟩ := h
      replace K := fun i uo z => K i uo ⟨g6_, z⟩
      obtain ⟨S52, eS52⟩ : ∃ x9 : MS, x9 = wI S44 47 (((f_slot S44 v88_6).toInt).toNat) (vp_nar .byte (qI S44 48 (((v88_3 + v88_6).toInt).toNat))) := ⟨_, rfl⟩
      replace h := h S52 eS52
      replace K := fun i uo z => K i uo ⟨S52, eS52, z⟩
      obtain ⟨a53, ea53⟩ : ∃ x9 : Int32, x9 = (v88_6 + Int32.ofInt 1) := ⟨_, rfl⟩
      replace h := h a53 ea53
      replace K := fun i uo z => K i uo ⟨a53, ea53, z⟩
      exact ih i00 (fun i uo ⟨n8, z⟩ => K (i, n8) uo z) h
set_option maxRecDepth 100000 in
theorem ru_called {S : MS} {x1 : Int32} {Q : MS → Prop} (h : w_called S x1 Q) : ∃ uo, v_called S x1 uo ∧ Q uo := by
  have i0 : Unit := ()
  have K : ∀ (i : Unit) (uo : MS), v_called S x1 uo → v_called S x1 uo := fun _ _ z => z
  unfold w_called at h
  by_cases c : (qI S 0 97).toInt = 60
  · replace h := h.1 c
    replace K := fun i uo z => K i uo (Or.inl ⟨c, z⟩)
    obtain ⟨S54, eS54⟩ : ∃ x9 : MS, x9 = wI S 0 98 3 := ⟨_, rfl⟩
    replace h := h S54 eS54
    replace K := fun i uo z => K i uo ⟨S54, eS54, z⟩
    exact ⟨_, K i0 _ rfl, h⟩
  · replace h := h.2 c
    replace K := fun i uo z => K i uo (Or.inr ⟨c, z⟩)
    obtain ⟨g7_, h⟩ := h
    replace K := fun i uo z => K i uo ⟨g7_, z⟩
    obtain ⟨g8_, h⟩ := h
    replace K := fun i uo z => K i uo ⟨g8_, z⟩
    obtain ⟨g9_, h⟩ := h
    replace K := fun i uo z => K i uo ⟨g9_, z⟩
    obtain ⟨g10_, h⟩ := h
    replace K := fun i uo z => K i uo ⟨g10_, z⟩
    obtain ⟨g11_, h⟩ := h
    replace K := fun i uo z => K i uo ⟨g11_, z⟩
    obtain ⟨g12_, h⟩ := h
    replace K := fun i uo z => K i uo ⟨g12_, z⟩
    obtain ⟨Q9, h0, h⟩ := h
    obtain ⟨r17, S18, z9, g9⟩ := ru_placesOf h0
    replace h := h r17 S18 g9
    replace K := fun i uo z => K i uo ⟨r17, S18, z9, z⟩
    obtain ⟨a21, ea21⟩ : ∃ x9 : Int32, x9 = (((f_slot S (0 : Int32)) + (qI S 44 ((((qI S 0 97) - (1 : Int32)).toInt).toNat))) - r17) := ⟨_, rfl⟩
    replace h := h a21 ea21
    replace K := fun i uo z => K i uo ⟨a21, ea21, z⟩
    obtain ⟨a25, ea25⟩ : ∃ x9 : Int32, x9 = (a21 - ((24 : Int32) * ((qI S18 0 97) - (1 : Int32)))) := ⟨_, rfl⟩
    replace h := h a25 ea25
    replace K := fun i uo z => K i uo ⟨a25, ea25, z⟩
    obtain ⟨g13_, h⟩ := h
    replace K := fun i uo z => K i uo ⟨g13_, z⟩
    obtain ⟨S28, eS28⟩ : ∃ x9 : MS, x9 = wI S18 44 ((((qI S18 0 97) - (1 : Int32)).toInt).toNat) a25 := ⟨_, rfl⟩
    replace h := h S28 eS28
    replace K := fun i uo z => K i uo ⟨S28, eS28, z⟩
    obtain ⟨Q9, h0, h⟩ := h
    obtain ⟨S30, z9, g9⟩ := ru_enter h0
    replace h := h S30 g9
    replace K := fun i uo z => K i uo ⟨S30, z9, z⟩
    obtain ⟨Q9, h0, h⟩ := h
    obtain ⟨r33, S34, z9, g9⟩ := ru_placesOf h0
    replace h := h r33 S34 g9
    replace K := fun i uo z => K i uo ⟨r33, S34, z9, z⟩
    obtain ⟨n9, h⟩ := h
    exact ru_called_L88 n9 i0 K h
set_option maxRecDepth 100000 in
theorem vw_called_L88 {uo : MS} : ∀ (n : Nat) {U88 : MS} {v88_3 : Int32} {v88_5 : Int32} {v88_6 : Int32}, v_called_L88 uo n U88 v88_3 v88_5 v88_6 → w_called_L88 (fun u => u = uo) n U88 v88_3 v88_5 v88_6 := by
  intro n
  induction n with
  | zero => intro U88 v88_3 v88_5 v88_6 h; unfold v_called_L88 at h; exact h.elim
  | succ n ih =>
    intro U88 v88_3 v88_5 v88_6 h
    unfold v_called_L88 at h
    unfold w_called_L88
    rcases h with ⟨c, h⟩ | ⟨c, h⟩
    · refine ⟨fun _ => ?_, fun c2 => absurd c c2⟩
      exact h.symm
    · refine ⟨fun c2 => absurd c2 c, fun _ => ?_⟩
      obtain ⟨g9, h⟩ := h
      refine ⟨g9, ?_⟩
      obtain ⟨g9, h⟩ := h
      refine ⟨g9, ?_⟩
      obtain ⟨g9, h⟩ := h
      refine ⟨g9, ?_⟩
      obtain ⟨v9, e9, h⟩ := h
      intro x9 d9
      have c9 : v9 = x9 := e9.trans d9.symm
      subst c9
      obtain ⟨g9, h⟩ := h
      refine ⟨g9, ?_⟩
      obtain ⟨g9, h⟩ := h
      refine ⟨g9, ?_⟩
      obtain ⟨g9, h⟩ := h
      refine ⟨g9, ?_⟩
      obtain ⟨v9, e9, h⟩ := h
      intro x9 d9
      have c9 : v9 = x9 := e9.trans d9.symm
      subst c9
      obtain ⟨v9, e9, h⟩ := h
      intro x9 d9
      have c9 : v9 = x9 := e9.trans d9.symm
      subst c9
      exact ih h
set_option maxRecDepth 100000 in
theorem vz_called_L88 {uo : MS} {Q : MS → Prop} : ∀ (n m : Nat) {U88 : MS} {v88_3 : Int32} {v88_5 : Int32} {v88_6 : Int32}, v_called_L88 uo n U88 v88_3 v88_5 v88_6 → w_called_L88 Q m U88 v88_3 v88_5 v88_6 → Q uo := by
  intro n
  induction n with
  | zero => intro m U88 v88_3 v88_5 v88_6 h; unfold v_called_L88 at h; exact h.elim
  | succ n ih =>
    intro m U88 v88_3 v88_5 v88_6 h w
    cases m with
    | zero => unfold w_called_L88 at w; exact w.elim
    | succ m =>
      unfold v_called_L88 at h
      unfold w_called_L88 at w
      rcases h with ⟨c, h⟩ | ⟨c, h⟩
      · replace w := w.1 c
        rw [h]
        exact w
      · replace w := w.2 c
        replace h := h.2
        replace w := w.2
        replace h := h.2
        replace w := w.2
        replace h := h.2
        replace w := w.2
        obtain ⟨v9, e9, h⟩ := h
        replace w := w v9 e9
        replace h := h.2
        replace w := w.2
        replace h := h.2
        replace w := w.2
        replace h := h.2
        replace w := w.2
        obtain ⟨v9, e9, h⟩ := h
        replace w := w v9 e9
        obtain ⟨v9, e9, h⟩ := h
        replace w := w v9 e9
        exact ih m h w
set_option maxRecDepth 100000 in
theorem vw_called {S : MS} {x1 : Int32} {uo : MS} (h : v_called S x1 uo) : w_called S x1 (fun u => u = uo) := by
  unfold v_called at h
  unfold w_called
  rcases h with ⟨c, h⟩ | ⟨c, h⟩
  · refine ⟨fun _ => ?_, fun c2 => absurd c c2⟩
    obtain ⟨v9, e9, h⟩ := h
    intro x9 d9
    have c9 : v9 = x9 := e9.trans d9.symm
    subst c9
    exact h.symm
  · refine ⟨fun c2 => absurd c2 c, fun _ => ?_⟩
    obtain ⟨g9, h⟩ := h
    refine ⟨g9, ?_⟩
    obtain ⟨g9, h⟩ := h
    refine ⟨g9, ?_⟩
    obtain ⟨g9, h⟩ := h
    refine ⟨g9, ?_⟩
    obtain ⟨g9, h⟩ := h
    refine ⟨g9, ?_⟩
    obtain ⟨g9, h⟩ := h
    refine ⟨g9, ?_⟩
    obtain ⟨g9, h⟩ := h
    refine ⟨g9, ?_⟩
    obtain ⟨p9, q9, z9, h⟩ := h
    refine ⟨_, vw_placesOf z9, ?_⟩
    rintro p8 q8 ⟨d8, d9⟩
    subst d8
    subst d9
    obtain ⟨v9, e9, h⟩ := h
    intro x9 d9
    have c9 : v9 = x9 := e9.trans d9.symm
    subst c9
    obtain ⟨v9, e9, h⟩ := h
    intro x9 d9
    have c9 : v9 = x9 := e9.trans d9.symm
    subst c9
    obtain ⟨g9, h⟩ := h
    refine ⟨g9, ?_⟩
    obtain ⟨v9, e9, h⟩ := h
    intro x9 d9
    have c9 : v9 = x9 := e9.trans d9.symm
    subst c9
    obtain ⟨q9, z9, h⟩ := h
    refine ⟨_, vw_enter z9, ?_⟩
    intro q8 d9
    subst d9
    obtain ⟨p9, q9, z9, h⟩ := h
    refine ⟨_, vw_placesOf z9, ?_⟩
    rintro p8 q8 ⟨d8, d9⟩
    subst d8
    subst d9
    obtain ⟨n9, h⟩ := h
    exact ⟨n9, vw_called_L88 n9 h⟩
set_option maxRecDepth 100000 in
theorem vz_called {S : MS} {x1 : Int32} {uo : MS} {Q : MS → Prop} (h : v_called S x1 uo) (w : w_called S x1 Q) : Q uo := by
  unfold v_called at h
  unfold w_called at w
  rcases h with ⟨c, h⟩ | ⟨c, h⟩
  · replace w := w.1 c
    obtain ⟨v9, e9, h⟩ := h
    replace w := w v9 e9
    rw [h]
    exact w
  · replace w := w.2 c
    replace h := h.2
    replace w := w.2
    replace h := h.2
    replace w := w.2
    replace h := h.2
    replace w := w.2
    replace h := h.2
    replace w := w.2
    replace h := h.2
    replace w := w.2
    replace h := h.2
    replace w := w.2
    obtain ⟨p9, q9, z9, h⟩ := h
    obtain ⟨Q9, w0, w⟩ := w
    replace w := w p9 q9 (vz_placesOf z9 w0)
    obtain ⟨v9, e9, h⟩ := h
    replace w := w v9 e9
    obtain ⟨v9, e9, h⟩ := h
    replace w := w v9 e9
    replace h := h.2
    replace w := w.2
    obtain ⟨v9, e9, h⟩ := h
    replace w := w v9 e9
    obtain ⟨q9, z9, h⟩ := h
    obtain ⟨Q9, w0, w⟩ := w
    replace w := w q9 (vz_enter z9 w0)
    obtain ⟨p9, q9, z9, h⟩ := h
    obtain ⟨Q9, w0, w⟩ := w
    replace w := w p9 q9 (vz_placesOf z9 w0)
    obtain ⟨n9, h⟩ := h
    obtain ⟨n8, w⟩ := w
    exact vz_called_L88 n9 n8 h w
