def v_flow_L73 (uo : MS) : Nat → MS → Int32 → Int32 → Prop
  | 0, _, _, _ => False
  | n73 + 1, U73, v73_1, v73_3 => (d_ways U73 v73_1 ∧ (((f_ways U73 v73_1).toInt ≤ v73_3.toInt ∧ (uo = U73)) ∨ (¬ (f_ways U73 v73_1).toInt ≤ v73_3.toInt ∧ (d_way U73 v73_1 v73_3 ∧ (∃ (S26 : MS), v_join U73 (f_way U73 v73_1 v73_3) (0 : Int32) S26 ∧ (∃ a28 : Int32, a28 = (v73_3 + Int32.ofInt 1) ∧ ((v_flow_L73 uo n73) S26 v73_1 a28)))))))
def v_flow_J71 (uo : MS) (U71 : MS) (v71_1 : Int32) : Prop := (∃ n, v_flow_L73 uo n U71 v71_1 0)
def v_flow_J40 (uo : MS) (k12 : MS → Int32 → Nat → Int32 → Prop) (U40 : MS) (v40_1 : Int32) (v40_2 : Nat) (v40_3 : Int32) : Prop := (∃ a37 : Int32, a37 = (v40_3 + Int32.ofInt 1) ∧ (k12 U40 v40_1 v40_2 a37))
def v_flow_L12 (uo : MS) : Nat → MS → Int32 → Nat → Int32 → Prop
  | 0, _, _, _, _ => False
  | n12 + 1, U12, v12_1, v12_2, v12_3 => (((qI U12 0 54).toInt ≤ v12_3.toInt ∧ (∃ (S10 : MS), v_work U12 v12_1 v12_2 S10 ∧ (d_op S10 v12_1 ∧ (d_goesOn S10 (f_op S10 v12_1) ∧ (((f_goesOn S10 (f_op S10 v12_1)).toInt = 0 ∧ (v_flow_J71 uo S10 v12_1)) ∨ (¬ (f_goesOn S10 (f_op S10 v12_1)).toInt = 0 ∧ (∃ (S32 : MS), v_join S10 (v12_1 + (1 : Int32)) (0 : Int32) S32 ∧ (v_flow_J71 uo S32 v12_1)))))))) ∨ (¬ (qI U12 0 54).toInt ≤ v12_3.toInt ∧ (d_isCaught U12 v12_1 v12_3 ∧ (((f_isCaught U12 v12_1 v12_3).toInt = 0 ∧ (v_flow_J40 uo (v_flow_L12 uo n12) U12 v12_1 v12_2 v12_3)) ∨ (¬ (f_isCaught U12 v12_1 v12_3).toInt = 0 ∧ (d_catchWord U12 v12_3 (2 : Int32) ∧ (∃ (S43 : MS), v_join U12 (f_catchWord U12 v12_3 (2 : Int32)) (1 : Int32) S43 ∧ (v_flow_J40 uo (v_flow_L12 uo n12) S43 v12_1 v12_2 v12_3))))))))
def v_flow (S : MS) (x1 : Int32) (p2 : Nat) (uo : MS) : Prop := (∃ (r2 : Int32) (S3 : MS), v_heightAt S x1 r2 S3 ∧ (∃ (S6 : MS), v_takeOf S3 x1 r2 S6 ∧ (∃ n, v_flow_L12 uo n S6 x1 p2 0)))
set_option maxRecDepth 100000 in
theorem ru_flow_L73 {ι : Type} {P : MS → Prop} {Q : MS → Prop} : ∀ (n : Nat) {U73 : MS} {v73_1 : Int32} {v73_3 : Int32} (i0 : ι), (∀ (i : ι) (uo : MS), (∃ n8, v_flow_L73 uo n8 U73 v73_1 v73_3) → P uo) → w_flow_L73 Q n U73 v73_1 v73_3 → ∃ uo, P uo ∧ Q uo := by
  intro n
  induction n with
  | zero => intro U73 v73_1 v73_3 i0 K h; unfold w_flow_L73 at h; exact h.elim
  | succ n ih =>
    intro U73 v73_1 v73_3 i0 K h
    unfold w_flow_L73 at h
    replace K := fun (i : ι × Nat) uo (z : v_flow_L73 uo (i.2 + 1) U73 v73_1 v73_3) => K i.1 uo ⟨i.2 + 1, z⟩
    have i00 := i0
    replace i0 : ι × Nat := (i0, 0)
    obtain ⟨g1_, h⟩ := h
    replace K := fun i uo z => K i uo ⟨g1_, z⟩
    by_cases c : (f_ways U73 v73_1).toInt ≤ v73_3.toInt
    · replace h := h.1 c
      replace K := fun i uo z => K i uo (Or.inl ⟨c, z⟩)
      exact ⟨_, K i0 _ rfl, h⟩
    · replace h := h.2 c
      replace K := fun i uo z => K i uo (Or.inr ⟨c, z⟩)
      obtain ⟨g2_, h⟩ := h
      replace K := fun i uo z => K i uo ⟨g2_, z⟩
      obtain ⟨Q9, h0, h⟩ := h
      obtain ⟨S26, z9, g9⟩ := ru_join h0
      replace h := h S26 g9
      replace K := fun i uo z => K i uo ⟨S26, z9, z⟩
      obtain ⟨a28, ea28⟩ : ∃ x9 : Int32, x9 = (v73_3 + Int32.ofInt 1) := ⟨_, rfl⟩
      replace h := h a28 ea28
      replace K := fun i uo z => K i uo ⟨a28, ea28, z⟩
      exact ih i00 (fun i uo ⟨n8, z⟩ => K (i, n8) uo z) h
set_option maxRecDepth 100000 in
theorem ru_flow_J71 {ι : Type} {P : MS → Prop} {Q : MS → Prop} {U71 : MS} {v71_1 : Int32} (i0 : ι) (K : ∀ (i : ι) (uo : MS), v_flow_J71 uo U71 v71_1 → P uo) (h : w_flow_J71 Q U71 v71_1) : ∃ uo, P uo ∧ Q uo := by
  unfold w_flow_J71 at h
  obtain ⟨n9, h⟩ := h
  exact ru_flow_L73 n9 i0 K h
set_option maxRecDepth 100000 in
theorem ru_flow_J40 {ι : Type} {P : MS → Prop} {Q : MS → Prop} {k12 : MS → Int32 → Nat → Int32 → Prop} {k12v : ι → MS → MS → Int32 → Nat → Int32 → Prop} {U40 : MS} {v40_1 : Int32} {v40_2 : Nat} {v40_3 : Int32} (i0 : ι) (hk12 : ∀ (u : MS) (z0 : Int32) (z1 : Nat) (z2 : Int32), k12 u z0 z1 z2 → (∀ (i : ι) (uo : MS), k12v i uo u z0 z1 z2 → P uo) → ∃ uo, P uo ∧ Q uo) (K : ∀ (i : ι) (uo : MS), v_flow_J40 uo (k12v i uo) U40 v40_1 v40_2 v40_3 → P uo) (h : w_flow_J40 Q k12 U40 v40_1 v40_2 v40_3) : ∃ uo, P uo ∧ Q uo := by
  unfold w_flow_J40 at h
  obtain ⟨a37, ea37⟩ : ∃ x9 : Int32, x9 = (v40_3 + Int32.ofInt 1) := ⟨_, rfl⟩
  replace h := h a37 ea37
  replace K := fun i uo z => K i uo ⟨a37, ea37, z⟩
  exact hk12 _ _ _ _ h K
set_option maxRecDepth 100000 in
theorem ru_flow_L12 {ι : Type} {P : MS → Prop} {Q : MS → Prop} : ∀ (n : Nat) {U12 : MS} {v12_1 : Int32} {v12_2 : Nat} {v12_3 : Int32} (i0 : ι), (∀ (i : ι) (uo : MS), (∃ n8, v_flow_L12 uo n8 U12 v12_1 v12_2 v12_3) → P uo) → w_flow_L12 Q n U12 v12_1 v12_2 v12_3 → ∃ uo, P uo ∧ Q uo := by
  intro n
  induction n with
  | zero => intro U12 v12_1 v12_2 v12_3 i0 K h; unfold w_flow_L12 at h; exact h.elim
  | succ n ih =>
    intro U12 v12_1 v12_2 v12_3 i0 K h
    unfold w_flow_L12 at h
    replace K := fun (i : ι × Nat) uo (z : v_flow_L12 uo (i.2 + 1) U12 v12_1 v12_2 v12_3) => K i.1 uo ⟨i.2 + 1, z⟩
    have i00 := i0
    replace i0 : ι × Nat := (i0, 0)
    by_cases c : (qI U12 0 54).toInt ≤ v12_3.toInt
    · replace h := h.1 c
      replace K := fun i uo z => K i uo (Or.inl ⟨c, z⟩)
      obtain ⟨Q9, h0, h⟩ := h
      obtain ⟨S10, z9, g9⟩ := ru_work h0
      replace h := h S10 g9
      replace K := fun i uo z => K i uo ⟨S10, z9, z⟩
      obtain ⟨g3_, h⟩ := h
      replace K := fun i uo z => K i uo ⟨g3_, z⟩
      obtain ⟨g4_, h⟩ := h
      replace K := fun i uo z => K i uo ⟨g4_, z⟩
      by_cases c : (f_goesOn S10 (f_op S10 v12_1)).toInt = 0
      · replace h := h.1 c
        replace K := fun i uo z => K i uo (Or.inl ⟨c, z⟩)
        exact ru_flow_J71 i0 K h
      · replace h := h.2 c
        replace K := fun i uo z => K i uo (Or.inr ⟨c, z⟩)
        obtain ⟨Q9, h0, h⟩ := h
        obtain ⟨S32, z9, g9⟩ := ru_join h0
        replace h := h S32 g9
        replace K := fun i uo z => K i uo ⟨S32, z9, z⟩
        exact ru_flow_J71 i0 K h
    · replace h := h.2 c
      replace K := fun i uo z => K i uo (Or.inr ⟨c, z⟩)
      obtain ⟨g5_, h⟩ := h
      replace K := fun i uo z => K i uo ⟨g5_, z⟩
      by_cases c : (f_isCaught U12 v12_1 v12_3).toInt = 0
      · replace h := h.1 c
        replace K := fun i uo z => K i uo (Or.inl ⟨c, z⟩)
        exact ru_flow_J40 i0 (fun _ _ _ _ h K => ih i00 (fun i uo ⟨n8, z⟩ => K (i, n8) uo z) h) K h
      · replace h := h.2 c
        replace K := fun i uo z => K i uo (Or.inr ⟨c, z⟩)
        obtain ⟨g6_, h⟩ := h
        replace K := fun i uo z => K i uo ⟨g6_, z⟩
        obtain ⟨Q9, h0, h⟩ := h
        obtain ⟨S43, z9, g9⟩ := ru_join h0
        replace h := h S43 g9
        replace K := fun i uo z => K i uo ⟨S43, z9, z⟩
        exact ru_flow_J40 i0 (fun _ _ _ _ h K => ih i00 (fun i uo ⟨n8, z⟩ => K (i, n8) uo z) h) K h
set_option maxRecDepth 100000 in
theorem ru_flow {S : MS} {x1 : Int32} {p2 : Nat} {Q : MS → Prop} (h : w_flow S x1 p2 Q) : ∃ uo, v_flow S x1 p2 uo ∧ Q uo := by
  have i0 : Unit := ()
  have K : ∀ (i : Unit) (uo : MS), v_flow S x1 p2 uo → v_flow S x1 p2 uo := fun _ _ z => z
  unfold w_flow at h
  obtain ⟨Q9, h0, h⟩ := h
  obtain ⟨r2, S3, z9, g9⟩ := ru_heightAt h0
  replace h := h r2 S3 g9
  replace K := fun i uo z => K i uo ⟨r2, S3, z9, z⟩
  obtain ⟨Q9, h0, h⟩ := h
  obtain ⟨S6, z9, g9⟩ := ru_takeOf h0
  replace h := h S6 g9
  replace K := fun i uo z => K i uo ⟨S6, z9, z⟩
  obtain ⟨n9, h⟩ := h
  exact ru_flow_L12 n9 i0 K h
set_option maxRecDepth 100000 in
theorem vw_flow_L73 {uo : MS} : ∀ (n : Nat) {U73 : MS} {v73_1 : Int32} {v73_3 : Int32}, v_flow_L73 uo n U73 v73_1 v73_3 → w_flow_L73 (fun u => u = uo) n U73 v73_1 v73_3 := by
  intro n
  induction n with
  | zero => intro U73 v73_1 v73_3 h; unfold v_flow_L73 at h; exact h.elim
  | succ n ih =>
    intro U73 v73_1 v73_3 h
    unfold v_flow_L73 at h
    unfold w_flow_L73
    obtain ⟨g9, h⟩ := h
    refine ⟨g9, ?_⟩
    rcases h with ⟨c, h⟩ | ⟨c, h⟩
    · refine ⟨fun _ => ?_, fun c2 => absurd c c2⟩
      exact h.symm
    · refine ⟨fun c2 => absurd c2 c, fun _ => ?_⟩
      obtain ⟨g9, h⟩ := h
      refine ⟨g9, ?_⟩
      obtain ⟨q9, z9, h⟩ := h
      refine ⟨_, vw_join z9, ?_⟩
      intro q8 d9
      subst d9
      obtain ⟨v9, e9, h⟩ := h
      intro x9 d9
      have c9 : v9 = x9 := e9.trans d9.symm
      subst c9
      exact ih h
set_option maxRecDepth 100000 in
theorem vz_flow_L73 {uo : MS} {Q : MS → Prop} : ∀ (n m : Nat) {U73 : MS} {v73_1 : Int32} {v73_3 : Int32}, v_flow_L73 uo n U73 v73_1 v73_3 → w_flow_L73 Q m U73 v73_1 v73_3 → Q uo := by
  intro n
  induction n with
  | zero => intro m U73 v73_1 v73_3 h; unfold v_flow_L73 at h; exact h.elim
  | succ n ih =>
    intro m U73 v73_1 v73_3 h w
    cases m with
    | zero => unfold w_flow_L73 at w; exact w.elim
    | succ m =>
      unfold v_flow_L73 at h
      unfold w_flow_L73 at w
      replace h := h.2
      replace w := w.2
      rcases h with ⟨c, h⟩ | ⟨c, h⟩
      · replace w := w.1 c
        rw [h]
        exact w
      · replace w := w.2 c
        replace h := h.2
        replace w := w.2
        obtain ⟨q9, z9, h⟩ := h
        obtain ⟨Q9, w0, w⟩ := w
        replace w := w q9 (vz_join z9 w0)
        obtain ⟨v9, e9, h⟩ := h
        replace w := w v9 e9
        exact ih m h w
set_option maxRecDepth 100000 in
theorem vw_flow_J71 {uo : MS} {U71 : MS} {v71_1 : Int32} (h : v_flow_J71 uo U71 v71_1) : w_flow_J71 (fun u => u = uo) U71 v71_1 := by
  unfold v_flow_J71 at h
  unfold w_flow_J71
  obtain ⟨n9, h⟩ := h
  exact ⟨n9, vw_flow_L73 n9 h⟩
set_option maxRecDepth 100000 in
theorem vz_flow_J71 {uo : MS} {Q : MS → Prop} {U71 : MS} {v71_1 : Int32} (h : v_flow_J71 uo U71 v71_1) (w : w_flow_J71 Q U71 v71_1) : Q uo := by
  unfold v_flow_J71 at h
  unfold w_flow_J71 at w
  obtain ⟨n9, h⟩ := h
  obtain ⟨n8, w⟩ := w
  exact vz_flow_L73 n9 n8 h w
set_option maxRecDepth 100000 in
theorem vw_flow_J40 {uo : MS} {k12 k12v : MS → Int32 → Nat → Int32 → Prop} {U40 : MS} {v40_1 : Int32} {v40_2 : Nat} {v40_3 : Int32} (hk12 : ∀ (u : MS) (z0 : Int32) (z1 : Nat) (z2 : Int32), k12v u z0 z1 z2 → k12 u z0 z1 z2) (h : v_flow_J40 uo k12v U40 v40_1 v40_2 v40_3) : w_flow_J40 (fun u => u = uo) k12 U40 v40_1 v40_2 v40_3 := by
  unfold v_flow_J40 at h
  unfold w_flow_J40
  obtain ⟨v9, e9, h⟩ := h
  intro x9 d9
  have c9 : v9 = x9 := e9.trans d9.symm
  subst c9
  exact hk12 _ _ _ _ h
set_option maxRecDepth 100000 in
theorem vz_flow_J40 {uo : MS} {Q : MS → Prop} {k12 k12v : MS → Int32 → Nat → Int32 → Prop} {U40 : MS} {v40_1 : Int32} {v40_2 : Nat} {v40_3 : Int32} (hk12 : ∀ (u : MS) (z0 : Int32) (z1 : Nat) (z2 : Int32), k12v u z0 z1 z2 → k12 u z0 z1 z2 → Q uo) (h : v_flow_J40 uo k12v U40 v40_1 v40_2 v40_3) (w : w_flow_J40 Q k12 U40 v40_1 v40_2 v40_3) : Q uo := by
  unfold v_flow_J40 at h
  unfold w_flow_J40 at w
  obtain ⟨v9, e9, h⟩ := h
  replace w := w v9 e9
  exact hk12 _ _ _ _ h w
set_option maxRecDepth 100000 in
theorem vw_flow_L12 {uo : MS} : ∀ (n : Nat) {U12 : MS} {v12_1 : Int32} {v12_2 : Nat} {v12_3 : Int32}, v_flow_L12 uo n U12 v12_1 v12_2 v12_3 → w_flow_L12 (fun u => u = uo) n U12 v12_1 v12_2 v12_3 := by
  intro n
  induction n with
  | zero => intro U12 v12_1 v12_2 v12_3 h; unfold v_flow_L12 at h; exact h.elim
  | succ n ih =>
    intro U12 v12_1 v12_2 v12_3 h
    unfold v_flow_L12 at h
    unfold w_flow_L12
    rcases h with ⟨c, h⟩ | ⟨c, h⟩
    · refine ⟨fun _ => ?_, fun c2 => absurd c c2⟩
      obtain ⟨q9, z9, h⟩ := h
      refine ⟨_, vw_work z9, ?_⟩
      intro q8 d9
      subst d9
      obtain ⟨g9, h⟩ := h
      refine ⟨g9, ?_⟩
      obtain ⟨g9, h⟩ := h
      refine ⟨g9, ?_⟩
      rcases h with ⟨c, h⟩ | ⟨c, h⟩
      · refine ⟨fun _ => ?_, fun c2 => absurd c c2⟩
        exact vw_flow_J71 h
      · refine ⟨fun c2 => absurd c2 c, fun _ => ?_⟩
        obtain ⟨q9, z9, h⟩ := h
        refine ⟨_, vw_join z9, ?_⟩
        intro q8 d9
        subst d9
        exact vw_flow_J71 h
    · refine ⟨fun c2 => absurd c2 c, fun _ => ?_⟩
      obtain ⟨g9, h⟩ := h
      refine ⟨g9, ?_⟩
      rcases h with ⟨c, h⟩ | ⟨c, h⟩
      · refine ⟨fun _ => ?_, fun c2 => absurd c c2⟩
        exact vw_flow_J40 (fun _ _ _ _ h => ih h) h
      · refine ⟨fun c2 => absurd c2 c, fun _ => ?_⟩
        obtain ⟨g9, h⟩ := h
        refine ⟨g9, ?_⟩
        obtain ⟨q9, z9, h⟩ := h
        refine ⟨_, vw_join z9, ?_⟩
        intro q8 d9
        subst d9
        exact vw_flow_J40 (fun _ _ _ _ h => ih h) h
set_option maxRecDepth 100000 in
theorem vz_flow_L12 {uo : MS} {Q : MS → Prop} : ∀ (n m : Nat) {U12 : MS} {v12_1 : Int32} {v12_2 : Nat} {v12_3 : Int32}, v_flow_L12 uo n U12 v12_1 v12_2 v12_3 → w_flow_L12 Q m U12 v12_1 v12_2 v12_3 → Q uo := by
  intro n
  induction n with
  | zero => intro m U12 v12_1 v12_2 v12_3 h; unfold v_flow_L12 at h; exact h.elim
  | succ n ih =>
    intro m U12 v12_1 v12_2 v12_3 h w
    cases m with
    | zero => unfold w_flow_L12 at w; exact w.elim
    | succ m =>
      unfold v_flow_L12 at h
      unfold w_flow_L12 at w
      rcases h with ⟨c, h⟩ | ⟨c, h⟩
      · replace w := w.1 c
        obtain ⟨q9, z9, h⟩ := h
        obtain ⟨Q9, w0, w⟩ := w
        replace w := w q9 (vz_work z9 w0)
        replace h := h.2
        replace w := w.2
        replace h := h.2
        replace w := w.2
        rcases h with ⟨c, h⟩ | ⟨c, h⟩
        · replace w := w.1 c
          exact vz_flow_J71 h w
        · replace w := w.2 c
          obtain ⟨q9, z9, h⟩ := h
          obtain ⟨Q9, w0, w⟩ := w
          replace w := w q9 (vz_join z9 w0)
          exact vz_flow_J71 h w
      · replace w := w.2 c
        replace h := h.2
        replace w := w.2
        rcases h with ⟨c, h⟩ | ⟨c, h⟩
        · replace w := w.1 c
          exact vz_flow_J40 (fun _ _ _ _ h w => ih m h w) h w
        · replace w := w.2 c
          replace h := h.2
          replace w := w.2
          obtain ⟨q9, z9, h⟩ := h
          obtain ⟨Q9, w0, w⟩ := w
          replace w := w q9 (vz_join z9 w0)
          exact vz_flow_J40 (fun _ _ _ _ h w => ih m h w) h w
set_option maxRecDepth 100000 in
theorem vw_flow {S : MS} {x1 : Int32} {p2 : Nat} {uo : MS} (h : v_flow S x1 p2 uo) : w_flow S x1 p2 (fun u => u = uo) := by
  unfold v_flow at h
  unfold w_flow
  obtain ⟨p9, q9, z9, h⟩ := h
  refine ⟨_, vw_heightAt z9, ?_⟩
  rintro p8 q8 ⟨d8, d9⟩
  subst d8
  subst d9
  obtain ⟨q9, z9, h⟩ := h
  refine ⟨_, vw_takeOf z9, ?_⟩
  intro q8 d9
  subst d9
  obtain ⟨n9, h⟩ := h
  exact ⟨n9, vw_flow_L12 n9 h⟩
set_option maxRecDepth 100000 in
theorem vz_flow {S : MS} {x1 : Int32} {p2 : Nat} {uo : MS} {Q : MS → Prop} (h : v_flow S x1 p2 uo) (w : w_flow S x1 p2 Q) : Q uo := by
  unfold v_flow at h
  unfold w_flow at w
  obtain ⟨p9, q9, z9, h⟩ := h
  obtain ⟨Q9, w0, w⟩ := w
  replace w := w p9 q9 (vz_heightAt z9 w0)
  obtain ⟨q9, z9, h⟩ := h
  obtain ⟨Q9, w0, w⟩ := w
  replace w := w q9 (vz_takeOf z9 w0)
  obtain ⟨n9, h⟩ := h
  obtain ⟨n8, w⟩ := w
  exact vz_flow_L12 n9 n8 h w
def v_isHeightFault_J34 (ro : Int32) (uo : MS) (U34 : MS) : Prop := (ro = (0 : Int32) ∧ uo = U34)
def v_isHeightFault_J30 (ro : Int32) (uo : MS) (U30 : MS) : Prop := (ro = (1 : Int32) ∧ uo = U30)
def v_isHeightFault (S : MS) (x1 : Int32) (ro : Int32) (uo : MS) : Prop := (((0 : Int) ≤ x1.toInt ∧ x1.toInt < 9600) ∧ (((qI S 22 x1.toInt.toNat).toInt = 0 ∧ (v_isHeightFault_J34 ro uo S)) ∨ (¬ (qI S 22 x1.toInt.toNat).toInt = 0 ∧ (∃ (r5 : Int32) (S6 : MS), v_heightAt S x1 r5 S6 ∧ ((r5.toInt < 0 ∧ (v_isHeightFault_J30 ro uo S6)) ∨ (¬ r5.toInt < 0 ∧ (∃ (r10 : Int32) (S11 : MS), v_heightAt S6 x1 r10 S11 ∧ (∃ (r14 : Int32) (S15 : MS), v_isRightHeight S11 x1 r10 r14 S15 ∧ ((r14.toInt = 0 ∧ (v_isHeightFault_J30 ro uo S15)) ∨ (¬ r14.toInt = 0 ∧ (v_isHeightFault_J34 ro uo S15)))))))))))
set_option maxRecDepth 100000 in
theorem ru_isHeightFault_J34 {ι : Type} {P : Int32 → MS → Prop} {Q : Int32 → MS → Prop} {U34 : MS} (i0 : ι) (K : ∀ (i : ι) (ro : Int32) (uo : MS), v_isHeightFault_J34 ro uo U34 → P ro uo) (h : w_isHeightFault_J34 Q U34) : ∃ ro uo, P ro uo ∧ Q ro uo := by
  unfold w_isHeightFault_J34 at h
  exact ⟨_, _, K i0 _ _ ⟨rfl, rfl⟩, h⟩
set_option maxRecDepth 100000 in
theorem ru_isHeightFault_J30 {ι : Type} {P : Int32 → MS → Prop} {Q : Int32 → MS → Prop} {U30 : MS} (i0 : ι) (K : ∀ (i : ι) (ro : Int32) (uo : MS), v_isHeightFault_J30 ro uo U30 → P ro uo) (h : w_isHeightFault_J30 Q U30) : ∃ ro uo, P ro uo ∧ Q ro uo := by
  unfold w_isHeightFault_J30 at h
  exact ⟨_, _, K i0 _ _ ⟨rfl, rfl⟩, h⟩
set_option maxRecDepth 100000 in
theorem ru_isHeightFault {S : MS} {x1 : Int32} {Q : Int32 → MS → Prop} (h : w_isHeightFault S x1 Q) : ∃ ro uo, v_isHeightFault S x1 ro uo ∧ Q ro uo := by
  have i0 : Unit := ()
  have K : ∀ (i : Unit) (ro : Int32) (uo : MS), v_isHeightFault S x1 ro uo → v_isHeightFault S x1 ro uo := fun _ _ _ z => z
  unfold w_isHeightFault at h
  obtain ⟨g1_, h⟩ := h
  replace K := fun i ro uo z => K i ro uo ⟨g1_, z⟩
  by_cases c : (qI S 22 x1.toInt.toNat).toInt = 0
  · replace h := h.1 c
    replace K := fun i ro uo z => K i ro uo (Or.inl ⟨c, z⟩)
    exact ru_isHeightFault_J34 i0 K h
  · replace h := h.2 c
    replace K := fun i ro uo z => K i ro uo (Or.inr ⟨c, z⟩)
    obtain ⟨Q9, h0, h⟩ := h
    obtain ⟨r5, S6, z9, g9⟩ := ru_heightAt h0
    replace h := h r5 S6 g9
    replace K := fun i ro uo z => K i ro uo ⟨r5, S6, z9, z⟩
    by_cases c : r5.toInt < 0
    · replace h := h.1 c
      replace K := fun i ro uo z => K i ro uo (Or.inl ⟨c, z⟩)
      exact ru_isHeightFault_J30 i0 K h
    · replace h := h.2 c
      replace K := fun i ro uo z => K i ro uo (Or.inr ⟨c, z⟩)
      obtain ⟨Q9, h0, h⟩ := h
      obtain ⟨r10, S11, z9, g9⟩ := ru_heightAt h0
      replace h := h r10 S11 g9
      replace K := fun i ro uo z => K i ro uo ⟨r10, S11, z9, z⟩
      obtain ⟨Q9, h0, h⟩ := h
      obtain ⟨r14, S15, z9, g9⟩ := ru_isRightHeight h0
      replace h := h r14 S15 g9
      replace K := fun i ro uo z => K i ro uo ⟨r14, S15, z9, z⟩
      by_cases c : r14.toInt = 0
      · replace h := h.1 c
        replace K := fun i ro uo z => K i ro uo (Or.inl ⟨c, z⟩)
        exact ru_isHeightFault_J30 i0 K h
      · replace h := h.2 c
        replace K := fun i ro uo z => K i ro uo (Or.inr ⟨c, z⟩)
        exact ru_isHeightFault_J34 i0 K h
set_option maxRecDepth 100000 in
theorem vw_isHeightFault_J34 {ro : Int32} {uo : MS} {U34 : MS} (h : v_isHeightFault_J34 ro uo U34) : w_isHeightFault_J34 (fun r u => r = ro ∧ u = uo) U34 := by
  unfold v_isHeightFault_J34 at h
  unfold w_isHeightFault_J34
  exact ⟨h.1.symm, h.2.symm⟩
set_option maxRecDepth 100000 in
theorem vz_isHeightFault_J34 {ro : Int32} {uo : MS} {Q : Int32 → MS → Prop} {U34 : MS} (h : v_isHeightFault_J34 ro uo U34) (w : w_isHeightFault_J34 Q U34) : Q ro uo := by
  unfold v_isHeightFault_J34 at h
  unfold w_isHeightFault_J34 at w
  rw [h.1, h.2]
  exact w
set_option maxRecDepth 100000 in
theorem vw_isHeightFault_J30 {ro : Int32} {uo : MS} {U30 : MS} (h : v_isHeightFault_J30 ro uo U30) : w_isHeightFault_J30 (fun r u => r = ro ∧ u = uo) U30 := by
  unfold v_isHeightFault_J30 at h
  unfold w_isHeightFault_J30
  exact ⟨h.1.symm, h.2.symm⟩
set_option maxRecDepth 100000 in
theorem vz_isHeightFault_J30 {ro : Int32} {uo : MS} {Q : Int32 → MS → Prop} {U30 : MS} (h : v_isHeightFault_J30 ro uo U30) (w : w_isHeightFault_J30 Q U30) : Q ro uo := by
  unfold v_isHeightFault_J30 at h
  unfold w_isHeightFault_J30 at w
  rw [h.1, h.2]
  exact w
set_option maxRecDepth 100000 in
theorem vw_isHeightFault {S : MS} {x1 : Int32} {ro : Int32} {uo : MS} (h : v_isHeightFault S x1 ro uo) : w_isHeightFault S x1 (fun r u => r = ro ∧ u = uo) := by
  unfold v_isHeightFault at h
  unfold w_isHeightFault
  obtain ⟨g9, h⟩ := h
  refine ⟨g9, ?_⟩
  rcases h with ⟨c, h⟩ | ⟨c, h⟩
  · refine ⟨fun _ => ?_, fun c2 => absurd c c2⟩
    exact vw_isHeightFault_J34 h
  · refine ⟨fun c2 => absurd c2 c, fun _ => ?_⟩
    obtain ⟨p9, q9, z9, h⟩ := h
    refine ⟨_, vw_heightAt z9, ?_⟩
    rintro p8 q8 ⟨d8, d9⟩
    subst d8
    subst d9
    rcases h with ⟨c, h⟩ | ⟨c, h⟩
    · refine ⟨fun _ => ?_, fun c2 => absurd c c2⟩
      exact vw_isHeightFault_J30 h
    · refine ⟨fun c2 => absurd c2 c, fun _ => ?_⟩
      obtain ⟨p9, q9, z9, h⟩ := h
      refine ⟨_, vw_heightAt z9, ?_⟩
      rintro p8 q8 ⟨d8, d9⟩
      subst d8
      subst d9
      obtain ⟨p9, q9, z9, h⟩ := h
      refine ⟨_, vw_isRightHeight z9, ?_⟩
      rintro p8 q8 ⟨d8, d9⟩
      subst d8
      subst d9
      rcases h with ⟨c, h⟩ | ⟨c, h⟩
      · refine ⟨fun _ => ?_, fun c2 => absurd c c2⟩
        exact vw_isHeightFault_J30 h
      · refine ⟨fun c2 => absurd c2 c, fun _ => ?_⟩
        exact vw_isHeightFault_J34 h
set_option maxRecDepth 100000 in
theorem vz_isHeightFault {S : MS} {x1 : Int32} {ro : Int32} {uo : MS} {Q : Int32 → MS → Prop} (h : v_isHeightFault S x1 ro uo) (w : w_isHeightFault S x1 Q) : Q ro uo := by
  unfold v_isHeightFault at h
  unfold w_isHeightFault at w
  replace h := h.2
  replace w := w.2
  rcases h with ⟨c, h⟩ | ⟨c, h⟩
  · replace w := w.1 c
    exact vz_isHeightFault_J34 h w
  · replace w := w.2 c
    obtain ⟨p9, q9, z9, h⟩ := h
    obtain ⟨Q9, w0, w⟩ := w
    replace w := w p9 q9 (vz_heightAt z9 w0)
    rcases h with ⟨c, h⟩ | ⟨c, h⟩
    · replace w := w.1 c
      exact vz_isHeightFault_J30 h w
    · replace w := w.2 c
      obtain ⟨p9, q9, z9, h⟩ := h
      obtain ⟨Q9, w0, w⟩ := w
      replace w := w p9 q9 (vz_heightAt z9 w0)
      obtain ⟨p9, q9, z9, h⟩ := h
      obtain ⟨Q9, w0, w⟩ := w
      replace w := w p9 q9 (vz_isRightHeight z9 w0)
      rcases h with ⟨c, h⟩ | ⟨c, h⟩
      · replace w := w.1 c
        exact vz_isHeightFault_J30 h w
      · replace w := w.2 c
        exact vz_isHeightFault_J34 h w
def v_firstFault_J307 (ro : Int32) (uo : MS) (k239 : MS → Nat → Int32 → Int32 → Prop) (U307 : MS) (v307_1 : Nat) (v307_2 : Int32) (v307_5 : Int32) : Prop := (∃ a33 : Int32, a33 = (v307_5 + Int32.ofInt 1) ∧ (k239 U307 v307_1 v307_2 a33))
def v_firstFault_J227 (ro : Int32) (uo : MS) (k187 : MS → Nat → Int32 → Int32 → Prop) (U227 : MS) (v227_1 : Nat) (v227_2 : Int32) (v227_5 : Int32) : Prop := (∃ a55 : Int32, a55 = (v227_5 + Int32.ofInt 1) ∧ (k187 U227 v227_1 v227_2 a55))
def v_firstFault_J152 (ro : Int32) (uo : MS) (k73 : MS → Nat → Int32 → Nat → Int32 → Int32 → Prop) (U152 : MS) (t152_0 : Int32) (t152_1 : Int32) (v152_1 : Nat) (v152_2 : Int32) (v152_3 : Nat) (v152_5 : Int32) : Prop := (∃ a76 : Int32, a76 = (t152_1 + t152_0) ∧ (∃ a77 : Int32, a77 = (v152_5 + Int32.ofInt 1) ∧ (k73 U152 v152_1 v152_2 v152_3 a76 a77)))
def v_firstFault_J138 (ro : Int32) (uo : MS) (k73 : MS → Nat → Int32 → Nat → Int32 → Int32 → Prop) (U138 : MS) (v138_1 : Nat) (v138_2 : Int32) (v138_3 : Nat) (v138_4 : Int32) (v138_5 : Int32) (v138_6 : Int32) : Prop := ((v138_6.toInt = 74 ∧ (v_firstFault_J152 ro uo k73 U138 2 v138_4 v138_1 v138_2 v138_3 v138_5)) ∨ (¬ v138_6.toInt = 74 ∧ (v_firstFault_J152 ro uo k73 U138 1 v138_4 v138_1 v138_2 v138_3 v138_5)))
def v_firstFault_J119 (ro : Int32) (uo : MS) (k73 : MS → Nat → Int32 → Nat → Int32 → Int32 → Prop) (U119 : MS) (t119_0 : Int32) (t119_1 : Int32) (v119_1 : Nat) (v119_2 : Int32) (v119_3 : Nat) (v119_4 : Int32) (v119_5 : Int32) (v119_6 : Int32) : Prop := (((0 : Int) ≤ t119_1.toInt ∧ t119_1.toInt < 24) ∧ (∃ S74 : MS, S74 = wI U119 25 t119_1.toInt.toNat (vp_nar .byte (t119_0.toInt8.toInt32)) ∧ ((v119_6.toInt = 74 ∧ (((0 : Int) ≤ (v119_4 + (1 : Int32)).toInt ∧ (v119_4 + (1 : Int32)).toInt < 24) ∧ (∃ S82 : MS, S82 = wI S74 25 (((v119_4 + (1 : Int32)).toInt).toNat) (vp_nar .byte (3 : Int32)) ∧ (v_firstFault_J138 ro uo k73 S82 v119_1 v119_2 v119_3 v119_4 v119_5 v119_6)))) ∨ (¬ v119_6.toInt = 74 ∧ (v_firstFault_J138 ro uo k73 S74 v119_1 v119_2 v119_3 v119_4 v119_5 v119_6)))))
def v_firstFault_L239 (ro : Int32) (uo : MS) : Nat → MS → Nat → Int32 → Int32 → Prop
  | 0, _, _, _, _ => False
  | n239 + 1, U239, v239_1, v239_2, v239_5 => (((qI U239 0 52).toInt ≤ v239_5.toInt ∧ (ro = (-1 : Int32) ∧ uo = U239)) ∨ (¬ (qI U239 0 52).toInt ≤ v239_5.toInt ∧ (∃ (r27 : Int32) (S28 : MS), v_isHeightFault U239 v239_5 r27 S28 ∧ ((r27.toInt = 0 ∧ (((0 : Int) ≤ v239_5.toInt ∧ v239_5.toInt < 1200) ∧ (((qI S28 24 v239_5.toInt.toNat).toInt = 0 ∧ (v_firstFault_J307 ro uo (v_firstFault_L239 ro uo n239) S28 v239_1 v239_2 v239_5)) ∨ (¬ (qI S28 24 v239_5.toInt.toNat).toInt = 0 ∧ (∃ (r36 : Int32) (S37 : MS), v_heightAt S28 v239_5 r36 S37 ∧ (∃ (S40 : MS), v_takeOf S37 v239_5 r36 S40 ∧ ((qR S40 v239_1 11 = some (qO S40 v239_1 11)) ∧ (((0 : Int) ≤ v239_2.toInt ∧ v239_2.toInt < (qN S40 (qO S40 v239_1 11) : Int)) ∧ ((qR S40 (qO S40 v239_1 11) v239_2.toInt.toNat = some (qO S40 (qO S40 v239_1 11) v239_2.toInt.toNat)) ∧ (∃ (S48 : MS), v_work S40 v239_5 (qO S40 (qO S40 v239_1 11) v239_2.toInt.toNat) S48 ∧ (((qI S48 0 63).toInt = 0 ∧ (ro = v239_5 ∧ uo = S48)) ∨ (¬ (qI S48 0 63).toInt = 0 ∧ (v_firstFault_J307 ro uo (v_firstFault_L239 ro uo n239) S48 v239_1 v239_2 v239_5))))))))))))) ∨ (¬ r27.toInt = 0 ∧ (ro = v239_5 ∧ uo = S28))))))
def v_firstFault_L187 (ro : Int32) (uo : MS) (k172 : MS → Nat → Int32 → Prop) : Nat → MS → Nat → Int32 → Int32 → Prop
  | 0, _, _, _, _ => False
  | n187 + 1, U187, v187_1, v187_2, v187_5 => (((qI U187 0 52).toInt ≤ v187_5.toInt ∧ (k172 U187 v187_1 v187_2)) ∨ (¬ (qI U187 0 52).toInt ≤ v187_5.toInt ∧ (((0 : Int) ≤ v187_5.toInt ∧ v187_5.toInt < 1200) ∧ (((qI U187 24 v187_5.toInt.toNat).toInt = 0 ∧ (v_firstFault_J227 ro uo (v_firstFault_L187 ro uo k172 n187) U187 v187_1 v187_2 v187_5)) ∨ (¬ (qI U187 24 v187_5.toInt.toNat).toInt = 0 ∧ (∃ (r58 : Int32) (S59 : MS), v_isHeightFault U187 v187_5 r58 S59 ∧ ((r58.toInt = 0 ∧ ((qR S59 v187_1 11 = some (qO S59 v187_1 11)) ∧ (((0 : Int) ≤ v187_2.toInt ∧ v187_2.toInt < (qN S59 (qO S59 v187_1 11) : Int)) ∧ ((qR S59 (qO S59 v187_1 11) v187_2.toInt.toNat = some (qO S59 (qO S59 v187_1 11) v187_2.toInt.toNat)) ∧ (∃ (S68 : MS), v_flow S59 v187_5 (qO S59 (qO S59 v187_1 11) v187_2.toInt.toNat) S68 ∧ (v_firstFault_J227 ro uo (v_firstFault_L187 ro uo k172 n187) S68 v187_1 v187_2 v187_5)))))) ∨ (¬ r58.toInt = 0 ∧ (v_firstFault_J227 ro uo (v_firstFault_L187 ro uo k172 n187) S59 v187_1 v187_2 v187_5)))))))))
def v_firstFault_L172 (ro : Int32) (uo : MS) : Nat → MS → Nat → Int32 → Prop
  | 0, _, _, _ => False
  | n172 + 1, U172, v172_1, v172_2 => (((qI U172 0 57).toInt = 0 ∧ (∃ n, v_firstFault_L239 ro uo n U172 v172_1 v172_2 0)) ∨ (¬ (qI U172 0 57).toInt = 0 ∧ (∃ S51 : MS, S51 = wI U172 0 57 0 ∧ (∃ n, v_firstFault_L187 ro uo (v_firstFault_L172 ro uo n172) n S51 v172_1 v172_2 0))))
def v_firstFault_L73 (ro : Int32) (uo : MS) : Nat → MS → Nat → Int32 → Nat → Int32 → Int32 → Prop
  | 0, _, _, _, _, _, _ => False
  | n73 + 1, U73, v73_1, v73_2, v73_3, v73_4, v73_5 => (((Int32.ofNat (qN U73 (v73_3 + 1))).toInt ≤ v73_5.toInt ∧ (∃ (S21 : MS), v_join U73 (0 : Int32) (0 : Int32) S21 ∧ (∃ S23 : MS, S23 = wI S21 0 57 1 ∧ (∃ n, v_firstFault_L172 ro uo n S23 v73_1 v73_2)))) ∨ (¬ (Int32.ofNat (qN U73 (v73_3 + 1))).toInt ≤ v73_5.toInt ∧ (((0 : Int) ≤ v73_5.toInt ∧ v73_5.toInt < (qN U73 (v73_3 + 1) : Int)) ∧ (∃ a72 : Int32, a72 = (cAt U73 v73_3 v73_5) ∧ ((a72.toInt = 73 ∧ (v_firstFault_J119 ro uo (v_firstFault_L73 ro uo n73) U73 1 v73_4 v73_1 v73_2 v73_3 v73_4 v73_5 a72)) ∨ (¬ a72.toInt = 73 ∧ ((a72.toInt = 74 ∧ (v_firstFault_J119 ro uo (v_firstFault_L73 ro uo n73) U73 2 v73_4 v73_1 v73_2 v73_3 v73_4 v73_5 a72)) ∨ (¬ a72.toInt = 74 ∧ (v_firstFault_J119 ro uo (v_firstFault_L73 ro uo n73) U73 4 v73_4 v73_1 v73_2 v73_3 v73_4 v73_5 a72)))))))))
def v_firstFault_L41 (ro : Int32) (uo : MS) : Nat → MS → Nat → Int32 → Int32 → Prop
  | 0, _, _, _, _ => False
  | n41 + 1, U41, v41_1, v41_2, v41_3 => ((24 ≤ v41_3.toInt ∧ ((qR U41 v41_1 10 = some (qO U41 v41_1 10)) ∧ (((0 : Int) ≤ v41_2.toInt ∧ v41_2.toInt < (qN U41 (qO U41 v41_1 10) : Int)) ∧ ((qR U41 (qO U41 v41_1 10) v41_2.toInt.toNat = some (qO U41 (qO U41 v41_1 10) v41_2.toInt.toNat)) ∧ (∃ n, v_firstFault_L73 ro uo n U41 v41_1 v41_2 (qO U41 (qO U41 v41_1 10) v41_2.toInt.toNat) 0 0))))) ∨ (¬ 24 ≤ v41_3.toInt ∧ (((0 : Int) ≤ v41_3.toInt ∧ v41_3.toInt < 24) ∧ (∃ S86 : MS, S86 = wI U41 25 v41_3.toInt.toNat (vp_nar .byte (0 : Int32)) ∧ (∃ a87 : Int32, a87 = (v41_3 + Int32.ofInt 1) ∧ ((v_firstFault_L41 ro uo n41) S86 v41_1 v41_2 a87))))))
def v_firstFault_L18 (ro : Int32) (uo : MS) : Nat → MS → Nat → Int32 → Int32 → Prop
  | 0, _, _, _, _ => False
  | n18 + 1, U18, v18_1, v18_2, v18_3 => (((qI U18 0 52).toInt ≤ v18_3.toInt ∧ (∃ n, v_firstFault_L41 ro uo n U18 v18_1 v18_2 0)) ∨ (¬ (qI U18 0 52).toInt ≤ v18_3.toInt ∧ (((0 : Int) ≤ v18_3.toInt ∧ v18_3.toInt < 1200) ∧ (∃ S89 : MS, S89 = wI U18 24 v18_3.toInt.toNat (vp_nar .boolean (0 : Int32)) ∧ (∃ a90 : Int32, a90 = (v18_3 + Int32.ofInt 1) ∧ ((v_firstFault_L18 ro uo n18) S89 v18_1 v18_2 a90))))))
def v_firstFault (S : MS) (p1 : Nat) (x2 : Int32) (ro : Int32) (uo : MS) : Prop := (∃ (S2 : MS), v_look S p1 x2 S2 ∧ ((qR S2 p1 12 = some (qO S2 p1 12)) ∧ (((0 : Int) ≤ x2.toInt ∧ x2.toInt < (qN S2 (qO S2 p1 12) : Int)) ∧ (∃ (S9 : MS), v_findHeights S2 (qI S2 (qO S2 p1 12) x2.toInt.toNat) S9 ∧ (∃ n, v_firstFault_L18 ro uo n S9 p1 x2 0)))))
set_option maxRecDepth 100000 in
theorem ru_firstFault_J307 {ι : Type} {P : Int32 → MS → Prop} {Q : Int32 → MS → Prop} {k239 : MS → Nat → Int32 → Int32 → Prop} {k239v : ι → Int32 → MS → MS → Nat → Int32 → Int32 → Prop} {U307 : MS} {v307_1 : Nat} {v307_2 : Int32} {v307_5 : Int32} (i0 : ι) (hk239 : ∀ (u : MS) (z0 : Nat) (z1 : Int32) (z2 : Int32), k239 u z0 z1 z2 → (∀ (i : ι) (ro : Int32) (uo : MS), k239v i ro uo u z0 z1 z2 → P ro uo) → ∃ ro uo, P ro uo ∧ Q ro uo) (K : ∀ (i : ι) (ro : Int32) (uo : MS), v_firstFault_J307 ro uo (k239v i ro uo) U307 v307_1 v307_2 v307_5 → P ro uo) (h : w_firstFault_J307 Q k239 U307 v307_1 v307_2 v307_5) : ∃ ro uo, P ro uo ∧ Q ro uo := by
  unfold w_firstFault_J307 at h
  obtain ⟨a33, ea33⟩ : ∃ x9 : Int32, x9 = (v307_5 + Int32.ofInt 1) := ⟨_, rfl⟩
  replace h := h a33 ea33
  replace K := fun i ro uo z => K i ro uo ⟨a33, ea33, z⟩
  exact hk239 _ _ _ _ h K
set_option maxRecDepth 100000 in
theorem ru_firstFault_J227 {ι : Type} {P : Int32 → MS → Prop} {Q : Int32 → MS → Prop} {k187 : MS → Nat → Int32 → Int32 → Prop} {k187v : ι → Int32 → MS → MS → Nat → Int32 → Int32 → Prop} {U227 : MS} {v227_1 : Nat} {v227_2 : Int32} {v227_5 : Int32} (i0 : ι) (hk187 : ∀ (u : MS) (z0 : Nat) (z1 : Int32) (z2 : Int32), k187 u z0 z1 z2 → (∀ (i : ι) (ro : Int32) (uo : MS), k187v i ro uo u z0 z1 z2 → P ro uo) → ∃ ro uo, P ro uo ∧ Q ro uo) (K : ∀ (i : ι) (ro : Int32) (uo : MS), v_firstFault_J227 ro uo (k187v i ro uo) U227 v227_1 v227_2 v227_5 → P ro uo) (h : w_firstFault_J227 Q k187 U227 v227_1 v227_2 v227_5) : ∃ ro uo, P ro uo ∧ Q ro uo := by
  unfold w_firstFault_J227 at h
  obtain ⟨a55, ea55⟩ : ∃ x9 : Int32, x9 = (v227_5 + Int32.ofInt 1) := ⟨_, rfl⟩
  replace h := h a55 ea55
  replace K := fun i ro uo z => K i ro uo ⟨a55, ea55, z⟩
  exact hk187 _ _ _ _ h K
set_option maxRecDepth 100000 in
theorem ru_firstFault_J152 {ι : Type} {P : Int32 → MS → Prop} {Q : Int32 → MS → Prop} {k73 : MS → Nat → Int32 → Nat → Int32 → Int32 → Prop} {k73v : ι → Int32 → MS → MS → Nat → Int32 → Nat → Int32 → Int32 → Prop} {U152 : MS} {t152_0 : Int32} {t152_1 : Int32} {v152_1 : Nat} {v152_2 : Int32} {v152_3 : Nat} {v152_5 : Int32} (i0 : ι) (hk73 : ∀ (u : MS) (z0 : Nat) (z1 : Int32) (z2 : Nat) (z3 : Int32) (z4 : Int32), k73 u z0 z1 z2 z3 z4 → (∀ (i : ι) (ro : Int32) (uo : MS), k73v i ro uo u z0 z1 z2 z3 z4 → P ro uo) → ∃ ro uo, P ro uo ∧ Q ro uo) (K : ∀ (i : ι) (ro : Int32) (uo : MS), v_firstFault_J152 ro uo (k73v i ro uo) U152 t152_0 t152_1 v152_1 v152_2 v152_3 v152_5 → P ro uo) (h : w_firstFault_J152 Q k73 U152 t152_0 t152_1 v152_1 v152_2 v152_3 v152_5) : ∃ ro uo, P ro uo ∧ Q ro uo := by
  unfold w_firstFault_J152 at h
  obtain ⟨a76, ea76⟩ : ∃ x9 : Int32, x9 = (t152_1 + t152_0) := ⟨_, rfl⟩
  replace h := h a76 ea76
  replace K := fun i ro uo z => K i ro uo ⟨a76, ea76, z⟩
  obtain ⟨a77, ea77⟩ : ∃ x9 : Int32, x9 = (v152_5 + Int32.ofInt 1) := ⟨_, rfl⟩
  replace h := h a77 ea77
  replace K := fun i ro uo z => K i ro uo ⟨a77, ea77, z⟩
  exact hk73 _ _ _ _ _ _ h K
set_option maxRecDepth 100000 in
theorem ru_firstFault_J138 {ι : Type} {P : Int32 → MS → Prop} {Q : Int32 → MS → Prop} {k73 : MS → Nat → Int32 → Nat → Int32 → Int32 → Prop} {k73v : ι → Int32 → MS → MS → Nat → Int32 → Nat → Int32 → Int32 → Prop} {U138 : MS} {v138_1 : Nat} {v138_2 : Int32} {v138_3 : Nat} {v138_4 : Int32} {v138_5 : Int32} {v138_6 : Int32} (i0 : ι) (hk73 : ∀ (u : MS) (z0 : Nat) (z1 : Int32) (z2 : Nat) (z3 : Int32) (z4 : Int32), k73 u z0 z1 z2 z3 z4 → (∀ (i : ι) (ro : Int32) (uo : MS), k73v i ro uo u z0 z1 z2 z3 z4 → P ro uo) → ∃ ro uo, P ro uo ∧ Q ro uo) (K : ∀ (i : ι) (ro : Int32) (uo : MS), v_firstFault_J138 ro uo (k73v i ro uo) U138 v138_1 v138_2 v138_3 v138_4 v138_5 v138_6 → P ro uo) (h : w_firstFault_J138 Q k73 U138 v138_1 v138_2 v138_3 v138_4 v138_5 v138_6) : ∃ ro uo, P ro uo ∧ Q ro uo := by
  unfold w_firstFault_J138 at h
  by_cases c : v138_6.toInt = 74
  · replace h := h.1 c
    replace K := fun i ro uo z => K i ro uo (Or.inl ⟨c, z⟩)
    exact ru_firstFault_J152 i0 hk73 K h
  · replace h := h.2 c
    replace K := fun i ro uo z => K i ro uo (Or.inr ⟨c, z⟩)
    exact ru_firstFault_J152 i0 hk73 K h
set_option maxRecDepth 100000 in
theorem ru_firstFault_J119 {ι : Type} {P : Int32 → MS → Prop} {Q : Int32 → MS → Prop} {k73 : MS → Nat → Int32 → Nat → Int32 → Int32 → Prop} {k73v : ι → Int32 → MS → MS → Nat → Int32 → Nat → Int32 → Int32 → Prop} {U119 : MS} {t119_0 : Int32} {t119_1 : Int32} {v119_1 : Nat} {v119_2 : Int32} {v119_3 : Nat} {v119_4 : Int32} {v119_5 : Int32} {v119_6 : Int32} (i0 : ι) (hk73 : ∀ (u : MS) (z0 : Nat) (z1 : Int32) (z2 : Nat) (z3 : Int32) (z4 : Int32), k73 u z0 z1 z2 z3 z4 → (∀ (i : ι) (ro : Int32) (uo : MS), k73v i ro uo u z0 z1 z2 z3 z4 → P ro uo) → ∃ ro uo, P ro uo ∧ Q ro uo) (K : ∀ (i : ι) (ro : Int32) (uo : MS), v_firstFault_J119 ro uo (k73v i ro uo) U119 t119_0 t119_1 v119_1 v119_2 v119_3 v119_4 v119_5 v119_6 → P ro uo) (h : w_firstFault_J119 Q k73 U119 t119_0 t119_1 v119_1 v119_2 v119_3 v119_4 v119_5 v119_6) : ∃ ro uo, P ro uo ∧ Q ro uo := by
  unfold w_firstFault_J119 at h
  obtain ⟨g1_, h⟩ := h
  replace K := fun i ro uo z => K i ro uo ⟨g1_, z⟩
  obtain ⟨S74, eS74⟩ : ∃ x9 : MS, x9 = wI U119 25 t119_1.toInt.toNat (vp_nar .byte (t119_0.toInt8.toInt32)) := ⟨_, rfl⟩
  replace h := h S74 eS74
  replace K := fun i ro uo z => K i ro uo ⟨S74, eS74, z⟩
  by_cases c : v119_6.toInt = 74
  · replace h := h.1 c
    replace K := fun i ro uo z => K i ro uo (Or.inl ⟨c, z⟩)
    obtain ⟨g2_, h⟩ := h
    replace K := fun i ro uo z => K i ro uo ⟨g2_, z⟩
    obtain ⟨S82, eS82⟩ : ∃ x9 : MS, x9 = wI S74 25 (((v119_4 + (1 : Int32)).toInt).toNat) (vp_nar .byte (3 : Int32)) := ⟨_, rfl⟩
    replace h := h S82 eS82
    replace K := fun i ro uo z => K i ro uo ⟨S82, eS82, z⟩
    exact ru_firstFault_J138 i0 hk73 K h
  · replace h := h.2 c
    replace K := fun i ro uo z => K i ro uo (Or.inr ⟨c, z⟩)
    exact ru_firstFault_J138 i0 hk73 K h
set_option maxRecDepth 100000 in
theorem ru_firstFault_L239 {ι : Type} {P : Int32 → MS → Prop} {Q : Int32 → MS → Prop} : ∀ (n : Nat) {U239 : MS} {v239_1 : Nat} {v239_2 : Int32} {v239_5 : Int32} (i0 : ι), (∀ (i : ι) (ro : Int32) (uo : MS), (∃ n8, v_firstFault_L239 ro uo n8 U239 v239_1 v239_2 v239_5) → P ro uo) → w_firstFault_L239 Q n U239 v239_1 v239_2 v239_5 → ∃ ro uo, P ro uo ∧ Q ro uo := by
  intro n
  induction n with
  | zero => intro U239 v239_1 v239_2 v239_5 i0 K h; unfold w_firstFault_L239 at h; exact h.elim
  | succ n ih =>
    intro U239 v239_1 v239_2 v239_5 i0 K h
    unfold w_firstFault_L239 at h
    replace K := fun (i : ι × Nat) ro uo (z : v_firstFault_L239 ro uo (i.2 + 1) U239 v239_1 v239_2 v239_5) => K i.1 ro uo ⟨i.2 + 1, z⟩
    have i00 := i0
    replace i0 : ι × Nat := (i0, 0)
    by_cases c : (qI U239 0 52).toInt ≤ v239_5.toInt
    · replace h := h.1 c
      replace K := fun i ro uo z => K i ro uo (Or.inl ⟨c, z⟩)
      exact ⟨_, _, K i0 _ _ ⟨rfl, rfl⟩, h⟩
    · replace h := h.2 c
      replace K := fun i ro uo z => K i ro uo (Or.inr ⟨c, z⟩)
      obtain ⟨Q9, h0, h⟩ := h
      obtain ⟨r27, S28, z9, g9⟩ := ru_isHeightFault h0
      replace h := h r27 S28 g9
      replace K := fun i ro uo z => K i ro uo ⟨r27, S28, z9, z⟩
      by_cases c : r27.toInt = 0
      · replace h := h.1 c
        replace K := fun i ro uo z => K i ro uo (Or.inl ⟨c, z⟩)
        obtain ⟨g3_, h⟩ := h
        replace K := fun i ro uo z => K i ro uo ⟨g3_, z⟩
        by_cases c : (qI S28 24 v239_5.toInt.toNat).toInt = 0
        · replace h := h.1 c
          replace K := fun i ro uo z => K i ro uo (Or.inl ⟨c, z⟩)
          exact ru_firstFault_J307 i0 (fun _ _ _ _ h K => ih i00 (fun i ro uo ⟨n8, z⟩ => K (i, n8) ro uo z) h) K h
        · replace h := h.2 c
          replace K := fun i ro uo z => K i ro uo (Or.inr ⟨c, z⟩)
          obtain ⟨Q9, h0, h⟩ := h
          obtain ⟨r36, S37, z9, g9⟩ := ru_heightAt h0
          replace h := h r36 S37 g9
          replace K := fun i ro uo z => K i ro uo ⟨r36, S37, z9, z⟩
          obtain ⟨Q9, h0, h⟩ := h
          obtain ⟨S40, z9, g9⟩ := ru_takeOf h0
          replace h := h S40 g9
          replace K := fun i ro uo z => K i ro uo ⟨S40, z9, z⟩
          obtain ⟨g4_, h⟩ := h
          replace K := fun i ro uo z => K i ro uo ⟨g4_, z⟩
          obtain ⟨g5_, h⟩ := h
          replace K := fun i ro uo z => K i ro uo ⟨g5_, z⟩
          obtain ⟨g6_, h⟩ := h
          replace K := fun i ro uo z => K i ro uo ⟨g6_, z⟩
          obtain ⟨Q9, h0, h⟩ := h
          obtain ⟨S48, z9, g9⟩ := ru_work h0
          replace h := h S48 g9
          replace K := fun i ro uo z => K i ro uo ⟨S48, z9, z⟩
          by_cases c : (qI S48 0 63).toInt = 0
          · replace h := h.1 c
            replace K := fun i ro uo z => K i ro uo (Or.inl ⟨c, z⟩)
            exact ⟨_, _, K i0 _ _ ⟨rfl, rfl⟩, h⟩
          · replace h := h.2 c
            replace K := fun i ro uo z => K i ro uo (Or.inr ⟨c, z⟩)
            exact ru_firstFault_J307 i0 (fun _ _ _ _ h K => ih i00 (fun i ro uo ⟨n8, z⟩ => K (i, n8) ro uo z) h) K h
      · replace h := h.2 c
        replace K := fun i ro uo z => K i ro uo (Or.inr ⟨c, z⟩)
        exact ⟨_, _, K i0 _ _ ⟨rfl, rfl⟩, h⟩
set_option maxRecDepth 100000 in
theorem ru_firstFault_L187 {ι : Type} {P : Int32 → MS → Prop} {Q : Int32 → MS → Prop} {k172 : MS → Nat → Int32 → Prop} {k172v : ι → Int32 → MS → MS → Nat → Int32 → Prop} : ∀ (n : Nat) {U187 : MS} {v187_1 : Nat} {v187_2 : Int32} {v187_5 : Int32} (i0 : ι) (hk172 : ∀ (u : MS) (z0 : Nat) (z1 : Int32), k172 u z0 z1 → (∀ (i : ι) (ro : Int32) (uo : MS), k172v i ro uo u z0 z1 → P ro uo) → ∃ ro uo, P ro uo ∧ Q ro uo), (∀ (i : ι) (ro : Int32) (uo : MS), (∃ n8, v_firstFault_L187 ro uo (k172v i ro uo) n8 U187 v187_1 v187_2 v187_5) → P ro uo) → w_firstFault_L187 Q k172 n U187 v187_1 v187_2 v187_5 → ∃ ro uo, P ro uo ∧ Q ro uo := by
  intro n
  induction n with
  | zero => intro U187 v187_1 v187_2 v187_5 i0 hk172 K h; unfold w_firstFault_L187 at h; exact h.elim
  | succ n ih =>
    intro U187 v187_1 v187_2 v187_5 i0 hk172 K h
    unfold w_firstFault_L187 at h
    replace K := fun (i : ι × Nat) ro uo (z : v_firstFault_L187 ro uo (k172v i.1 ro uo) (i.2 + 1) U187 v187_1 v187_2 v187_5) => K i.1 ro uo ⟨i.2 + 1, z⟩
    have i00 := i0
    replace i0 : ι × Nat := (i0, 0)
    by_cases c : (qI U187 0 52).toInt ≤ v187_5.toInt
    · replace h := h.1 c
      replace K := fun i ro uo z => K i ro uo (Or.inl ⟨c, z⟩)
      exact hk172 _ _ _ h (fun i ro uo z => K (i, 0) ro uo z)
    · replace h := h.2 c
      replace K := fun i ro uo z => K i ro uo (Or.inr ⟨c, z⟩)
      obtain ⟨g7_, h⟩ := h
      replace K := fun i ro uo z => K i ro uo ⟨g7_, z⟩
      by_cases c : (qI U187 24 v187_5.toInt.toNat).toInt = 0
      · replace h := h.1 c
        replace K := fun i ro uo z => K i ro uo (Or.inl ⟨c, z⟩)
        exact ru_firstFault_J227 i0 (fun _ _ _ _ h K => ih i00 hk172 (fun i ro uo ⟨n8, z⟩ => K (i, n8) ro uo z) h) K h
      · replace h := h.2 c
        replace K := fun i ro uo z => K i ro uo (Or.inr ⟨c, z⟩)
        obtain ⟨Q9, h0, h⟩ := h
        obtain ⟨r58, S59, z9, g9⟩ := ru_isHeightFault h0
        replace h := h r58 S59 g9
        replace K := fun i ro uo z => K i ro uo ⟨r58, S59, z9, z⟩
        by_cases c : r58.toInt = 0
        · replace h := h.1 c
          replace K := fun i ro uo z => K i ro uo (Or.inl ⟨c, z⟩)
          obtain ⟨g8_, h⟩ := h
          replace K := fun i ro uo z => K i ro uo ⟨g8_, z⟩
          obtain ⟨g9_, h⟩ := h
          replace K := fun i ro uo z => K i ro uo ⟨g9_, z⟩
          obtain ⟨g10_, h⟩ := h
          replace K := fun i ro uo z => K i ro uo ⟨g10_, z⟩
          obtain ⟨Q9, h0, h⟩ := h
          obtain ⟨S68, z9, g9⟩ := ru_flow h0
          replace h := h S68 g9
          replace K := fun i ro uo z => K i ro uo ⟨S68, z9, z⟩
          exact ru_firstFault_J227 i0 (fun _ _ _ _ h K => ih i00 hk172 (fun i ro uo ⟨n8, z⟩ => K (i, n8) ro uo z) h) K h
        · replace h := h.2 c
          replace K := fun i ro uo z => K i ro uo (Or.inr ⟨c, z⟩)
          exact ru_firstFault_J227 i0 (fun _ _ _ _ h K => ih i00 hk172 (fun i ro uo ⟨n8, z⟩ => K (i, n8) ro uo z) h) K h
set_option maxRecDepth 100000 in
theorem ru_firstFault_L172 {ι : Type} {P : Int32 → MS → Prop} {Q : Int32 → MS → Prop} : ∀ (n : Nat) {U172 : MS} {v172_1 : Nat} {v172_2 : Int32} (i0 : ι), (∀ (i : ι) (ro : Int32) (uo : MS), (∃ n8, v_firstFault_L172 ro uo n8 U172 v172_1 v172_2) → P ro uo) → w_firstFault_L172 Q n U172 v172_1 v172_2 → ∃ ro uo, P ro uo ∧ Q ro uo := by
  intro n
  induction n with
  | zero => intro U172 v172_1 v172_2 i0 K h; unfold w_firstFault_L172 at h; exact h.elim
  | succ n ih =>
    intro U172 v172_1 v172_2 i0 K h
    unfold w_firstFault_L172 at h
    replace K := fun (i : ι × Nat) ro uo (z : v_firstFault_L172 ro uo (i.2 + 1) U172 v172_1 v172_2) => K i.1 ro uo ⟨i.2 + 1, z⟩
    have i00 := i0
    replace i0 : ι × Nat := (i0, 0)
    by_cases c : (qI U172 0 57).toInt = 0
    · replace h := h.1 c
      replace K := fun i ro uo z => K i ro uo (Or.inl ⟨c, z⟩)
      obtain ⟨n9, h⟩ := h
      exact ru_firstFault_L239 n9 i0 K h
    · replace h := h.2 c
      replace K := fun i ro uo z => K i ro uo (Or.inr ⟨c, z⟩)
      obtain ⟨S51, eS51⟩ : ∃ x9 : MS, x9 = wI U172 0 57 0 := ⟨_, rfl⟩
      replace h := h S51 eS51
      replace K := fun i ro uo z => K i ro uo ⟨S51, eS51, z⟩
      obtain ⟨n9, h⟩ := h
      exact ru_firstFault_L187 n9 i0 (fun _ _ _ h K => ih i00 (fun i ro uo ⟨n8, z⟩ => K (i, n8) ro uo z) h) K h
set_option maxRecDepth 100000 in
theorem ru_firstFault_L73 {ι : Type} {P : Int32 → MS → Prop} {Q : Int32 → MS → Prop} : ∀ (n : Nat) {U73 : MS} {v73_1 : Nat} {v73_2 : Int32} {v73_3 : Nat} {v73_4 : Int32} {v73_5 : Int32} (i0 : ι), (∀ (i : ι) (ro : Int32) (uo : MS), (∃ n8, v_firstFault_L73 ro uo n8 U73 v73_1 v73_2 v73_3 v73_4 v73_5) → P ro uo) → w_firstFault_L73 Q n U73 v73_1 v73_2 v73_3 v73_4 v73_5 → ∃ ro uo, P ro uo ∧ Q ro uo := by
  intro n
  induction n with
  | zero => intro U73 v73_1 v73_2 v73_3 v73_4 v73_5 i0 K h; unfold w_firstFault_L73 at h; exact h.elim
  | succ n ih =>
    intro U73 v73_1 v73_2 v73_3 v73_4 v73_5 i0 K h
    unfold w_firstFault_L73 at h
    replace K := fun (i : ι × Nat) ro uo (z : v_firstFault_L73 ro uo (i.2 + 1) U73 v73_1 v73_2 v73_3 v73_4 v73_5) => K i.1 ro uo ⟨i.2 + 1, z⟩
    have i00 := i0
    replace i0 : ι × Nat := (i0, 0)
    by_cases c : (Int32.ofNat (qN U73 (v73_3 + 1))).toInt ≤ v73_5.toInt
    · replace h := h.1 c
      replace K := fun i ro uo z => K i ro uo (Or.inl ⟨c, z⟩)
      obtain ⟨Q9, h0, h⟩ := h
      obtain ⟨S21, z9, g9⟩ := ru_join h0
      replace h := h S21 g9
      replace K := fun i ro uo z => K i ro uo ⟨S21, z9, z⟩
      obtain ⟨S23, eS23⟩ : ∃ x9 : MS, x9 = wI S21 0 57 1 := ⟨_, rfl⟩
      replace h := h S23 eS23
      replace K := fun i ro uo z => K i ro uo ⟨S23, eS23, z⟩
      obtain ⟨n9, h⟩ := h
      exact ru_firstFault_L172 n9 i0 K h
    · replace h := h.2 c
      replace K := fun i ro uo z => K i ro uo (Or.inr ⟨c, z⟩)
      obtain ⟨g11_, h⟩ := h
      replace K := fun i ro uo z => K i ro uo ⟨g11_, z⟩
      obtain ⟨a72, ea72⟩ : ∃ x9 : Int32, x9 = (cAt U73 v73_3 v73_5) := ⟨_, rfl⟩
      replace h := h a72 ea72
      replace K := fun i ro uo z => K i ro uo ⟨a72, ea72, z⟩
      by_cases c : a72.toInt = 73
      · replace h := h.1 c
        replace K := fun i ro uo z => K i ro uo (Or.inl ⟨c, z⟩)
        exact ru_firstFault_J119 i0 (fun _ _ _ _ _ _ h K => ih i00 (fun i ro uo ⟨n8, z⟩ => K (i, n8) ro uo z) h) K h
      · replace h := h.2 c
        replace K := fun i ro uo z => K i ro uo (Or.inr ⟨c, z⟩)
        by_cases c : a72.toInt = 74
        · replace h := h.1 c
          replace K := fun i ro uo z => K i ro uo (Or.inl ⟨c, z⟩)
          exact ru_firstFault_J119 i0 (fun _ _ _ _ _ _ h K => ih i00 (fun i ro uo ⟨n8, z⟩ => K (i, n8) ro uo z) h) K h
        · replace h := h.2 c
          replace K := fun i ro uo z => K i ro uo (Or.inr ⟨c, z⟩)
          exact ru_firstFault_J119 i0 (fun _ _ _ _ _ _ h K => ih i00 (fun i ro uo ⟨n8, z⟩ => K (i, n8) ro uo z) h) K h
set_option maxRecDepth 100000 in
theorem ru_firstFault_L41 {ι : Type} {P : Int32 → MS → Prop} {Q : Int32 → MS → Prop} : ∀ (n : Nat) {U41 : MS} {v41_1 : Nat} {v41_2 : Int32} {v41_3 : Int32} (i0 : ι), (∀ (i : ι) (ro : Int32) (uo : MS), (∃ n8, v_firstFault_L41 ro uo n8 U41 v41_1 v41_2 v41_3) → P ro uo) → w_firstFault_L41 Q n U41 v41_1 v41_2 v41_3 → ∃ ro uo, P ro uo ∧ Q ro uo := by
  intro n
  induction n with
  | zero => intro U41 v41_1 v41_2 v41_3 i0 K h; unfold w_firstFault_L41 at h; exact h.elim
  | succ n ih =>
    intro U41 v41_1 v41_2 v41_3 i0 K h
    unfold w_firstFault_L41 at h
    replace K := fun (i : ι × Nat) ro uo (z : v_firstFault_L41 ro uo (i.2 + 1) U41 v41_1 v41_2 v41_3) => K i.1 ro uo ⟨i.2 + 1, z⟩
    have i00 := i0
    replace i0 : ι × Nat := (i0, 0)
    by_cases c : 24 ≤ v41_3.toInt
    · replace h := h.1 c
      replace K := fun i ro uo z => K i ro uo (Or.inl ⟨c, z⟩)
      obtain ⟨g12_, h⟩ := h
      replace K := fun i ro uo z => K i ro uo ⟨g12_, z⟩
      obtain ⟨g13_, h⟩ := h
      replace K := fun i ro uo z => K i ro uo ⟨g13_, z⟩
      obtain ⟨g14_, h⟩ := h
      replace K := fun i ro uo z => K i ro uo ⟨g14_, z⟩
      obtain ⟨n9, h⟩ := h
      exact ru_firstFault_L73 n9 i0 K h
    · replace h := h.2 c
      replace K := fun i ro uo z => K i ro uo (Or.inr ⟨c, z⟩)
      obtain ⟨g15_, h⟩ := h
      replace K := fun i ro uo z => K i ro uo ⟨g15_, z⟩
      obtain ⟨S86, eS86⟩ : ∃ x9 : MS, x9 = wI U41 25 v41_3.toInt.toNat (vp_nar .byte (0 : Int32)) := ⟨_, rfl⟩
      replace h := h S86 eS86
      replace K := fun i ro uo z => K i ro uo ⟨S86, eS86, z⟩
      obtain ⟨a87, ea87⟩ : ∃ x9 : Int32, x9 = (v41_3 + Int32.ofInt 1) := ⟨_, rfl⟩
      replace h := h a87 ea87
      replace K := fun i ro uo z => K i ro uo ⟨a87, ea87, z⟩
      exact ih i00 (fun i ro uo ⟨n8, z⟩ => K (i, n8) ro uo z) h
set_option maxRecDepth 100000 in
theorem ru_firstFault_L18 {ι : Type} {P : Int32 → MS → Prop} {Q : Int32 → MS → Prop} : ∀ (n : Nat) {U18 : MS} {v18_1 : Nat} {v18_2 : Int32} {v18_3 : Int32} (i0 : ι), (∀ (i : ι) (ro : Int32) (uo : MS), (∃ n8, v_firstFault_L18 ro uo n8 U18 v18_1 v18_2 v18_3) → P ro uo) → w_firstFault_L18 Q n U18 v18_1 v18_2 v18_3 → ∃ ro uo, P ro uo ∧ Q ro uo := by
  intro n
  induction n with
  | zero => intro U18 v18_1 v18_2 v18_3 i0 K h; unfold w_firstFault_L18 at h; exact h.elim
  | succ n ih =>
    intro U18 v18_1 v18_2 v18_3 i0 K h
    unfold w_firstFault_L18 at h
    replace K := fun (i : ι × Nat) ro uo (z : v_firstFault_L18 ro uo (i.2 + 1) U18 v18_1 v18_2 v18_3) => K i.1 ro uo ⟨i.2 + 1, z⟩
    have i00 := i0
    replace i0 : ι × Nat := (i0, 0)
    by_cases c : (qI U18 0 52).toInt ≤ v18_3.toInt
    · replace h := h.1 c
      replace K := fun i ro uo z => K i ro uo (Or.inl ⟨c, z⟩)
      obtain ⟨n9, h⟩ := h
      exact ru_firstFault_L41 n9 i0 K h
    · replace h := h.2 c
      replace K := fun i ro uo z => K i ro uo (Or.inr ⟨c, z⟩)
      obtain ⟨g16_, h⟩ := h
      replace K := fun i ro uo z => K i ro uo ⟨g16_, z⟩
      obtain ⟨S89, eS89⟩ : ∃ x9 : MS, x9 = wI U18 24 v18_3.toInt.toNat (vp_nar .boolean (0 : Int32)) := ⟨_, rfl⟩
      replace h := h S89 eS89
      replace K := fun i ro uo z => K i ro uo ⟨S89, eS89, z⟩
      obtain ⟨a90, ea90⟩ : ∃ x9 : Int32, x9 = (v18_3 + Int32.ofInt 1) := ⟨_, rfl⟩
      replace h := h a90 ea90
      replace K := fun i ro uo z => K i ro uo ⟨a90, ea90, z⟩
      exact ih i00 (fun i ro uo ⟨n8, z⟩ => K (i, n8) ro uo z) h
set_option maxRecDepth 100000 in
theorem ru_firstFault {S : MS} {p1 : Nat} {x2 : Int32} {Q : Int32 → MS → Prop} (h : w_firstFault S p1 x2 Q) : ∃ ro uo, v_firstFault S p1 x2 ro uo ∧ Q ro uo := by
  have i0 : Unit := ()
  have K : ∀ (i : Unit) (ro : Int32) (uo : MS), v_firstFault S p1 x2 ro uo → v_firstFault S p1 x2 ro uo := fun _ _ _ z => z
  unfold w_firstFault at h
  obtain ⟨Q9, h0, h⟩ := h
  obtain ⟨S2, z9, g9⟩ := ru_look h0
  replace h := h S2 g9
  replace K := fun i ro uo z => K i ro uo ⟨S2, z9, z⟩
  obtain ⟨g17_, h⟩ := h
  replace K := fun i ro uo z => K i ro uo ⟨g17_, z⟩
  obtain ⟨g18_, h⟩ := h
  replace K := fun i ro uo z => K i ro uo ⟨g18_, z⟩
  obtain ⟨Q9, h0, h⟩ := h
  obtain ⟨S9, z9, g9⟩ := ru_findHeights h0
  replace h := h S9 g9
  replace K := fun i ro uo z => K i ro uo ⟨S9, z9, z⟩
  obtain ⟨n9, h⟩ := h
  exact ru_firstFault_L18 n9 i0 K h
set_option maxRecDepth 100000 in
theorem vw_firstFault_J307 {ro : Int32} {uo : MS} {k239 k239v : MS → Nat → Int32 → Int32 → Prop} {U307 : MS} {v307_1 : Nat} {v307_2 : Int32} {v307_5 : Int32} (hk239 : ∀ (u : MS) (z0 : Nat) (z1 : Int32) (z2 : Int32), k239v u z0 z1 z2 → k239 u z0 z1 z2) (h : v_firstFault_J307 ro uo k239v U307 v307_1 v307_2 v307_5) : w_firstFault_J307 (fun r u => r = ro ∧ u = uo) k239 U307 v307_1 v307_2 v307_5 := by
  unfold v_firstFault_J307 at h
  unfold w_firstFault_J307
  obtain ⟨v9, e9, h⟩ := h
  intro x9 d9
  have c9 : v9 = x9 := e9.trans d9.symm
  subst c9
  exact hk239 _ _ _ _ h
set_option maxRecDepth 100000 in
theorem vz_firstFault_J307 {ro : Int32} {uo : MS} {Q : Int32 → MS → Prop} {k239 k239v : MS → Nat → Int32 → Int32 → Prop} {U307 : MS} {v307_1 : Nat} {v307_2 : Int32} {v307_5 : Int32} (hk239 : ∀ (u : MS) (z0 : Nat) (z1 : Int32) (z2 : Int32), k239v u z0 z1 z2 → k239 u z0 z1 z2 → Q ro uo) (h : v_firstFault_J307 ro uo k239v U307 v307_1 v307_2 v307_5) (w : w_firstFault_J307 Q k239 U307 v307_1 v307_2 v307_5) : Q ro uo := by
  unfold v_firstFault_J307 at h
  unfold w_firstFault_J307 at w
  obtain ⟨v9, e9, h⟩ := h
  replace w := w v9 e9
  exact hk239 _ _ _ _ h w
set_option maxRecDepth 100000 in
theorem vw_firstFault_J227 {ro : Int32} {uo : MS} {k187 k187v : MS → Nat → Int32 → Int32 → Prop} {U227 : MS} {v227_1 : Nat} {v227_2 : Int32} {v227_5 : Int32} (hk187 : ∀ (u : MS) (z0 : Nat) (z1 : Int32) (z2 : Int32), k187v u z0 z1 z2 → k187 u z0 z1 z2) (h : v_firstFault_J227 ro uo k187v U227 v227_1 v227_2 v227_5) : w_firstFault_J227 (fun r u => r = ro ∧ u = uo) k187 U227 v227_1 v227_2 v227_5 := by
  unfold v_firstFault_J227 at h
  unfold w_firstFault_J227
  obtain ⟨v9, e9, h⟩ := h
  intro x9 d9
  have c9 : v9 = x9 := e9.trans d9.symm
  subst c9
  exact hk187 _ _ _ _ h
set_option maxRecDepth 100000 in
theorem vz_firstFault_J227 {ro : Int32} {uo : MS} {Q : Int32 → MS → Prop} {k187 k187v : MS → Nat → Int32 → Int32 → Prop} {U227 : MS} {v227_1 : Nat} {v227_2 : Int32} {v227_5 : Int32} (hk187 : ∀ (u : MS) (z0 : Nat) (z1 : Int32) (z2 : Int32), k187v u z0 z1 z2 → k187 u z0 z1 z2 → Q ro uo) (h : v_firstFault_J227 ro uo k187v U227 v227_1 v227_2 v227_5) (w : w_firstFault_J227 Q k187 U227 v227_1 v227_2 v227_5) : Q ro uo := by
  unfold v_firstFault_J227 at h
  unfold w_firstFault_J227 at w
  obtain ⟨v9, e9, h⟩ := h
  replace w := w v9 e9
  exact hk187 _ _ _ _ h w
set_option maxRecDepth 100000 in
theorem vw_firstFault_J152 {ro : Int32} {uo : MS} {k73 k73v : MS → Nat → Int32 → Nat → Int32 → Int32 → Prop} {U152 : MS} {t152_0 : Int32} {t152_1 : Int32} {v152_1 : Nat} {v152_2 : Int32} {v152_3 : Nat} {v152_5 : Int32} (hk73 : ∀ (u : MS) (z0 : Nat) (z1 : Int32) (z2 : Nat) (z3 : Int32) (z4 : Int32), k73v u z0 z1 z2 z3 z4 → k73 u z0 z1 z2 z3 z4) (h : v_firstFault_J152 ro uo k73v U152 t152_0 t152_1 v152_1 v152_2 v152_3 v152_5) : w_firstFault_J152 (fun r u => r = ro ∧ u = uo) k73 U152 t152_0 t152_1 v152_1 v152_2 v152_3 v152_5 := by
  unfold v_firstFault_J152 at h
  unfold w_firstFault_J152
  obtain ⟨v9, e9, h⟩ := h
  intro x9 d9
  have c9 : v9 = x9 := e9.trans d9.symm
  subst c9
  obtain ⟨v9, e9, h⟩ := h
  intro x9 d9
  have c9 : v9 = x9 := e9.trans d9.symm
  subst c9
  exact hk73 _ _ _ _ _ _ h
set_option maxRecDepth 100000 in
theorem vz_firstFault_J152 {ro : Int32} {uo : MS} {Q : Int32 → MS → Prop} {k73 k73v : MS → Nat → Int32 → Nat → Int32 → Int32 → Prop} {U152 : MS} {t152_0 : Int32} {t152_1 : Int32} {v152_1 : Nat} {v152_2 : Int32} {v152_3 : Nat} {v152_5 : Int32} (hk73 : ∀ (u : MS) (z0 : Nat) (z1 : Int32) (z2 : Nat) (z3 : Int32) (z4 : Int32), k73v u z0 z1 z2 z3 z4 → k73 u z0 z1 z2 z3 z4 → Q ro uo) (h : v_firstFault_J152 ro uo k73v U152 t152_0 t152_1 v152_1 v152_2 v152_3 v152_5) (w : w_firstFault_J152 Q k73 U152 t152_0 t152_1 v152_1 v152_2 v152_3 v152_5) : Q ro uo := by
  unfold v_firstFault_J152 at h
  unfold w_firstFault_J152 at w
  obtain ⟨v9, e9, h⟩ := h
  replace w := w v9 e9
  obtain ⟨v9, e9, h⟩ := h
  replace w := w v9 e9
  exact hk73 _ _ _ _ _ _ h w
set_option maxRecDepth 100000 in
theorem vw_firstFault_J138 {ro : Int32} {uo : MS} {k73 k73v : MS → Nat → Int32 → Nat → Int32 → Int32 → Prop} {U138 : MS} {v138_1 : Nat} {v138_2 : Int32} {v138_3 : Nat} {v138_4 : Int32} {v138_5 : Int32} {v138_6 : Int32} (hk73 : ∀ (u : MS) (z0 : Nat) (z1 : Int32) (z2 : Nat) (z3 : Int32) (z4 : Int32), k73v u z0 z1 z2 z3 z4 → k73 u z0 z1 z2 z3 z4) (h : v_firstFault_J138 ro uo k73v U138 v138_1 v138_2 v138_3 v138_4 v138_5 v138_6) : w_firstFault_J138 (fun r u => r = ro ∧ u = uo) k73 U138 v138_1 v138_2 v138_3 v138_4 v138_5 v138_6 := by
  unfold v_firstFault_J138 at h
  unfold w_firstFault_J138
  rcases h with ⟨c, h⟩ | ⟨c, h⟩
  · refine ⟨fun _ => ?_, fun c2 => absurd c c2⟩
    exact vw_firstFault_J152 hk73 h
  · refine ⟨fun c2 => absurd c2 c, fun _ => ?_⟩
    exact vw_firstFault_J152 hk73 h
set_option maxRecDepth 100000 in
theorem vz_firstFault_J138 {ro : Int32} {uo : MS} {Q : Int32 → MS → Prop} {k73 k73v : MS → Nat → Int32 → Nat → Int32 → Int32 → Prop} {U138 : MS} {v138_1 : Nat} {v138_2 : Int32} {v138_3 : Nat} {v138_4 : Int32} {v138_5 : Int32} {v138_6 : Int32} (hk73 : ∀ (u : MS) (z0 : Nat) (z1 : Int32) (z2 : Nat) (z3 : Int32) (z4 : Int32), k73v u z0 z1 z2 z3 z4 → k73 u z0 z1 z2 z3 z4 → Q ro uo) (h : v_firstFault_J138 ro uo k73v U138 v138_1 v138_2 v138_3 v138_4 v138_5 v138_6) (w : w_firstFault_J138 Q k73 U138 v138_1 v138_2 v138_3 v138_4 v138_5 v138_6) : Q ro uo := by
  unfold v_firstFault_J138 at h
  unfold w_firstFault_J138 at w
  rcases h with ⟨c, h⟩ | ⟨c, h⟩
  · replace w := w.1 c
    exact vz_firstFault_J152 hk73 h w
  · replace w := w.2 c
    exact vz_firstFault_J152 hk73 h w
set_option maxRecDepth 100000 in
theorem vw_firstFault_J119 {ro : Int32} {uo : MS} {k73 k73v : MS → Nat → Int32 → Nat → Int32 → Int32 → Prop} {U119 : MS} {t119_0 : Int32} {t119_1 : Int32} {v119_1 : Nat} {v119_2 : Int32} {v119_3 : Nat} {v119_4 : Int32} {v119_5 : Int32} {v119_6 : Int32} (hk73 : ∀ (u : MS) (z0 : Nat) (z1 : Int32) (z2 : Nat) (z3 : Int32) (z4 : Int32), k73v u z0 z1 z2 z3 z4 → k73 u z0 z1 z2 z3 z4) (h : v_firstFault_J119 ro uo k73v U119 t119_0 t119_1 v119_1 v119_2 v119_3 v119_4 v119_5 v119_6) : w_firstFault_J119 (fun r u => r = ro ∧ u = uo) k73 U119 t119_0 t119_1 v119_1 v119_2 v119_3 v119_4 v119_5 v119_6 := by
  unfold v_firstFault_J119 at h
  unfold w_firstFault_J119
  obtain ⟨g9, h⟩ := h
  refine ⟨g9, ?_⟩
  obtain ⟨v9, e9, h⟩ := h
  intro x9 d9
  have c9 : v9 = x9 := e9.trans d9.symm
  subst c9
  rcases h with ⟨c, h⟩ | ⟨c, h⟩
  · refine ⟨fun _ => ?_, fun c2 => absurd c c2⟩
    obtain ⟨g9, h⟩ := h
    refine ⟨g9, ?_⟩
    obtain ⟨v9, e9, h⟩ := h
    intro x9 d9
    have c9 : v9 = x9 := e9.trans d9.symm
    subst c9
    exact vw_firstFault_J138 hk73 h
  · refine ⟨fun c2 => absurd c2 c, fun _ => ?_⟩
    exact vw_firstFault_J138 hk73 h
set_option maxRecDepth 100000 in
theorem vz_firstFault_J119 {ro : Int32} {uo : MS} {Q : Int32 → MS → Prop} {k73 k73v : MS → Nat → Int32 → Nat → Int32 → Int32 → Prop} {U119 : MS} {t119_0 : Int32} {t119_1 : Int32} {v119_1 : Nat} {v119_2 : Int32} {v119_3 : Nat} {v119_4 : Int32} {v119_5 : Int32} {v119_6 : Int32} (hk73 : ∀ (u : MS) (z0 : Nat) (z1 : Int32) (z2 : Nat) (z3 : Int32) (z4 : Int32), k73v u z0 z1 z2 z3 z4 → k73 u z0 z1 z2 z3 z4 → Q ro uo) (h : v_firstFault_J119 ro uo k73v U119 t119_0 t119_1 v119_1 v119_2 v119_3 v119_4 v119_5 v119_6) (w : w_firstFault_J119 Q k73 U119 t119_0 t119_1 v119_1 v119_2 v119_3 v119_4 v119_5 v119_6) : Q ro uo := by
  unfold v_firstFault_J119 at h
  unfold w_firstFault_J119 at w
  replace h := h.2
  replace w := w.2
  obtain ⟨v9, e9, h⟩ := h
  replace w := w v9 e9
  rcases h with ⟨c, h⟩ | ⟨c, h⟩
  · replace w := w.1 c
    replace h := h.2
    replace w := w.2
    obtain ⟨v9, e9, h⟩ := h
    replace w := w v9 e9
    exact vz_firstFault_J138 hk73 h w
  · replace w := w.2 c
    exact vz_firstFault_J138 hk73 h w
set_option maxRecDepth 100000 in
theorem vw_firstFault_L239 {ro : Int32} {uo : MS} : ∀ (n : Nat) {U239 : MS} {v239_1 : Nat} {v239_2 : Int32} {v239_5 : Int32}, v_firstFault_L239 ro uo n U239 v239_1 v239_2 v239_5 → w_firstFault_L239 (fun r u => r = ro ∧ u = uo) n U239 v239_1 v239_2 v239_5 := by
  intro n
  induction n with
  | zero => intro U239 v239_1 v239_2 v239_5 h; unfold v_firstFault_L239 at h; exact h.elim
  | succ n ih =>
    intro U239 v239_1 v239_2 v239_5 h
    unfold v_firstFault_L239 at h
    unfold w_firstFault_L239
    rcases h with ⟨c, h⟩ | ⟨c, h⟩
    · refine ⟨fun _ => ?_, fun c2 => absurd c c2⟩
      exact ⟨h.1.symm, h.2.symm⟩
    · refine ⟨fun c2 => absurd c2 c, fun _ => ?_⟩
      obtain ⟨p9, q9, z9, h⟩ := h
      refine ⟨_, vw_isHeightFault z9, ?_⟩
      rintro p8 q8 ⟨d8, d9⟩
      subst d8
      subst d9
      rcases h with ⟨c, h⟩ | ⟨c, h⟩
      · refine ⟨fun _ => ?_, fun c2 => absurd c c2⟩
        obtain ⟨g9, h⟩ := h
        refine ⟨g9, ?_⟩
        rcases h with ⟨c, h⟩ | ⟨c, h⟩
        · refine ⟨fun _ => ?_, fun c2 => absurd c c2⟩
          exact vw_firstFault_J307 (fun _ _ _ _ h => ih h) h
        · refine ⟨fun c2 => absurd c2 c, fun _ => ?_⟩
          obtain ⟨p9, q9, z9, h⟩ := h
          refine ⟨_, vw_heightAt z9, ?_⟩
          rintro p8 q8 ⟨d8, d9⟩
          subst d8
          subst d9
          obtain ⟨q9, z9, h⟩ := h
          refine ⟨_, vw_takeOf z9, ?_⟩
          intro q8 d9
          subst d9
          obtain ⟨g9, h⟩ := h
          refine ⟨g9, ?_⟩
          obtain ⟨g9, h⟩ := h
          refine ⟨g9, ?_⟩
          obtain ⟨g9, h⟩ := h
          refine ⟨g9, ?_⟩
          obtain ⟨q9, z9, h⟩ := h
          refine ⟨_, vw_work z9, ?_⟩
          intro q8 d9
          subst d9
          rcases h with ⟨c, h⟩ | ⟨c, h⟩
          · refine ⟨fun _ => ?_, fun c2 => absurd c c2⟩
            exact ⟨h.1.symm, h.2.symm⟩
          · refine ⟨fun c2 => absurd c2 c, fun _ => ?_⟩
            exact vw_firstFault_J307 (fun _ _ _ _ h => ih h) h
      · refine ⟨fun c2 => absurd c2 c, fun _ => ?_⟩
        exact ⟨h.1.symm, h.2.symm⟩
set_option maxRecDepth 100000 in
theorem vz_firstFault_L239 {ro : Int32} {uo : MS} {Q : Int32 → MS → Prop} : ∀ (n m : Nat) {U239 : MS} {v239_1 : Nat} {v239_2 : Int32} {v239_5 : Int32}, v_firstFault_L239 ro uo n U239 v239_1 v239_2 v239_5 → w_firstFault_L239 Q m U239 v239_1 v239_2 v239_5 → Q ro uo := by
  intro n
  induction n with
  | zero => intro m U239 v239_1 v239_2 v239_5 h; unfold v_firstFault_L239 at h; exact h.elim
  | succ n ih =>
    intro m U239 v239_1 v239_2 v239_5 h w
    cases m with
    | zero => unfold w_firstFault_L239 at w; exact w.elim
    | succ m =>
      unfold v_firstFault_L239 at h
      unfold w_firstFault_L239 at w
      rcases h with ⟨c, h⟩ | ⟨c, h⟩
      · replace w := w.1 c
        rw [h.1, h.2]
        exact w
      · replace w := w.2 c
        obtain ⟨p9, q9, z9, h⟩ := h
        obtain ⟨Q9, w0, w⟩ := w
        replace w := w p9 q9 (vz_isHeightFault z9 w0)
        rcases h with ⟨c, h⟩ | ⟨c, h⟩
        · replace w := w.1 c
          replace h := h.2
          replace w := w.2
          rcases h with ⟨c, h⟩ | ⟨c, h⟩
          · replace w := w.1 c
            exact vz_firstFault_J307 (fun _ _ _ _ h w => ih m h w) h w
          · replace w := w.2 c
            obtain ⟨p9, q9, z9, h⟩ := h
            obtain ⟨Q9, w0, w⟩ := w
            replace w := w p9 q9 (vz_heightAt z9 w0)
            obtain ⟨q9, z9, h⟩ := h
            obtain ⟨Q9, w0, w⟩ := w
            replace w := w q9 (vz_takeOf z9 w0)
            replace h := h.2
            replace w := w.2
            replace h := h.2
            replace w := w.2
            replace h := h.2
            replace w := w.2
            obtain ⟨q9, z9, h⟩ := h
            obtain ⟨Q9, w0, w⟩ := w
            replace w := w q9 (vz_work z9 w0)
            rcases h with ⟨c, h⟩ | ⟨c, h⟩
            · replace w := w.1 c
              rw [h.1, h.2]
              exact w
            · replace w := w.2 c
              exact vz_firstFault_J307 (fun _ _ _ _ h w => ih m h w) h w
        · replace w := w.2 c
          rw [h.1, h.2]
          exact w
set_option maxRecDepth 100000 in
theorem vw_firstFault_L187 {ro : Int32} {uo : MS} {k172 k172v : MS → Nat → Int32 → Prop} : ∀ (n : Nat) {U187 : MS} {v187_1 : Nat} {v187_2 : Int32} {v187_5 : Int32} (hk172 : ∀ (u : MS) (z0 : Nat) (z1 : Int32), k172v u z0 z1 → k172 u z0 z1), v_firstFault_L187 ro uo k172v n U187 v187_1 v187_2 v187_5 → w_firstFault_L187 (fun r u => r = ro ∧ u = uo) k172 n U187 v187_1 v187_2 v187_5 := by
  intro n
  induction n with
  | zero => intro U187 v187_1 v187_2 v187_5 hk172 h; unfold v_firstFault_L187 at h; exact h.elim
  | succ n ih =>
    intro U187 v187_1 v187_2 v187_5 hk172 h
    unfold v_firstFault_L187 at h
    unfold w_firstFault_L187
    rcases h with ⟨c, h⟩ | ⟨c, h⟩
    · refine ⟨fun _ => ?_, fun c2 => absurd c c2⟩
      exact hk172 _ _ _ h
    · refine ⟨fun c2 => absurd c2 c, fun _ => ?_⟩
      obtain ⟨g9, h⟩ := h
      refine ⟨g9, ?_⟩
      rcases h with ⟨c, h⟩ | ⟨c, h⟩
      · refine ⟨fun _ => ?_, fun c2 => absurd c c2⟩
        exact vw_firstFault_J227 (fun _ _ _ _ h => ih hk172 h) h
      · refine ⟨fun c2 => absurd c2 c, fun _ => ?_⟩
        obtain ⟨p9, q9, z9, h⟩ := h
        refine ⟨_, vw_isHeightFault z9, ?_⟩
        rintro p8 q8 ⟨d8, d9⟩
        subst d8
        subst d9
        rcases h with ⟨c, h⟩ | ⟨c, h⟩
        · refine ⟨fun _ => ?_, fun c2 => absurd c c2⟩
          obtain ⟨g9, h⟩ := h
          refine ⟨g9, ?_⟩
          obtain ⟨g9, h⟩ := h
          refine ⟨g9, ?_⟩
          obtain ⟨g9, h⟩ := h
          refine ⟨g9, ?_⟩
          obtain ⟨q9, z9, h⟩ := h
          refine ⟨_, vw_flow z9, ?_⟩
          intro q8 d9
          subst d9
          exact vw_firstFault_J227 (fun _ _ _ _ h => ih hk172 h) h
        · refine ⟨fun c2 => absurd c2 c, fun _ => ?_⟩
          exact vw_firstFault_J227 (fun _ _ _ _ h => ih hk172 h) h
set_option maxRecDepth 100000 in
theorem vz_firstFault_L187 {ro : Int32} {uo : MS} {Q : Int32 → MS → Prop} {k172 k172v : MS → Nat → Int32 → Prop} : ∀ (n m : Nat) {U187 : MS} {v187_1 : Nat} {v187_2 : Int32} {v187_5 : Int32} (hk172 : ∀ (u : MS) (z0 : Nat) (z1 : Int32), k172v u z0 z1 → k172 u z0 z1 → Q ro uo), v_firstFault_L187 ro uo k172v n U187 v187_1 v187_2 v187_5 → w_firstFault_L187 Q k172 m U187 v187_1 v187_2 v187_5 → Q ro uo := by
  intro n
  induction n with
  | zero => intro m U187 v187_1 v187_2 v187_5 hk172 h; unfold v_firstFault_L187 at h; exact h.elim
  | succ n ih =>
    intro m U187 v187_1 v187_2 v187_5 hk172 h w
    cases m with
    | zero => unfold w_firstFault_L187 at w; exact w.elim
    | succ m =>
      unfold v_firstFault_L187 at h
      unfold w_firstFault_L187 at w
      rcases h with ⟨c, h⟩ | ⟨c, h⟩
      · replace w := w.1 c
        exact hk172 _ _ _ h w
      · replace w := w.2 c
        replace h := h.2
        replace w := w.2
        rcases h with ⟨c, h⟩ | ⟨c, h⟩
        · replace w := w.1 c
          exact vz_firstFault_J227 (fun _ _ _ _ h w => ih m hk172 h w) h w
        · replace w := w.2 c
          obtain ⟨p9, q9, z9, h⟩ := h
          obtain ⟨Q9, w0, w⟩ := w
          replace w := w p9 q9 (vz_isHeightFault z9 w0)
          rcases h with ⟨c, h⟩ | ⟨c, h⟩
          · replace w := w.1 c
            replace h := h.2
            replace w := w.2
            replace h := h.2
            replace w := w.2
            replace h := h.2
            replace w := w.2
            obtain ⟨q9, z9, h⟩ := h
            obtain ⟨Q9, w0, w⟩ := w
            replace w := w q9 (vz_flow z9 w0)
            exact vz_firstFault_J227 (fun _ _ _ _ h w => ih m hk172 h w) h w
          · replace w := w.2 c
            exact vz_firstFault_J227 (fun _ _ _ _ h w => ih m hk172 h w) h w
set_option maxRecDepth 100000 in
theorem vw_firstFault_L172 {ro : Int32} {uo : MS} : ∀ (n : Nat) {U172 : MS} {v172_1 : Nat} {v172_2 : Int32}, v_firstFault_L172 ro uo n U172 v172_1 v172_2 → w_firstFault_L172 (fun r u => r = ro ∧ u = uo) n U172 v172_1 v172_2 := by
  intro n
  induction n with
  | zero => intro U172 v172_1 v172_2 h; unfold v_firstFault_L172 at h; exact h.elim
  | succ n ih =>
    intro U172 v172_1 v172_2 h
    unfold v_firstFault_L172 at h
    unfold w_firstFault_L172
    rcases h with ⟨c, h⟩ | ⟨c, h⟩
    · refine ⟨fun _ => ?_, fun c2 => absurd c c2⟩
      obtain ⟨n9, h⟩ := h
      exact ⟨n9, vw_firstFault_L239 n9 h⟩
    · refine ⟨fun c2 => absurd c2 c, fun _ => ?_⟩
      obtain ⟨v9, e9, h⟩ := h
      intro x9 d9
      have c9 : v9 = x9 := e9.trans d9.symm
      subst c9
      obtain ⟨n9, h⟩ := h
      exact ⟨n9, vw_firstFault_L187 n9 (fun _ _ _ h => ih h) h⟩
set_option maxRecDepth 100000 in
theorem vz_firstFault_L172 {ro : Int32} {uo : MS} {Q : Int32 → MS → Prop} : ∀ (n m : Nat) {U172 : MS} {v172_1 : Nat} {v172_2 : Int32}, v_firstFault_L172 ro uo n U172 v172_1 v172_2 → w_firstFault_L172 Q m U172 v172_1 v172_2 → Q ro uo := by
  intro n
  induction n with
  | zero => intro m U172 v172_1 v172_2 h; unfold v_firstFault_L172 at h; exact h.elim
  | succ n ih =>
    intro m U172 v172_1 v172_2 h w
    cases m with
    | zero => unfold w_firstFault_L172 at w; exact w.elim
    | succ m =>
      unfold v_firstFault_L172 at h
      unfold w_firstFault_L172 at w
      rcases h with ⟨c, h⟩ | ⟨c, h⟩
      · replace w := w.1 c
        obtain ⟨n9, h⟩ := h
        obtain ⟨n8, w⟩ := w
        exact vz_firstFault_L239 n9 n8 h w
      · replace w := w.2 c
        obtain ⟨v9, e9, h⟩ := h
        replace w := w v9 e9
        obtain ⟨n9, h⟩ := h
        obtain ⟨n8, w⟩ := w
        exact vz_firstFault_L187 n9 n8 (fun _ _ _ h w => ih m h w) h w
set_option maxRecDepth 100000 in
theorem vw_firstFault_L73 {ro : Int32} {uo : MS} : ∀ (n : Nat) {U73 : MS} {v73_1 : Nat} {v73_2 : Int32} {v73_3 : Nat} {v73_4 : Int32} {v73_5 : Int32}, v_firstFault_L73 ro uo n U73 v73_1 v73_2 v73_3 v73_4 v73_5 → w_firstFault_L73 (fun r u => r = ro ∧ u = uo) n U73 v73_1 v73_2 v73_3 v73_4 v73_5 := by
  intro n
  induction n with
  | zero => intro U73 v73_1 v73_2 v73_3 v73_4 v73_5 h; unfold v_firstFault_L73 at h; exact h.elim
  | succ n ih =>
    intro U73 v73_1 v73_2 v73_3 v73_4 v73_5 h
    unfold v_firstFault_L73 at h
    unfold w_firstFault_L73
    rcases h with ⟨c, h⟩ | ⟨c, h⟩
    · refine ⟨fun _ => ?_, fun c2 => absurd c c2⟩
      obtain ⟨q9, z9, h⟩ := h
      refine ⟨_, vw_join z9, ?_⟩
      intro q8 d9
      subst d9
      obtain ⟨v9, e9, h⟩ := h
      intro x9 d9
      have c9 : v9 = x9 := e9.trans d9.symm
      subst c9
      obtain ⟨n9, h⟩ := h
      exact ⟨n9, vw_firstFault_L172 n9 h⟩
    · refine ⟨fun c2 => absurd c2 c, fun _ => ?_⟩
      obtain ⟨g9, h⟩ := h
      refine ⟨g9, ?_⟩
      obtain ⟨v9, e9, h⟩ := h
      intro x9 d9
      have c9 : v9 = x9 := e9.trans d9.symm
      subst c9
      rcases h with ⟨c, h⟩ | ⟨c, h⟩
      · refine ⟨fun _ => ?_, fun c2 => absurd c c2⟩
        exact vw_firstFault_J119 (fun _ _ _ _ _ _ h => ih h) h
      · refine ⟨fun c2 => absurd c2 c, fun _ => ?_⟩
        rcases h with ⟨c, h⟩ | ⟨c, h⟩
        · refine ⟨fun _ => ?_, fun c2 => absurd c c2⟩
          exact vw_firstFault_J119 (fun _ _ _ _ _ _ h => ih h) h
        · refine ⟨fun c2 => absurd c2 c, fun _ => ?_⟩
          exact vw_firstFault_J119 (fun _ _ _ _ _ _ h => ih h) h
set_option maxRecDepth 100000 in
theorem vz_firstFault_L73 {ro : Int32} {uo : MS} {Q : Int32 → MS → Prop} : ∀ (n m : Nat) {U73 : MS} {v73_1 : Nat} {v73_2 : Int32} {v73_3 : Nat} {v73_4 : Int32} {v73_5 : Int32}, v_firstFault_L73 ro uo n U73 v73_1 v73_2 v73_3 v73_4 v73_5 → w_firstFault_L73 Q m U73 v73_1 v73_2 v73_3 v73_4 v73_5 → Q ro uo := by
  intro n
  induction n with
  | zero => intro m U73 v73_1 v73_2 v73_3 v73_4 v73_5 h; unfold v_firstFault_L73 at h; exact h.elim
  | succ n ih =>
    intro m U73 v73_1 v73_2 v73_3 v73_4 v73_5 h w
    cases m with
    | zero => unfold w_firstFault_L73 at w; exact w.elim
    | succ m =>
      unfold v_firstFault_L73 at h
      unfold w_firstFault_L73 at w
      rcases h with ⟨c, h⟩ | ⟨c, h⟩
      · replace w := w.1 c
        obtain ⟨q9, z9, h⟩ := h
        obtain ⟨Q9, w0, w⟩ := w
        replace w := w q9 (vz_join z9 w0)
        obtain ⟨v9, e9, h⟩ := h
        replace w := w v9 e9
        obtain ⟨n9, h⟩ := h
        obtain ⟨n8, w⟩ := w
        exact vz_firstFault_L172 n9 n8 h w
      · replace w := w.2 c
        replace h := h.2
        replace w := w.2
        obtain ⟨v9, e9, h⟩ := h
        replace w := w v9 e9
        rcases h with ⟨c, h⟩ | ⟨c, h⟩
        · replace w := w.1 c
          exact vz_firstFault_J119 (fun _ _ _ _ _ _ h w => ih m h w) h w
        · replace w := w.2 c
          rcases h with ⟨c, h⟩ | ⟨c, h⟩
          · replace w := w.1 c
            exact vz_firstFault_J119 (fun _ _ _ _ _ _ h w => ih m h w) h w
          · replace w := w.2 c
            exact vz_firstFault_J119 (fun _ _ _ _ _ _ h w => ih m h w) h w
set_option maxRecDepth 100000 in
theorem vw_firstFault_L41 {ro : Int32} {uo : MS} : ∀ (n : Nat) {U41 : MS} {v41_1 : Nat} {v41_2 : Int32} {v41_3 : Int32}, v_firstFault_L41 ro uo n U41 v41_1 v41_2 v41_3 → w_firstFault_L41 (fun r u => r = ro ∧ u = uo) n U41 v41_1 v41_2 v41_3 := by
  intro n
  induction n with
  | zero => intro U41 v41_1 v41_2 v41_3 h; unfold v_firstFault_L41 at h; exact h.elim
  | succ n ih =>
    intro U41 v41_1 v41_2 v41_3 h
    unfold v_firstFault_L41 at h
    unfold w_firstFault_L41
    rcases h with ⟨c, h⟩ | ⟨c, h⟩
    · refine ⟨fun _ => ?_, fun c2 => absurd c c2⟩
      obtain ⟨g9, h⟩ := h
      refine ⟨g9, ?_⟩
      obtain ⟨g9, h⟩ := h
      refine ⟨g9, ?_⟩
      obtain ⟨g9, h⟩ := h
      refine ⟨g9, ?_⟩
      obtain ⟨n9, h⟩ := h
      exact ⟨n9, vw_firstFault_L73 n9 h⟩
    · refine ⟨fun c2 => absurd c2 c, fun _ => ?_⟩
      obtain ⟨g9, h⟩ := h
      refine ⟨g9, ?_⟩
      obtain ⟨v9, e9, h⟩ := h
      intro x9 d9
      have c9 : v9 = x9 := e9.trans d9.symm
      subst c9
      obtain ⟨v9, e9, h⟩ := h
      intro x9 d9
      have c9 : v9 = x9 := e9.trans d9.symm
      subst c9
      exact ih h
set_option maxRecDepth 100000 in
theorem vz_firstFault_L41 {ro : Int32} {uo : MS} {Q : Int32 → MS → Prop} : ∀ (n m : Nat) {U41 : MS} {v41_1 : Nat} {v41_2 : Int32} {v41_3 : Int32}, v_firstFault_L41 ro uo n U41 v41_1 v41_2 v41_3 → w_firstFault_L41 Q m U41 v41_1 v41_2 v41_3 → Q ro uo := by
  intro n
  induction n with
  | zero => intro m U41 v41_1 v41_2 v41_3 h; unfold v_firstFault_L41 at h; exact h.elim
  | succ n ih =>
    intro m U41 v41_1 v41_2 v41_3 h w
    cases m with
    | zero => unfold w_firstFault_L41 at w; exact w.elim
    | succ m =>
      unfold v_firstFault_L41 at h
      unfold w_firstFault_L41 at w
      rcases h with ⟨c, h⟩ | ⟨c, h⟩
      · replace w := w.1 c
        replace h := h.2
        replace w := w.2
        replace h := h.2
        replace w := w.2
        replace h := h.2
        replace w := w.2
        obtain ⟨n9, h⟩ := h
        obtain ⟨n8, w⟩ := w
        exact vz_firstFault_L73 n9 n8 h w
      · replace w := w.2 c
        replace h := h.2
        replace w := w.2
        obtain ⟨v9, e9, h⟩ := h
        replace w := w v9 e9
        obtain ⟨v9, e9, h⟩ := h
        replace w := w v9 e9
        exact ih m h w
set_option maxRecDepth 100000 in
theorem vw_firstFault_L18 {ro : Int32} {uo : MS} : ∀ (n : Nat) {U18 : MS} {v18_1 : Nat} {v18_2 : Int32} {v18_3 : Int32}, v_firstFault_L18 ro uo n U18 v18_1 v18_2 v18_3 → w_firstFault_L18 (fun r u => r = ro ∧ u = uo) n U18 v18_1 v18_2 v18_3 := by
  intro n
  induction n with
  | zero => intro U18 v18_1 v18_2 v18_3 h; unfold v_firstFault_L18 at h; exact h.elim
  | succ n ih =>
    intro U18 v18_1 v18_2 v18_3 h
    unfold v_firstFault_L18 at h
    unfold w_firstFault_L18
    rcases h with ⟨c, h⟩ | ⟨c, h⟩
    · refine ⟨fun _ => ?_, fun c2 => absurd c c2⟩
      obtain ⟨n9, h⟩ := h
      exact ⟨n9, vw_firstFault_L41 n9 h⟩
    · refine ⟨fun c2 => absurd c2 c, fun _ => ?_⟩
      obtain ⟨g9, h⟩ := h
      refine ⟨g9, ?_⟩
      obtain ⟨v9, e9, h⟩ := h
      intro x9 d9
      have c9 : v9 = x9 := e9.trans d9.symm
      subst c9
      obtain ⟨v9, e9, h⟩ := h
      intro x9 d9
      have c9 : v9 = x9 := e9.trans d9.symm
      subst c9
      exact ih h
set_option maxRecDepth 100000 in
theorem vz_firstFault_L18 {ro : Int32} {uo : MS} {Q : Int32 → MS → Prop} : ∀ (n m : Nat) {U18 : MS} {v18_1 : Nat} {v18_2 : Int32} {v18_3 : Int32}, v_firstFault_L18 ro uo n U18 v18_1 v18_2 v18_3 → w_firstFault_L18 Q m U18 v18_1 v18_2 v18_3 → Q ro uo := by
  intro n
  induction n with
  | zero => intro m U18 v18_1 v18_2 v18_3 h; unfold v_firstFault_L18 at h; exact h.elim
  | succ n ih =>
    intro m U18 v18_1 v18_2 v18_3 h w
    cases m with
    | zero => unfold w_firstFault_L18 at w; exact w.elim
    | succ m =>
      unfold v_firstFault_L18 at h
      unfold w_firstFault_L18 at w
      rcases h with ⟨c, h⟩ | ⟨c, h⟩
      · replace w := w.1 c
        obtain ⟨n9, h⟩ := h
        obtain ⟨n8, w⟩ := w
        exact vz_firstFault_L41 n9 n8 h w
      · replace w := w.2 c
        replace h := h.2
        replace w := w.2
        obtain ⟨v9, e9, h⟩ := h
        replace w := w v9 e9
        obtain ⟨v9, e9, h⟩ := h
        replace w := w v9 e9
        exact ih m h w
set_option maxRecDepth 100000 in
theorem vw_firstFault {S : MS} {p1 : Nat} {x2 : Int32} {ro : Int32} {uo : MS} (h : v_firstFault S p1 x2 ro uo) : w_firstFault S p1 x2 (fun r u => r = ro ∧ u = uo) := by
  unfold v_firstFault at h
  unfold w_firstFault
  obtain ⟨q9, z9, h⟩ := h
  refine ⟨_, vw_look z9, ?_⟩
  intro q8 d9
  subst d9
  obtain ⟨g9, h⟩ := h
  refine ⟨g9, ?_⟩
  obtain ⟨g9, h⟩ := h
  refine ⟨g9, ?_⟩
  obtain ⟨q9, z9, h⟩ := h
  refine ⟨_, vw_findHeights z9, ?_⟩
  intro q8 d9
  subst d9
  obtain ⟨n9, h⟩ := h
  exact ⟨n9, vw_firstFault_L18 n9 h⟩
set_option maxRecDepth 100000 in
theorem vz_firstFault {S : MS} {p1 : Nat} {x2 : Int32} {ro : Int32} {uo : MS} {Q : Int32 → MS → Prop} (h : v_firstFault S p1 x2 ro uo) (w : w_firstFault S p1 x2 Q) : Q ro uo := by
  unfold v_firstFault at h
  unfold w_firstFault at w
  obtain ⟨q9, z9, h⟩ := h
  obtain ⟨Q9, w0, w⟩ := w
  replace w := w q9 (vz_look z9 w0)
  replace h := h.2
  replace w := w.2
  replace h := h.2
  replace w := w.2
  obtain ⟨q9, z9, h⟩ := h
  obtain ⟨Q9, w0, w⟩ := w
  replace w := w q9 (vz_findHeights z9 w0)
  obtain ⟨n9, h⟩ := h
  obtain ⟨n8, w⟩ := w
  exact vz_firstFault_L18 n9 n8 h w
def v_goTo (S : MS) (x1 : Int32) (uo : MS) : Prop := (((0 : Int) ≤ ((qI S 0 97) - (1 : Int32)).toInt ∧ ((qI S 0 97) - (1 : Int32)).toInt < 60) ∧ (∃ S3 : MS, S3 = wI S 43 ((((qI S 0 97) - (1 : Int32)).toInt).toNat) x1 ∧ (uo = S3)))
set_option maxRecDepth 100000 in
theorem ru_goTo {S : MS} {x1 : Int32} {Q : MS → Prop} (h : w_goTo S x1 Q) : ∃ uo, v_goTo S x1 uo ∧ Q uo := by
  have i0 : Unit := ()
  have K : ∀ (i : Unit) (uo : MS), v_goTo S x1 uo → v_goTo S x1 uo := fun _ _ z => z
  unfold w_goTo at h
  obtain ⟨g1_, h⟩ := h
  replace K := fun i uo z => K i uo ⟨g1_, z⟩
  obtain ⟨S3, eS3⟩ : ∃ x9 : MS, x9 = wI S 43 ((((qI S 0 97) - (1 : Int32)).toInt).toNat) x1 := ⟨_, rfl⟩
  replace h := h S3 eS3
  replace K := fun i uo z => K i uo ⟨S3, eS3, z⟩
  exact ⟨_, K i0 _ rfl, h⟩
set_option maxRecDepth 100000 in
theorem vw_goTo {S : MS} {x1 : Int32} {uo : MS} (h : v_goTo S x1 uo) : w_goTo S x1 (fun u => u = uo) := by
  unfold v_goTo at h
  unfold w_goTo
  obtain ⟨g9, h⟩ := h
  refine ⟨g9, ?_⟩
  obtain ⟨v9, e9, h⟩ := h
  intro x9 d9
  have c9 : v9 = x9 := e9.trans d9.symm
  subst c9
  exact h.symm
set_option maxRecDepth 100000 in
theorem vz_goTo {S : MS} {x1 : Int32} {uo : MS} {Q : MS → Prop} (h : v_goTo S x1 uo) (w : w_goTo S x1 Q) : Q uo := by
  unfold v_goTo at h
  unfold w_goTo at w
  replace h := h.2
  replace w := w.2
  obtain ⟨v9, e9, h⟩ := h
  replace w := w v9 e9
  rw [h]
  exact w
def v_got (S : MS) (x1 : Int32) (ro : Int64) (uo : MS) : Prop := (∃ a2 : Int32, a2 = ((qI S 0 97) - (1 : Int32)) ∧ (((0 : Int) ≤ a2.toInt ∧ a2.toInt < 60) ∧ (((0 : Int) ≤ a2.toInt ∧ a2.toInt < 60) ∧ (∃ S7 : MS, S7 = wI S 44 a2.toInt.toNat ((qI S 44 a2.toInt.toNat) - x1) ∧ (((0 : Int) ≤ a2.toInt ∧ a2.toInt < 60) ∧ (((0 : Int) ≤ (((24 : Int32) * a2) + (qI S7 44 a2.toInt.toNat)).toInt ∧ (((24 : Int32) * a2) + (qI S7 44 a2.toInt.toNat)).toInt < 1440) ∧ (ro = (qJ S7 46 (((((24 : Int32) * a2) + (qI S7 44 a2.toInt.toNat)).toInt).toNat)) ∧ uo = S7)))))))
set_option maxRecDepth 100000 in
theorem ru_got {S : MS} {x1 : Int32} {Q : Int64 → MS → Prop} (h : w_got S x1 Q) : ∃ ro uo, v_got S x1 ro uo ∧ Q ro uo := by
  have i0 : Unit := ()
  have K : ∀ (i : Unit) (ro : Int64) (uo : MS), v_got S x1 ro uo → v_got S x1 ro uo := fun _ _ _ z => z
  unfold w_got at h
  obtain ⟨a2, ea2⟩ : ∃ x9 : Int32, x9 = ((qI S 0 97) - (1 : Int32)) := ⟨_, rfl⟩
  replace h := h a2 ea2
  replace K := fun i ro uo z => K i ro uo ⟨a2, ea2, z⟩
  obtain ⟨g1_, h⟩ := h
  replace K := fun i ro uo z => K i ro uo ⟨g1_, z⟩
  obtain ⟨g2_, h⟩ := h
  replace K := fun i ro uo z => K i ro uo ⟨g2_, z⟩
  obtain ⟨S7, eS7⟩ : ∃ x9 : MS, x9 = wI S 44 a2.toInt.toNat ((qI S 44 a2.toInt.toNat) - x1) := ⟨_, rfl⟩
  replace h := h S7 eS7
  replace K := fun i ro uo z => K i ro uo ⟨S7, eS7, z⟩
  obtain ⟨g3_, h⟩ := h
  replace K := fun i ro uo z => K i ro uo ⟨g3_, z⟩
  obtain ⟨g4_, h⟩ := h
  replace K := fun i ro uo z => K i ro uo ⟨g4_, z⟩
  exact ⟨_, _, K i0 _ _ ⟨rfl, rfl⟩, h⟩
set_option maxRecDepth 100000 in
theorem vw_got {S : MS} {x1 : Int32} {ro : Int64} {uo : MS} (h : v_got S x1 ro uo) : w_got S x1 (fun r u => r = ro ∧ u = uo) := by
  unfold v_got at h
  unfold w_got
  obtain ⟨v9, e9, h⟩ := h
  intro x9 d9
  have c9 : v9 = x9 := e9.trans d9.symm
  subst c9
  obtain ⟨g9, h⟩ := h
  refine ⟨g9, ?_⟩
  obtain ⟨g9, h⟩ := h
  refine ⟨g9, ?_⟩
  obtain ⟨v9, e9, h⟩ := h
  intro x9 d9
  have c9 : v9 = x9 := e9.trans d9.symm
  subst c9
  obtain ⟨g9, h⟩ := h
  refine ⟨g9, ?_⟩
  obtain ⟨g9, h⟩ := h
  refine ⟨g9, ?_⟩
  exact ⟨h.1.symm, h.2.symm⟩
set_option maxRecDepth 100000 in
theorem vz_got {S : MS} {x1 : Int32} {ro : Int64} {uo : MS} {Q : Int64 → MS → Prop} (h : v_got S x1 ro uo) (w : w_got S x1 Q) : Q ro uo := by
  unfold v_got at h
  unfold w_got at w
  obtain ⟨v9, e9, h⟩ := h
  replace w := w v9 e9
  replace h := h.2
  replace w := w.2
  replace h := h.2
  replace w := w.2
  obtain ⟨v9, e9, h⟩ := h
  replace w := w v9 e9
  replace h := h.2
  replace w := w.2
  replace h := h.2
  replace w := w.2
  rw [h.1, h.2]
  exact w
def v_gotInt (S : MS) (ro : Int32) (uo : MS) : Prop := (∃ (r2 : Int64) (S3 : MS), v_got S (1 : Int32) r2 S3 ∧ (ro = (r2.toInt32) ∧ uo = S3))
set_option maxRecDepth 100000 in
theorem ru_gotInt {S : MS} {Q : Int32 → MS → Prop} (h : w_gotInt S Q) : ∃ ro uo, v_gotInt S ro uo ∧ Q ro uo := by
  have i0 : Unit := ()
  have K : ∀ (i : Unit) (ro : Int32) (uo : MS), v_gotInt S ro uo → v_gotInt S ro uo := fun _ _ _ z => z
  unfold w_gotInt at h
  obtain ⟨Q9, h0, h⟩ := h
  obtain ⟨r2, S3, z9, g9⟩ := ru_got h0
  replace h := h r2 S3 g9
  replace K := fun i ro uo z => K i ro uo ⟨r2, S3, z9, z⟩
  exact ⟨_, _, K i0 _ _ ⟨rfl, rfl⟩, h⟩
set_option maxRecDepth 100000 in
theorem vw_gotInt {S : MS} {ro : Int32} {uo : MS} (h : v_gotInt S ro uo) : w_gotInt S (fun r u => r = ro ∧ u = uo) := by
  unfold v_gotInt at h
  unfold w_gotInt
  obtain ⟨p9, q9, z9, h⟩ := h
  refine ⟨_, vw_got z9, ?_⟩
  rintro p8 q8 ⟨d8, d9⟩
  subst d8
  subst d9
  exact ⟨h.1.symm, h.2.symm⟩
set_option maxRecDepth 100000 in
theorem vz_gotInt {S : MS} {ro : Int32} {uo : MS} {Q : Int32 → MS → Prop} (h : v_gotInt S ro uo) (w : w_gotInt S Q) : Q ro uo := by
  unfold v_gotInt at h
  unfold w_gotInt at w
  obtain ⟨p9, q9, z9, h⟩ := h
  obtain ⟨Q9, w0, w⟩ := w
  replace w := w p9 q9 (vz_got z9 w0)
  rw [h.1, h.2]
  exact w
def v_stateAt_J54 (ro : Int32) (uo : MS) (U54 : MS) : Prop := (ro = (-1 : Int32) ∧ uo = U54)
def v_stateAt (S : MS) (x1 : Int32) (x2 : Int32) (x3 : Int32) (ro : Int32) (uo : MS) : Prop := (∃ (r2 : Int32) (S3 : MS), v_isRight S x1 r2 S3 ∧ ((r2.toInt = 0 ∧ (v_stateAt_J54 ro uo S3)) ∨ (¬ r2.toInt = 0 ∧ (∃ (r7 : Int32) (S8 : MS), v_isMethod S3 x1 x2 r7 S8 ∧ ((r7.toInt = 0 ∧ (v_stateAt_J54 ro uo S8)) ∨ (¬ r7.toInt = 0 ∧ ((x3.toInt < 0 ∧ (v_stateAt_J54 ro uo S8)) ∨ (¬ x3.toInt < 0 ∧ (((0 : Int) ≤ x1.toInt ∧ x1.toInt < 12) ∧ ((qR S8 1 x1.toInt.toNat = some (qO S8 1 x1.toInt.toNat)) ∧ ((qR S8 (qO S8 1 x1.toInt.toNat) 15 = some (qO S8 (qO S8 1 x1.toInt.toNat) 15)) ∧ (((0 : Int) ≤ x2.toInt ∧ x2.toInt < (qN S8 (qO S8 (qO S8 1 x1.toInt.toNat) 15) : Int)) ∧ (((qI S8 (qO S8 (qO S8 1 x1.toInt.toNat) 15) x2.toInt.toNat).toInt ≤ x3.toInt ∧ (v_stateAt_J54 ro uo S8)) ∨ (¬ (qI S8 (qO S8 (qO S8 1 x1.toInt.toNat) 15) x2.toInt.toNat).toInt ≤ x3.toInt ∧ (((0 : Int) ≤ x1.toInt ∧ x1.toInt < 12) ∧ ((qR S8 1 x1.toInt.toNat = some (qO S8 1 x1.toInt.toNat)) ∧ ((qR S8 (qO S8 1 x1.toInt.toNat) 14 = some (qO S8 (qO S8 1 x1.toInt.toNat) 14)) ∧ (((0 : Int) ≤ x2.toInt ∧ x2.toInt < (qN S8 (qO S8 (qO S8 1 x1.toInt.toNat) 14) : Int)) ∧ (ro = ((4 : Int32) * ((qI S8 (qO S8 (qO S8 1 x1.toInt.toNat) 14) x2.toInt.toNat) + x3)) ∧ uo = S8)))))))))))))))))))
set_option maxRecDepth 100000 in
theorem ru_stateAt_J54 {ι : Type} {P : Int32 → MS → Prop} {Q : Int32 → MS → Prop} {U54 : MS} (i0 : ι) (K : ∀ (i : ι) (ro : Int32) (uo : MS), v_stateAt_J54 ro uo U54 → P ro uo) (h : w_stateAt_J54 Q U54) : ∃ ro uo, P ro uo ∧ Q ro uo := by
  unfold w_stateAt_J54 at h
  exact ⟨_, _, K i0 _ _ ⟨rfl, rfl⟩, h⟩
set_option maxRecDepth 100000 in
theorem ru_stateAt {S : MS} {x1 : Int32} {x2 : Int32} {x3 : Int32} {Q : Int32 → MS → Prop} (h : w_stateAt S x1 x2 x3 Q) : ∃ ro uo, v_stateAt S x1 x2 x3 ro uo ∧ Q ro uo := by
  have i0 : Unit := ()
  have K : ∀ (i : Unit) (ro : Int32) (uo : MS), v_stateAt S x1 x2 x3 ro uo → v_stateAt S x1 x2 x3 ro uo := fun _ _ _ z => z
  unfold w_stateAt at h
  obtain ⟨Q9, h0, h⟩ := h
  obtain ⟨r2, S3, z9, g9⟩ := ru_isRight h0
  replace h := h r2 S3 g9
  replace K := fun i ro uo z => K i ro uo ⟨r2, S3, z9, z⟩
  by_cases c : r2.toInt = 0
  · replace h := h.1 c
    replace K := fun i ro uo z => K i ro uo (Or.inl ⟨c, z⟩)
    exact ru_stateAt_J54 i0 K h
  · replace h := h.2 c
    replace K := fun i ro uo z => K i ro uo (Or.inr ⟨c, z⟩)
    obtain ⟨Q9, h0, h⟩ := h
    obtain ⟨r7, S8, z9, g9⟩ := ru_isMethod h0
    replace h := h r7 S8 g9
    replace K := fun i ro uo z => K i ro uo ⟨r7, S8, z9, z⟩
    by_cases c : r7.toInt = 0
    · replace h := h.1 c
      replace K := fun i ro uo z => K i ro uo (Or.inl ⟨c, z⟩)
      exact ru_stateAt_J54 i0 K h
    · replace h := h.2 c
      replace K := fun i ro uo z => K i ro uo (Or.inr ⟨c, z⟩)
      by_cases c : x3.toInt < 0
      · replace h := h.1 c
        replace K := fun i ro uo z => K i ro uo (Or.inl ⟨c, z⟩)
        exact ru_stateAt_J54 i0 K h
      · replace h := h.2 c
        replace K := fun i ro uo z => K i ro uo (Or.inr ⟨c, z⟩)
        obtain ⟨g1_, h⟩ := h
        replace K := fun i ro uo z => K i ro uo ⟨g1_, z⟩
        obtain ⟨g2_, h⟩ := h
        replace K := fun i ro uo z => K i ro uo ⟨g2_, z⟩
        obtain ⟨g3_, h⟩ := h
        replace K := fun i ro uo z => K i ro uo ⟨g3_, z⟩
        obtain ⟨g4_, h⟩ := h
        replace K := fun i ro uo z => K i ro uo ⟨g4_, z⟩
        by_cases c : (qI S8 (qO S8 (qO S8 1 x1.toInt.toNat) 15) x2.toInt.toNat).toInt ≤ x3.toInt
        · replace h := h.1 c
          replace K := fun i ro uo z => K i ro uo (Or.inl ⟨c, z⟩)
          exact ru_stateAt_J54 i0 K h
        · replace h := h.2 c
          replace K := fun i ro uo z => K i ro uo (Or.inr ⟨c, z⟩)
          obtain ⟨g5_, h⟩ := h
          replace K := fun i ro uo z => K i ro uo ⟨g5_, z⟩
          obtain ⟨g6_, h⟩ := h
          replace K := fun i ro uo z => K i ro uo ⟨g6_, z⟩
          obtain ⟨g7_, h⟩ := h
          replace K := fun i ro uo z => K i ro uo ⟨g7_, z⟩
          obtain ⟨g8_, h⟩ := h
          replace K := fun i ro uo z => K i ro uo ⟨g8_, z⟩
          exact ⟨_, _, K i0 _ _ ⟨rfl, rfl⟩, h⟩
set_option maxRecDepth 100000 in
theorem vw_stateAt_J54 {ro : Int32} {uo : MS} {U54 : MS} (h : v_stateAt_J54 ro uo U54) : w_stateAt_J54 (fun r u => r = ro ∧ u = uo) U54 := by
  unfold v_stateAt_J54 at h
  unfold w_stateAt_J54
  exact ⟨h.1.symm, h.2.symm⟩
set_option maxRecDepth 100000 in
theorem vz_stateAt_J54 {ro : Int32} {uo : MS} {Q : Int32 → MS → Prop} {U54 : MS} (h : v_stateAt_J54 ro uo U54) (w : w_stateAt_J54 Q U54) : Q ro uo := by
  unfold v_stateAt_J54 at h
  unfold w_stateAt_J54 at w
  rw [h.1, h.2]
  exact w
set_option maxRecDepth 100000 in
theorem vw_stateAt {S : MS} {x1 : Int32} {x2 : Int32} {x3 : Int32} {ro : Int32} {uo : MS} (h : v_stateAt S x1 x2 x3 ro uo) : w_stateAt S x1 x2 x3 (fun r u => r = ro ∧ u = uo) := by
  unfold v_stateAt at h
  unfold w_stateAt
  obtain ⟨p9, q9, z9, h⟩ := h
  refine ⟨_, vw_isRight z9, ?_⟩
  rintro p8 q8 ⟨d8, d9⟩
  subst d8
  subst d9
  rcases h with ⟨c, h⟩ | ⟨c, h⟩
  · refine ⟨fun _ => ?_, fun c2 => absurd c c2⟩
    exact vw_stateAt_J54 h
  · refine ⟨fun c2 => absurd c2 c, fun _ => ?_⟩
    obtain ⟨p9, q9, z9, h⟩ := h
    refine ⟨_, vw_isMethod z9, ?_⟩
    rintro p8 q8 ⟨d8, d9⟩
    subst d8
    subst d9
    rcases h with ⟨c, h⟩ | ⟨c, h⟩
    · refine ⟨fun _ => ?_, fun c2 => absurd c c2⟩
      exact vw_stateAt_J54 h
    · refine ⟨fun c2 => absurd c2 c, fun _ => ?_⟩
      rcases h with ⟨c, h⟩ | ⟨c, h⟩
      · refine ⟨fun _ => ?_, fun c2 => absurd c c2⟩
        exact vw_stateAt_J54 h
      · refine ⟨fun c2 => absurd c2 c, fun _ => ?_⟩
        obtain ⟨g9, h⟩ := h
        refine ⟨g9, ?_⟩
        obtain ⟨g9, h⟩ := h
        refine ⟨g9, ?_⟩
        obtain ⟨g9, h⟩ := h
        refine ⟨g9, ?_⟩
        obtain ⟨g9, h⟩ := h
        refine ⟨g9, ?_⟩
        rcases h with ⟨c, h⟩ | ⟨c, h⟩
        · refine ⟨fun _ => ?_, fun c2 => absurd c c2⟩
          exact vw_stateAt_J54 h
        · refine ⟨fun c2 => absurd c2 c, fun _ => ?_⟩
          obtain ⟨g9, h⟩ := h
          refine ⟨g9, ?_⟩
          obtain ⟨g9, h⟩ := h
          refine ⟨g9, ?_⟩
          obtain ⟨g9, h⟩ := h
          refine ⟨g9, ?_⟩
          obtain ⟨g9, h⟩ := h
          refine ⟨g9, ?_⟩
          exact ⟨h.1.symm, h.2.symm⟩
set_option maxRecDepth 100000 in
theorem vz_stateAt {S : MS} {x1 : Int32} {x2 : Int32} {x3 : Int32} {ro : Int32} {uo : MS} {Q : Int32 → MS → Prop} (h : v_stateAt S x1 x2 x3 ro uo) (w : w_stateAt S x1 x2 x3 Q) : Q ro uo := by
  unfold v_stateAt at h
  unfold w_stateAt at w
  obtain ⟨p9, q9, z9, h⟩ := h
  obtain ⟨Q9, w0, w⟩ := w
  replace w := w p9 q9 (vz_isRight z9 w0)
  rcases h with ⟨c, h⟩ | ⟨c, h⟩
  · replace w := w.1 c
    exact vz_stateAt_J54 h w
  · replace w := w.2 c
    obtain ⟨p9, q9, z9, h⟩ := h
    obtain ⟨Q9, w0, w⟩ := w
    replace w := w p9 q9 (vz_isMethod z9 w0)
    rcases h with ⟨c, h⟩ | ⟨c, h⟩
    · replace w := w.1 c
      exact vz_stateAt_J54 h w
    · replace w := w.2 c
      rcases h with ⟨c, h⟩ | ⟨c, h⟩
      · replace w := w.1 c
        exact vz_stateAt_J54 h w
      · replace w := w.2 c
        replace h := h.2
        replace w := w.2
        replace h := h.2
        replace w := w.2
        replace h := h.2
        replace w := w.2
        replace h := h.2
        replace w := w.2
        rcases h with ⟨c, h⟩ | ⟨c, h⟩
        · replace w := w.1 c
          exact vz_stateAt_J54 h w
        · replace w := w.2 c
          replace h := h.2
          replace w := w.2
          replace h := h.2
          replace w := w.2
          replace h := h.2
          replace w := w.2
          replace h := h.2
          replace w := w.2
          rw [h.1, h.2]
          exact w
def v_height (S : MS) (x1 : Int32) (x2 : Int32) (x3 : Int32) (ro : Int32) (uo : MS) : Prop := (∃ (r2 : Int32) (S3 : MS), v_stateAt S x1 x2 x3 r2 S3 ∧ ((0 ≤ r2.toInt ∧ (((0 : Int) ≤ x1.toInt ∧ x1.toInt < 12) ∧ ((qR S3 1 x1.toInt.toNat = some (qO S3 1 x1.toInt.toNat)) ∧ ((qR S3 (qO S3 1 x1.toInt.toNat) 22 = some (qO S3 (qO S3 1 x1.toInt.toNat) 22)) ∧ (((0 : Int) ≤ r2.toInt ∧ r2.toInt < (qN S3 (qO S3 (qO S3 1 x1.toInt.toNat) 22) : Int)) ∧ (ro = (qI S3 (qO S3 (qO S3 1 x1.toInt.toNat) 22) r2.toInt.toNat) ∧ uo = S3)))))) ∨ (¬ 0 ≤ r2.toInt ∧ (ro = (-1 : Int32) ∧ uo = S3))))
set_option maxRecDepth 100000 in
theorem ru_height {S : MS} {x1 : Int32} {x2 : Int32} {x3 : Int32} {Q : Int32 → MS → Prop} (h : w_height S x1 x2 x3 Q) : ∃ ro uo, v_height S x1 x2 x3 ro uo ∧ Q ro uo := by
  have i0 : Unit := ()
  have K : ∀ (i : Unit) (ro : Int32) (uo : MS), v_height S x1 x2 x3 ro uo → v_height S x1 x2 x3 ro uo := fun _ _ _ z => z
  unfold w_height at h
  obtain ⟨Q9, h0, h⟩ := h
  obtain ⟨r2, S3, z9, g9⟩ := ru_stateAt h0
  replace h := h r2 S3 g9
  replace K := fun i ro uo z => K i ro uo ⟨r2, S3, z9, z⟩
  by_cases c : 0 ≤ r2.toInt
  · replace h := h.1 c
    replace K := fun i ro uo z => K i ro uo (Or.inl ⟨c, z⟩)
    obtain ⟨g1_, h⟩ := h
    replace K := fun i ro uo z => K i ro uo ⟨g1_, z⟩
    obtain ⟨g2_, h⟩ := h
    replace K := fun i ro uo z => K i ro uo ⟨g2_, z⟩
    obtain ⟨g3_, h⟩ := h
    replace K := fun i ro uo z => K i ro uo ⟨g3_, z⟩
    obtain ⟨g4_, h⟩ := h
    replace K := fun i ro uo z => K i ro uo ⟨g4_, z⟩
    exact ⟨_, _, K i0 _ _ ⟨rfl, rfl⟩, h⟩
  · replace h := h.2 c
    replace K := fun i ro uo z => K i ro uo (Or.inr ⟨c, z⟩)
    exact ⟨_, _, K i0 _ _ ⟨rfl, rfl⟩, h⟩
set_option maxRecDepth 100000 in
theorem vw_height {S : MS} {x1 : Int32} {x2 : Int32} {x3 : Int32} {ro : Int32} {uo : MS} (h : v_height S x1 x2 x3 ro uo) : w_height S x1 x2 x3 (fun r u => r = ro ∧ u = uo) := by
  unfold v_height at h
  unfold w_height
  obtain ⟨p9, q9, z9, h⟩ := h
  refine ⟨_, vw_stateAt z9, ?_⟩
  rintro p8 q8 ⟨d8, d9⟩
  subst d8
  subst d9
  rcases h with ⟨c, h⟩ | ⟨c, h⟩
  · refine ⟨fun _ => ?_, fun c2 => absurd c c2⟩
    obtain ⟨g9, h⟩ := h
    refine ⟨g9, ?_⟩
    obtain ⟨g9, h⟩ := h
    refine ⟨g9, ?_⟩
    obtain ⟨g9, h⟩ := h
    refine ⟨g9, ?_⟩
    obtain ⟨g9, h⟩ := h
    refine ⟨g9, ?_⟩
    exact ⟨h.1.symm, h.2.symm⟩
  · refine ⟨fun c2 => absurd c2 c, fun _ => ?_⟩
    exact ⟨h.1.symm, h.2.symm⟩
set_option maxRecDepth 100000 in
theorem vz_height {S : MS} {x1 : Int32} {x2 : Int32} {x3 : Int32} {ro : Int32} {uo : MS} {Q : Int32 → MS → Prop} (h : v_height S x1 x2 x3 ro uo) (w : w_height S x1 x2 x3 Q) : Q ro uo := by
  unfold v_height at h
  unfold w_height at w
  obtain ⟨p9, q9, z9, h⟩ := h
  obtain ⟨Q9, w0, w⟩ := w
  replace w := w p9 q9 (vz_stateAt z9 w0)
  rcases h with ⟨c, h⟩ | ⟨c, h⟩
  · replace w := w.1 c
    replace h := h.2
    replace w := w.2
    replace h := h.2
    replace w := w.2
    replace h := h.2
    replace w := w.2
    replace h := h.2
    replace w := w.2
    rw [h.1, h.2]
    exact w
  · replace w := w.2 c
    rw [h.1, h.2]
    exact w
def v_mark_J196 (uo : MS) (k128 : MS → Int32 → Prop) (U196 : MS) (v196_1 : Int32) : Prop := (∃ a7 : Int32, a7 = (v196_1 + Int32.ofInt 1) ∧ (k128 U196 a7))
def v_mark_J120 (uo : MS) (k71 : MS → Int32 → Prop) (U120 : MS) (v120_1 : Int32) : Prop := (∃ a35 : Int32, a35 = (v120_1 + Int32.ofInt 1) ∧ (k71 U120 a35))
def v_mark_J40 (uo : MS) (k2 : MS → Int32 → Prop) (U40 : MS) (v40_1 : Int32) : Prop := (∃ a63 : Int32, a63 = (v40_1 + Int32.ofInt 1) ∧ (k2 U40 a63))
def v_mark_L128 (uo : MS) : Nat → MS → Int32 → Prop
  | 0, _, _ => False
  | n128 + 1, U128, v128_1 => (((qI U128 0 135).toInt ≤ v128_1.toInt ∧ (uo = U128)) ∨ (¬ (qI U128 0 135).toInt ≤ v128_1.toInt ∧ (((0 : Int) ≤ v128_1.toInt ∧ v128_1.toInt < 16) ∧ (((qI U128 86 v128_1.toInt.toNat).toInt = 0 ∧ (((0 : Int) ≤ v128_1.toInt ∧ v128_1.toInt < 16) ∧ (∃ (r12 : Int32) (S13 : MS), v_here U128 (qI U128 82 v128_1.toInt.toNat) r12 S13 ∧ (((0 : Int) ≤ r12.toInt ∧ r12.toInt < 1201) ∧ (∃ S16 : MS, S16 = wI S13 87 r12.toInt.toNat (vp_nar .boolean (1 : Int32)) ∧ (((0 : Int) ≤ v128_1.toInt ∧ v128_1.toInt < 16) ∧ (∃ (r20 : Int32) (S21 : MS), v_here S16 (qI S16 83 v128_1.toInt.toNat) r20 S21 ∧ (((0 : Int) ≤ r20.toInt ∧ r20.toInt < 1201) ∧ (∃ S24 : MS, S24 = wI S21 87 r20.toInt.toNat (vp_nar .boolean (1 : Int32)) ∧ (((0 : Int) ≤ v128_1.toInt ∧ v128_1.toInt < 16) ∧ (∃ (r28 : Int32) (S29 : MS), v_here S24 (qI S24 84 v128_1.toInt.toNat) r28 S29 ∧ (((0 : Int) ≤ r28.toInt ∧ r28.toInt < 1201) ∧ (∃ S32 : MS, S32 = wI S29 87 r28.toInt.toNat (vp_nar .boolean (1 : Int32)) ∧ (v_mark_J196 uo (v_mark_L128 uo n128) S32 v128_1)))))))))))))) ∨ (¬ (qI U128 86 v128_1.toInt.toNat).toInt = 0 ∧ (v_mark_J196 uo (v_mark_L128 uo n128) U128 v128_1))))))
def v_mark_L93 (uo : MS) (k71 : MS → Int32 → Prop) : Nat → MS → Int32 → Int32 → Prop
  | 0, _, _, _ => False
  | n93 + 1, U93, v93_1, v93_2 => (d_waysOf U93 v93_1 ∧ (((f_waysOf U93 v93_1).toInt ≤ v93_2.toInt ∧ (v_mark_J120 uo k71 U93 v93_1)) ∨ (¬ (f_waysOf U93 v93_1).toInt ≤ v93_2.toInt ∧ (∃ (r42 : Int32) (S43 : MS), v_wayOf U93 v93_1 v93_2 r42 S43 ∧ (((0 : Int) ≤ r42.toInt ∧ r42.toInt < 1201) ∧ (∃ S46 : MS, S46 = wI S43 87 r42.toInt.toNat (vp_nar .boolean (1 : Int32)) ∧ (∃ a47 : Int32, a47 = (v93_2 + Int32.ofInt 1) ∧ ((v_mark_L93 uo k71 n93) S46 v93_1 a47))))))))
def v_mark_L71 (uo : MS) : Nat → MS → Int32 → Prop
  | 0, _, _ => False
  | n71 + 1, U71, v71_1 => (((qI U71 0 129).toInt ≤ v71_1.toInt ∧ (∃ n, v_mark_L128 uo n U71 0)) ∨ (¬ (qI U71 0 129).toInt ≤ v71_1.toInt ∧ (((0 : Int) ≤ v71_1.toInt ∧ v71_1.toInt < 1200) ∧ (((qI U71 81 v71_1.toInt.toNat).toInt = 0 ∧ (∃ n, v_mark_L93 uo (v_mark_L71 uo n71) n U71 v71_1 0)) ∨ (¬ (qI U71 81 v71_1.toInt.toNat).toInt = 0 ∧ (v_mark_J120 uo (v_mark_L71 uo n71) U71 v71_1))))))
def v_mark_L48 (uo : MS) : Nat → MS → Int32 → Prop
  | 0, _, _ => False
  | n48 + 1, U48, v48_1 => (((qI U48 0 129).toInt < v48_1.toInt ∧ (∃ n, v_mark_L71 uo n U48 0)) ∨ (¬ (qI U48 0 129).toInt < v48_1.toInt ∧ (((0 : Int) ≤ v48_1.toInt ∧ v48_1.toInt < 1201) ∧ (∃ S49 : MS, S49 = wI U48 87 v48_1.toInt.toNat (vp_nar .boolean (0 : Int32)) ∧ (∃ a50 : Int32, a50 = (v48_1 + Int32.ofInt 1) ∧ ((v_mark_L48 uo n48) S49 a50))))))
def v_mark_L2 (uo : MS) : Nat → MS → Int32 → Prop
  | 0, _, _ => False
  | n2 + 1, U2, v2_1 => (((qI U2 0 135).toInt ≤ v2_1.toInt ∧ (∃ n, v_mark_L48 uo n U2 0)) ∨ (¬ (qI U2 0 135).toInt ≤ v2_1.toInt ∧ (((0 : Int) ≤ v2_1.toInt ∧ v2_1.toInt < 16) ∧ (∃ (r54 : Int32) (S55 : MS), v_here U2 (qI U2 82 v2_1.toInt.toNat) r54 S55 ∧ (((0 : Int) ≤ v2_1.toInt ∧ v2_1.toInt < 16) ∧ (∃ (r60 : Int32) (S61 : MS), v_here S55 (qI S55 83 v2_1.toInt.toNat) r60 S61 ∧ ((r54.toInt < r60.toInt ∧ (v_mark_J40 uo (v_mark_L2 uo n2) S61 v2_1)) ∨ (¬ r54.toInt < r60.toInt ∧ (((0 : Int) ≤ v2_1.toInt ∧ v2_1.toInt < 16) ∧ (∃ S66 : MS, S66 = wI S61 86 v2_1.toInt.toNat (vp_nar .boolean (1 : Int32)) ∧ (v_mark_J40 uo (v_mark_L2 uo n2) S66 v2_1)))))))))))
def v_mark (S : MS) (uo : MS) : Prop := (∃ n, v_mark_L2 uo n S 0)
set_option maxRecDepth 100000 in
theorem ru_mark_J196 {ι : Type} {P : MS → Prop} {Q : MS → Prop} {k128 : MS → Int32 → Prop} {k128v : ι → MS → MS → Int32 → Prop} {U196 : MS} {v196_1 : Int32} (i0 : ι) (hk128 : ∀ (u : MS) (z0 : Int32), k128 u z0 → (∀ (i : ι) (uo : MS), k128v i uo u z0 → P uo) → ∃ uo, P uo ∧ Q uo) (K : ∀ (i : ι) (uo : MS), v_mark_J196 uo (k128v i uo) U196 v196_1 → P uo) (h : w_mark_J196 Q k128 U196 v196_1) : ∃ uo, P uo ∧ Q uo := by
  unfold w_mark_J196 at h
  obtain ⟨a7, ea7⟩ : ∃ x9 : Int32, x9 = (v196_1 + Int32.ofInt 1) := ⟨_, rfl⟩
  replace h := h a7 ea7
  replace K := fun i uo z => K i uo ⟨a7, ea7, z⟩
  exact hk128 _ _ h K
set_option maxRecDepth 100000 in
theorem ru_mark_J120 {ι : Type} {P : MS → Prop} {Q : MS → Prop} {k71 : MS → Int32 → Prop} {k71v : ι → MS → MS → Int32 → Prop} {U120 : MS} {v120_1 : Int32} (i0 : ι) (hk71 : ∀ (u : MS) (z0 : Int32), k71 u z0 → (∀ (i : ι) (uo : MS), k71v i uo u z0 → P uo) → ∃ uo, P uo ∧ Q uo) (K : ∀ (i : ι) (uo : MS), v_mark_J120 uo (k71v i uo) U120 v120_1 → P uo) (h : w_mark_J120 Q k71 U120 v120_1) : ∃ uo, P uo ∧ Q uo := by
  unfold w_mark_J120 at h
  obtain ⟨a35, ea35⟩ : ∃ x9 : Int32, x9 = (v120_1 + Int32.ofInt 1) := ⟨_, rfl⟩
  replace h := h a35 ea35
  replace K := fun i uo z => K i uo ⟨a35, ea35, z⟩
  exact hk71 _ _ h K
set_option maxRecDepth 100000 in
theorem ru_mark_J40 {ι : Type} {P : MS → Prop} {Q : MS → Prop} {k2 : MS → Int32 → Prop} {k2v : ι → MS → MS → Int32 → Prop} {U40 : MS} {v40_1 : Int32} (i0 : ι) (hk2 : ∀ (u : MS) (z0 : Int32), k2 u z0 → (∀ (i : ι) (uo : MS), k2v i uo u z0 → P uo) → ∃ uo, P uo ∧ Q uo) (K : ∀ (i : ι) (uo : MS), v_mark_J40 uo (k2v i uo) U40 v40_1 → P uo) (h : w_mark_J40 Q k2 U40 v40_1) : ∃ uo, P uo ∧ Q uo := by
  unfold w_mark_J40 at h
  obtain ⟨a63, ea63⟩ : ∃ x9 : Int32, x9 = (v40_1 + Int32.ofInt 1) := ⟨_, rfl⟩
  replace h := h a63 ea63
  replace K := fun i uo z => K i uo ⟨a63, ea63, z⟩
  exact hk2 _ _ h K
set_option maxRecDepth 100000 in
theorem ru_mark_L128 {ι : Type} {P : MS → Prop} {Q : MS → Prop} : ∀ (n : Nat) {U128 : MS} {v128_1 : Int32} (i0 : ι), (∀ (i : ι) (uo : MS), (∃ n8, v_mark_L128 uo n8 U128 v128_1) → P uo) → w_mark_L128 Q n U128 v128_1 → ∃ uo, P uo ∧ Q uo := by
  intro n
  induction n with
  | zero => intro U128 v128_1 i0 K h; unfold w_mark_L128 at h; exact h.elim
  | succ n ih =>
    intro U128 v128_1 i0 K h
    unfold w_mark_L128 at h
    replace K := fun (i : ι × Nat) uo (z : v_mark_L128 uo (i.2 + 1) U128 v128_1) => K i.1 uo ⟨i.2 + 1, z⟩
    have i00 := i0
    replace i0 : ι × Nat := (i0, 0)
    by_cases c : (qI U128 0 135).toInt ≤ v128_1.toInt
    · replace h := h.1 c
      replace K := fun i uo z => K i uo (Or.inl ⟨c, z⟩)
      exact ⟨_, K i0 _ rfl, h⟩
    · replace h := h.2 c
      replace K := fun i uo z => K i uo (Or.inr ⟨c, z⟩)
      obtain ⟨g1_, h⟩ := h
      replace K := fun i uo z => K i uo ⟨g1_, z⟩
      by_cases c : (qI U128 86 v128_1.toInt.toNat).toInt = 0
      · replace h := h.1 c
        replace K := fun i uo z => K i uo (Or.inl ⟨c, z⟩)
        obtain ⟨g2_, h⟩ := h
        replace K := fun i uo z => K i uo ⟨g2_, z⟩
        obtain ⟨Q9, h0, h⟩ := h
        obtain ⟨r12, S13, z9, g9⟩ := ru_here h0
        replace h := h r12 S13 g9
        replace K := fun i uo z => K i uo ⟨r12, S13, z9, z⟩
        obtain ⟨g3_, h⟩ := h
        replace K := fun i uo z => K i uo ⟨g3_, z⟩
        obtain ⟨S16, eS16⟩ : ∃ x9 : MS, x9 = wI S13 87 r12.toInt.toNat (vp_nar .boolean (1 : Int32)) := ⟨_, rfl⟩
        replace h := h S16 eS16
        replace K := fun i uo z => K i uo ⟨S16, eS16, z⟩
        obtain ⟨g4_, h⟩ := h
        replace K := fun i uo z => K i uo ⟨g4_, z⟩
        obtain ⟨Q9, h0, h⟩ := h
        obtain ⟨r20, S21, z9, g9⟩ := ru_here h0
        replace h := h r20 S21 g9
        replace K := fun i uo z => K i uo ⟨r20, S21, z9, z⟩
        obtain ⟨g5_, h⟩ := h
        replace K := fun i uo z => K i uo ⟨g5_, z⟩
        obtain ⟨S24, eS24⟩ : ∃ x9 : MS, x9 = wI S21 87 r20.toInt.toNat (vp_nar .boolean (1 : Int32)) := ⟨_, rfl⟩
        replace h := h S24 eS24
        replace K := fun i uo z => K i uo ⟨S24, eS24, z⟩
        obtain ⟨g6_, h⟩ := h
        replace K := fun i uo z => K i uo ⟨g6_, z⟩
        obtain ⟨Q9, h0, h⟩ := h
        obtain ⟨r28, S29, z9, g9⟩ := ru_here h0
        replace h := h r28 S29 g9
        replace K := fun i uo z => K i uo ⟨r28, S29, z9, z⟩
        obtain ⟨g7_, h⟩ := h
        replace K := fun i uo z => K i uo ⟨g7_, z⟩
        obtain ⟨S32, eS32⟩ : ∃ x9 : MS, x9 = wI S29 87 r28.toInt.toNat (vp_nar .boolean (1 : Int32)) := ⟨_, rfl⟩
        replace h := h S32 eS32
        replace K := fun i uo z => K i uo ⟨S32, eS32, z⟩
        exact ru_mark_J196 i0 (fun _ _ h K => ih i00 (fun i uo ⟨n8, z⟩ => K (i, n8) uo z) h) K h
      · replace h := h.2 c
        replace K := fun i uo z => K i uo (Or.inr ⟨c, z⟩)
        exact ru_mark_J196 i0 (fun _ _ h K => ih i00 (fun i uo ⟨n8, z⟩ => K (i, n8) uo z) h) K h
set_option maxRecDepth 100000 in
theorem ru_mark_L93 {ι : Type} {P : MS → Prop} {Q : MS → Prop} {k71 : MS → Int32 → Prop} {k71v : ι → MS → MS → Int32 → Prop} : ∀ (n : Nat) {U93 : MS} {v93_1 : Int32} {v93_2 : Int32} (i0 : ι) (hk71 : ∀ (u : MS) (z0 : Int32), k71 u z0 → (∀ (i : ι) (uo : MS), k71v i uo u z0 → P uo) → ∃ uo, P uo ∧ Q uo), (∀ (i : ι) (uo : MS), (∃ n8, v_mark_L93 uo (k71v i uo) n8 U93 v93_1 v93_2) → P uo) → w_mark_L93 Q k71 n U93 v93_1 v93_2 → ∃ uo, P uo ∧ Q uo := by
  intro n
  induction n with
  | zero => intro U93 v93_1 v93_2 i0 hk71 K h; unfold w_mark_L93 at h; exact h.elim
  | succ n ih =>
    intro U93 v93_1 v93_2 i0 hk71 K h
    unfold w_mark_L93 at h
    replace K := fun (i : ι × Nat) uo (z : v_mark_L93 uo (k71v i.1 uo) (i.2 + 1) U93 v93_1 v93_2) => K i.1 uo ⟨i.2 + 1, z⟩
    have i00 := i0
    replace i0 : ι × Nat := (i0, 0)
    obtain ⟨g8_, h⟩ := h
    replace K := fun i uo z => K i uo ⟨g8_, z⟩
    by_cases c : (f_waysOf U93 v93_1).toInt ≤ v93_2.toInt
    · replace h := h.1 c
      replace K := fun i uo z => K i uo (Or.inl ⟨c, z⟩)
      exact ru_mark_J120 i0 (fun _ _ h K => hk71 _ _ h (fun i uo z => K (i, 0) uo z)) K h
    · replace h := h.2 c
      replace K := fun i uo z => K i uo (Or.inr ⟨c, z⟩)
      obtain ⟨Q9, h0, h⟩ := h
      obtain ⟨r42, S43, z9, g9⟩ := ru_wayOf h0
      replace h := h r42 S43 g9
      replace K := fun i uo z => K i uo ⟨r42, S43, z9, z⟩
      obtain ⟨g9_, h⟩ := h
      replace K := fun i uo z => K i uo ⟨g9_, z⟩
      obtain ⟨S46, eS46⟩ : ∃ x9 : MS, x9 = wI S43 87 r42.toInt.toNat (vp_nar .boolean (1 : Int32)) := ⟨_, rfl⟩
      replace h := h S46 eS46
      replace K := fun i uo z => K i uo ⟨S46, eS46, z⟩
      obtain ⟨a47, ea47⟩ : ∃ x9 : Int32, x9 = (v93_2 + Int32.ofInt 1) := ⟨_, rfl⟩
      replace h := h a47 ea47
      replace K := fun i uo z => K i uo ⟨a47, ea47, z⟩
      exact ih i00 hk71 (fun i uo ⟨n8, z⟩ => K (i, n8) uo z) h
set_option maxRecDepth 100000 in
theorem ru_mark_L71 {ι : Type} {P : MS → Prop} {Q : MS → Prop} : ∀ (n : Nat) {U71 : MS} {v71_1 : Int32} (i0 : ι), (∀ (i : ι) (uo : MS), (∃ n8, v_mark_L71 uo n8 U71 v71_1) → P uo) → w_mark_L71 Q n U71 v71_1 → ∃ uo, P uo ∧ Q uo := by
  intro n
  induction n with
  | zero => intro U71 v71_1 i0 K h; unfold w_mark_L71 at h; exact h.elim
  | succ n ih =>
    intro U71 v71_1 i0 K h
    unfold w_mark_L71 at h
    replace K := fun (i : ι × Nat) uo (z : v_mark_L71 uo (i.2 + 1) U71 v71_1) => K i.1 uo ⟨i.2 + 1, z⟩
    have i00 := i0
    replace i0 : ι × Nat := (i0, 0)
    by_cases c : (qI U71 0 129).toInt ≤ v71_1.toInt
    · replace h := h.1 c
      replace K := fun i uo z => K i uo (Or.inl ⟨c, z⟩)
      obtain ⟨n9, h⟩ := h
      exact ru_mark_L128 n9 i0 K h
    · replace h := h.2 c
      replace K := fun i uo z => K i uo (Or.inr ⟨c, z⟩)
      obtain ⟨g10_, h⟩ := h
      replace K := fun i uo z => K i uo ⟨g10_, z⟩
      by_cases c : (qI U71 81 v71_1.toInt.toNat).toInt = 0
      · replace h := h.1 c
        replace K := fun i uo z => K i uo (Or.inl ⟨c, z⟩)
        obtain ⟨n9, h⟩ := h
        exact ru_mark_L93 n9 i0 (fun _ _ h K => ih i00 (fun i uo ⟨n8, z⟩ => K (i, n8) uo z) h) K h
      · replace h := h.2 c
        replace K := fun i uo z => K i uo (Or.inr ⟨c, z⟩)
        exact ru_mark_J120 i0 (fun _ _ h K => ih i00 (fun i uo ⟨n8, z⟩ => K (i, n8) uo z) h) K h
set_option maxRecDepth 100000 in
theorem ru_mark_L48 {ι : Type} {P : MS → Prop} {Q : MS → Prop} : ∀ (n : Nat) {U48 : MS} {v48_1 : Int32} (i0 : ι), (∀ (i : ι) (uo : MS), (∃ n8, v_mark_L48 uo n8 U48 v48_1) → P uo) → w_mark_L48 Q n U48 v48_1 → ∃ uo, P uo ∧ Q uo := by
  intro n
  induction n with
  | zero => intro U48 v48_1 i0 K h; unfold w_mark_L48 at h; exact h.elim
  | succ n ih =>
    intro U48 v48_1 i0 K h
    unfold w_mark_L48 at h
    replace K := fun (i : ι × Nat) uo (z : v_mark_L48 uo (i.2 + 1) U48 v48_1) => K i.1 uo ⟨i.2 + 1, z⟩
    have i00 := i0
    replace i0 : ι × Nat := (i0, 0)
    by_cases c : (qI U48 0 129).toInt < v48_1.toInt
    · replace h := h.1 c
      replace K := fun i uo z => K i uo (Or.inl ⟨c, z⟩)
      obtain ⟨n9, h⟩ := h
      exact ru_mark_L71 n9 i0 K h
    · replace h := h.2 c
      replace K := fun i uo z => K i uo (Or.inr ⟨c, z⟩)
      obtain ⟨g11_, h⟩ := h
      replace K := fun i uo z => K i uo ⟨g11_, z⟩
      obtain ⟨S49, eS49⟩ : ∃ x9 : MS, x9 = wI U48 87 v48_1.toInt.toNat (vp_nar .boolean (0 : Int32)) := ⟨_, rfl⟩
      replace h := h S49 eS49
      replace K := fun i uo z => K i uo ⟨S49, eS49, z⟩
      obtain ⟨a50, ea50⟩ : ∃ x9 : Int32, x9 = (v48_1 + Int32.ofInt 1) := ⟨_, rfl⟩
      replace h := h a50 ea50
      replace K := fun i uo z => K i uo ⟨a50, ea50, z⟩
      exact ih i00 (fun i uo ⟨n8, z⟩ => K (i, n8) uo z) h
set_option maxRecDepth 100000 in
theorem ru_mark_L2 {ι : Type} {P : MS → Prop} {Q : MS → Prop} : ∀ (n : Nat) {U2 : MS} {v2_1 : Int32} (i0 : ι), (∀ (i : ι) (uo : MS), (∃ n8, v_mark_L2 uo n8 U2 v2_1) → P uo) → w_mark_L2 Q n U2 v2_1 → ∃ uo, P uo ∧ Q uo := by
  intro n
  induction n with
  | zero => intro U2 v2_1 i0 K h; unfold w_mark_L2 at h; exact h.elim
  | succ n ih =>
    intro U2 v2_1 i0 K h
    unfold w_mark_L2 at h
    replace K := fun (i : ι × Nat) uo (z : v_mark_L2 uo (i.2 + 1) U2 v2_1) => K i.1 uo ⟨i.2 + 1, z⟩
    have i00 := i0
    replace i0 : ι × Nat := (i0, 0)
    by_cases c : (qI U2 0 135).toInt ≤ v2_1.toInt
    · replace h := h.1 c
      replace K := fun i uo z => K i uo (Or.inl ⟨c, z⟩)
      obtain ⟨n9, h⟩ := h
      exact ru_mark_L48 n9 i0 K h
    · replace h := h.2 c
      replace K := fun i uo z => K i uo (Or.inr ⟨c, z⟩)
      obtain ⟨g12_, h⟩ := h
      replace K := fun i uo z => K i uo ⟨g12_, z⟩
      obtain ⟨Q9, h0, h⟩ := h
      obtain ⟨r54, S55, z9, g9⟩ := ru_here h0
      replace h := h r54 S55 g9
      replace K := fun i uo z => K i uo ⟨r54, S55, z9, z⟩
      obtain ⟨g13_, h⟩ := h
      replace K := fun i uo z => K i uo ⟨g13_, z⟩
      obtain ⟨Q9, h0, h⟩ := h
      obtain ⟨r60, S61, z9, g9⟩ := ru_here h0
      replace h := h r60 S61 g9
      replace K := fun i uo z => K i uo ⟨r60, S61, z9, z⟩
      by_cases c : r54.toInt < r60.toInt
      · replace h := h.1 c
        replace K := fun i uo z => K i uo (Or.inl ⟨c, z⟩)
        exact ru_mark_J40 i0 (fun _ _ h K => ih i00 (fun i uo ⟨n8, z⟩ => K (i, n8) uo z) h) K h
      · replace h := h.2 c
        replace K := fun i uo z => K i uo (Or.inr ⟨c, z⟩)
        obtain ⟨g14_, h⟩ := h
        replace K := fun i uo z => K i uo ⟨g14_, z⟩
        obtain ⟨S66, eS66⟩ : ∃ x9 : MS, x9 = wI S61 86 v2_1.toInt.toNat (vp_nar .boolean (1 : Int32)) := ⟨_, rfl⟩
        replace h := h S66 eS66
        replace K := fun i uo z => K i uo ⟨S66, eS66, z⟩
        exact ru_mark_J40 i0 (fun _ _ h K => ih i00 (fun i uo ⟨n8, z⟩ => K (i, n8) uo z) h) K h
set_option maxRecDepth 100000 in
theorem ru_mark {S : MS} {Q : MS → Prop} (h : w_mark S Q) : ∃ uo, v_mark S uo ∧ Q uo := by
  have i0 : Unit := ()
  have K : ∀ (i : Unit) (uo : MS), v_mark S uo → v_mark S uo := fun _ _ z => z
  unfold w_mark at h
  obtain ⟨n9, h⟩ := h
  exact ru_mark_L2 n9 i0 K h
set_option maxRecDepth 100000 in
theorem vw_mark_J196 {uo : MS} {k128 k128v : MS → Int32 → Prop} {U196 : MS} {v196_1 : Int32} (hk128 : ∀ (u : MS) (z0 : Int32), k128v u z0 → k128 u z0) (h : v_mark_J196 uo k128v U196 v196_1) : w_mark_J196 (fun u => u = uo) k128 U196 v196_1 := by
  unfold v_mark_J196 at h
  unfold w_mark_J196
  obtain ⟨v9, e9, h⟩ := h
  intro x9 d9
  have c9 : v9 = x9 := e9.trans d9.symm
  subst c9
  exact hk128 _ _ h
set_option maxRecDepth 100000 in
theorem vz_mark_J196 {uo : MS} {Q : MS → Prop} {k128 k128v : MS → Int32 → Prop} {U196 : MS} {v196_1 : Int32} (hk128 : ∀ (u : MS) (z0 : Int32), k128v u z0 → k128 u z0 → Q uo) (h : v_mark_J196 uo k128v U196 v196_1) (w : w_mark_J196 Q k128 U196 v196_1) : Q uo := by
  unfold v_mark_J196 at h
  unfold w_mark_J196 at w
  obtain ⟨v9, e9, h⟩ := h
  replace w := w v9 e9
  exact hk128 _ _ h w
set_option maxRecDepth 100000 in
theorem vw_mark_J120 {uo : MS} {k71 k71v : MS → Int32 → Prop} {U120 : MS} {v120_1 : Int32} (hk71 : ∀ (u : MS) (z0 : Int32), k71v u z0 → k71 u z0) (h : v_mark_J120 uo k71v U120 v120_1) : w_mark_J120 (fun u => u = uo) k71 U120 v120_1 := by
  unfold v_mark_J120 at h
  unfold w_mark_J120
  obtain ⟨v9, e9, h⟩ := h
  intro x9 d9
  have c9 : v9 = x9 := e9.trans d9.symm
  subst c9
  exact hk71 _ _ h
set_option maxRecDepth 100000 in
theorem vz_mark_J120 {uo : MS} {Q : MS → Prop} {k71 k71v : MS → Int32 → Prop} {U120 : MS} {v120_1 : Int32} (hk71 : ∀ (u : MS) (z0 : Int32), k71v u z0 → k71 u z0 → Q uo) (h : v_mark_J120 uo k71v U120 v120_1) (w : w_mark_J120 Q k71 U120 v120_1) : Q uo := by
  unfold v_mark_J120 at h
  unfold w_mark_J120 at w
  obtain ⟨v9, e9, h⟩ := h
  replace w := w v9 e9
  exact hk71 _ _ h w
set_option maxRecDepth 100000 in
theorem vw_mark_J40 {uo : MS} {k2 k2v : MS → Int32 → Prop} {U40 : MS} {v40_1 : Int32} (hk2 : ∀ (u : MS) (z0 : Int32), k2v u z0 → k2 u z0) (h : v_mark_J40 uo k2v U40 v40_1) : w_mark_J40 (fun u => u = uo) k2 U40 v40_1 := by
  unfold v_mark_J40 at h
  unfold w_mark_J40
  obtain ⟨v9, e9, h⟩ := h
  intro x9 d9
  have c9 : v9 = x9 := e9.trans d9.symm
  subst c9
  exact hk2 _ _ h
set_option maxRecDepth 100000 in
theorem vz_mark_J40 {uo : MS} {Q : MS → Prop} {k2 k2v : MS → Int32 → Prop} {U40 : MS} {v40_1 : Int32} (hk2 : ∀ (u : MS) (z0 : Int32), k2v u z0 → k2 u z0 → Q uo) (h : v_mark_J40 uo k2v U40 v40_1) (w : w_mark_J40 Q k2 U40 v40_1) : Q uo := by
  unfold v_mark_J40 at h
  unfold w_mark_J40 at w
  obtain ⟨v9, e9, h⟩ := h
  replace w := w v9 e9
  exact hk2 _ _ h w
set_option maxRecDepth 100000 in
theorem vw_mark_L128 {uo : MS} : ∀ (n : Nat) {U128 : MS} {v128_1 : Int32}, v_mark_L128 uo n U128 v128_1 → w_mark_L128 (fun u => u = uo) n U128 v128_1 := by
  intro n
  induction n with
  | zero => intro U128 v128_1 h; unfold v_mark_L128 at h; exact h.elim
  | succ n ih =>
    intro U128 v128_1 h
    unfold v_mark_L128 at h
    unfold w_mark_L128
    rcases h with ⟨c, h⟩ | ⟨c, h⟩
    · refine ⟨fun _ => ?_, fun c2 => absurd c c2⟩
      exact h.symm
    · refine ⟨fun c2 => absurd c2 c, fun _ => ?_⟩
      obtain ⟨g9, h⟩ := h
      refine ⟨g9, ?_⟩
      rcases h with ⟨c, h⟩ | ⟨c, h⟩
      · refine ⟨fun _ => ?_, fun c2 => absurd c c2⟩
        obtain ⟨g9, h⟩ := h
        refine ⟨g9, ?_⟩
        obtain ⟨p9, q9, z9, h⟩ := h
        refine ⟨_, vw_here z9, ?_⟩
        rintro p8 q8 ⟨d8, d9⟩
        subst d8
        subst d9
        obtain ⟨g9, h⟩ := h
        refine ⟨g9, ?_⟩
        obtain ⟨v9, e9, h⟩ := h
        intro x9 d9
        have c9 : v9 = x9 := e9.trans d9.symm
        subst c9
        obtain ⟨g9, h⟩ := h
        refine ⟨g9, ?_⟩
        obtain ⟨p9, q9, z9, h⟩ := h
        refine ⟨_, vw_here z9, ?_⟩
        rintro p8 q8 ⟨d8, d9⟩
        subst d8
        subst d9
        obtain ⟨g9, h⟩ := h
        refine ⟨g9, ?_⟩
        obtain ⟨v9, e9, h⟩ := h
        intro x9 d9
        have c9 : v9 = x9 := e9.trans d9.symm
        subst c9
        obtain ⟨g9, h⟩ := h
        refine ⟨g9, ?_⟩
        obtain ⟨p9, q9, z9, h⟩ := h
        refine ⟨_, vw_here z9, ?_⟩
        rintro p8 q8 ⟨d8, d9⟩
        subst d8
        subst d9
        obtain ⟨g9, h⟩ := h
        refine ⟨g9, ?_⟩
        obtain ⟨v9, e9, h⟩ := h
        intro x9 d9
        have c9 : v9 = x9 := e9.trans d9.symm
        subst c9
        exact vw_mark_J196 (fun _ _ h => ih h) h
      · refine ⟨fun c2 => absurd c2 c, fun _ => ?_⟩
        exact vw_mark_J196 (fun _ _ h => ih h) h
set_option maxRecDepth 100000 in
theorem vz_mark_L128 {uo : MS} {Q : MS → Prop} : ∀ (n m : Nat) {U128 : MS} {v128_1 : Int32}, v_mark_L128 uo n U128 v128_1 → w_mark_L128 Q m U128 v128_1 → Q uo := by
  intro n
  induction n with
  | zero => intro m U128 v128_1 h; unfold v_mark_L128 at h; exact h.elim
  | succ n ih =>
    intro m U128 v128_1 h w
    cases m with
    | zero => unfold w_mark_L128 at w; exact w.elim
    | succ m =>
      unfold v_mark_L128 at h
      unfold w_mark_L128 at w
      rcases h with ⟨c, h⟩ | ⟨c, h⟩
      · replace w := w.1 c
        rw [h]
        exact w
      · replace w := w.2 c
        replace h := h.2
        replace w := w.2
        rcases h with ⟨c, h⟩ | ⟨c, h⟩
        · replace w := w.1 c
          replace h := h.2
          replace w := w.2
          obtain ⟨p9, q9, z9, h⟩ := h
          obtain ⟨Q9, w0, w⟩ := w
          replace w := w p9 q9 (vz_here z9 w0)
          replace h := h.2
          replace w := w.2
          obtain ⟨v9, e9, h⟩ := h
          replace w := w v9 e9
          replace h := h.2
          replace w := w.2
          obtain ⟨p9, q9, z9, h⟩ := h
          obtain ⟨Q9, w0, w⟩ := w
          replace w := w p9 q9 (vz_here z9 w0)
          replace h := h.2
          replace w := w.2
          obtain ⟨v9, e9, h⟩ := h
          replace w := w v9 e9
          replace h := h.2
          replace w := w.2
          obtain ⟨p9, q9, z9, h⟩ := h
          obtain ⟨Q9, w0, w⟩ := w
          replace w := w p9 q9 (vz_here z9 w0)
          replace h := h.2
          replace w := w.2
          obtain ⟨v9, e9, h⟩ := h
          replace w := w v9 e9
          exact vz_mark_J196 (fun _ _ h w => ih m h w) h w
        · replace w := w.2 c
          exact vz_mark_J196 (fun _ _ h w => ih m h w) h w
set_option maxRecDepth 100000 in
theorem vw_mark_L93 {uo : MS} {k71 k71v : MS → Int32 → Prop} : ∀ (n : Nat) {U93 : MS} {v93_1 : Int32} {v93_2 : Int32} (hk71 : ∀ (u : MS) (z0 : Int32), k71v u z0 → k71 u z0), v_mark_L93 uo k71v n U93 v93_1 v93_2 → w_mark_L93 (fun u => u = uo) k71 n U93 v93_1 v93_2 := by
  intro n
  induction n with
  | zero => intro U93 v93_1 v93_2 hk71 h; unfold v_mark_L93 at h; exact h.elim
  | succ n ih =>
    intro U93 v93_1 v93_2 hk71 h
    unfold v_mark_L93 at h
    unfold w_mark_L93
    obtain ⟨g9, h⟩ := h
    refine ⟨g9, ?_⟩
    rcases h with ⟨c, h⟩ | ⟨c, h⟩
    · refine ⟨fun _ => ?_, fun c2 => absurd c c2⟩
      exact vw_mark_J120 hk71 h
    · refine ⟨fun c2 => absurd c2 c, fun _ => ?_⟩
      obtain ⟨p9, q9, z9, h⟩ := h
      refine ⟨_, vw_wayOf z9, ?_⟩
      rintro p8 q8 ⟨d8, d9⟩
      subst d8
      subst d9
      obtain ⟨g9, h⟩ := h
      refine ⟨g9, ?_⟩
      obtain ⟨v9, e9, h⟩ := h
      intro x9 d9
      have c9 : v9 = x9 := e9.trans d9.symm
      subst c9
      obtain ⟨v9, e9, h⟩ := h
      intro x9 d9
      have c9 : v9 = x9 := e9.trans d9.symm
      subst c9
      exact ih hk71 h
set_option maxRecDepth 100000 in
theorem vz_mark_L93 {uo : MS} {Q : MS → Prop} {k71 k71v : MS → Int32 → Prop} : ∀ (n m : Nat) {U93 : MS} {v93_1 : Int32} {v93_2 : Int32} (hk71 : ∀ (u : MS) (z0 : Int32), k71v u z0 → k71 u z0 → Q uo), v_mark_L93 uo k71v n U93 v93_1 v93_2 → w_mark_L93 Q k71 m U93 v93_1 v93_2 → Q uo := by
  intro n
  induction n with
  | zero => intro m U93 v93_1 v93_2 hk71 h; unfold v_mark_L93 at h; exact h.elim
  | succ n ih =>
    intro m U93 v93_1 v93_2 hk71 h w
    cases m with
    | zero => unfold w_mark_L93 at w; exact w.elim
    | succ m =>
      unfold v_mark_L93 at h
      unfold w_mark_L93 at w
      replace h := h.2
      replace w := w.2
      rcases h with ⟨c, h⟩ | ⟨c, h⟩
      · replace w := w.1 c
        exact vz_mark_J120 hk71 h w
      · replace w := w.2 c
        obtain ⟨p9, q9, z9, h⟩ := h
        obtain ⟨Q9, w0, w⟩ := w
        replace w := w p9 q9 (vz_wayOf z9 w0)
        replace h := h.2
        replace w := w.2
        obtain ⟨v9, e9, h⟩ := h
        replace w := w v9 e9
        obtain ⟨v9, e9, h⟩ := h
        replace w := w v9 e9
        exact ih m hk71 h w
set_option maxRecDepth 100000 in
theorem vw_mark_L71 {uo : MS} : ∀ (n : Nat) {U71 : MS} {v71_1 : Int32}, v_mark_L71 uo n U71 v71_1 → w_mark_L71 (fun u => u = uo) n U71 v71_1 := by
  intro n
  induction n with
  | zero => intro U71 v71_1 h; unfold v_mark_L71 at h; exact h.elim
  | succ n ih =>
    intro U71 v71_1 h
    unfold v_mark_L71 at h
    unfold w_mark_L71
    rcases h with ⟨c, h⟩ | ⟨c, h⟩
    · refine ⟨fun _ => ?_, fun c2 => absurd c c2⟩
      obtain ⟨n9, h⟩ := h
      exact ⟨n9, vw_mark_L128 n9 h⟩
    · refine ⟨fun c2 => absurd c2 c, fun _ => ?_⟩
      obtain ⟨g9, h⟩ := h
      refine ⟨g9, ?_⟩
      rcases h with ⟨c, h⟩ | ⟨c, h⟩
      · refine ⟨fun _ => ?_, fun c2 => absurd c c2⟩
        obtain ⟨n9, h⟩ := h
        exact ⟨n9, vw_mark_L93 n9 (fun _ _ h => ih h) h⟩
      · refine ⟨fun c2 => absurd c2 c, fun _ => ?_⟩
        exact vw_mark_J120 (fun _ _ h => ih h) h
set_option maxRecDepth 100000 in
theorem vz_mark_L71 {uo : MS} {Q : MS → Prop} : ∀ (n m : Nat) {U71 : MS} {v71_1 : Int32}, v_mark_L71 uo n U71 v71_1 → w_mark_L71 Q m U71 v71_1 → Q uo := by
  intro n
  induction n with
  | zero => intro m U71 v71_1 h; unfold v_mark_L71 at h; exact h.elim
  | succ n ih =>
    intro m U71 v71_1 h w
    cases m with
    | zero => unfold w_mark_L71 at w; exact w.elim
    | succ m =>
      unfold v_mark_L71 at h
      unfold w_mark_L71 at w
      rcases h with ⟨c, h⟩ | ⟨c, h⟩
      · replace w := w.1 c
        obtain ⟨n9, h⟩ := h
        obtain ⟨n8, w⟩ := w
        exact vz_mark_L128 n9 n8 h w
      · replace w := w.2 c
        replace h := h.2
        replace w := w.2
        rcases h with ⟨c, h⟩ | ⟨c, h⟩
        · replace w := w.1 c
          obtain ⟨n9, h⟩ := h
          obtain ⟨n8, w⟩ := w
          exact vz_mark_L93 n9 n8 (fun _ _ h w => ih m h w) h w
        · replace w := w.2 c
          exact vz_mark_J120 (fun _ _ h w => ih m h w) h w
set_option maxRecDepth 100000 in
theorem vw_mark_L48 {uo : MS} : ∀ (n : Nat) {U48 : MS} {v48_1 : Int32}, v_mark_L48 uo n U48 v48_1 → w_mark_L48 (fun u => u = uo) n U48 v48_1 := by
  intro n
  induction n with
  | zero => intro U48 v48_1 h; unfold v_mark_L48 at h; exact h.elim
  | succ n ih =>
    intro U48 v48_1 h
    unfold v_mark_L48 at h
    unfold w_mark_L48
    rcases h with ⟨c, h⟩ | ⟨c, h⟩
    · refine ⟨fun _ => ?_, fun c2 => absurd c c2⟩
      obtain ⟨n9, h⟩ := h
      exact ⟨n9, vw_mark_L71 n9 h⟩
    · refine ⟨fun c2 => absurd c2 c, fun _ => ?_⟩
      obtain ⟨g9, h⟩ := h
      refine ⟨g9, ?_⟩
      obtain ⟨v9, e9, h⟩ := h
      intro x9 d9
      have c9 : v9 = x9 := e9.trans d9.symm
      subst c9
      obtain ⟨v9, e9, h⟩ := h
      intro x9 d9
      have c9 : v9 = x9 := e9.trans d9.symm
      subst c9
      exact ih h
set_option maxRecDepth 100000 in
theorem vz_mark_L48 {uo : MS} {Q : MS → Prop} : ∀ (n m : Nat) {U48 : MS} {v48_1 : Int32}, v_mark_L48 uo n U48 v48_1 → w_mark_L48 Q m U48 v48_1 → Q uo := by
  intro n
  induction n with
  | zero => intro m U48 v48_1 h; unfold v_mark_L48 at h; exact h.elim
  | succ n ih =>
    intro m U48 v48_1 h w
    cases m with
    | zero => unfold w_mark_L48 at w; exact w.elim
    | succ m =>
      unfold v_mark_L48 at h
      unfold w_mark_L48 at w
      rcases h with ⟨c, h⟩ | ⟨c, h⟩
      · replace w := w.1 c
        obtain ⟨n9, h⟩ := h
        obtain ⟨n8, w⟩ := w
        exact vz_mark_L71 n9 n8 h w
      · replace w := w.2 c
        replace h := h.2
        replace w := w.2
        obtain ⟨v9, e9, h⟩ := h
        replace w := w v9 e9
        obtain ⟨v9, e9, h⟩ := h
        replace w := w v9 e9
        exact ih m h w
set_option maxRecDepth 100000 in
theorem vw_mark_L2 {uo : MS} : ∀ (n : Nat) {U2 : MS} {v2_1 : Int32}, v_mark_L2 uo n U2 v2_1 → w_mark_L2 (fun u => u = uo) n U2 v2_1 := by
  intro n
  induction n with
  | zero => intro U2 v2_1 h; unfold v_mark_L2 at h; exact h.elim
  | succ n ih =>
    intro U2 v2_1 h
    unfold v_mark_L2 at h
    unfold w_mark_L2
    rcases h with ⟨c, h⟩ | ⟨c, h⟩
    · refine ⟨fun _ => ?_, fun c2 => absurd c c2⟩
      obtain ⟨n9, h⟩ := h
      exact ⟨n9, vw_mark_L48 n9 h⟩
    · refine ⟨fun c2 => absurd c2 c, fun _ => ?_⟩
      obtain ⟨g9, h⟩ := h
      refine ⟨g9, ?_⟩
      obtain ⟨p9, q9, z9, h⟩ := h
      refine ⟨_, vw_here z9, ?_⟩
      rintro p8 q8 ⟨d8, d9⟩
      subst d8
      subst d9
      obtain ⟨g9, h⟩ := h
      refine ⟨g9, ?_⟩
      obtain ⟨p9, q9, z9, h⟩ := h
      refine ⟨_, vw_here z9, ?_⟩
      rintro p8 q8 ⟨d8, d9⟩
      subst d8
      subst d9
      rcases h with ⟨c, h⟩ | ⟨c, h⟩
      · refine ⟨fun _ => ?_, fun c2 => absurd c c2⟩
        exact vw_mark_J40 (fun _ _ h => ih h) h
      · refine ⟨fun c2 => absurd c2 c, fun _ => ?_⟩
        obtain ⟨g9, h⟩ := h
        refine ⟨g9, ?_⟩
        obtain ⟨v9, e9, h⟩ := h
        intro x9 d9
        have c9 : v9 = x9 := e9.trans d9.symm
        subst c9
        exact vw_mark_J40 (fun _ _ h => ih h) h
set_option maxRecDepth 100000 in
theorem vz_mark_L2 {uo : MS} {Q : MS → Prop} : ∀ (n m : Nat) {U2 : MS} {v2_1 : Int32}, v_mark_L2 uo n U2 v2_1 → w_mark_L2 Q m U2 v2_1 → Q uo := by
  intro n
  induction n with
  | zero => intro m U2 v2_1 h; unfold v_mark_L2 at h; exact h.elim
  | succ n ih =>
    intro m U2 v2_1 h w
    cases m with
    | zero => unfold w_mark_L2 at w; exact w.elim
    | succ m =>
      unfold v_mark_L2 at h
      unfold w_mark_L2 at w
      rcases h with ⟨c, h⟩ | ⟨c, h⟩
      · replace w := w.1 c
        obtain ⟨n9, h⟩ := h
        obtain ⟨n8, w⟩ := w
        exact vz_mark_L48 n9 n8 h w
      · replace w := w.2 c
        replace h := h.2
        replace w := w.2
        obtain ⟨p9, q9, z9, h⟩ := h
        obtain ⟨Q9, w0, w⟩ := w
        replace w := w p9 q9 (vz_here z9 w0)
        replace h := h.2
        replace w := w.2
        obtain ⟨p9, q9, z9, h⟩ := h
        obtain ⟨Q9, w0, w⟩ := w
        replace w := w p9 q9 (vz_here z9 w0)
        rcases h with ⟨c, h⟩ | ⟨c, h⟩
        · replace w := w.1 c
          exact vz_mark_J40 (fun _ _ h w => ih m h w) h w
        · replace w := w.2 c
          replace h := h.2
          replace w := w.2
          obtain ⟨v9, e9, h⟩ := h
          replace w := w v9 e9
          exact vz_mark_J40 (fun _ _ h w => ih m h w) h w
set_option maxRecDepth 100000 in
theorem vw_mark {S : MS} {uo : MS} (h : v_mark S uo) : w_mark S (fun u => u = uo) := by
  unfold v_mark at h
  unfold w_mark
  obtain ⟨n9, h⟩ := h
  exact ⟨n9, vw_mark_L2 n9 h⟩
set_option maxRecDepth 100000 in
theorem vz_mark {S : MS} {uo : MS} {Q : MS → Prop} (h : v_mark S uo) (w : w_mark S Q) : Q uo := by
  unfold v_mark at h
  unfold w_mark at w
  obtain ⟨n9, h⟩ := h
  obtain ⟨n8, w⟩ := w
  exact vz_mark_L2 n9 n8 h w
def v_meet (S : MS) (x1 : Int32) (ro : Int32) (uo : MS) : Prop := (((0 : Int) ≤ x1.toInt ∧ x1.toInt < 1200) ∧ (((qI S 88 x1.toInt.toNat).toInt = 0 ∧ (((0 : Int) ≤ x1.toInt ∧ x1.toInt < 1200) ∧ (∃ S5 : MS, S5 = wI S 88 x1.toInt.toNat (vp_nar .boolean (1 : Int32)) ∧ (ro = (1 : Int32) ∧ uo = S5)))) ∨ (¬ (qI S 88 x1.toInt.toNat).toInt = 0 ∧ (ro = (0 : Int32) ∧ uo = S))))
set_option maxRecDepth 100000 in
theorem ru_meet {S : MS} {x1 : Int32} {Q : Int32 → MS → Prop} (h : w_meet S x1 Q) : ∃ ro uo, v_meet S x1 ro uo ∧ Q ro uo := by
  have i0 : Unit := ()
  have K : ∀ (i : Unit) (ro : Int32) (uo : MS), v_meet S x1 ro uo → v_meet S x1 ro uo := fun _ _ _ z => z
  unfold w_meet at h
  obtain ⟨g1_, h⟩ := h
  replace K := fun i ro uo z => K i ro uo ⟨g1_, z⟩
  by_cases c : (qI S 88 x1.toInt.toNat).toInt = 0
  · replace h := h.1 c
    replace K := fun i ro uo z => K i ro uo (Or.inl ⟨c, z⟩)
    obtain ⟨g2_, h⟩ := h
    replace K := fun i ro uo z => K i ro uo ⟨g2_, z⟩
    obtain ⟨S5, eS5⟩ : ∃ x9 : MS, x9 = wI S 88 x1.toInt.toNat (vp_nar .boolean (1 : Int32)) := ⟨_, rfl⟩
    replace h := h S5 eS5
    replace K := fun i ro uo z => K i ro uo ⟨S5, eS5, z⟩
    exact ⟨_, _, K i0 _ _ ⟨rfl, rfl⟩, h⟩
  · replace h := h.2 c
    replace K := fun i ro uo z => K i ro uo (Or.inr ⟨c, z⟩)
    exact ⟨_, _, K i0 _ _ ⟨rfl, rfl⟩, h⟩
set_option maxRecDepth 100000 in
theorem vw_meet {S : MS} {x1 : Int32} {ro : Int32} {uo : MS} (h : v_meet S x1 ro uo) : w_meet S x1 (fun r u => r = ro ∧ u = uo) := by
  unfold v_meet at h
  unfold w_meet
  obtain ⟨g9, h⟩ := h
  refine ⟨g9, ?_⟩
  rcases h with ⟨c, h⟩ | ⟨c, h⟩
  · refine ⟨fun _ => ?_, fun c2 => absurd c c2⟩
    obtain ⟨g9, h⟩ := h
    refine ⟨g9, ?_⟩
    obtain ⟨v9, e9, h⟩ := h
    intro x9 d9
    have c9 : v9 = x9 := e9.trans d9.symm
    subst c9
    exact ⟨h.1.symm, h.2.symm⟩
  · refine ⟨fun c2 => absurd c2 c, fun _ => ?_⟩
    exact ⟨h.1.symm, h.2.symm⟩
set_option maxRecDepth 100000 in
theorem vz_meet {S : MS} {x1 : Int32} {ro : Int32} {uo : MS} {Q : Int32 → MS → Prop} (h : v_meet S x1 ro uo) (w : w_meet S x1 Q) : Q ro uo := by
  unfold v_meet at h
  unfold w_meet at w
  replace h := h.2
  replace w := w.2
  rcases h with ⟨c, h⟩ | ⟨c, h⟩
  · replace w := w.1 c
    replace h := h.2
    replace w := w.2
    obtain ⟨v9, e9, h⟩ := h
    replace w := w v9 e9
    rw [h.1, h.2]
    exact w
  · replace w := w.2 c
    rw [h.1, h.2]
    exact w
def v_meetFrom_J128 (ro : Int32) (uo : MS) (k84 : MS → Int32 → Int32 → Int32 → Prop) (U128 : MS) (v128_1 : Int32) (v128_2 : Int32) (v128_3 : Int32) : Prop := (∃ a14 : Int32, a14 = (v128_3 + Int32.ofInt 1) ∧ (k84 U128 v128_1 v128_2 a14))
def v_meetFrom_J127 (ro : Int32) (uo : MS) (k84 : MS → Int32 → Int32 → Int32 → Prop) (U127 : MS) (t127_0 : Int32) (v127_1 : Int32) (v127_3 : Int32) : Prop := (v_meetFrom_J128 ro uo k84 U127 v127_1 t127_0 v127_3)
def v_meetFrom_J122 (ro : Int32) (uo : MS) (k84 : MS → Int32 → Int32 → Int32 → Prop) (U122 : MS) (v122_1 : Int32) (v122_3 : Int32) : Prop := (v_meetFrom_J127 ro uo k84 U122 1 v122_1 v122_3)
def v_meetFrom_J75 (ro : Int32) (uo : MS) (k44 : MS → Int32 → Int32 → Int32 → Prop) (U75 : MS) (t75_0 : Int32) (v75_1 : Int32) (v75_3 : Int32) : Prop := (∃ a36 : Int32, a36 = (v75_3 + Int32.ofInt 1) ∧ (k44 U75 v75_1 t75_0 a36))
def v_meetFrom_J70 (ro : Int32) (uo : MS) (k44 : MS → Int32 → Int32 → Int32 → Prop) (U70 : MS) (v70_1 : Int32) (v70_3 : Int32) : Prop := (v_meetFrom_J75 ro uo k44 U70 1 v70_1 v70_3)
def v_meetFrom_L84 (ro : Int32) (uo : MS) : Nat → MS → Int32 → Int32 → Int32 → Prop
  | 0, _, _, _, _ => False
  | n84 + 1, U84, v84_1, v84_2, v84_3 => (((qI U84 0 135).toInt ≤ v84_3.toInt ∧ (ro = v84_2 ∧ uo = U84)) ∨ (¬ (qI U84 0 135).toInt ≤ v84_3.toInt ∧ (d_isIn U84 v84_1 v84_3 ∧ (((f_isIn U84 v84_1 v84_3).toInt = 0 ∧ (v_meetFrom_J128 ro uo (v_meetFrom_L84 ro uo n84) U84 v84_1 v84_2 v84_3)) ∨ (¬ (f_isIn U84 v84_1 v84_3).toInt = 0 ∧ (((0 : Int) ≤ v84_3.toInt ∧ v84_3.toInt < 16) ∧ (∃ (r19 : Int32) (S20 : MS), v_here U84 (qI U84 84 v84_3.toInt.toNat) r19 S20 ∧ (∃ (r23 : Int32) (S24 : MS), v_meet S20 r19 r23 S24 ∧ ((r23.toInt = 0 ∧ ((v84_2.toInt = 0 ∧ (v_meetFrom_J127 ro uo (v_meetFrom_L84 ro uo n84) S24 0 v84_1 v84_3)) ∨ (¬ v84_2.toInt = 0 ∧ (v_meetFrom_J122 ro uo (v_meetFrom_L84 ro uo n84) S24 v84_1 v84_3)))) ∨ (¬ r23.toInt = 0 ∧ (v_meetFrom_J122 ro uo (v_meetFrom_L84 ro uo n84) S24 v84_1 v84_3)))))))))))
def v_meetFrom_L44 (ro : Int32) (uo : MS) : Nat → MS → Int32 → Int32 → Int32 → Prop
  | 0, _, _, _, _ => False
  | n44 + 1, U44, v44_1, v44_2, v44_3 => (d_waysOf U44 v44_1 ∧ (((f_waysOf U44 v44_1).toInt ≤ v44_3.toInt ∧ (∃ n, v_meetFrom_L84 ro uo n U44 v44_1 v44_2 0)) ∨ (¬ (f_waysOf U44 v44_1).toInt ≤ v44_3.toInt ∧ (∃ (r29 : Int32) (S30 : MS), v_wayOf U44 v44_1 v44_3 r29 S30 ∧ (∃ (r33 : Int32) (S34 : MS), v_meet S30 r29 r33 S34 ∧ ((r33.toInt = 0 ∧ ((v44_2.toInt = 0 ∧ (v_meetFrom_J75 ro uo (v_meetFrom_L44 ro uo n44) S34 0 v44_1 v44_3)) ∨ (¬ v44_2.toInt = 0 ∧ (v_meetFrom_J70 ro uo (v_meetFrom_L44 ro uo n44) S34 v44_1 v44_3)))) ∨ (¬ r33.toInt = 0 ∧ (v_meetFrom_J70 ro uo (v_meetFrom_L44 ro uo n44) S34 v44_1 v44_3))))))))
def v_meetFrom_J41 (ro : Int32) (uo : MS) (U41 : MS) (t41_0 : Int32) (v41_1 : Int32) : Prop := (∃ n, v_meetFrom_L44 ro uo n U41 v41_1 t41_0 0)
def v_meetFrom_J40 (ro : Int32) (uo : MS) (U40 : MS) (v40_1 : Int32) : Prop := (v_meetFrom_J41 ro uo U40 0 v40_1)
def v_meetFrom (S : MS) (x1 : Int32) (ro : Int32) (uo : MS) : Prop := (((0 : Int) ≤ x1.toInt ∧ x1.toInt < 1200) ∧ (d_goesOn S (qI S 78 x1.toInt.toNat) ∧ (((f_goesOn S (qI S 78 x1.toInt.toNat)).toInt = 0 ∧ (v_meetFrom_J40 ro uo S x1)) ∨ (¬ (f_goesOn S (qI S 78 x1.toInt.toNat)).toInt = 0 ∧ (∃ (r41 : Int32) (S42 : MS), v_behind S x1 r41 S42 ∧ (((qI S42 0 129).toInt ≤ r41.toInt ∧ (v_meetFrom_J40 ro uo S42 x1)) ∨ (¬ (qI S42 0 129).toInt ≤ r41.toInt ∧ (∃ (r46 : Int32) (S47 : MS), v_behind S42 x1 r46 S47 ∧ (∃ (r50 : Int32) (S51 : MS), v_meet S47 r46 r50 S51 ∧ ((r50.toInt = 0 ∧ (v_meetFrom_J40 ro uo S51 x1)) ∨ (¬ r50.toInt = 0 ∧ (v_meetFrom_J41 ro uo S51 1 x1))))))))))))
set_option maxRecDepth 100000 in
theorem ru_meetFrom_J128 {ι : Type} {P : Int32 → MS → Prop} {Q : Int32 → MS → Prop} {k84 : MS → Int32 → Int32 → Int32 → Prop} {k84v : ι → Int32 → MS → MS → Int32 → Int32 → Int32 → Prop} {U128 : MS} {v128_1 : Int32} {v128_2 : Int32} {v128_3 : Int32} (i0 : ι) (hk84 : ∀ (u : MS) (z0 : Int32) (z1 : Int32) (z2 : Int32), k84 u z0 z1 z2 → (∀ (i : ι) (ro : Int32) (uo : MS), k84v i ro uo u z0 z1 z2 → P ro uo) → ∃ ro uo, P ro uo ∧ Q ro uo) (K : ∀ (i : ι) (ro : Int32) (uo : MS), v_meetFrom_J128 ro uo (k84v i ro uo) U128 v128_1 v128_2 v128_3 → P ro uo) (h : w_meetFrom_J128 Q k84 U128 v128_1 v128_2 v128_3) : ∃ ro uo, P ro uo ∧ Q ro uo := by
  unfold w_meetFrom_J128 at h
  obtain ⟨a14, ea14⟩ : ∃ x9 : Int32, x9 = (v128_3 + Int32.ofInt 1) := ⟨_, rfl⟩
  replace h := h a14 ea14
  replace K := fun i ro uo z => K i ro uo ⟨a14, ea14, z⟩
  exact hk84 _ _ _ _ h K
set_option maxRecDepth 100000 in
theorem ru_meetFrom_J127 {ι : Type} {P : Int32 → MS → Prop} {Q : Int32 → MS → Prop} {k84 : MS → Int32 → Int32 → Int32 → Prop} {k84v : ι → Int32 → MS → MS → Int32 → Int32 → Int32 → Prop} {U127 : MS} {t127_0 : Int32} {v127_1 : Int32} {v127_3 : Int32} (i0 : ι) (hk84 : ∀ (u : MS) (z0 : Int32) (z1 : Int32) (z2 : Int32), k84 u z0 z1 z2 → (∀ (i : ι) (ro : Int32) (uo : MS), k84v i ro uo u z0 z1 z2 → P ro uo) → ∃ ro uo, P ro uo ∧ Q ro uo) (K : ∀ (i : ι) (ro : Int32) (uo : MS), v_meetFrom_J127 ro uo (k84v i ro uo) U127 t127_0 v127_1 v127_3 → P ro uo) (h : w_meetFrom_J127 Q k84 U127 t127_0 v127_1 v127_3) : ∃ ro uo, P ro uo ∧ Q ro uo := by
  unfold w_meetFrom_J127 at h
  exact ru_meetFrom_J128 i0 hk84 K h
set_option maxRecDepth 100000 in
theorem ru_meetFrom_J122 {ι : Type} {P : Int32 → MS → Prop} {Q : Int32 → MS → Prop} {k84 : MS → Int32 → Int32 → Int32 → Prop} {k84v : ι → Int32 → MS → MS → Int32 → Int32 → Int32 → Prop} {U122 : MS} {v122_1 : Int32} {v122_3 : Int32} (i0 : ι) (hk84 : ∀ (u : MS) (z0 : Int32) (z1 : Int32) (z2 : Int32), k84 u z0 z1 z2 → (∀ (i : ι) (ro : Int32) (uo : MS), k84v i ro uo u z0 z1 z2 → P ro uo) → ∃ ro uo, P ro uo ∧ Q ro uo) (K : ∀ (i : ι) (ro : Int32) (uo : MS), v_meetFrom_J122 ro uo (k84v i ro uo) U122 v122_1 v122_3 → P ro uo) (h : w_meetFrom_J122 Q k84 U122 v122_1 v122_3) : ∃ ro uo, P ro uo ∧ Q ro uo := by
  unfold w_meetFrom_J122 at h
  exact ru_meetFrom_J127 i0 hk84 K h
set_option maxRecDepth 100000 in
theorem ru_meetFrom_J75 {ι : Type} {P : Int32 → MS → Prop} {Q : Int32 → MS → Prop} {k44 : MS → Int32 → Int32 → Int32 → Prop} {k44v : ι → Int32 → MS → MS → Int32 → Int32 → Int32 → Prop} {U75 : MS} {t75_0 : Int32} {v75_1 : Int32} {v75_3 : Int32} (i0 : ι) (hk44 : ∀ (u : MS) (z0 : Int32) (z1 : Int32) (z2 : Int32), k44 u z0 z1 z2 → (∀ (i : ι) (ro : Int32) (uo : MS), k44v i ro uo u z0 z1 z2 → P ro uo) → ∃ ro uo, P ro uo ∧ Q ro uo) (K : ∀ (i : ι) (ro : Int32) (uo : MS), v_meetFrom_J75 ro uo (k44v i ro uo) U75 t75_0 v75_1 v75_3 → P ro uo) (h : w_meetFrom_J75 Q k44 U75 t75_0 v75_1 v75_3) : ∃ ro uo, P ro uo ∧ Q ro uo := by
  unfold w_meetFrom_J75 at h
  obtain ⟨a36, ea36⟩ : ∃ x9 : Int32, x9 = (v75_3 + Int32.ofInt 1) := ⟨_, rfl⟩
  replace h := h a36 ea36
  replace K := fun i ro uo z => K i ro uo ⟨a36, ea36, z⟩
  exact hk44 _ _ _ _ h K
set_option maxRecDepth 100000 in
theorem ru_meetFrom_J70 {ι : Type} {P : Int32 → MS → Prop} {Q : Int32 → MS → Prop} {k44 : MS → Int32 → Int32 → Int32 → Prop} {k44v : ι → Int32 → MS → MS → Int32 → Int32 → Int32 → Prop} {U70 : MS} {v70_1 : Int32} {v70_3 : Int32} (i0 : ι) (hk44 : ∀ (u : MS) (z0 : Int32) (z1 : Int32) (z2 : Int32), k44 u z0 z1 z2 → (∀ (i : ι) (ro : Int32) (uo : MS), k44v i ro uo u z0 z1 z2 → P ro uo) → ∃ ro uo, P ro uo ∧ Q ro uo) (K : ∀ (i : ι) (ro : Int32) (uo : MS), v_meetFrom_J70 ro uo (k44v i ro uo) U70 v70_1 v70_3 → P ro uo) (h : w_meetFrom_J70 Q k44 U70 v70_1 v70_3) : ∃ ro uo, P ro uo ∧ Q ro uo := by
  unfold w_meetFrom_J70 at h
  exact ru_meetFrom_J75 i0 hk44 K h
set_option maxRecDepth 100000 in
theorem ru_meetFrom_L84 {ι : Type} {P : Int32 → MS → Prop} {Q : Int32 → MS → Prop} : ∀ (n : Nat) {U84 : MS} {v84_1 : Int32} {v84_2 : Int32} {v84_3 : Int32} (i0 : ι), (∀ (i : ι) (ro : Int32) (uo : MS), (∃ n8, v_meetFrom_L84 ro uo n8 U84 v84_1 v84_2 v84_3) → P ro uo) → w_meetFrom_L84 Q n U84 v84_1 v84_2 v84_3 → ∃ ro uo, P ro uo ∧ Q ro uo := by
  intro n
  induction n with
  | zero => intro U84 v84_1 v84_2 v84_3 i0 K h; unfold w_meetFrom_L84 at h; exact h.elim
  | succ n ih =>
    intro U84 v84_1 v84_2 v84_3 i0 K h
    unfold w_meetFrom_L84 at h
    replace K := fun (i : ι × Nat) ro uo (z : v_meetFrom_L84 ro uo (i.2 + 1) U84 v84_1 v84_2 v84_3) => K i.1 ro uo ⟨i.2 + 1, z⟩
    have i00 := i0
    replace i0 : ι × Nat := (i0, 0)
    by_cases c : (qI U84 0 135).toInt ≤ v84_3.toInt
    · replace h := h.1 c
      replace K := fun i ro uo z => K i ro uo (Or.inl ⟨c, z⟩)
      exact ⟨_, _, K i0 _ _ ⟨rfl, rfl⟩, h⟩
    · replace h := h.2 c
      replace K := fun i ro uo z => K i ro uo (Or.inr ⟨c, z⟩)
      obtain ⟨g1_, h⟩ := h
      replace K := fun i ro uo z => K i ro uo ⟨g1_, z⟩
      by_cases c : (f_isIn U84 v84_1 v84_3).toInt = 0
      · replace h := h.1 c
        replace K := fun i ro uo z => K i ro uo (Or.inl ⟨c, z⟩)
        exact ru_meetFrom_J128 i0 (fun _ _ _ _ h K => ih i00 (fun i ro uo ⟨n8, z⟩ => K (i, n8) ro uo z) h) K h
      · replace h := h.2 c
        replace K := fun i ro uo z => K i ro uo (Or.inr ⟨c, z⟩)
        obtain ⟨g2_, h⟩ := h
        replace K := fun i ro uo z => K i ro uo ⟨g2_, z⟩
        obtain ⟨Q9, h0, h⟩ := h
        obtain ⟨r19, S20, z9, g9⟩ := ru_here h0
        replace h := h r19 S20 g9
        replace K := fun i ro uo z => K i ro uo ⟨r19, S20, z9, z⟩
        obtain ⟨Q9, h0, h⟩ := h
        obtain ⟨r23, S24, z9, g9⟩ := ru_meet h0
        replace h := h r23 S24 g9
        replace K := fun i ro uo z => K i ro uo ⟨r23, S24, z9, z⟩
        by_cases c : r23.toInt = 0
        · replace h := h.1 c
          replace K := fun i ro uo z => K i ro uo (Or.inl ⟨c, z⟩)
          by_cases c : v84_2.toInt = 0
          · replace h := h.1 c
            replace K := fun i ro uo z => K i ro uo (Or.inl ⟨c, z⟩)
            exact ru_meetFrom_J127 i0 (fun _ _ _ _ h K => ih i00 (fun i ro uo ⟨n8, z⟩ => K (i, n8) ro uo z) h) K h
          · replace h := h.2 c
            replace K := fun i ro uo z => K i ro uo (Or.inr ⟨c, z⟩)
            exact ru_meetFrom_J122 i0 (fun _ _ _ _ h K => ih i00 (fun i ro uo ⟨n8, z⟩ => K (i, n8) ro uo z) h) K h
        · replace h := h.2 c
          replace K := fun i ro uo z => K i ro uo (Or.inr ⟨c, z⟩)
          exact ru_meetFrom_J122 i0 (fun _ _ _ _ h K => ih i00 (fun i ro uo ⟨n8, z⟩ => K (i, n8) ro uo z) h) K h
set_option maxRecDepth 100000 in
theorem ru_meetFrom_L44 {ι : Type} {P : Int32 → MS → Prop} {Q : Int32 → MS → Prop} : ∀ (n : Nat) {U44 : MS} {v44_1 : Int32} {v44_2 : Int32} {v44_3 : Int32} (i0 : ι), (∀ (i : ι) (ro : Int32) (uo : MS), (∃ n8, v_meetFrom_L44 ro uo n8 U44 v44_1 v44_2 v44_3) → P ro uo) → w_meetFrom_L44 Q n U44 v44_1 v44_2 v44_3 → ∃ ro uo, P ro uo ∧ Q ro uo := by
  intro n
  induction n with
  | zero => intro U44 v44_1 v44_2 v44_3 i0 K h; unfold w_meetFrom_L44 at h; exact h.elim
  | succ n ih =>
    intro U44 v44_1 v44_2 v44_3 i0 K h
    unfold w_meetFrom_L44 at h
    replace K := fun (i : ι × Nat) ro uo (z : v_meetFrom_L44 ro uo (i.2 + 1) U44 v44_1 v44_2 v44_3) => K i.1 ro uo ⟨i.2 + 1, z⟩
    have i00 := i0
    replace i0 : ι × Nat := (i0, 0)
    obtain ⟨g3_, h⟩ := h
    replace K := fun i ro uo z => K i ro uo ⟨g3_, z⟩
    by_cases c : (f_waysOf U44 v44_1).toInt ≤ v44_3.toInt
    · replace h := h.1 c
      replace K := fun i ro uo z => K i ro uo (Or.inl ⟨c, z⟩)
      obtain ⟨n9, h⟩ := h
      exact ru_meetFrom_L84 n9 i0 K h
    · replace h := h.2 c
      replace K := fun i ro uo z => K i ro uo (Or.inr ⟨c, z⟩)
      obtain ⟨Q9, h0, h⟩ := h
      obtain ⟨r29, S30, z9, g9⟩ := ru_wayOf h0
      replace h := h r29 S30 g9
      replace K := fun i ro uo z => K i ro uo ⟨r29, S30, z9, z⟩
      obtain ⟨Q9, h0, h⟩ := h
      obtain ⟨r33, S34, z9, g9⟩ := ru_meet h0
      replace h := h r33 S34 g9
      replace K := fun i ro uo z => K i ro uo ⟨r33, S34, z9, z⟩
      by_cases c : r33.toInt = 0
      · replace h := h.1 c
        replace K := fun i ro uo z => K i ro uo (Or.inl ⟨c, z⟩)
        by_cases c : v44_2.toInt = 0
        · replace h := h.1 c
          replace K := fun i ro uo z => K i ro uo (Or.inl ⟨c, z⟩)
          exact ru_meetFrom_J75 i0 (fun _ _ _ _ h K => ih i00 (fun i ro uo ⟨n8, z⟩ => K (i, n8) ro uo z) h) K h
        · replace h := h.2 c
          replace K := fun i ro uo z => K i ro uo (Or.inr ⟨c, z⟩)
          exact ru_meetFrom_J70 i0 (fun _ _ _ _ h K => ih i00 (fun i ro uo ⟨n8, z⟩ => K (i, n8) ro uo z) h) K h
      · replace h := h.2 c
        replace K := fun i ro uo z => K i ro uo (Or.inr ⟨c, z⟩)
        exact ru_meetFrom_J70 i0 (fun _ _ _ _ h K => ih i00 (fun i ro uo ⟨n8, z⟩ => K (i, n8) ro uo z) h) K h
set_option maxRecDepth 100000 in
theorem ru_meetFrom_J41 {ι : Type} {P : Int32 → MS → Prop} {Q : Int32 → MS → Prop} {U41 : MS} {t41_0 : Int32} {v41_1 : Int32} (i0 : ι) (K : ∀ (i : ι) (ro : Int32) (uo : MS), v_meetFrom_J41 ro uo U41 t41_0 v41_1 → P ro uo) (h : w_meetFrom_J41 Q U41 t41_0 v41_1) : ∃ ro uo, P ro uo ∧ Q ro uo := by
  unfold w_meetFrom_J41 at h
  obtain ⟨n9, h⟩ := h
  exact ru_meetFrom_L44 n9 i0 K h
set_option maxRecDepth 100000 in
theorem ru_meetFrom_J40 {ι : Type} {P : Int32 → MS → Prop} {Q : Int32 → MS → Prop} {U40 : MS} {v40_1 : Int32} (i0 : ι) (K : ∀ (i : ι) (ro : Int32) (uo : MS), v_meetFrom_J40 ro uo U40 v40_1 → P ro uo) (h : w_meetFrom_J40 Q U40 v40_1) : ∃ ro uo, P ro uo ∧ Q ro uo := by
  unfold w_meetFrom_J40 at h
  exact ru_meetFrom_J41 i0 K h
set_option maxRecDepth 100000 in
theorem ru_meetFrom {S : MS} {x1 : Int32} {Q : Int32 → MS → Prop} (h : w_meetFrom S x1 Q) : ∃ ro uo, v_meetFrom S x1 ro uo ∧ Q ro uo := by
  have i0 : Unit := ()
  have K : ∀ (i : Unit) (ro : Int32) (uo : MS), v_meetFrom S x1 ro uo → v_meetFrom S x1 ro uo := fun _ _ _ z => z
  unfold w_meetFrom at h
  obtain ⟨g4_, h⟩ := h
  replace K := fun i ro uo z => K i ro uo ⟨g4_, z⟩
  obtain ⟨g5_, h⟩ := h
  replace K := fun i ro uo z => K i ro uo ⟨g5_, z⟩
  by_cases c : (f_goesOn S (qI S 78 x1.toInt.toNat)).toInt = 0
  · replace h := h.1 c
    replace K := fun i ro uo z => K i ro uo (Or.inl ⟨c, z⟩)
    exact ru_meetFrom_J40 i0 K h
  · replace h := h.2 c
    replace K := fun i ro uo z => K i ro uo (Or.inr ⟨c, z⟩)
    obtain ⟨Q9, h0, h⟩ := h
    obtain ⟨r41, S42, z9, g9⟩ := ru_behind h0
    replace h := h r41 S42 g9
    replace K := fun i ro uo z => K i ro uo ⟨r41, S42, z9, z⟩
    by_cases c : (qI S42 0 129).toInt ≤ r41.toInt
    · replace h := h.1 c
      replace K := fun i ro uo z => K i ro uo (Or.inl ⟨c, z⟩)
      exact ru_meetFrom_J40 i0 K h
    · replace h := h.2 c
      replace K := fun i ro uo z => K i ro uo (Or.inr ⟨c, z⟩)
      obtain ⟨Q9, h0, h⟩ := h
      obtain ⟨r46, S47, z9, g9⟩ := ru_behind h0
      replace h := h r46 S47 g9
      replace K := fun i ro uo z => K i ro uo ⟨r46, S47, z9, z⟩
      obtain ⟨Q9, h0, h⟩ := h
      obtain ⟨r50, S51, z9, g9⟩ := ru_meet h0
      replace h := h r50 S51 g9
      replace K := fun i ro uo z => K i ro uo ⟨r50, S51, z9, z⟩
      by_cases c : r50.toInt = 0
      · replace h := h.1 c
        replace K := fun i ro uo z => K i ro uo (Or.inl ⟨c, z⟩)
        exact ru_meetFrom_J40 i0 K h
      · replace h := h.2 c
        replace K := fun i ro uo z => K i ro uo (Or.inr ⟨c, z⟩)
        exact ru_meetFrom_J41 i0 K h
set_option maxRecDepth 100000 in
theorem vw_meetFrom_J128 {ro : Int32} {uo : MS} {k84 k84v : MS → Int32 → Int32 → Int32 → Prop} {U128 : MS} {v128_1 : Int32} {v128_2 : Int32} {v128_3 : Int32} (hk84 : ∀ (u : MS) (z0 : Int32) (z1 : Int32) (z2 : Int32), k84v u z0 z1 z2 → k84 u z0 z1 z2) (h : v_meetFrom_J128 ro uo k84v U128 v128_1 v128_2 v128_3) : w_meetFrom_J128 (fun r u => r = ro ∧ u = uo) k84 U128 v128_1 v128_2 v128_3 := by
  unfold v_meetFrom_J128 at h
  unfold w_meetFrom_J128
  obtain ⟨v9, e9, h⟩ := h
  intro x9 d9
  have c9 : v9 = x9 := e9.trans d9.symm
  subst c9
  exact hk84 _ _ _ _ h
set_option maxRecDepth 100000 in
theorem vz_meetFrom_J128 {ro : Int32} {uo : MS} {Q : Int32 → MS → Prop} {k84 k84v : MS → Int32 → Int32 → Int32 → Prop} {U128 : MS} {v128_1 : Int32} {v128_2 : Int32} {v128_3 : Int32} (hk84 : ∀ (u : MS) (z0 : Int32) (z1 : Int32) (z2 : Int32), k84v u z0 z1 z2 → k84 u z0 z1 z2 → Q ro uo) (h : v_meetFrom_J128 ro uo k84v U128 v128_1 v128_2 v128_3) (w : w_meetFrom_J128 Q k84 U128 v128_1 v128_2 v128_3) : Q ro uo := by
  unfold v_meetFrom_J128 at h
  unfold w_meetFrom_J128 at w
  obtain ⟨v9, e9, h⟩ := h
  replace w := w v9 e9
  exact hk84 _ _ _ _ h w
set_option maxRecDepth 100000 in
theorem vw_meetFrom_J127 {ro : Int32} {uo : MS} {k84 k84v : MS → Int32 → Int32 → Int32 → Prop} {U127 : MS} {t127_0 : Int32} {v127_1 : Int32} {v127_3 : Int32} (hk84 : ∀ (u : MS) (z0 : Int32) (z1 : Int32) (z2 : Int32), k84v u z0 z1 z2 → k84 u z0 z1 z2) (h : v_meetFrom_J127 ro uo k84v U127 t127_0 v127_1 v127_3) : w_meetFrom_J127 (fun r u => r = ro ∧ u = uo) k84 U127 t127_0 v127_1 v127_3 := by
  unfold v_meetFrom_J127 at h
  unfold w_meetFrom_J127
  exact vw_meetFrom_J128 hk84 h
set_option maxRecDepth 100000 in
theorem vz_meetFrom_J127 {ro : Int32} {uo : MS} {Q : Int32 → MS → Prop} {k84 k84v : MS → Int32 → Int32 → Int32 → Prop} {U127 : MS} {t127_0 : Int32} {v127_1 : Int32} {v127_3 : Int32} (hk84 : ∀ (u : MS) (z0 : Int32) (z1 : Int32) (z2 : Int32), k84v u z0 z1 z2 → k84 u z0 z1 z2 → Q ro uo) (h : v_meetFrom_J127 ro uo k84v U127 t127_0 v127_1 v127_3) (w : w_meetFrom_J127 Q k84 U127 t127_0 v127_1 v127_3) : Q ro uo := by
  unfold v_meetFrom_J127 at h
  unfold w_meetFrom_J127 at w
  exact vz_meetFrom_J128 hk84 h w
set_option maxRecDepth 100000 in
theorem vw_meetFrom_J122 {ro : Int32} {uo : MS} {k84 k84v : MS → Int32 → Int32 → Int32 → Prop} {U122 : MS} {v122_1 : Int32} {v122_3 : Int32} (hk84 : ∀ (u : MS) (z0 : Int32) (z1 : Int32) (z2 : Int32), k84v u z0 z1 z2 → k84 u z0 z1 z2) (h : v_meetFrom_J122 ro uo k84v U122 v122_1 v122_3) : w_meetFrom_J122 (fun r u => r = ro ∧ u = uo) k84 U122 v122_1 v122_3 := by
  unfold v_meetFrom_J122 at h
  unfold w_meetFrom_J122
  exact vw_meetFrom_J127 hk84 h
set_option maxRecDepth 100000 in
theorem vz_meetFrom_J122 {ro : Int32} {uo : MS} {Q : Int32 → MS → Prop} {k84 k84v : MS → Int32 → Int32 → Int32 → Prop} {U122 : MS} {v122_1 : Int32} {v122_3 : Int32} (hk84 : ∀ (u : MS) (z0 : Int32) (z1 : Int32) (z2 : Int32), k84v u z0 z1 z2 → k84 u z0 z1 z2 → Q ro uo) (h : v_meetFrom_J122 ro uo k84v U122 v122_1 v122_3) (w : w_meetFrom_J122 Q k84 U122 v122_1 v122_3) : Q ro uo := by
  unfold v_meetFrom_J122 at h
  unfold w_meetFrom_J122 at w
  exact vz_meetFrom_J127 hk84 h w
set_option maxRecDepth 100000 in
theorem vw_meetFrom_J75 {ro : Int32} {uo : MS} {k44 k44v : MS → Int32 → Int32 → Int32 → Prop} {U75 : MS} {t75_0 : Int32} {v75_1 : Int32} {v75_3 : Int32} (hk44 : ∀ (u : MS) (z0 : Int32) (z1 : Int32) (z2 : Int32), k44v u z0 z1 z2 → k44 u z0 z1 z2) (h : v_meetFrom_J75 ro uo k44v U75 t75_0 v75_1 v75_3) : w_meetFrom_J75 (fun r u => r = ro ∧ u = uo) k44 U75 t75_0 v75_1 v75_3 := by
  unfold v_meetFrom_J75 at h
  unfold w_meetFrom_J75
  obtain ⟨v9, e9, h⟩ := h
  intro x9 d9
  have c9 : v9 = x9 := e9.trans d9.symm
  subst c9
  exact hk44 _ _ _ _ h
set_option maxRecDepth 100000 in
theorem vz_meetFrom_J75 {ro : Int32} {uo : MS} {Q : Int32 → MS → Prop} {k44 k44v : MS → Int32 → Int32 → Int32 → Prop} {U75 : MS} {t75_0 : Int32} {v75_1 : Int32} {v75_3 : Int32} (hk44 : ∀ (u : MS) (z0 : Int32) (z1 : Int32) (z2 : Int32), k44v u z0 z1 z2 → k44 u z0 z1 z2 → Q ro uo) (h : v_meetFrom_J75 ro uo k44v U75 t75_0 v75_1 v75_3) (w : w_meetFrom_J75 Q k44 U75 t75_0 v75_1 v75_3) : Q ro uo := by
  unfold v_meetFrom_J75 at h
  unfold w_meetFrom_J75 at w
  obtain ⟨v9, e9, h⟩ := h
  replace w := w v9 e9
  exact hk44 _ _ _ _ h w
set_option maxRecDepth 100000 in
theorem vw_meetFrom_J70 {ro : Int32} {uo : MS} {k44 k44v : MS → Int32 → Int32 → Int32 → Prop} {U70 : MS} {v70_1 : Int32} {v70_3 : Int32} (hk44 : ∀ (u : MS) (z0 : Int32) (z1 : Int32) (z2 : Int32), k44v u z0 z1 z2 → k44 u z0 z1 z2) (h : v_meetFrom_J70 ro uo k44v U70 v70_1 v70_3) : w_meetFrom_J70 (fun r u => r = ro ∧ u = uo) k44 U70 v70_1 v70_3 := by
  unfold v_meetFrom_J70 at h
  unfold w_meetFrom_J70
  exact vw_meetFrom_J75 hk44 h
set_option maxRecDepth 100000 in
theorem vz_meetFrom_J70 {ro : Int32} {uo : MS} {Q : Int32 → MS → Prop} {k44 k44v : MS → Int32 → Int32 → Int32 → Prop} {U70 : MS} {v70_1 : Int32} {v70_3 : Int32} (hk44 : ∀ (u : MS) (z0 : Int32) (z1 : Int32) (z2 : Int32), k44v u z0 z1 z2 → k44 u z0 z1 z2 → Q ro uo) (h : v_meetFrom_J70 ro uo k44v U70 v70_1 v70_3) (w : w_meetFrom_J70 Q k44 U70 v70_1 v70_3) : Q ro uo := by
  unfold v_meetFrom_J70 at h
  unfold w_meetFrom_J70 at w
  exact vz_meetFrom_J75 hk44 h w
set_option maxRecDepth 100000 in
theorem vw_meetFrom_L84 {ro : Int32} {uo : MS} : ∀ (n : Nat) {U84 : MS} {v84_1 : Int32} {v84_2 : Int32} {v84_3 : Int32}, v_meetFrom_L84 ro uo n U84 v84_1 v84_2 v84_3 → w_meetFrom_L84 (fun r u => r = ro ∧ u = uo) n U84 v84_1 v84_2 v84_3 := by
  intro n
  induction n with
  | zero => intro U84 v84_1 v84_2 v84_3 h; unfold v_meetFrom_L84 at h; exact h.elim
  | succ n ih =>
    intro U84 v84_1 v84_2 v84_3 h
    unfold v_meetFrom_L84 at h
    unfold w_meetFrom_L84
    rcases h with ⟨c, h⟩ | ⟨c, h⟩
    · refine ⟨fun _ => ?_, fun c2 => absurd c c2⟩
      exact ⟨h.1.symm, h.2.symm⟩
    · refine ⟨fun c2 => absurd c2 c, fun _ => ?_⟩
      obtain ⟨g9, h⟩ := h
      refine ⟨g9, ?_⟩
      rcases h with ⟨c, h⟩ | ⟨c, h⟩
      · refine ⟨fun _ => ?_, fun c2 => absurd c c2⟩
        exact vw_meetFrom_J128 (fun _ _ _ _ h => ih h) h
      · refine ⟨fun c2 => absurd c2 c, fun _ => ?_⟩
        obtain ⟨g9, h⟩ := h
        refine ⟨g9, ?_⟩
        obtain ⟨p9, q9, z9, h⟩ := h
        refine ⟨_, vw_here z9, ?_⟩
        rintro p8 q8 ⟨d8, d9⟩
        subst d8
        subst d9
        obtain ⟨p9, q9, z9, h⟩ := h
        refine ⟨_, vw_meet z9, ?_⟩
        rintro p8 q8 ⟨d8, d9⟩
        subst d8
        subst d9
        rcases h with ⟨c, h⟩ | ⟨c, h⟩
        · refine ⟨fun _ => ?_, fun c2 => absurd c c2⟩
          rcases h with ⟨c, h⟩ | ⟨c, h⟩
          · refine ⟨fun _ => ?_, fun c2 => absurd c c2⟩
            exact vw_meetFrom_J127 (fun _ _ _ _ h => ih h) h
          · refine ⟨fun c2 => absurd c2 c, fun _ => ?_⟩
            exact vw_meetFrom_J122 (fun _ _ _ _ h => ih h) h
        · refine ⟨fun c2 => absurd c2 c, fun _ => ?_⟩
          exact vw_meetFrom_J122 (fun _ _ _ _ h => ih h) h
set_option maxRecDepth 100000 in
theorem vz_meetFrom_L84 {ro : Int32} {uo : MS} {Q : Int32 → MS → Prop} : ∀ (n m : Nat) {U84 : MS} {v84_1 : Int32} {v84_2 : Int32} {v84_3 : Int32}, v_meetFrom_L84 ro uo n U84 v84_1 v84_2 v84_3 → w_meetFrom_L84 Q m U84 v84_1 v84_2 v84_3 → Q ro uo := by
  intro n
  induction n with
  | zero => intro m U84 v84_1 v84_2 v84_3 h; unfold v_meetFrom_L84 at h; exact h.elim
  | succ n ih =>
    intro m U84 v84_1 v84_2 v84_3 h w
    cases m with
    | zero => unfold w_meetFrom_L84 at w; exact w.elim
    | succ m =>
      unfold v_meetFrom_L84 at h
      unfold w_meetFrom_L84 at w
      rcases h with ⟨c, h⟩ | ⟨c, h⟩
      · replace w := w.1 c
        rw [h.1, h.2]
        exact w
      · replace w := w.2 c
        replace h := h.2
        replace w := w.2
        rcases h with ⟨c, h⟩ | ⟨c, h⟩
        · replace w := w.1 c
          exact vz_meetFrom_J128 (fun _ _ _ _ h w => ih m h w) h w
        · replace w := w.2 c
          replace h := h.2
          replace w := w.2
          obtain ⟨p9, q9, z9, h⟩ := h
          obtain ⟨Q9, w0, w⟩ := w
          replace w := w p9 q9 (vz_here z9 w0)
          obtain ⟨p9, q9, z9, h⟩ := h
          obtain ⟨Q9, w0, w⟩ := w
          replace w := w p9 q9 (vz_meet z9 w0)
          rcases h with ⟨c, h⟩ | ⟨c, h⟩
          · replace w := w.1 c
            rcases h with ⟨c, h⟩ | ⟨c, h⟩
            · replace w := w.1 c
              exact vz_meetFrom_J127 (fun _ _ _ _ h w => ih m h w) h w
            · replace w := w.2 c
              exact vz_meetFrom_J122 (fun _ _ _ _ h w => ih m h w) h w
          · replace w := w.2 c
            exact vz_meetFrom_J122 (fun _ _ _ _ h w => ih m h w) h w
set_option maxRecDepth 100000 in
theorem vw_meetFrom_L44 {ro : Int32} {uo : MS} : ∀ (n : Nat) {U44 : MS} {v44_1 : Int32} {v44_2 : Int32} {v44_3 : Int32}, v_meetFrom_L44 ro uo n U44 v44_1 v44_2 v44_3 → w_meetFrom_L44 (fun r u => r = ro ∧ u = uo) n U44 v44_1 v44_2 v44_3 := by
  intro n
  induction n with
  | zero => intro U44 v44_1 v44_2 v44_3 h; unfold v_meetFrom_L44 at h; exact h.elim
  | succ n ih =>
    intro U44 v44_1 v44_2 v44_3 h
    unfold v_meetFrom_L44 at h
    unfold w_meetFrom_L44
    obtain ⟨g9, h⟩ := h
    refine ⟨g9, ?_⟩
    rcases h with ⟨c, h⟩ | ⟨c, h⟩
    · refine ⟨fun _ => ?_, fun c2 => absurd c c2⟩
      obtain ⟨n9, h⟩ := h
      exact ⟨n9, vw_meetFrom_L84 n9 h⟩
    · refine ⟨fun c2 => absurd c2 c, fun _ => ?_⟩
      obtain ⟨p9, q9, z9, h⟩ := h
      refine ⟨_, vw_wayOf z9, ?_⟩
      rintro p8 q8 ⟨d8, d9⟩
      subst d8
      subst d9
      obtain ⟨p9, q9, z9, h⟩ := h
      refine ⟨_, vw_meet z9, ?_⟩
      rintro p8 q8 ⟨d8, d9⟩
      subst d8
      subst d9
      rcases h with ⟨c, h⟩ | ⟨c, h⟩
      · refine ⟨fun _ => ?_, fun c2 => absurd c c2⟩
        rcases h with ⟨c, h⟩ | ⟨c, h⟩
        · refine ⟨fun _ => ?_, fun c2 => absurd c c2⟩
          exact vw_meetFrom_J75 (fun _ _ _ _ h => ih h) h
        · refine ⟨fun c2 => absurd c2 c, fun _ => ?_⟩
          exact vw_meetFrom_J70 (fun _ _ _ _ h => ih h) h
      · refine ⟨fun c2 => absurd c2 c, fun _ => ?_⟩
        exact vw_meetFrom_J70 (fun _ _ _ _ h => ih h) h
set_option maxRecDepth 100000 in
theorem vz_meetFrom_L44 {ro : Int32} {uo : MS} {Q : Int32 → MS → Prop} : ∀ (n m : Nat) {U44 : MS} {v44_1 : Int32} {v44_2 : Int32} {v44_3 : Int32}, v_meetFrom_L44 ro uo n U44 v44_1 v44_2 v44_3 → w_meetFrom_L44 Q m U44 v44_1 v44_2 v44_3 → Q ro uo := by
  intro n
  induction n with
  | zero => intro m U44 v44_1 v44_2 v44_3 h; unfold v_meetFrom_L44 at h; exact h.elim
  | succ n ih =>
    intro m U44 v44_1 v44_2 v44_3 h w
    cases m with
    | zero => unfold w_meetFrom_L44 at w; exact w.elim
    | succ m =>
      unfold v_meetFrom_L44 at h
      unfold w_meetFrom_L44 at w
      replace h := h.2
      replace w := w.2
      rcases h with ⟨c, h⟩ | ⟨c, h⟩
      · replace w := w.1 c
        obtain ⟨n9, h⟩ := h
        obtain ⟨n8, w⟩ := w
        exact vz_meetFrom_L84 n9 n8 h w
      · replace w := w.2 c
        obtain ⟨p9, q9, z9, h⟩ := h
        obtain ⟨Q9, w0, w⟩ := w
        replace w := w p9 q9 (vz_wayOf z9 w0)
        obtain ⟨p9, q9, z9, h⟩ := h
        obtain ⟨Q9, w0, w⟩ := w
        replace w := w p9 q9 (vz_meet z9 w0)
        rcases h with ⟨c, h⟩ | ⟨c, h⟩
        · replace w := w.1 c
          rcases h with ⟨c, h⟩ | ⟨c, h⟩
          · replace w := w.1 c
            exact vz_meetFrom_J75 (fun _ _ _ _ h w => ih m h w) h w
          · replace w := w.2 c
            exact vz_meetFrom_J70 (fun _ _ _ _ h w => ih m h w) h w
        · replace w := w.2 c
          exact vz_meetFrom_J70 (fun _ _ _ _ h w => ih m h w) h w
set_option maxRecDepth 100000 in
theorem vw_meetFrom_J41 {ro : Int32} {uo : MS} {U41 : MS} {t41_0 : Int32} {v41_1 : Int32} (h : v_meetFrom_J41 ro uo U41 t41_0 v41_1) : w_meetFrom_J41 (fun r u => r = ro ∧ u = uo) U41 t41_0 v41_1 := by
  unfold v_meetFrom_J41 at h
  unfold w_meetFrom_J41
  obtain ⟨n9, h⟩ := h
  exact ⟨n9, vw_meetFrom_L44 n9 h⟩
set_option maxRecDepth 100000 in
theorem vz_meetFrom_J41 {ro : Int32} {uo : MS} {Q : Int32 → MS → Prop} {U41 : MS} {t41_0 : Int32} {v41_1 : Int32} (h : v_meetFrom_J41 ro uo U41 t41_0 v41_1) (w : w_meetFrom_J41 Q U41 t41_0 v41_1) : Q ro uo := by
  unfold v_meetFrom_J41 at h
  unfold w_meetFrom_J41 at w
  obtain ⟨n9, h⟩ := h
  obtain ⟨n8, w⟩ := w
  exact vz_meetFrom_L44 n9 n8 h w
set_option maxRecDepth 100000 in
theorem vw_meetFrom_J40 {ro : Int32} {uo : MS} {U40 : MS} {v40_1 : Int32} (h : v_meetFrom_J40 ro uo U40 v40_1) : w_meetFrom_J40 (fun r u => r = ro ∧ u = uo) U40 v40_1 := by
  unfold v_meetFrom_J40 at h
  unfold w_meetFrom_J40
  exact vw_meetFrom_J41 h
set_option maxRecDepth 100000 in
theorem vz_meetFrom_J40 {ro : Int32} {uo : MS} {Q : Int32 → MS → Prop} {U40 : MS} {v40_1 : Int32} (h : v_meetFrom_J40 ro uo U40 v40_1) (w : w_meetFrom_J40 Q U40 v40_1) : Q ro uo := by
  unfold v_meetFrom_J40 at h
  unfold w_meetFrom_J40 at w
  exact vz_meetFrom_J41 h w
set_option maxRecDepth 100000 in
theorem vw_meetFrom {S : MS} {x1 : Int32} {ro : Int32} {uo : MS} (h : v_meetFrom S x1 ro uo) : w_meetFrom S x1 (fun r u => r = ro ∧ u = uo) := by
  unfold v_meetFrom at h
  unfold w_meetFrom
  obtain ⟨g9, h⟩ := h
  refine ⟨g9, ?_⟩
  obtain ⟨g9, h⟩ := h
  refine ⟨g9, ?_⟩
  rcases h with ⟨c, h⟩ | ⟨c, h⟩
  · refine ⟨fun _ => ?_, fun c2 => absurd c c2⟩
    exact vw_meetFrom_J40 h
  · refine ⟨fun c2 => absurd c2 c, fun _ => ?_⟩
    obtain ⟨p9, q9, z9, h⟩ := h
    refine ⟨_, vw_behind z9, ?_⟩
    rintro p8 q8 ⟨d8, d9⟩
    subst d8
    subst d9
    rcases h with ⟨c, h⟩ | ⟨c, h⟩
    · refine ⟨fun _ => ?_, fun c2 => absurd c c2⟩
      exact vw_meetFrom_J40 h
    · refine ⟨fun c2 => absurd c2 c, fun _ => ?_⟩
      obtain ⟨p9, q9, z9, h⟩ := h
      refine ⟨_, vw_behind z9, ?_⟩
      rintro p8 q8 ⟨d8, d9⟩
      subst d8
      subst d9
      obtain ⟨p9, q9, z9, h⟩ := h
      refine ⟨_, vw_meet z9, ?_⟩
      rintro p8 q8 ⟨d8, d9⟩
      subst d8
      subst d9
      rcases h with ⟨c, h⟩ | ⟨c, h⟩
      · refine ⟨fun _ => ?_, fun c2 => absurd c c2⟩
        exact vw_meetFrom_J40 h
      · refine ⟨fun c2 => absurd c2 c, fun _ => ?_⟩
        exact vw_meetFrom_J41 h
set_option maxRecDepth 100000 in
theorem vz_meetFrom {S : MS} {x1 : Int32} {ro : Int32} {uo : MS} {Q : Int32 → MS → Prop} (h : v_meetFrom S x1 ro uo) (w : w_meetFrom S x1 Q) : Q ro uo := by
  unfold v_meetFrom at h
  unfold w_meetFrom at w
  replace h := h.2
  replace w := w.2
  replace h := h.2
  replace w := w.2
  rcases h with ⟨c, h⟩ | ⟨c, h⟩
  · replace w := w.1 c
    exact vz_meetFrom_J40 h w
  · replace w := w.2 c
    obtain ⟨p9, q9, z9, h⟩ := h
    obtain ⟨Q9, w0, w⟩ := w
    replace w := w p9 q9 (vz_behind z9 w0)
    rcases h with ⟨c, h⟩ | ⟨c, h⟩
    · replace w := w.1 c
      exact vz_meetFrom_J40 h w
    · replace w := w.2 c
      obtain ⟨p9, q9, z9, h⟩ := h
      obtain ⟨Q9, w0, w⟩ := w
      replace w := w p9 q9 (vz_behind z9 w0)
      obtain ⟨p9, q9, z9, h⟩ := h
      obtain ⟨Q9, w0, w⟩ := w
      replace w := w p9 q9 (vz_meet z9 w0)
      rcases h with ⟨c, h⟩ | ⟨c, h⟩
      · replace w := w.1 c
        exact vz_meetFrom_J40 h w
      · replace w := w.2 c
        exact vz_meetFrom_J41 h w
