/-! runs of the reference's methods -/
def oQ {R : Type} (Q : R → MS → Prop) (E : MS → Prop) : (R × MS) ⊕ MS → Prop
  | .inl x => Q x.1 x.2
  | .inr u => E u
def oV (Q : MS → Prop) (E : MS → Prop) : MS ⊕ MS → Prop
  | .inl u => Q u
  | .inr u => E u
def v_J0_getBytes_840e7 (S : MS) (p0 : Nat) (p1 : Nat) (x2 : Int32) (x3 : Int32) (uo : MS) : Prop := ((0 = x3.toInt ∧ ((∃ i : Nat, i < NTX ∧ p0 = TXB + 2 * i) ∧ ((∃ i : Nat, i < NTX ∧ p0 = TXB + 2 * i) ∧ ((¬ (0 : Int32) < 0 ∧ ¬ (x2 <<< (x3 &&& 31)) < 0 ∧ ¬ (Int32.ofNat (qN S (p0 + 1))) < 0 ∧ (0 : Int32).toNatClampNeg + (Int32.ofNat (qN S (p0 + 1))).toNatClampNeg ≤ qN S (p0 + 1) ∧ (x2 <<< (x3 &&& 31)).toNatClampNeg + (Int32.ofNat (qN S (p0 + 1))).toNatClampNeg ≤ qN S p1 ∧ byt S (p0 + 1)) ∧ (∃ S9 : MS, S9 = wC S p1 (va_cpy (qI S (p0 + 1)) (qI S p1) (0 : Int32).toNatClampNeg (x2 <<< (x3 &&& 31)).toNatClampNeg (Int32.ofNat (qN S (p0 + 1))).toNatClampNeg) ∧ (uo = S9)))))) ∨ (¬ 0 = x3.toInt ∧ False))
set_option maxRecDepth 100000 in
theorem ru_J0_getBytes_840e7 {S : MS} {p0 : Nat} {p1 : Nat} {x2 : Int32} {x3 : Int32} {Q : MS → Prop} (h : w_J0_getBytes_840e7 S p0 p1 x2 x3 Q) : ∃ uo, v_J0_getBytes_840e7 S p0 p1 x2 x3 uo ∧ Q uo := by
  have i0 : Unit := ()
  have K : ∀ (i : Unit) (uo : MS), v_J0_getBytes_840e7 S p0 p1 x2 x3 uo → v_J0_getBytes_840e7 S p0 p1 x2 x3 uo := fun _ _ z => z
  unfold w_J0_getBytes_840e7 at h
  by_cases c : 0 = x3.toInt
  · replace h := h.1 c
    replace K := fun i uo z => K i uo (Or.inl ⟨c, z⟩)
    obtain ⟨g1_, h⟩ := h
    replace K := fun i uo z => K i uo ⟨g1_, z⟩
    obtain ⟨g2_, h⟩ := h
    replace K := fun i uo z => K i uo ⟨g2_, z⟩
    obtain ⟨g3_, h⟩ := h
    replace K := fun i uo z => K i uo ⟨g3_, z⟩
    obtain ⟨S9, eS9⟩ : ∃ x9 : MS, x9 = wC S p1 (va_cpy (qI S (p0 + 1)) (qI S p1) (0 : Int32).toNatClampNeg (x2 <<< (x3 &&& 31)).toNatClampNeg (Int32.ofNat (qN S (p0 + 1))).toNatClampNeg) := ⟨_, rfl⟩
    replace h := h S9 eS9
    replace K := fun i uo z => K i uo ⟨S9, eS9, z⟩
    exact ⟨_, K i0 _ rfl, h⟩
  · replace h := h.2 c
    replace K := fun i uo z => K i uo (Or.inr ⟨c, z⟩)
    exact h.elim
set_option maxRecDepth 100000 in
theorem vw_J0_getBytes_840e7 {S : MS} {p0 : Nat} {p1 : Nat} {x2 : Int32} {x3 : Int32} {uo : MS} (h : v_J0_getBytes_840e7 S p0 p1 x2 x3 uo) : w_J0_getBytes_840e7 S p0 p1 x2 x3 (fun u => u = uo) := by
  unfold v_J0_getBytes_840e7 at h
  unfold w_J0_getBytes_840e7
  rcases h with ⟨c, h⟩ | ⟨c, h⟩
  · refine ⟨fun _ => ?_, fun c2 => absurd c c2⟩
    obtain ⟨g9, h⟩ := h
    refine ⟨g9, ?_⟩
    obtain ⟨g9, h⟩ := h
    refine ⟨g9, ?_⟩
    obtain ⟨g9, h⟩ := h
    refine ⟨g9, ?_⟩
    obtain ⟨v9, e9, h⟩ := h
    intro x9 d9
    have c9 : v9 = x9 := e9.trans d9.symm
    subst c9
    exact h.symm
  · refine ⟨fun c2 => absurd c2 c, fun _ => ?_⟩
    exact h.elim
set_option maxRecDepth 100000 in
theorem vz_J0_getBytes_840e7 {S : MS} {p0 : Nat} {p1 : Nat} {x2 : Int32} {x3 : Int32} {uo : MS} {Q : MS → Prop} (h : v_J0_getBytes_840e7 S p0 p1 x2 x3 uo) (w : w_J0_getBytes_840e7 S p0 p1 x2 x3 Q) : Q uo := by
  unfold v_J0_getBytes_840e7 at h
  unfold w_J0_getBytes_840e7 at w
  rcases h with ⟨c, h⟩ | ⟨c, h⟩
  · replace w := w.1 c
    replace h := h.2
    replace w := w.2
    replace h := h.2
    replace w := w.2
    replace h := h.2
    replace w := w.2
    obtain ⟨v9, e9, h⟩ := h
    replace w := w v9 e9
    rw [h]
    exact w
  · replace w := w.2 c
    exact h.elim
def v_J7_checkLength_df160 (S : MS) (x0 : Int32) (x1 : Int32) (uo : MS) : Prop := ((x0.toInt ≤ x1.toInt ∧ (uo = S)) ∨ (¬ x0.toInt ≤ x1.toInt ∧ False))
set_option maxRecDepth 100000 in
theorem ru_J7_checkLength_df160 {S : MS} {x0 : Int32} {x1 : Int32} {Q : MS → Prop} (h : w_J7_checkLength_df160 S x0 x1 Q) : ∃ uo, v_J7_checkLength_df160 S x0 x1 uo ∧ Q uo := by
  have i0 : Unit := ()
  have K : ∀ (i : Unit) (uo : MS), v_J7_checkLength_df160 S x0 x1 uo → v_J7_checkLength_df160 S x0 x1 uo := fun _ _ z => z
  unfold w_J7_checkLength_df160 at h
  by_cases c : x0.toInt ≤ x1.toInt
  · replace h := h.1 c
    replace K := fun i uo z => K i uo (Or.inl ⟨c, z⟩)
    exact ⟨_, K i0 _ rfl, h⟩
  · replace h := h.2 c
    replace K := fun i uo z => K i uo (Or.inr ⟨c, z⟩)
    exact h.elim
set_option maxRecDepth 100000 in
theorem vw_J7_checkLength_df160 {S : MS} {x0 : Int32} {x1 : Int32} {uo : MS} (h : v_J7_checkLength_df160 S x0 x1 uo) : w_J7_checkLength_df160 S x0 x1 (fun u => u = uo) := by
  unfold v_J7_checkLength_df160 at h
  unfold w_J7_checkLength_df160
  rcases h with ⟨c, h⟩ | ⟨c, h⟩
  · refine ⟨fun _ => ?_, fun c2 => absurd c c2⟩
    exact h.symm
  · refine ⟨fun c2 => absurd c2 c, fun _ => ?_⟩
    exact h.elim
set_option maxRecDepth 100000 in
theorem vz_J7_checkLength_df160 {S : MS} {x0 : Int32} {x1 : Int32} {uo : MS} {Q : MS → Prop} (h : v_J7_checkLength_df160 S x0 x1 uo) (w : w_J7_checkLength_df160 S x0 x1 Q) : Q uo := by
  unfold v_J7_checkLength_df160 at h
  unfold w_J7_checkLength_df160 at w
  rcases h with ⟨c, h⟩ | ⟨c, h⟩
  · replace w := w.1 c
    rw [h]
    exact w
  · replace w := w.2 c
    exact h.elim
def v_J7_copyOfRangeByte_39247 (S : MS) (p0 : Nat) (x1 : Int32) (x2 : Int32) (ro : Nat) (uo : MS) : Prop := (∃ (S2 : MS), v_J7_checkLength_df160 S x1 x2 S2 ∧ (∃ a5 : Int32, a5 = (x2 - x1) ∧ (((0 : Int) ≤ a5.toInt ∧ (qn S2 + 1 ≤ KC ∧ qu S2 + a5.toInt.toNat ≤ KS)) ∧ (∃ S9 : MS, S9 = wN S2 21 a5.toInt.toNat a5.toInt.toNat ∧ ((¬ x1 < 0 ∧ ¬ (0 : Int32) < 0 ∧ ¬ (if a5 < ((Int32.ofNat (qN S9 p0)) - x1) then a5 else ((Int32.ofNat (qN S9 p0)) - x1)) < 0 ∧ x1.toNatClampNeg + (if a5 < ((Int32.ofNat (qN S9 p0)) - x1) then a5 else ((Int32.ofNat (qN S9 p0)) - x1)).toNatClampNeg ≤ qN S9 p0 ∧ (0 : Int32).toNatClampNeg + (if a5 < ((Int32.ofNat (qN S9 p0)) - x1) then a5 else ((Int32.ofNat (qN S9 p0)) - x1)).toNatClampNeg ≤ qN S9 (qn S2) ∧ byt S9 p0) ∧ (∃ S14 : MS, S14 = wC S9 (qn S2) (va_cpy (qI S9 p0) (qI S9 (qn S2)) x1.toNatClampNeg (0 : Int32).toNatClampNeg (if a5 < ((Int32.ofNat (qN S9 p0)) - x1) then a5 else ((Int32.ofNat (qN S9 p0)) - x1)).toNatClampNeg) ∧ (ro = (qn S2) ∧ uo = S14)))))))
set_option maxRecDepth 100000 in
theorem ru_J7_copyOfRangeByte_39247 {S : MS} {p0 : Nat} {x1 : Int32} {x2 : Int32} {Q : Nat → MS → Prop} (h : w_J7_copyOfRangeByte_39247 S p0 x1 x2 Q) : ∃ ro uo, v_J7_copyOfRangeByte_39247 S p0 x1 x2 ro uo ∧ Q ro uo := by
  have i0 : Unit := ()
  have K : ∀ (i : Unit) (ro : Nat) (uo : MS), v_J7_copyOfRangeByte_39247 S p0 x1 x2 ro uo → v_J7_copyOfRangeByte_39247 S p0 x1 x2 ro uo := fun _ _ _ z => z
  unfold w_J7_copyOfRangeByte_39247 at h
  obtain ⟨Q9, h0, h⟩ := h
  obtain ⟨S2, z9, g9⟩ := ru_J7_checkLength_df160 h0
  replace h := h S2 g9
  replace K := fun i ro uo z => K i ro uo ⟨S2, z9, z⟩
  obtain ⟨a5, ea5⟩ : ∃ x9 : Int32, x9 = (x2 - x1) := ⟨_, rfl⟩
  replace h := h a5 ea5
  replace K := fun i ro uo z => K i ro uo ⟨a5, ea5, z⟩
  obtain ⟨g1_, h⟩ := h
  replace K := fun i ro uo z => K i ro uo ⟨g1_, z⟩
  obtain ⟨S9, eS9⟩ : ∃ x9 : MS, x9 = wN S2 21 a5.toInt.toNat a5.toInt.toNat := ⟨_, rfl⟩
  replace h := h S9 eS9
  replace K := fun i ro uo z => K i ro uo ⟨S9, eS9, z⟩
  obtain ⟨g2_, h⟩ := h
  replace K := fun i ro uo z => K i ro uo ⟨g2_, z⟩
  obtain ⟨S14, eS14⟩ : ∃ x9 : MS, x9 = wC S9 (qn S2) (va_cpy (qI S9 p0) (qI S9 (qn S2)) x1.toNatClampNeg (0 : Int32).toNatClampNeg (if a5 < ((Int32.ofNat (qN S9 p0)) - x1) then a5 else ((Int32.ofNat (qN S9 p0)) - x1)).toNatClampNeg) := ⟨_, rfl⟩
  replace h := h S14 eS14
  replace K := fun i ro uo z => K i ro uo ⟨S14, eS14, z⟩
  exact ⟨_, _, K i0 _ _ ⟨rfl, rfl⟩, h⟩
set_option maxRecDepth 100000 in
theorem vw_J7_copyOfRangeByte_39247 {S : MS} {p0 : Nat} {x1 : Int32} {x2 : Int32} {ro : Nat} {uo : MS} (h : v_J7_copyOfRangeByte_39247 S p0 x1 x2 ro uo) : w_J7_copyOfRangeByte_39247 S p0 x1 x2 (fun r u => r = ro ∧ u = uo) := by
  unfold v_J7_copyOfRangeByte_39247 at h
  unfold w_J7_copyOfRangeByte_39247
  obtain ⟨q9, z9, h⟩ := h
  refine ⟨_, vw_J7_checkLength_df160 z9, ?_⟩
  intro q8 d9
  subst d9
  obtain ⟨v9, e9, h⟩ := h
  intro x9 d9
  have c9 : v9 = x9 := e9.trans d9.symm
  subst c9
  obtain ⟨g9, h⟩ := h
  refine ⟨g9, ?_⟩
  obtain ⟨v9, e9, h⟩ := h
  intro x9 d9
  have c9 : v9 = x9 := e9.trans d9.symm
  subst c9
  obtain ⟨g9, h⟩ := h
  refine ⟨g9, ?_⟩
  obtain ⟨v9, e9, h⟩ := h
  intro x9 d9
  have c9 : v9 = x9 := e9.trans d9.symm
  subst c9
  exact ⟨h.1.symm, h.2.symm⟩
set_option maxRecDepth 100000 in
theorem vz_J7_copyOfRangeByte_39247 {S : MS} {p0 : Nat} {x1 : Int32} {x2 : Int32} {ro : Nat} {uo : MS} {Q : Nat → MS → Prop} (h : v_J7_copyOfRangeByte_39247 S p0 x1 x2 ro uo) (w : w_J7_copyOfRangeByte_39247 S p0 x1 x2 Q) : Q ro uo := by
  unfold v_J7_copyOfRangeByte_39247 at h
  unfold w_J7_copyOfRangeByte_39247 at w
  obtain ⟨q9, z9, h⟩ := h
  obtain ⟨Q9, w0, w⟩ := w
  replace w := w q9 (vz_J7_checkLength_df160 z9 w0)
  obtain ⟨v9, e9, h⟩ := h
  replace w := w v9 e9
  replace h := h.2
  replace w := w.2
  obtain ⟨v9, e9, h⟩ := h
  replace w := w v9 e9
  replace h := h.2
  replace w := w.2
  obtain ⟨v9, e9, h⟩ := h
  replace w := w v9 e9
  rw [h.1, h.2]
  exact w
def v_J7_copyOfRange_39247_J10 (ro : Nat) (uo : MS) (U10 : MS) (v10_0 : Nat) (v10_1 : Int32) (v10_2 : Int32) : Prop := (∃ (b6 : Nat) (S3 : MS), v_J7_copyOfRangeByte_39247 U10 v10_0 v10_1 v10_2 b6 S3 ∧ (ro = b6 ∧ uo = S3))
def v_J7_copyOfRange_39247 (S : MS) (p0 : Nat) (x1 : Int32) (x2 : Int32) (ro : Nat) (uo : MS) : Prop := ((x1.toInt = 0 ∧ ((x2.toInt = (Int32.ofNat (qN S p0)).toInt ∧ (((qn S + 1 ≤ KC ∧ qu S + qN S p0 ≤ KS) ∧ byt S p0) ∧ (∃ S12 : MS, S12 = wK S p0 (qN S p0) ∧ (ro = (qn S) ∧ uo = S12)))) ∨ (¬ x2.toInt = (Int32.ofNat (qN S p0)).toInt ∧ (v_J7_copyOfRange_39247_J10 ro uo S p0 x1 x2)))) ∨ (¬ x1.toInt = 0 ∧ (v_J7_copyOfRange_39247_J10 ro uo S p0 x1 x2)))
set_option maxRecDepth 100000 in
theorem ru_J7_copyOfRange_39247_J10 {ι : Type} {P : Nat → MS → Prop} {Q : Nat → MS → Prop} {U10 : MS} {v10_0 : Nat} {v10_1 : Int32} {v10_2 : Int32} (i0 : ι) (K : ∀ (i : ι) (ro : Nat) (uo : MS), v_J7_copyOfRange_39247_J10 ro uo U10 v10_0 v10_1 v10_2 → P ro uo) (h : w_J7_copyOfRange_39247_J10 Q U10 v10_0 v10_1 v10_2) : ∃ ro uo, P ro uo ∧ Q ro uo := by
  unfold w_J7_copyOfRange_39247_J10 at h
  obtain ⟨Q9, h0, h⟩ := h
  obtain ⟨b6, S3, z9, g9⟩ := ru_J7_copyOfRangeByte_39247 h0
  replace h := h b6 S3 g9
  replace K := fun i ro uo z => K i ro uo ⟨b6, S3, z9, z⟩
  exact ⟨_, _, K i0 _ _ ⟨rfl, rfl⟩, h⟩
set_option maxRecDepth 100000 in
theorem ru_J7_copyOfRange_39247 {S : MS} {p0 : Nat} {x1 : Int32} {x2 : Int32} {Q : Nat → MS → Prop} (h : w_J7_copyOfRange_39247 S p0 x1 x2 Q) : ∃ ro uo, v_J7_copyOfRange_39247 S p0 x1 x2 ro uo ∧ Q ro uo := by
  have i0 : Unit := ()
  have K : ∀ (i : Unit) (ro : Nat) (uo : MS), v_J7_copyOfRange_39247 S p0 x1 x2 ro uo → v_J7_copyOfRange_39247 S p0 x1 x2 ro uo := fun _ _ _ z => z
  unfold w_J7_copyOfRange_39247 at h
  by_cases c : x1.toInt = 0
  · replace h := h.1 c
    replace K := fun i ro uo z => K i ro uo (Or.inl ⟨c, z⟩)
    by_cases c : x2.toInt = (Int32.ofNat (qN S p0)).toInt
    · replace h := h.1 c
      replace K := fun i ro uo z => K i ro uo (Or.inl ⟨c, z⟩)
      obtain ⟨g1_, h⟩ := h
      replace K := fun i ro uo z => K i ro uo ⟨g1_, z⟩
      obtain ⟨S12, eS12⟩ : ∃ x9 : MS, x9 = wK S p0 (qN S p0) := ⟨_, rfl⟩
      replace h := h S12 eS12
      replace K := fun i ro uo z => K i ro uo ⟨S12, eS12, z⟩
      exact ⟨_, _, K i0 _ _ ⟨rfl, rfl⟩, h⟩
    · replace h := h.2 c
      replace K := fun i ro uo z => K i ro uo (Or.inr ⟨c, z⟩)
      exact ru_J7_copyOfRange_39247_J10 i0 K h
  · replace h := h.2 c
    replace K := fun i ro uo z => K i ro uo (Or.inr ⟨c, z⟩)
    exact ru_J7_copyOfRange_39247_J10 i0 K h
set_option maxRecDepth 100000 in
theorem vw_J7_copyOfRange_39247_J10 {ro : Nat} {uo : MS} {U10 : MS} {v10_0 : Nat} {v10_1 : Int32} {v10_2 : Int32} (h : v_J7_copyOfRange_39247_J10 ro uo U10 v10_0 v10_1 v10_2) : w_J7_copyOfRange_39247_J10 (fun r u => r = ro ∧ u = uo) U10 v10_0 v10_1 v10_2 := by
  unfold v_J7_copyOfRange_39247_J10 at h
  unfold w_J7_copyOfRange_39247_J10
  obtain ⟨p9, q9, z9, h⟩ := h
  refine ⟨_, vw_J7_copyOfRangeByte_39247 z9, ?_⟩
  rintro p8 q8 ⟨d8, d9⟩
  subst d8
  subst d9
  exact ⟨h.1.symm, h.2.symm⟩
set_option maxRecDepth 100000 in
theorem vz_J7_copyOfRange_39247_J10 {ro : Nat} {uo : MS} {Q : Nat → MS → Prop} {U10 : MS} {v10_0 : Nat} {v10_1 : Int32} {v10_2 : Int32} (h : v_J7_copyOfRange_39247_J10 ro uo U10 v10_0 v10_1 v10_2) (w : w_J7_copyOfRange_39247_J10 Q U10 v10_0 v10_1 v10_2) : Q ro uo := by
  unfold v_J7_copyOfRange_39247_J10 at h
  unfold w_J7_copyOfRange_39247_J10 at w
  obtain ⟨p9, q9, z9, h⟩ := h
  obtain ⟨Q9, w0, w⟩ := w
  replace w := w p9 q9 (vz_J7_copyOfRangeByte_39247 z9 w0)
  rw [h.1, h.2]
  exact w
set_option maxRecDepth 100000 in
theorem vw_J7_copyOfRange_39247 {S : MS} {p0 : Nat} {x1 : Int32} {x2 : Int32} {ro : Nat} {uo : MS} (h : v_J7_copyOfRange_39247 S p0 x1 x2 ro uo) : w_J7_copyOfRange_39247 S p0 x1 x2 (fun r u => r = ro ∧ u = uo) := by
  unfold v_J7_copyOfRange_39247 at h
  unfold w_J7_copyOfRange_39247
  rcases h with ⟨c, h⟩ | ⟨c, h⟩
  · refine ⟨fun _ => ?_, fun c2 => absurd c c2⟩
    rcases h with ⟨c, h⟩ | ⟨c, h⟩
    · refine ⟨fun _ => ?_, fun c2 => absurd c c2⟩
      obtain ⟨g9, h⟩ := h
      refine ⟨g9, ?_⟩
      obtain ⟨v9, e9, h⟩ := h
      intro x9 d9
      have c9 : v9 = x9 := e9.trans d9.symm
      subst c9
      exact ⟨h.1.symm, h.2.symm⟩
    · refine ⟨fun c2 => absurd c2 c, fun _ => ?_⟩
      exact vw_J7_copyOfRange_39247_J10 h
  · refine ⟨fun c2 => absurd c2 c, fun _ => ?_⟩
    exact vw_J7_copyOfRange_39247_J10 h
set_option maxRecDepth 100000 in
theorem vz_J7_copyOfRange_39247 {S : MS} {p0 : Nat} {x1 : Int32} {x2 : Int32} {ro : Nat} {uo : MS} {Q : Nat → MS → Prop} (h : v_J7_copyOfRange_39247 S p0 x1 x2 ro uo) (w : w_J7_copyOfRange_39247 S p0 x1 x2 Q) : Q ro uo := by
  unfold v_J7_copyOfRange_39247 at h
  unfold w_J7_copyOfRange_39247 at w
  rcases h with ⟨c, h⟩ | ⟨c, h⟩
  · replace w := w.1 c
    rcases h with ⟨c, h⟩ | ⟨c, h⟩
    · replace w := w.1 c
      replace h := h.2
      replace w := w.2
      obtain ⟨v9, e9, h⟩ := h
      replace w := w v9 e9
      rw [h.1, h.2]
      exact w
    · replace w := w.2 c
      exact vz_J7_copyOfRange_39247_J10 h w
  · replace w := w.2 c
    exact vz_J7_copyOfRange_39247_J10 h w
def v_J0_init_db425 (S : MS) (p0 : Nat) (p1 : Nat) (uo : MS) : Prop := (d_J5_getValue_6d5f1 S p1 ∧ (d_J4_length_8abf5 S p1 ∧ (∃ a7 : Int32, a7 = (f_J4_length_8abf5 S p1) ∧ (d_J5_isLatin1_aae02 S p1 ∧ (((f_J5_isLatin1_aae02 S p1).toInt = 0 ∧ False) ∨ (¬ (f_J5_isLatin1_aae02 S p1).toInt = 0 ∧ (∃ S12 : MS, S12 = wI S p0 1 0 ∧ (∃ (b18 : Nat) (S15 : MS), v_J7_copyOfRange_39247 S12 (f_J5_getValue_6d5f1 S p1) (0 : Int32) a7 b18 S15 ∧ (∃ S19 : MS, S19 = wR S15 p0 0 (some b18) ∧ (uo = S19))))))))))
set_option maxRecDepth 100000 in
theorem ru_J0_init_db425 {S : MS} {p0 : Nat} {p1 : Nat} {Q : MS → Prop} (h : w_J0_init_db425 S p0 p1 Q) : ∃ uo, v_J0_init_db425 S p0 p1 uo ∧ Q uo := by
  have i0 : Unit := ()
  have K : ∀ (i : Unit) (uo : MS), v_J0_init_db425 S p0 p1 uo → v_J0_init_db425 S p0 p1 uo := fun _ _ z => z
  unfold w_J0_init_db425 at h
  obtain ⟨g1_, h⟩ := h
  replace K := fun i uo z => K i uo ⟨g1_, z⟩
  obtain ⟨g2_, h⟩ := h
  replace K := fun i uo z => K i uo ⟨g2_, z⟩
  obtain ⟨a7, ea7⟩ : ∃ x9 : Int32, x9 = (f_J4_length_8abf5 S p1) := ⟨_, rfl⟩
  replace h := h a7 ea7
  replace K := fun i uo z => K i uo ⟨a7, ea7, z⟩
  obtain ⟨g3_, h⟩ := h
  replace K := fun i uo z => K i uo ⟨g3_, z⟩
  by_cases c : (f_J5_isLatin1_aae02 S p1).toInt = 0
  · replace h := h.1 c
    replace K := fun i uo z => K i uo (Or.inl ⟨c, z⟩)
    exact h.elim
  · replace h := h.2 c
    replace K := fun i uo z => K i uo (Or.inr ⟨c, z⟩)
    obtain ⟨S12, eS12⟩ : ∃ x9 : MS, x9 = wI S p0 1 0 := ⟨_, rfl⟩
    replace h := h S12 eS12
    replace K := fun i uo z => K i uo ⟨S12, eS12, z⟩
    obtain ⟨Q9, h0, h⟩ := h
    obtain ⟨b18, S15, z9, g9⟩ := ru_J7_copyOfRange_39247 h0
    replace h := h b18 S15 g9
    replace K := fun i uo z => K i uo ⟨b18, S15, z9, z⟩
    obtain ⟨S19, eS19⟩ : ∃ x9 : MS, x9 = wR S15 p0 0 (some b18) := ⟨_, rfl⟩
    replace h := h S19 eS19
    replace K := fun i uo z => K i uo ⟨S19, eS19, z⟩
    exact ⟨_, K i0 _ rfl, h⟩
set_option maxRecDepth 100000 in
theorem vw_J0_init_db425 {S : MS} {p0 : Nat} {p1 : Nat} {uo : MS} (h : v_J0_init_db425 S p0 p1 uo) : w_J0_init_db425 S p0 p1 (fun u => u = uo) := by
  unfold v_J0_init_db425 at h
  unfold w_J0_init_db425
  obtain ⟨g9, h⟩ := h
  refine ⟨g9, ?_⟩
  obtain ⟨g9, h⟩ := h
  refine ⟨g9, ?_⟩
  obtain ⟨v9, e9, h⟩ := h
  intro x9 d9
  have c9 : v9 = x9 := e9.trans d9.symm
  subst c9
  obtain ⟨g9, h⟩ := h
  refine ⟨g9, ?_⟩
  rcases h with ⟨c, h⟩ | ⟨c, h⟩
  · refine ⟨fun _ => ?_, fun c2 => absurd c c2⟩
    exact h.elim
  · refine ⟨fun c2 => absurd c2 c, fun _ => ?_⟩
    obtain ⟨v9, e9, h⟩ := h
    intro x9 d9
    have c9 : v9 = x9 := e9.trans d9.symm
    subst c9
    obtain ⟨p9, q9, z9, h⟩ := h
    refine ⟨_, vw_J7_copyOfRange_39247 z9, ?_⟩
    rintro p8 q8 ⟨d8, d9⟩
    subst d8
    subst d9
    obtain ⟨v9, e9, h⟩ := h
    intro x9 d9
    have c9 : v9 = x9 := e9.trans d9.symm
    subst c9
    exact h.symm
set_option maxRecDepth 100000 in
theorem vz_J0_init_db425 {S : MS} {p0 : Nat} {p1 : Nat} {uo : MS} {Q : MS → Prop} (h : v_J0_init_db425 S p0 p1 uo) (w : w_J0_init_db425 S p0 p1 Q) : Q uo := by
  unfold v_J0_init_db425 at h
  unfold w_J0_init_db425 at w
  replace h := h.2
  replace w := w.2
  replace h := h.2
  replace w := w.2
  obtain ⟨v9, e9, h⟩ := h
  replace w := w v9 e9
  replace h := h.2
  replace w := w.2
  rcases h with ⟨c, h⟩ | ⟨c, h⟩
  · replace w := w.1 c
    exact h.elim
  · replace w := w.2 c
    obtain ⟨v9, e9, h⟩ := h
    replace w := w v9 e9
    obtain ⟨p9, q9, z9, h⟩ := h
    obtain ⟨Q9, w0, w⟩ := w
    replace w := w p9 q9 (vz_J7_copyOfRange_39247 z9 w0)
    obtain ⟨v9, e9, h⟩ := h
    replace w := w v9 e9
    rw [h]
    exact w
def v_J0_init_81219 (S : MS) (p0 : Nat) (p1 : Nat) (uo : MS) : Prop := (∃ (S2 : MS), v_J0_init_db425 S p0 p1 S2 ∧ (uo = S2))
set_option maxRecDepth 100000 in
theorem ru_J0_init_81219 {S : MS} {p0 : Nat} {p1 : Nat} {Q : MS → Prop} (h : w_J0_init_81219 S p0 p1 Q) : ∃ uo, v_J0_init_81219 S p0 p1 uo ∧ Q uo := by
  have i0 : Unit := ()
  have K : ∀ (i : Unit) (uo : MS), v_J0_init_81219 S p0 p1 uo → v_J0_init_81219 S p0 p1 uo := fun _ _ z => z
  unfold w_J0_init_81219 at h
  obtain ⟨Q9, h0, h⟩ := h
  obtain ⟨S2, z9, g9⟩ := ru_J0_init_db425 h0
  replace h := h S2 g9
  replace K := fun i uo z => K i uo ⟨S2, z9, z⟩
  exact ⟨_, K i0 _ rfl, h⟩
set_option maxRecDepth 100000 in
theorem vw_J0_init_81219 {S : MS} {p0 : Nat} {p1 : Nat} {uo : MS} (h : v_J0_init_81219 S p0 p1 uo) : w_J0_init_81219 S p0 p1 (fun u => u = uo) := by
  unfold v_J0_init_81219 at h
  unfold w_J0_init_81219
  obtain ⟨q9, z9, h⟩ := h
  refine ⟨_, vw_J0_init_db425 z9, ?_⟩
  intro q8 d9
  subst d9
  exact h.symm
set_option maxRecDepth 100000 in
theorem vz_J0_init_81219 {S : MS} {p0 : Nat} {p1 : Nat} {uo : MS} {Q : MS → Prop} (h : v_J0_init_81219 S p0 p1 uo) (w : w_J0_init_81219 S p0 p1 Q) : Q uo := by
  unfold v_J0_init_81219 at h
  unfold w_J0_init_81219 at w
  obtain ⟨q9, z9, h⟩ := h
  obtain ⟨Q9, w0, w⟩ := w
  replace w := w q9 (vz_J0_init_db425 z9 w0)
  rw [h]
  exact w
def v_J7_copyOf_9075b (S : MS) (p0 : Nat) (x1 : Int32) (ro : Nat) (uo : MS) : Prop := ((x1.toInt = (Int32.ofNat (qN S p0)).toInt ∧ (((qn S + 1 ≤ KC ∧ qu S + qN S p0 ≤ KS) ∧ byt S p0) ∧ (∃ S13 : MS, S13 = wK S p0 (qN S p0) ∧ (ro = (qn S) ∧ uo = S13)))) ∨ (¬ x1.toInt = (Int32.ofNat (qN S p0)).toInt ∧ (((0 : Int) ≤ x1.toInt ∧ (qn S + 1 ≤ KC ∧ qu S + x1.toInt.toNat ≤ KS)) ∧ (∃ S5 : MS, S5 = wN S 21 x1.toInt.toNat x1.toInt.toNat ∧ ((¬ (0 : Int32) < 0 ∧ ¬ (0 : Int32) < 0 ∧ ¬ (if x1 < (Int32.ofNat (qN S5 p0)) then x1 else (Int32.ofNat (qN S5 p0))) < 0 ∧ (0 : Int32).toNatClampNeg + (if x1 < (Int32.ofNat (qN S5 p0)) then x1 else (Int32.ofNat (qN S5 p0))).toNatClampNeg ≤ qN S5 p0 ∧ (0 : Int32).toNatClampNeg + (if x1 < (Int32.ofNat (qN S5 p0)) then x1 else (Int32.ofNat (qN S5 p0))).toNatClampNeg ≤ qN S5 (qn S) ∧ byt S5 p0) ∧ (∃ S9 : MS, S9 = wC S5 (qn S) (va_cpy (qI S5 p0) (qI S5 (qn S)) (0 : Int32).toNatClampNeg (0 : Int32).toNatClampNeg (if x1 < (Int32.ofNat (qN S5 p0)) then x1 else (Int32.ofNat (qN S5 p0))).toNatClampNeg) ∧ (ro = (qn S) ∧ uo = S9)))))))
set_option maxRecDepth 100000 in
theorem ru_J7_copyOf_9075b {S : MS} {p0 : Nat} {x1 : Int32} {Q : Nat → MS → Prop} (h : w_J7_copyOf_9075b S p0 x1 Q) : ∃ ro uo, v_J7_copyOf_9075b S p0 x1 ro uo ∧ Q ro uo := by
  have i0 : Unit := ()
  have K : ∀ (i : Unit) (ro : Nat) (uo : MS), v_J7_copyOf_9075b S p0 x1 ro uo → v_J7_copyOf_9075b S p0 x1 ro uo := fun _ _ _ z => z
  unfold w_J7_copyOf_9075b at h
  by_cases c : x1.toInt = (Int32.ofNat (qN S p0)).toInt
  · replace h := h.1 c
    replace K := fun i ro uo z => K i ro uo (Or.inl ⟨c, z⟩)
    obtain ⟨g1_, h⟩ := h
    replace K := fun i ro uo z => K i ro uo ⟨g1_, z⟩
    obtain ⟨S13, eS13⟩ : ∃ x9 : MS, x9 = wK S p0 (qN S p0) := ⟨_, rfl⟩
    replace h := h S13 eS13
    replace K := fun i ro uo z => K i ro uo ⟨S13, eS13, z⟩
    exact ⟨_, _, K i0 _ _ ⟨rfl, rfl⟩, h⟩
  · replace h := h.2 c
    replace K := fun i ro uo z => K i ro uo (Or.inr ⟨c, z⟩)
    obtain ⟨g2_, h⟩ := h
    replace K := fun i ro uo z => K i ro uo ⟨g2_, z⟩
    obtain ⟨S5, eS5⟩ : ∃ x9 : MS, x9 = wN S 21 x1.toInt.toNat x1.toInt.toNat := ⟨_, rfl⟩
    replace h := h S5 eS5
    replace K := fun i ro uo z => K i ro uo ⟨S5, eS5, z⟩
    obtain ⟨g3_, h⟩ := h
    replace K := fun i ro uo z => K i ro uo ⟨g3_, z⟩
    obtain ⟨S9, eS9⟩ : ∃ x9 : MS, x9 = wC S5 (qn S) (va_cpy (qI S5 p0) (qI S5 (qn S)) (0 : Int32).toNatClampNeg (0 : Int32).toNatClampNeg (if x1 < (Int32.ofNat (qN S5 p0)) then x1 else (Int32.ofNat (qN S5 p0))).toNatClampNeg) := ⟨_, rfl⟩
    replace h := h S9 eS9
    replace K := fun i ro uo z => K i ro uo ⟨S9, eS9, z⟩
    exact ⟨_, _, K i0 _ _ ⟨rfl, rfl⟩, h⟩
set_option maxRecDepth 100000 in
theorem vw_J7_copyOf_9075b {S : MS} {p0 : Nat} {x1 : Int32} {ro : Nat} {uo : MS} (h : v_J7_copyOf_9075b S p0 x1 ro uo) : w_J7_copyOf_9075b S p0 x1 (fun r u => r = ro ∧ u = uo) := by
  unfold v_J7_copyOf_9075b at h
  unfold w_J7_copyOf_9075b
  rcases h with ⟨c, h⟩ | ⟨c, h⟩
  · refine ⟨fun _ => ?_, fun c2 => absurd c c2⟩
    obtain ⟨g9, h⟩ := h
    refine ⟨g9, ?_⟩
    obtain ⟨v9, e9, h⟩ := h
    intro x9 d9
    have c9 : v9 = x9 := e9.trans d9.symm
    subst c9
    exact ⟨h.1.symm, h.2.symm⟩
  · refine ⟨fun c2 => absurd c2 c, fun _ => ?_⟩
    obtain ⟨g9, h⟩ := h
    refine ⟨g9, ?_⟩
    obtain ⟨v9, e9, h⟩ := h
    intro x9 d9
    have c9 : v9 = x9 := e9.trans d9.symm
    subst c9
    obtain ⟨g9, h⟩ := h
    refine ⟨g9, ?_⟩
    obtain ⟨v9, e9, h⟩ := h
    intro x9 d9
    have c9 : v9 = x9 := e9.trans d9.symm
    subst c9
    exact ⟨h.1.symm, h.2.symm⟩
set_option maxRecDepth 100000 in
theorem vz_J7_copyOf_9075b {S : MS} {p0 : Nat} {x1 : Int32} {ro : Nat} {uo : MS} {Q : Nat → MS → Prop} (h : v_J7_copyOf_9075b S p0 x1 ro uo) (w : w_J7_copyOf_9075b S p0 x1 Q) : Q ro uo := by
  unfold v_J7_copyOf_9075b at h
  unfold w_J7_copyOf_9075b at w
  rcases h with ⟨c, h⟩ | ⟨c, h⟩
  · replace w := w.1 c
    replace h := h.2
    replace w := w.2
    obtain ⟨v9, e9, h⟩ := h
    replace w := w v9 e9
    rw [h.1, h.2]
    exact w
  · replace w := w.2 c
    replace h := h.2
    replace w := w.2
    obtain ⟨v9, e9, h⟩ := h
    replace w := w v9 e9
    replace h := h.2
    replace w := w.2
    obtain ⟨v9, e9, h⟩ := h
    replace w := w v9 e9
    rw [h.1, h.2]
    exact w
def v_J5_ensureCapacityInternal_d00df (S : MS) (p0 : Nat) (x1 : Int32) (uo : MS) : Prop := ((qR S p0 0 = some (qO S p0 0)) ∧ (∃ a4 : Int32, a4 = ((Int32.ofNat (qN S (qO S p0 0))) >>> ((qI S p0 1) &&& 31)) ∧ (((x1 - a4).toInt ≤ 0 ∧ (uo = S)) ∨ (¬ (x1 - a4).toInt ≤ 0 ∧ ((qR S p0 0 = some (qO S p0 0)) ∧ (d_J5_newCapacity_0f7a4 S p0 x1 ∧ (∃ (b18 : Nat) (S15 : MS), v_J7_copyOf_9075b S (qO S p0 0) ((f_J5_newCapacity_0f7a4 S p0 x1) <<< ((qI S p0 1) &&& 31)) b18 S15 ∧ (∃ S19 : MS, S19 = wR S15 p0 0 (some b18) ∧ (uo = S19)))))))))
set_option maxRecDepth 100000 in
theorem ru_J5_ensureCapacityInternal_d00df {S : MS} {p0 : Nat} {x1 : Int32} {Q : MS → Prop} (h : w_J5_ensureCapacityInternal_d00df S p0 x1 Q) : ∃ uo, v_J5_ensureCapacityInternal_d00df S p0 x1 uo ∧ Q uo := by
  have i0 : Unit := ()
  have K : ∀ (i : Unit) (uo : MS), v_J5_ensureCapacityInternal_d00df S p0 x1 uo → v_J5_ensureCapacityInternal_d00df S p0 x1 uo := fun _ _ z => z
  unfold w_J5_ensureCapacityInternal_d00df at h
  obtain ⟨g1_, h⟩ := h
  replace K := fun i uo z => K i uo ⟨g1_, z⟩
  obtain ⟨a4, ea4⟩ : ∃ x9 : Int32, x9 = ((Int32.ofNat (qN S (qO S p0 0))) >>> ((qI S p0 1) &&& 31)) := ⟨_, rfl⟩
  replace h := h a4 ea4
  replace K := fun i uo z => K i uo ⟨a4, ea4, z⟩
  by_cases c : (x1 - a4).toInt ≤ 0
  · replace h := h.1 c
    replace K := fun i uo z => K i uo (Or.inl ⟨c, z⟩)
    exact ⟨_, K i0 _ rfl, h⟩
  · replace h := h.2 c
    replace K := fun i uo z => K i uo (Or.inr ⟨c, z⟩)
    obtain ⟨g2_, h⟩ := h
    replace K := fun i uo z => K i uo ⟨g2_, z⟩
    obtain ⟨g3_, h⟩ := h
    replace K := fun i uo z => K i uo ⟨g3_, z⟩
    obtain ⟨Q9, h0, h⟩ := h
    obtain ⟨b18, S15, z9, g9⟩ := ru_J7_copyOf_9075b h0
    replace h := h b18 S15 g9
    replace K := fun i uo z => K i uo ⟨b18, S15, z9, z⟩
    obtain ⟨S19, eS19⟩ : ∃ x9 : MS, x9 = wR S15 p0 0 (some b18) := ⟨_, rfl⟩
    replace h := h S19 eS19
    replace K := fun i uo z => K i uo ⟨S19, eS19, z⟩
    exact ⟨_, K i0 _ rfl, h⟩
set_option maxRecDepth 100000 in
theorem vw_J5_ensureCapacityInternal_d00df {S : MS} {p0 : Nat} {x1 : Int32} {uo : MS} (h : v_J5_ensureCapacityInternal_d00df S p0 x1 uo) : w_J5_ensureCapacityInternal_d00df S p0 x1 (fun u => u = uo) := by
  unfold v_J5_ensureCapacityInternal_d00df at h
  unfold w_J5_ensureCapacityInternal_d00df
  obtain ⟨g9, h⟩ := h
  refine ⟨g9, ?_⟩
  obtain ⟨v9, e9, h⟩ := h
  intro x9 d9
  have c9 : v9 = x9 := e9.trans d9.symm
  subst c9
  rcases h with ⟨c, h⟩ | ⟨c, h⟩
  · refine ⟨fun _ => ?_, fun c2 => absurd c c2⟩
    exact h.symm
  · refine ⟨fun c2 => absurd c2 c, fun _ => ?_⟩
    obtain ⟨g9, h⟩ := h
    refine ⟨g9, ?_⟩
    obtain ⟨g9, h⟩ := h
    refine ⟨g9, ?_⟩
    obtain ⟨p9, q9, z9, h⟩ := h
    refine ⟨_, vw_J7_copyOf_9075b z9, ?_⟩
    rintro p8 q8 ⟨d8, d9⟩
    subst d8
    subst d9
    obtain ⟨v9, e9, h⟩ := h
    intro x9 d9
    have c9 : v9 = x9 := e9.trans d9.symm
    subst c9
    exact h.symm
set_option maxRecDepth 100000 in
theorem vz_J5_ensureCapacityInternal_d00df {S : MS} {p0 : Nat} {x1 : Int32} {uo : MS} {Q : MS → Prop} (h : v_J5_ensureCapacityInternal_d00df S p0 x1 uo) (w : w_J5_ensureCapacityInternal_d00df S p0 x1 Q) : Q uo := by
  unfold v_J5_ensureCapacityInternal_d00df at h
  unfold w_J5_ensureCapacityInternal_d00df at w
  replace h := h.2
  replace w := w.2
  obtain ⟨v9, e9, h⟩ := h
  replace w := w v9 e9
  rcases h with ⟨c, h⟩ | ⟨c, h⟩
  · replace w := w.1 c
    rw [h]
    exact w
  · replace w := w.2 c
    replace h := h.2
    replace w := w.2
    replace h := h.2
    replace w := w.2
    obtain ⟨p9, q9, z9, h⟩ := h
    obtain ⟨Q9, w0, w⟩ := w
    replace w := w p9 q9 (vz_J7_copyOf_9075b z9 w0)
    obtain ⟨v9, e9, h⟩ := h
    replace w := w v9 e9
    rw [h]
    exact w
def v_J5_inflateIfNeededFor_a7421 (S : MS) (p0 : Nat) (p1 : Nat) (uo : MS) : Prop := (((qI S p0 1).toInt = 0 ∧ (uo = S)) ∨ (¬ (qI S p0 1).toInt = 0 ∧ False))
set_option maxRecDepth 100000 in
theorem ru_J5_inflateIfNeededFor_a7421 {S : MS} {p0 : Nat} {p1 : Nat} {Q : MS → Prop} (h : w_J5_inflateIfNeededFor_a7421 S p0 p1 Q) : ∃ uo, v_J5_inflateIfNeededFor_a7421 S p0 p1 uo ∧ Q uo := by
  have i0 : Unit := ()
  have K : ∀ (i : Unit) (uo : MS), v_J5_inflateIfNeededFor_a7421 S p0 p1 uo → v_J5_inflateIfNeededFor_a7421 S p0 p1 uo := fun _ _ z => z
  unfold w_J5_inflateIfNeededFor_a7421 at h
  by_cases c : (qI S p0 1).toInt = 0
  · replace h := h.1 c
    replace K := fun i uo z => K i uo (Or.inl ⟨c, z⟩)
    exact ⟨_, K i0 _ rfl, h⟩
  · replace h := h.2 c
    replace K := fun i uo z => K i uo (Or.inr ⟨c, z⟩)
    exact h.elim
set_option maxRecDepth 100000 in
theorem vw_J5_inflateIfNeededFor_a7421 {S : MS} {p0 : Nat} {p1 : Nat} {uo : MS} (h : v_J5_inflateIfNeededFor_a7421 S p0 p1 uo) : w_J5_inflateIfNeededFor_a7421 S p0 p1 (fun u => u = uo) := by
  unfold v_J5_inflateIfNeededFor_a7421 at h
  unfold w_J5_inflateIfNeededFor_a7421
  rcases h with ⟨c, h⟩ | ⟨c, h⟩
  · refine ⟨fun _ => ?_, fun c2 => absurd c c2⟩
    exact h.symm
  · refine ⟨fun c2 => absurd c2 c, fun _ => ?_⟩
    exact h.elim
set_option maxRecDepth 100000 in
theorem vz_J5_inflateIfNeededFor_a7421 {S : MS} {p0 : Nat} {p1 : Nat} {uo : MS} {Q : MS → Prop} (h : v_J5_inflateIfNeededFor_a7421 S p0 p1 uo) (w : w_J5_inflateIfNeededFor_a7421 S p0 p1 Q) : Q uo := by
  unfold v_J5_inflateIfNeededFor_a7421 at h
  unfold w_J5_inflateIfNeededFor_a7421 at w
  rcases h with ⟨c, h⟩ | ⟨c, h⟩
  · replace w := w.1 c
    rw [h]
    exact w
  · replace w := w.2 c
    exact h.elim
def v_J5_putStringAt_47b60 (S : MS) (p0 : Nat) (x1 : Int32) (p2 : Nat) (uo : MS) : Prop := (∃ (S2 : MS), v_J5_inflateIfNeededFor_a7421 S p0 p2 S2 ∧ ((qR S2 p0 0 = some (qO S2 p0 0)) ∧ (∃ (S7 : MS), v_J0_getBytes_840e7 S2 p2 (qO S2 p0 0) x1 (qI S2 p0 1) S7 ∧ (uo = S7))))
set_option maxRecDepth 100000 in
theorem ru_J5_putStringAt_47b60 {S : MS} {p0 : Nat} {x1 : Int32} {p2 : Nat} {Q : MS → Prop} (h : w_J5_putStringAt_47b60 S p0 x1 p2 Q) : ∃ uo, v_J5_putStringAt_47b60 S p0 x1 p2 uo ∧ Q uo := by
  have i0 : Unit := ()
  have K : ∀ (i : Unit) (uo : MS), v_J5_putStringAt_47b60 S p0 x1 p2 uo → v_J5_putStringAt_47b60 S p0 x1 p2 uo := fun _ _ z => z
  unfold w_J5_putStringAt_47b60 at h
  obtain ⟨Q9, h0, h⟩ := h
  obtain ⟨S2, z9, g9⟩ := ru_J5_inflateIfNeededFor_a7421 h0
  replace h := h S2 g9
  replace K := fun i uo z => K i uo ⟨S2, z9, z⟩
  obtain ⟨g1_, h⟩ := h
  replace K := fun i uo z => K i uo ⟨g1_, z⟩
  obtain ⟨Q9, h0, h⟩ := h
  obtain ⟨S7, z9, g9⟩ := ru_J0_getBytes_840e7 h0
  replace h := h S7 g9
  replace K := fun i uo z => K i uo ⟨S7, z9, z⟩
  exact ⟨_, K i0 _ rfl, h⟩
set_option maxRecDepth 100000 in
theorem vw_J5_putStringAt_47b60 {S : MS} {p0 : Nat} {x1 : Int32} {p2 : Nat} {uo : MS} (h : v_J5_putStringAt_47b60 S p0 x1 p2 uo) : w_J5_putStringAt_47b60 S p0 x1 p2 (fun u => u = uo) := by
  unfold v_J5_putStringAt_47b60 at h
  unfold w_J5_putStringAt_47b60
  obtain ⟨q9, z9, h⟩ := h
  refine ⟨_, vw_J5_inflateIfNeededFor_a7421 z9, ?_⟩
  intro q8 d9
  subst d9
  obtain ⟨g9, h⟩ := h
  refine ⟨g9, ?_⟩
  obtain ⟨q9, z9, h⟩ := h
  refine ⟨_, vw_J0_getBytes_840e7 z9, ?_⟩
  intro q8 d9
  subst d9
  exact h.symm
set_option maxRecDepth 100000 in
theorem vz_J5_putStringAt_47b60 {S : MS} {p0 : Nat} {x1 : Int32} {p2 : Nat} {uo : MS} {Q : MS → Prop} (h : v_J5_putStringAt_47b60 S p0 x1 p2 uo) (w : w_J5_putStringAt_47b60 S p0 x1 p2 Q) : Q uo := by
  unfold v_J5_putStringAt_47b60 at h
  unfold w_J5_putStringAt_47b60 at w
  obtain ⟨q9, z9, h⟩ := h
  obtain ⟨Q9, w0, w⟩ := w
  replace w := w q9 (vz_J5_inflateIfNeededFor_a7421 z9 w0)
  replace h := h.2
  replace w := w.2
  obtain ⟨q9, z9, h⟩ := h
  obtain ⟨Q9, w0, w⟩ := w
  replace w := w q9 (vz_J0_getBytes_840e7 z9 w0)
  rw [h]
  exact w
def v_J5_append_cf1ce (S : MS) (p0 : Nat) (p1 : Nat) (ro : Nat) (uo : MS) : Prop := (∃ a2 : Int32, a2 = (Int32.ofNat (qN S (p1 + 1))) ∧ (∃ (S5 : MS), v_J5_ensureCapacityInternal_d00df S p0 ((qI S p0 3) + a2) S5 ∧ (∃ (S9 : MS), v_J5_putStringAt_47b60 S5 p0 (qI S5 p0 3) p1 S9 ∧ (∃ S12 : MS, S12 = wI S9 p0 3 ((qI S9 p0 3) + a2) ∧ (ro = p0 ∧ uo = S12)))))
set_option maxRecDepth 100000 in
theorem ru_J5_append_cf1ce {S : MS} {p0 : Nat} {p1 : Nat} {Q : Nat → MS → Prop} (h : w_J5_append_cf1ce S p0 p1 Q) : ∃ ro uo, v_J5_append_cf1ce S p0 p1 ro uo ∧ Q ro uo := by
  have i0 : Unit := ()
  have K : ∀ (i : Unit) (ro : Nat) (uo : MS), v_J5_append_cf1ce S p0 p1 ro uo → v_J5_append_cf1ce S p0 p1 ro uo := fun _ _ _ z => z
  unfold w_J5_append_cf1ce at h
  obtain ⟨a2, ea2⟩ : ∃ x9 : Int32, x9 = (Int32.ofNat (qN S (p1 + 1))) := ⟨_, rfl⟩
  replace h := h a2 ea2
  replace K := fun i ro uo z => K i ro uo ⟨a2, ea2, z⟩
  obtain ⟨Q9, h0, h⟩ := h
  obtain ⟨S5, z9, g9⟩ := ru_J5_ensureCapacityInternal_d00df h0
  replace h := h S5 g9
  replace K := fun i ro uo z => K i ro uo ⟨S5, z9, z⟩
  obtain ⟨Q9, h0, h⟩ := h
  obtain ⟨S9, z9, g9⟩ := ru_J5_putStringAt_47b60 h0
  replace h := h S9 g9
  replace K := fun i ro uo z => K i ro uo ⟨S9, z9, z⟩
  obtain ⟨S12, eS12⟩ : ∃ x9 : MS, x9 = wI S9 p0 3 ((qI S9 p0 3) + a2) := ⟨_, rfl⟩
  replace h := h S12 eS12
  replace K := fun i ro uo z => K i ro uo ⟨S12, eS12, z⟩
  exact ⟨_, _, K i0 _ _ ⟨rfl, rfl⟩, h⟩
set_option maxRecDepth 100000 in
theorem vw_J5_append_cf1ce {S : MS} {p0 : Nat} {p1 : Nat} {ro : Nat} {uo : MS} (h : v_J5_append_cf1ce S p0 p1 ro uo) : w_J5_append_cf1ce S p0 p1 (fun r u => r = ro ∧ u = uo) := by
  unfold v_J5_append_cf1ce at h
  unfold w_J5_append_cf1ce
  obtain ⟨v9, e9, h⟩ := h
  intro x9 d9
  have c9 : v9 = x9 := e9.trans d9.symm
  subst c9
  obtain ⟨q9, z9, h⟩ := h
  refine ⟨_, vw_J5_ensureCapacityInternal_d00df z9, ?_⟩
  intro q8 d9
  subst d9
  obtain ⟨q9, z9, h⟩ := h
  refine ⟨_, vw_J5_putStringAt_47b60 z9, ?_⟩
  intro q8 d9
  subst d9
  obtain ⟨v9, e9, h⟩ := h
  intro x9 d9
  have c9 : v9 = x9 := e9.trans d9.symm
  subst c9
  exact ⟨h.1.symm, h.2.symm⟩
set_option maxRecDepth 100000 in
theorem vz_J5_append_cf1ce {S : MS} {p0 : Nat} {p1 : Nat} {ro : Nat} {uo : MS} {Q : Nat → MS → Prop} (h : v_J5_append_cf1ce S p0 p1 ro uo) (w : w_J5_append_cf1ce S p0 p1 Q) : Q ro uo := by
  unfold v_J5_append_cf1ce at h
  unfold w_J5_append_cf1ce at w
  obtain ⟨v9, e9, h⟩ := h
  replace w := w v9 e9
  obtain ⟨q9, z9, h⟩ := h
  obtain ⟨Q9, w0, w⟩ := w
  replace w := w q9 (vz_J5_ensureCapacityInternal_d00df z9 w0)
  obtain ⟨q9, z9, h⟩ := h
  obtain ⟨Q9, w0, w⟩ := w
  replace w := w q9 (vz_J5_putStringAt_47b60 z9 w0)
  obtain ⟨v9, e9, h⟩ := h
  replace w := w v9 e9
  rw [h.1, h.2]
  exact w
def v_J4_append_15ec4 (S : MS) (p0 : Nat) (p1 : Nat) (ro : Nat) (uo : MS) : Prop := (∃ (b6 : Nat) (S3 : MS), v_J5_append_cf1ce S p0 p1 b6 S3 ∧ (ro = p0 ∧ uo = S3))
set_option maxRecDepth 100000 in
theorem ru_J4_append_15ec4 {S : MS} {p0 : Nat} {p1 : Nat} {Q : Nat → MS → Prop} (h : w_J4_append_15ec4 S p0 p1 Q) : ∃ ro uo, v_J4_append_15ec4 S p0 p1 ro uo ∧ Q ro uo := by
  have i0 : Unit := ()
  have K : ∀ (i : Unit) (ro : Nat) (uo : MS), v_J4_append_15ec4 S p0 p1 ro uo → v_J4_append_15ec4 S p0 p1 ro uo := fun _ _ _ z => z
  unfold w_J4_append_15ec4 at h
  obtain ⟨Q9, h0, h⟩ := h
  obtain ⟨b6, S3, z9, g9⟩ := ru_J5_append_cf1ce h0
  replace h := h b6 S3 g9
  replace K := fun i ro uo z => K i ro uo ⟨b6, S3, z9, z⟩
  exact ⟨_, _, K i0 _ _ ⟨rfl, rfl⟩, h⟩
set_option maxRecDepth 100000 in
theorem vw_J4_append_15ec4 {S : MS} {p0 : Nat} {p1 : Nat} {ro : Nat} {uo : MS} (h : v_J4_append_15ec4 S p0 p1 ro uo) : w_J4_append_15ec4 S p0 p1 (fun r u => r = ro ∧ u = uo) := by
  unfold v_J4_append_15ec4 at h
  unfold w_J4_append_15ec4
  obtain ⟨p9, q9, z9, h⟩ := h
  refine ⟨_, vw_J5_append_cf1ce z9, ?_⟩
  rintro p8 q8 ⟨d8, d9⟩
  subst d8
  subst d9
  exact ⟨h.1.symm, h.2.symm⟩
set_option maxRecDepth 100000 in
theorem vz_J4_append_15ec4 {S : MS} {p0 : Nat} {p1 : Nat} {ro : Nat} {uo : MS} {Q : Nat → MS → Prop} (h : v_J4_append_15ec4 S p0 p1 ro uo) (w : w_J4_append_15ec4 S p0 p1 Q) : Q ro uo := by
  unfold v_J4_append_15ec4 at h
  unfold w_J4_append_15ec4 at w
  obtain ⟨p9, q9, z9, h⟩ := h
  obtain ⟨Q9, w0, w⟩ := w
  replace w := w p9 q9 (vz_J5_append_cf1ce z9 w0)
  rw [h.1, h.2]
  exact w
def v_J6_getChars_ba4f3_J104 (ro : Int32) (uo : MS) (U104 : MS) (v104_2 : Nat) (v104_5 : Int32) (v104_6 : Int32) : Prop := ((v104_6.toInt = 0 ∧ (ro = v104_5 ∧ uo = U104)) ∨ (¬ v104_6.toInt = 0 ∧ (∃ a9 : Int32, a9 = (v104_5 + Int32.ofInt (-1)) ∧ (((0 : Int) ≤ a9.toInt ∧ a9.toInt < (qN U104 v104_2 : Int)) ∧ (∃ S11 : MS, S11 = wI U104 v104_2 a9.toInt.toNat (vp_nar .byte (45 : Int32)) ∧ (ro = a9 ∧ uo = S11))))))
def v_J6_getChars_ba4f3_L22 (ro : Int32) (uo : MS) : Nat → MS → Int32 → Nat → Int32 → Int32 → Prop
  | 0, _, _, _, _, _ => False
  | n22 + 1, U22, v22_0, v22_2, v22_5, v22_6 => (((-100) < v22_0.toInt ∧ (∃ a2 : Int32, a2 = (v22_5 + Int32.ofInt (-1)) ∧ (((0 : Int) ≤ (-v22_0).toInt ∧ (-v22_0).toInt < ((100 : Nat) : Int)) ∧ (((0 : Int) ≤ a2.toInt ∧ a2.toInt < (qN U22 v22_2 : Int)) ∧ (∃ S7 : MS, S7 = wI U22 v22_2 a2.toInt.toNat (vp_nar .byte (dgO ((-v22_0).toInt).toNat)) ∧ (((-9) ≤ v22_0.toInt ∧ (v_J6_getChars_ba4f3_J104 ro uo S7 v22_2 a2 v22_6)) ∨ (¬ (-9) ≤ v22_0.toInt ∧ (∃ a13 : Int32, a13 = (a2 + Int32.ofInt (-1)) ∧ (((0 : Int) ≤ (-v22_0).toInt ∧ (-v22_0).toInt < ((100 : Nat) : Int)) ∧ (((0 : Int) ≤ a13.toInt ∧ a13.toInt < (qN S7 v22_2 : Int)) ∧ (∃ S18 : MS, S18 = wI S7 v22_2 a13.toInt.toNat (vp_nar .byte (dgT ((-v22_0).toInt).toNat)) ∧ (v_J6_getChars_ba4f3_J104 ro uo S18 v22_2 a13 v22_6)))))))))))) ∨ (¬ (-100) < v22_0.toInt ∧ (∃ a20 : Int32, a20 = (v22_0 / (100 : Int32)) ∧ (∃ a23 : Int32, a23 = ((a20 * (100 : Int32)) - v22_0) ∧ (∃ a24 : Int32, a24 = (v22_5 + Int32.ofInt (-1)) ∧ (((0 : Int) ≤ a23.toInt ∧ a23.toInt < ((100 : Nat) : Int)) ∧ (((0 : Int) ≤ a24.toInt ∧ a24.toInt < (qN U22 v22_2 : Int)) ∧ (∃ S28 : MS, S28 = wI U22 v22_2 a24.toInt.toNat (vp_nar .byte (dgO a23.toInt.toNat)) ∧ (∃ a29 : Int32, a29 = (a24 + Int32.ofInt (-1)) ∧ (((0 : Int) ≤ a23.toInt ∧ a23.toInt < ((100 : Nat) : Int)) ∧ (((0 : Int) ≤ a29.toInt ∧ a29.toInt < (qN S28 v22_2 : Int)) ∧ (∃ S33 : MS, S33 = wI S28 v22_2 a29.toInt.toNat (vp_nar .byte (dgT a23.toInt.toNat)) ∧ ((v_J6_getChars_ba4f3_L22 ro uo n22) S33 a20 v22_2 a29 v22_6)))))))))))))
def v_J6_getChars_ba4f3_J12 (ro : Int32) (uo : MS) (U12 : MS) (t12_0 : Int32) (v12_0 : Int32) (v12_2 : Nat) (v12_5 : Int32) : Prop := ((t12_0.toInt = 0 ∧ (∃ a36 : Int32, a36 = (-v12_0) ∧ (∃ n, v_J6_getChars_ba4f3_L22 ro uo n U12 a36 v12_2 v12_5 t12_0))) ∨ (¬ t12_0.toInt = 0 ∧ (∃ n, v_J6_getChars_ba4f3_L22 ro uo n U12 v12_0 v12_2 v12_5 t12_0)))
def v_J6_getChars_ba4f3 (S : MS) (x0 : Int32) (x1 : Int32) (p2 : Nat) (ro : Int32) (uo : MS) : Prop := ((0 ≤ x0.toInt ∧ (v_J6_getChars_ba4f3_J12 ro uo S 0 x0 p2 x1)) ∨ (¬ 0 ≤ x0.toInt ∧ (v_J6_getChars_ba4f3_J12 ro uo S 1 x0 p2 x1)))
set_option maxRecDepth 100000 in
theorem ru_J6_getChars_ba4f3_J104 {ι : Type} {P : Int32 → MS → Prop} {Q : Int32 → MS → Prop} {U104 : MS} {v104_2 : Nat} {v104_5 : Int32} {v104_6 : Int32} (i0 : ι) (K : ∀ (i : ι) (ro : Int32) (uo : MS), v_J6_getChars_ba4f3_J104 ro uo U104 v104_2 v104_5 v104_6 → P ro uo) (h : w_J6_getChars_ba4f3_J104 Q U104 v104_2 v104_5 v104_6) : ∃ ro uo, P ro uo ∧ Q ro uo := by
  unfold w_J6_getChars_ba4f3_J104 at h
  by_cases c : v104_6.toInt = 0
  · replace h := h.1 c
    replace K := fun i ro uo z => K i ro uo (Or.inl ⟨c, z⟩)
    exact ⟨_, _, K i0 _ _ ⟨rfl, rfl⟩, h⟩
  · replace h := h.2 c
    replace K := fun i ro uo z => K i ro uo (Or.inr ⟨c, z⟩)
    obtain ⟨a9, ea9⟩ : ∃ x9 : Int32, x9 = (v104_5 + Int32.ofInt (-1)) := ⟨_, rfl⟩
    replace h := h a9 ea9
    replace K := fun i ro uo z => K i ro uo ⟨a9, ea9, z⟩
    obtain ⟨g1_, h⟩ := h
    replace K := fun i ro uo z => K i ro uo ⟨g1_, z⟩
    obtain ⟨S11, eS11⟩ : ∃ x9 : MS, x9 = wI U104 v104_2 a9.toInt.toNat (vp_nar .byte (45 : Int32)) := ⟨_, rfl⟩
    replace h := h S11 eS11
    replace K := fun i ro uo z => K i ro uo ⟨S11, eS11, z⟩
    exact ⟨_, _, K i0 _ _ ⟨rfl, rfl⟩, h⟩
set_option maxRecDepth 100000 in
theorem ru_J6_getChars_ba4f3_L22 {ι : Type} {P : Int32 → MS → Prop} {Q : Int32 → MS → Prop} : ∀ (n : Nat) {U22 : MS} {v22_0 : Int32} {v22_2 : Nat} {v22_5 : Int32} {v22_6 : Int32} (i0 : ι), (∀ (i : ι) (ro : Int32) (uo : MS), (∃ n8, v_J6_getChars_ba4f3_L22 ro uo n8 U22 v22_0 v22_2 v22_5 v22_6) → P ro uo) → w_J6_getChars_ba4f3_L22 Q n U22 v22_0 v22_2 v22_5 v22_6 → ∃ ro uo, P ro uo ∧ Q ro uo := by
  intro n
  induction n with
  | zero => intro U22 v22_0 v22_2 v22_5 v22_6 i0 K h; unfold w_J6_getChars_ba4f3_L22 at h; exact h.elim
  | succ n ih =>
    intro U22 v22_0 v22_2 v22_5 v22_6 i0 K h
    unfold w_J6_getChars_ba4f3_L22 at h
    replace K := fun (i : ι × Nat) ro uo (z : v_J6_getChars_ba4f3_L22 ro uo (i.2 + 1) U22 v22_0 v22_2 v22_5 v22_6) => K i.1 ro uo ⟨i.2 + 1, z⟩
    have i00 := i0
    replace i0 : ι × Nat := (i0, 0)
    by_cases c : (-100) < v22_0.toInt
    · replace h := h.1 c
      replace K := fun i ro uo z => K i ro uo (Or.inl ⟨c, z⟩)
      obtain ⟨a2, ea2⟩ : ∃ x9 : Int32, x9 = (v22_5 + Int32.ofInt (-1)) := ⟨_, rfl⟩
      replace h := h a2 ea2
      replace K := fun i ro uo z => K i ro uo ⟨a2, ea2, z⟩
      obtain ⟨g2_, h⟩ := h
      replace K := fun i ro uo z => K i ro uo ⟨g2_, z⟩
      obtain ⟨g3_, h⟩ := h
      replace K := fun i ro uo z => K i ro uo ⟨g3_, z⟩
      obtain ⟨S7, eS7⟩ : ∃ x9 : MS, x9 = wI U22 v22_2 a2.toInt.toNat (vp_nar .byte (dgO ((-v22_0).toInt).toNat)) := ⟨_, rfl⟩
      replace h := h S7 eS7
      replace K := fun i ro uo z => K i ro uo ⟨S7, eS7, z⟩
      by_cases c : (-9) ≤ v22_0.toInt
      · replace h := h.1 c
        replace K := fun i ro uo z => K i ro uo (Or.inl ⟨c, z⟩)
        exact ru_J6_getChars_ba4f3_J104 i0 K h
      · replace h := h.2 c
        replace K := fun i ro uo z => K i ro uo (Or.inr ⟨c, z⟩)
        obtain ⟨a13, ea13⟩ : ∃ x9 : Int32, x9 = (a2 + Int32.ofInt (-1)) := ⟨_, rfl⟩
        replace h := h a13 ea13
        replace K := fun i ro uo z => K i ro uo ⟨a13, ea13, z⟩
        obtain ⟨g4_, h⟩ := h
        replace K := fun i ro uo z => K i ro uo ⟨g4_, z⟩
        obtain ⟨g5_, h⟩ := h
        replace K := fun i ro uo z => K i ro uo ⟨g5_, z⟩
        obtain ⟨S18, eS18⟩ : ∃ x9 : MS, x9 = wI S7 v22_2 a13.toInt.toNat (vp_nar .byte (dgT ((-v22_0).toInt).toNat)) := ⟨_, rfl⟩
        replace h := h S18 eS18
        replace K := fun i ro uo z => K i ro uo ⟨S18, eS18, z⟩
        exact ru_J6_getChars_ba4f3_J104 i0 K h
    · replace h := h.2 c
      replace K := fun i ro uo z => K i ro uo (Or.inr ⟨c, z⟩)
      obtain ⟨a20, ea20⟩ : ∃ x9 : Int32, x9 = (v22_0 / (100 : Int32)) := ⟨_, rfl⟩
      replace h := h a20 ea20
      replace K := fun i ro uo z => K i ro uo ⟨a20, ea20, z⟩
      obtain ⟨a23, ea23⟩ : ∃ x9 : Int32, x9 = ((a20 * (100 : Int32)) - v22_0) := ⟨_, rfl⟩
      replace h := h a23 ea23
      replace K := fun i ro uo z => K i ro uo ⟨a23, ea23, z⟩
      obtain ⟨a24, ea24⟩ : ∃ x9 : Int32, x9 = (v22_5 + Int32.ofInt (-1)) := ⟨_, rfl⟩
      replace h := h a24 ea24
      replace K := fun i ro uo z => K i ro uo ⟨a24, ea24, z⟩
      obtain ⟨g6_, h⟩ := h
      replace K := fun i ro uo z => K i ro uo ⟨g6_, z⟩
      obtain ⟨g7_, h⟩ := h
      replace K := fun i ro uo z => K i ro uo ⟨g7_, z⟩
      obtain ⟨S28, eS28⟩ : ∃ x9 : MS, x9 = wI U22 v22_2 a24.toInt.toNat (vp_nar .byte (dgO a23.toInt.toNat)) := ⟨_, rfl⟩
      replace h := h S28 eS28
      replace K := fun i ro uo z => K i ro uo ⟨S28, eS28, z⟩
      obtain ⟨a29, ea29⟩ : ∃ x9 : Int32, x9 = (a24 + Int32.ofInt (-1)) := ⟨_, rfl⟩
      replace h := h a29 ea29
      replace K := fun i ro uo z => K i ro uo ⟨a29, ea29, z⟩
      obtain ⟨g8_, h⟩ := h
      replace K := fun i ro uo z => K i ro uo ⟨g8_, z⟩
      obtain ⟨g9_, h⟩ := h
      replace K := fun i ro uo z => K i ro uo ⟨g9_, z⟩
      obtain ⟨S33, eS33⟩ : ∃ x9 : MS, x9 = wI S28 v22_2 a29.toInt.toNat (vp_nar .byte (dgT a23.toInt.toNat)) := ⟨_, rfl⟩
      replace h := h S33 eS33
      replace K := fun i ro uo z => K i ro uo ⟨S33, eS33, z⟩
      exact ih i00 (fun i ro uo ⟨n8, z⟩ => K (i, n8) ro uo z) h
set_option maxRecDepth 100000 in
theorem ru_J6_getChars_ba4f3_J12 {ι : Type} {P : Int32 → MS → Prop} {Q : Int32 → MS → Prop} {U12 : MS} {t12_0 : Int32} {v12_0 : Int32} {v12_2 : Nat} {v12_5 : Int32} (i0 : ι) (K : ∀ (i : ι) (ro : Int32) (uo : MS), v_J6_getChars_ba4f3_J12 ro uo U12 t12_0 v12_0 v12_2 v12_5 → P ro uo) (h : w_J6_getChars_ba4f3_J12 Q U12 t12_0 v12_0 v12_2 v12_5) : ∃ ro uo, P ro uo ∧ Q ro uo := by
  unfold w_J6_getChars_ba4f3_J12 at h
  by_cases c : t12_0.toInt = 0
  · replace h := h.1 c
    replace K := fun i ro uo z => K i ro uo (Or.inl ⟨c, z⟩)
    obtain ⟨a36, ea36⟩ : ∃ x9 : Int32, x9 = (-v12_0) := ⟨_, rfl⟩
    replace h := h a36 ea36
    replace K := fun i ro uo z => K i ro uo ⟨a36, ea36, z⟩
    obtain ⟨n9, h⟩ := h
    exact ru_J6_getChars_ba4f3_L22 n9 i0 K h
  · replace h := h.2 c
    replace K := fun i ro uo z => K i ro uo (Or.inr ⟨c, z⟩)
    obtain ⟨n9, h⟩ := h
    exact ru_J6_getChars_ba4f3_L22 n9 i0 K h
set_option maxRecDepth 100000 in
theorem ru_J6_getChars_ba4f3 {S : MS} {x0 : Int32} {x1 : Int32} {p2 : Nat} {Q : Int32 → MS → Prop} (h : w_J6_getChars_ba4f3 S x0 x1 p2 Q) : ∃ ro uo, v_J6_getChars_ba4f3 S x0 x1 p2 ro uo ∧ Q ro uo := by
  have i0 : Unit := ()
  have K : ∀ (i : Unit) (ro : Int32) (uo : MS), v_J6_getChars_ba4f3 S x0 x1 p2 ro uo → v_J6_getChars_ba4f3 S x0 x1 p2 ro uo := fun _ _ _ z => z
  unfold w_J6_getChars_ba4f3 at h
  by_cases c : 0 ≤ x0.toInt
  · replace h := h.1 c
    replace K := fun i ro uo z => K i ro uo (Or.inl ⟨c, z⟩)
    exact ru_J6_getChars_ba4f3_J12 i0 K h
  · replace h := h.2 c
    replace K := fun i ro uo z => K i ro uo (Or.inr ⟨c, z⟩)
    exact ru_J6_getChars_ba4f3_J12 i0 K h
set_option maxRecDepth 100000 in
theorem vw_J6_getChars_ba4f3_J104 {ro : Int32} {uo : MS} {U104 : MS} {v104_2 : Nat} {v104_5 : Int32} {v104_6 : Int32} (h : v_J6_getChars_ba4f3_J104 ro uo U104 v104_2 v104_5 v104_6) : w_J6_getChars_ba4f3_J104 (fun r u => r = ro ∧ u = uo) U104 v104_2 v104_5 v104_6 := by
  unfold v_J6_getChars_ba4f3_J104 at h
  unfold w_J6_getChars_ba4f3_J104
  rcases h with ⟨c, h⟩ | ⟨c, h⟩
  · refine ⟨fun _ => ?_, fun c2 => absurd c c2⟩
    exact ⟨h.1.symm, h.2.symm⟩
  · refine ⟨fun c2 => absurd c2 c, fun _ => ?_⟩
    obtain ⟨v9, e9, h⟩ := h
    intro x9 d9
    have c9 : v9 = x9 := e9.trans d9.symm
    subst c9
    obtain ⟨g9, h⟩ := h
    refine ⟨g9, ?_⟩
    obtain ⟨v9, e9, h⟩ := h
    intro x9 d9
    have c9 : v9 = x9 := e9.trans d9.symm
    subst c9
    exact ⟨h.1.symm, h.2.symm⟩
set_option maxRecDepth 100000 in
theorem vz_J6_getChars_ba4f3_J104 {ro : Int32} {uo : MS} {Q : Int32 → MS → Prop} {U104 : MS} {v104_2 : Nat} {v104_5 : Int32} {v104_6 : Int32} (h : v_J6_getChars_ba4f3_J104 ro uo U104 v104_2 v104_5 v104_6) (w : w_J6_getChars_ba4f3_J104 Q U104 v104_2 v104_5 v104_6) : Q ro uo := by
  unfold v_J6_getChars_ba4f3_J104 at h
  unfold w_J6_getChars_ba4f3_J104 at w
  rcases h with ⟨c, h⟩ | ⟨c, h⟩
  · replace w := w.1 c
    rw [h.1, h.2]
    exact w
  · replace w := w.2 c
    obtain ⟨v9, e9, h⟩ := h
    replace w := w v9 e9
    replace h := h.2
    replace w := w.2
    obtain ⟨v9, e9, h⟩ := h
    replace w := w v9 e9
    rw [h.1, h.2]
    exact w
set_option maxRecDepth 100000 in
theorem vw_J6_getChars_ba4f3_L22 {ro : Int32} {uo : MS} : ∀ (n : Nat) {U22 : MS} {v22_0 : Int32} {v22_2 : Nat} {v22_5 : Int32} {v22_6 : Int32}, v_J6_getChars_ba4f3_L22 ro uo n U22 v22_0 v22_2 v22_5 v22_6 → w_J6_getChars_ba4f3_L22 (fun r u => r = ro ∧ u = uo) n U22 v22_0 v22_2 v22_5 v22_6 := by
  intro n
  induction n with
  | zero => intro U22 v22_0 v22_2 v22_5 v22_6 h; unfold v_J6_getChars_ba4f3_L22 at h; exact h.elim
  | succ n ih =>
    intro U22 v22_0 v22_2 v22_5 v22_6 h
    unfold v_J6_getChars_ba4f3_L22 at h
    unfold w_J6_getChars_ba4f3_L22
    rcases h with ⟨c, h⟩ | ⟨c, h⟩
    · refine ⟨fun _ => ?_, fun c2 => absurd c c2⟩
      obtain ⟨v9, e9, h⟩ := h
      intro x9 d9
      have c9 : v9 = x9 := e9.trans d9.symm
      subst c9
      obtain ⟨g9, h⟩ := h
      refine ⟨g9, ?_⟩
      obtain ⟨g9, h⟩ := h
      refine ⟨g9, ?_⟩
      obtain ⟨v9, e9, h⟩ := h
      intro x9 d9
      have c9 : v9 = x9 := e9.trans d9.symm
      subst c9
      rcases h with ⟨c, h⟩ | ⟨c, h⟩
      · refine ⟨fun _ => ?_, fun c2 => absurd c c2⟩
        exact vw_J6_getChars_ba4f3_J104 h
      · refine ⟨fun c2 => absurd c2 c, fun _ => ?_⟩
        obtain ⟨v9, e9, h⟩ := h
        intro x9 d9
        have c9 : v9 = x9 := e9.trans d9.symm
        subst c9
        obtain ⟨g9, h⟩ := h
        refine ⟨g9, ?_⟩
        obtain ⟨g9, h⟩ := h
        refine ⟨g9, ?_⟩
        obtain ⟨v9, e9, h⟩ := h
        intro x9 d9
        have c9 : v9 = x9 := e9.trans d9.symm
        subst c9
        exact vw_J6_getChars_ba4f3_J104 h
    · refine ⟨fun c2 => absurd c2 c, fun _ => ?_⟩
      obtain ⟨v9, e9, h⟩ := h
      intro x9 d9
      have c9 : v9 = x9 := e9.trans d9.symm
      subst c9
      obtain ⟨v9, e9, h⟩ := h
      intro x9 d9
      have c9 : v9 = x9 := e9.trans d9.symm
      subst c9
      obtain ⟨v9, e9, h⟩ := h
      intro x9 d9
      have c9 : v9 = x9 := e9.trans d9.symm
      subst c9
      obtain ⟨g9, h⟩ := h
      refine ⟨g9, ?_⟩
      obtain ⟨g9, h⟩ := h
      refine ⟨g9, ?_⟩
      obtain ⟨v9, e9, h⟩ := h
      intro x9 d9
      have c9 : v9 = x9 := e9.trans d9.symm
      subst c9
      obtain ⟨v9, e9, h⟩ := h
      intro x9 d9
      have c9 : v9 = x9 := e9.trans d9.symm
      subst c9
      obtain ⟨g9, h⟩ := h
      refine ⟨g9, ?_⟩
      obtain ⟨g9, h⟩ := h
      refine ⟨g9, ?_⟩
      obtain ⟨v9, e9, h⟩ := h
      intro x9 d9
      have c9 : v9 = x9 := e9.trans d9.symm
      subst c9
      exact ih h
set_option maxRecDepth 100000 in
theorem vz_J6_getChars_ba4f3_L22 {ro : Int32} {uo : MS} {Q : Int32 → MS → Prop} : ∀ (n m : Nat) {U22 : MS} {v22_0 : Int32} {v22_2 : Nat} {v22_5 : Int32} {v22_6 : Int32}, v_J6_getChars_ba4f3_L22 ro uo n U22 v22_0 v22_2 v22_5 v22_6 → w_J6_getChars_ba4f3_L22 Q m U22 v22_0 v22_2 v22_5 v22_6 → Q ro uo := by
  intro n
  induction n with
  | zero => intro m U22 v22_0 v22_2 v22_5 v22_6 h; unfold v_J6_getChars_ba4f3_L22 at h; exact h.elim
  | succ n ih =>
    intro m U22 v22_0 v22_2 v22_5 v22_6 h w
    cases m with
    | zero => unfold w_J6_getChars_ba4f3_L22 at w; exact w.elim
    | succ m =>
      unfold v_J6_getChars_ba4f3_L22 at h
      unfold w_J6_getChars_ba4f3_L22 at w
      rcases h with ⟨c, h⟩ | ⟨c, h⟩
      · replace w := w.1 c
        obtain ⟨v9, e9, h⟩ := h
        replace w := w v9 e9
        replace h := h.2
        replace w := w.2
        replace h := h.2
        replace w := w.2
        obtain ⟨v9, e9, h⟩ := h
        replace w := w v9 e9
        rcases h with ⟨c, h⟩ | ⟨c, h⟩
        · replace w := w.1 c
          exact vz_J6_getChars_ba4f3_J104 h w
        · replace w := w.2 c
          obtain ⟨v9, e9, h⟩ := h
          replace w := w v9 e9
          replace h := h.2
          replace w := w.2
          replace h := h.2
          replace w := w.2
          obtain ⟨v9, e9, h⟩ := h
          replace w := w v9 e9
          exact vz_J6_getChars_ba4f3_J104 h w
      · replace w := w.2 c
        obtain ⟨v9, e9, h⟩ := h
        replace w := w v9 e9
        obtain ⟨v9, e9, h⟩ := h
        replace w := w v9 e9
        obtain ⟨v9, e9, h⟩ := h
        replace w := w v9 e9
        replace h := h.2
        replace w := w.2
        replace h := h.2
        replace w := w.2
        obtain ⟨v9, e9, h⟩ := h
        replace w := w v9 e9
        obtain ⟨v9, e9, h⟩ := h
        replace w := w v9 e9
        replace h := h.2
        replace w := w.2
        replace h := h.2
        replace w := w.2
        obtain ⟨v9, e9, h⟩ := h
        replace w := w v9 e9
        exact ih m h w
set_option maxRecDepth 100000 in
theorem vw_J6_getChars_ba4f3_J12 {ro : Int32} {uo : MS} {U12 : MS} {t12_0 : Int32} {v12_0 : Int32} {v12_2 : Nat} {v12_5 : Int32} (h : v_J6_getChars_ba4f3_J12 ro uo U12 t12_0 v12_0 v12_2 v12_5) : w_J6_getChars_ba4f3_J12 (fun r u => r = ro ∧ u = uo) U12 t12_0 v12_0 v12_2 v12_5 := by
  unfold v_J6_getChars_ba4f3_J12 at h
  unfold w_J6_getChars_ba4f3_J12
  rcases h with ⟨c, h⟩ | ⟨c, h⟩
  · refine ⟨fun _ => ?_, fun c2 => absurd c c2⟩
    obtain ⟨v9, e9, h⟩ := h
    intro x9 d9
    have c9 : v9 = x9 := e9.trans d9.symm
    subst c9
    obtain ⟨n9, h⟩ := h
    exact ⟨n9, vw_J6_getChars_ba4f3_L22 n9 h⟩
  · refine ⟨fun c2 => absurd c2 c, fun _ => ?_⟩
    obtain ⟨n9, h⟩ := h
    exact ⟨n9, vw_J6_getChars_ba4f3_L22 n9 h⟩
set_option maxRecDepth 100000 in
theorem vz_J6_getChars_ba4f3_J12 {ro : Int32} {uo : MS} {Q : Int32 → MS → Prop} {U12 : MS} {t12_0 : Int32} {v12_0 : Int32} {v12_2 : Nat} {v12_5 : Int32} (h : v_J6_getChars_ba4f3_J12 ro uo U12 t12_0 v12_0 v12_2 v12_5) (w : w_J6_getChars_ba4f3_J12 Q U12 t12_0 v12_0 v12_2 v12_5) : Q ro uo := by
  unfold v_J6_getChars_ba4f3_J12 at h
  unfold w_J6_getChars_ba4f3_J12 at w
  rcases h with ⟨c, h⟩ | ⟨c, h⟩
  · replace w := w.1 c
    obtain ⟨v9, e9, h⟩ := h
    replace w := w v9 e9
    obtain ⟨n9, h⟩ := h
    obtain ⟨n8, w⟩ := w
    exact vz_J6_getChars_ba4f3_L22 n9 n8 h w
  · replace w := w.2 c
    obtain ⟨n9, h⟩ := h
    obtain ⟨n8, w⟩ := w
    exact vz_J6_getChars_ba4f3_L22 n9 n8 h w
set_option maxRecDepth 100000 in
theorem vw_J6_getChars_ba4f3 {S : MS} {x0 : Int32} {x1 : Int32} {p2 : Nat} {ro : Int32} {uo : MS} (h : v_J6_getChars_ba4f3 S x0 x1 p2 ro uo) : w_J6_getChars_ba4f3 S x0 x1 p2 (fun r u => r = ro ∧ u = uo) := by
  unfold v_J6_getChars_ba4f3 at h
  unfold w_J6_getChars_ba4f3
  rcases h with ⟨c, h⟩ | ⟨c, h⟩
  · refine ⟨fun _ => ?_, fun c2 => absurd c c2⟩
    exact vw_J6_getChars_ba4f3_J12 h
  · refine ⟨fun c2 => absurd c2 c, fun _ => ?_⟩
    exact vw_J6_getChars_ba4f3_J12 h
set_option maxRecDepth 100000 in
theorem vz_J6_getChars_ba4f3 {S : MS} {x0 : Int32} {x1 : Int32} {p2 : Nat} {ro : Int32} {uo : MS} {Q : Int32 → MS → Prop} (h : v_J6_getChars_ba4f3 S x0 x1 p2 ro uo) (w : w_J6_getChars_ba4f3 S x0 x1 p2 Q) : Q ro uo := by
  unfold v_J6_getChars_ba4f3 at h
  unfold w_J6_getChars_ba4f3 at w
  rcases h with ⟨c, h⟩ | ⟨c, h⟩
  · replace w := w.1 c
    exact vz_J6_getChars_ba4f3_J12 h w
  · replace w := w.2 c
    exact vz_J6_getChars_ba4f3_J12 h w
def v_J6_stringSize_0f7a4_L16 (ro : Int32) (uo : MS) : Nat → MS → Int32 → Int32 → Int32 → Int32 → Prop
  | 0, _, _, _, _, _ => False
  | n16 + 1, U16, v16_0, v16_1, v16_2, v16_3 => ((10 ≤ v16_3.toInt ∧ (ro = ((10 : Int32) + v16_1) ∧ uo = U16)) ∨ (¬ 10 ≤ v16_3.toInt ∧ ((v16_0.toInt ≤ v16_2.toInt ∧ (∃ a5 : Int32, a5 = ((10 : Int32) * v16_2) ∧ (∃ a6 : Int32, a6 = (v16_3 + Int32.ofInt 1) ∧ ((v_J6_stringSize_0f7a4_L16 ro uo n16) U16 v16_0 v16_1 a5 a6)))) ∨ (¬ v16_0.toInt ≤ v16_2.toInt ∧ (ro = (v16_3 + v16_1) ∧ uo = U16)))))
def v_J6_stringSize_0f7a4_J11 (ro : Int32) (uo : MS) (U11 : MS) (v11_0 : Int32) (v11_1 : Int32) : Prop := (∃ n, v_J6_stringSize_0f7a4_L16 ro uo n U11 v11_0 v11_1 (-10) 1)
def v_J6_stringSize_0f7a4 (S : MS) (x0 : Int32) (ro : Int32) (uo : MS) : Prop := ((x0.toInt < 0 ∧ (v_J6_stringSize_0f7a4_J11 ro uo S x0 1)) ∨ (¬ x0.toInt < 0 ∧ (∃ a10 : Int32, a10 = (-x0) ∧ (v_J6_stringSize_0f7a4_J11 ro uo S a10 0))))
set_option maxRecDepth 100000 in
theorem ru_J6_stringSize_0f7a4_L16 {ι : Type} {P : Int32 → MS → Prop} {Q : Int32 → MS → Prop} : ∀ (n : Nat) {U16 : MS} {v16_0 : Int32} {v16_1 : Int32} {v16_2 : Int32} {v16_3 : Int32} (i0 : ι), (∀ (i : ι) (ro : Int32) (uo : MS), (∃ n8, v_J6_stringSize_0f7a4_L16 ro uo n8 U16 v16_0 v16_1 v16_2 v16_3) → P ro uo) → w_J6_stringSize_0f7a4_L16 Q n U16 v16_0 v16_1 v16_2 v16_3 → ∃ ro uo, P ro uo ∧ Q ro uo := by
  intro n
  induction n with
  | zero => intro U16 v16_0 v16_1 v16_2 v16_3 i0 K h; unfold w_J6_stringSize_0f7a4_L16 at h; exact h.elim
  | succ n ih =>
    intro U16 v16_0 v16_1 v16_2 v16_3 i0 K h
    unfold w_J6_stringSize_0f7a4_L16 at h
    replace K := fun (i : ι × Nat) ro uo (z : v_J6_stringSize_0f7a4_L16 ro uo (i.2 + 1) U16 v16_0 v16_1 v16_2 v16_3) => K i.1 ro uo ⟨i.2 + 1, z⟩
    have i00 := i0
    replace i0 : ι × Nat := (i0, 0)
    by_cases c : 10 ≤ v16_3.toInt
    · replace h := h.1 c
      replace K := fun i ro uo z => K i ro uo (Or.inl ⟨c, z⟩)
      exact ⟨_, _, K i0 _ _ ⟨rfl, rfl⟩, h⟩
    · replace h := h.2 c
      replace K := fun i ro uo z => K i ro uo (Or.inr ⟨c, z⟩)
      by_cases c : v16_0.toInt ≤ v16_2.toInt
      · replace h := h.1 c
        replace K := fun i ro uo z => K i ro uo (Or.inl ⟨c, z⟩)
        obtain ⟨a5, ea5⟩ : ∃ x9 : Int32, x9 = ((10 : Int32) * v16_2) := ⟨_, rfl⟩
        replace h := h a5 ea5
        replace K := fun i ro uo z => K i ro uo ⟨a5, ea5, z⟩
        obtain ⟨a6, ea6⟩ : ∃ x9 : Int32, x9 = (v16_3 + Int32.ofInt 1) := ⟨_, rfl⟩
        replace h := h a6 ea6
        replace K := fun i ro uo z => K i ro uo ⟨a6, ea6, z⟩
        exact ih i00 (fun i ro uo ⟨n8, z⟩ => K (i, n8) ro uo z) h
      · replace h := h.2 c
        replace K := fun i ro uo z => K i ro uo (Or.inr ⟨c, z⟩)
        exact ⟨_, _, K i0 _ _ ⟨rfl, rfl⟩, h⟩
set_option maxRecDepth 100000 in
theorem ru_J6_stringSize_0f7a4_J11 {ι : Type} {P : Int32 → MS → Prop} {Q : Int32 → MS → Prop} {U11 : MS} {v11_0 : Int32} {v11_1 : Int32} (i0 : ι) (K : ∀ (i : ι) (ro : Int32) (uo : MS), v_J6_stringSize_0f7a4_J11 ro uo U11 v11_0 v11_1 → P ro uo) (h : w_J6_stringSize_0f7a4_J11 Q U11 v11_0 v11_1) : ∃ ro uo, P ro uo ∧ Q ro uo := by
  unfold w_J6_stringSize_0f7a4_J11 at h
  obtain ⟨n9, h⟩ := h
  exact ru_J6_stringSize_0f7a4_L16 n9 i0 K h
set_option maxRecDepth 100000 in
theorem ru_J6_stringSize_0f7a4 {S : MS} {x0 : Int32} {Q : Int32 → MS → Prop} (h : w_J6_stringSize_0f7a4 S x0 Q) : ∃ ro uo, v_J6_stringSize_0f7a4 S x0 ro uo ∧ Q ro uo := by
  have i0 : Unit := ()
  have K : ∀ (i : Unit) (ro : Int32) (uo : MS), v_J6_stringSize_0f7a4 S x0 ro uo → v_J6_stringSize_0f7a4 S x0 ro uo := fun _ _ _ z => z
  unfold w_J6_stringSize_0f7a4 at h
  by_cases c : x0.toInt < 0
  · replace h := h.1 c
    replace K := fun i ro uo z => K i ro uo (Or.inl ⟨c, z⟩)
    exact ru_J6_stringSize_0f7a4_J11 i0 K h
  · replace h := h.2 c
    replace K := fun i ro uo z => K i ro uo (Or.inr ⟨c, z⟩)
    obtain ⟨a10, ea10⟩ : ∃ x9 : Int32, x9 = (-x0) := ⟨_, rfl⟩
    replace h := h a10 ea10
    replace K := fun i ro uo z => K i ro uo ⟨a10, ea10, z⟩
    exact ru_J6_stringSize_0f7a4_J11 i0 K h
set_option maxRecDepth 100000 in
theorem vw_J6_stringSize_0f7a4_L16 {ro : Int32} {uo : MS} : ∀ (n : Nat) {U16 : MS} {v16_0 : Int32} {v16_1 : Int32} {v16_2 : Int32} {v16_3 : Int32}, v_J6_stringSize_0f7a4_L16 ro uo n U16 v16_0 v16_1 v16_2 v16_3 → w_J6_stringSize_0f7a4_L16 (fun r u => r = ro ∧ u = uo) n U16 v16_0 v16_1 v16_2 v16_3 := by
  intro n
  induction n with
  | zero => intro U16 v16_0 v16_1 v16_2 v16_3 h; unfold v_J6_stringSize_0f7a4_L16 at h; exact h.elim
  | succ n ih =>
    intro U16 v16_0 v16_1 v16_2 v16_3 h
    unfold v_J6_stringSize_0f7a4_L16 at h
    unfold w_J6_stringSize_0f7a4_L16
    rcases h with ⟨c, h⟩ | ⟨c, h⟩
    · refine ⟨fun _ => ?_, fun c2 => absurd c c2⟩
      exact ⟨h.1.symm, h.2.symm⟩
    · refine ⟨fun c2 => absurd c2 c, fun _ => ?_⟩
      rcases h with ⟨c, h⟩ | ⟨c, h⟩
      · refine ⟨fun _ => ?_, fun c2 => absurd c c2⟩
        obtain ⟨v9, e9, h⟩ := h
        intro x9 d9
        have c9 : v9 = x9 := e9.trans d9.symm
        subst c9
        obtain ⟨v9, e9, h⟩ := h
        intro x9 d9
        have c9 : v9 = x9 := e9.trans d9.symm
        subst c9
        exact ih h
      · refine ⟨fun c2 => absurd c2 c, fun _ => ?_⟩
        exact ⟨h.1.symm, h.2.symm⟩
set_option maxRecDepth 100000 in
theorem vz_J6_stringSize_0f7a4_L16 {ro : Int32} {uo : MS} {Q : Int32 → MS → Prop} : ∀ (n m : Nat) {U16 : MS} {v16_0 : Int32} {v16_1 : Int32} {v16_2 : Int32} {v16_3 : Int32}, v_J6_stringSize_0f7a4_L16 ro uo n U16 v16_0 v16_1 v16_2 v16_3 → w_J6_stringSize_0f7a4_L16 Q m U16 v16_0 v16_1 v16_2 v16_3 → Q ro uo := by
  intro n
  induction n with
  | zero => intro m U16 v16_0 v16_1 v16_2 v16_3 h; unfold v_J6_stringSize_0f7a4_L16 at h; exact h.elim
  | succ n ih =>
    intro m U16 v16_0 v16_1 v16_2 v16_3 h w
    cases m with
    | zero => unfold w_J6_stringSize_0f7a4_L16 at w; exact w.elim
    | succ m =>
      unfold v_J6_stringSize_0f7a4_L16 at h
      unfold w_J6_stringSize_0f7a4_L16 at w
      rcases h with ⟨c, h⟩ | ⟨c, h⟩
      · replace w := w.1 c
        rw [h.1, h.2]
        exact w
      · replace w := w.2 c
        rcases h with ⟨c, h⟩ | ⟨c, h⟩
        · replace w := w.1 c
          obtain ⟨v9, e9, h⟩ := h
          replace w := w v9 e9
          obtain ⟨v9, e9, h⟩ := h
          replace w := w v9 e9
          exact ih m h w
        · replace w := w.2 c
          rw [h.1, h.2]
          exact w
set_option maxRecDepth 100000 in
theorem vw_J6_stringSize_0f7a4_J11 {ro : Int32} {uo : MS} {U11 : MS} {v11_0 : Int32} {v11_1 : Int32} (h : v_J6_stringSize_0f7a4_J11 ro uo U11 v11_0 v11_1) : w_J6_stringSize_0f7a4_J11 (fun r u => r = ro ∧ u = uo) U11 v11_0 v11_1 := by
  unfold v_J6_stringSize_0f7a4_J11 at h
  unfold w_J6_stringSize_0f7a4_J11
  obtain ⟨n9, h⟩ := h
  exact ⟨n9, vw_J6_stringSize_0f7a4_L16 n9 h⟩
set_option maxRecDepth 100000 in
theorem vz_J6_stringSize_0f7a4_J11 {ro : Int32} {uo : MS} {Q : Int32 → MS → Prop} {U11 : MS} {v11_0 : Int32} {v11_1 : Int32} (h : v_J6_stringSize_0f7a4_J11 ro uo U11 v11_0 v11_1) (w : w_J6_stringSize_0f7a4_J11 Q U11 v11_0 v11_1) : Q ro uo := by
  unfold v_J6_stringSize_0f7a4_J11 at h
  unfold w_J6_stringSize_0f7a4_J11 at w
  obtain ⟨n9, h⟩ := h
  obtain ⟨n8, w⟩ := w
  exact vz_J6_stringSize_0f7a4_L16 n9 n8 h w
set_option maxRecDepth 100000 in
theorem vw_J6_stringSize_0f7a4 {S : MS} {x0 : Int32} {ro : Int32} {uo : MS} (h : v_J6_stringSize_0f7a4 S x0 ro uo) : w_J6_stringSize_0f7a4 S x0 (fun r u => r = ro ∧ u = uo) := by
  unfold v_J6_stringSize_0f7a4 at h
  unfold w_J6_stringSize_0f7a4
  rcases h with ⟨c, h⟩ | ⟨c, h⟩
  · refine ⟨fun _ => ?_, fun c2 => absurd c c2⟩
    exact vw_J6_stringSize_0f7a4_J11 h
  · refine ⟨fun c2 => absurd c2 c, fun _ => ?_⟩
    obtain ⟨v9, e9, h⟩ := h
    intro x9 d9
    have c9 : v9 = x9 := e9.trans d9.symm
    subst c9
    exact vw_J6_stringSize_0f7a4_J11 h
set_option maxRecDepth 100000 in
theorem vz_J6_stringSize_0f7a4 {S : MS} {x0 : Int32} {ro : Int32} {uo : MS} {Q : Int32 → MS → Prop} (h : v_J6_stringSize_0f7a4 S x0 ro uo) (w : w_J6_stringSize_0f7a4 S x0 Q) : Q ro uo := by
  unfold v_J6_stringSize_0f7a4 at h
  unfold w_J6_stringSize_0f7a4 at w
  rcases h with ⟨c, h⟩ | ⟨c, h⟩
  · replace w := w.1 c
    exact vz_J6_stringSize_0f7a4_J11 h w
  · replace w := w.2 c
    obtain ⟨v9, e9, h⟩ := h
    replace w := w v9 e9
    exact vz_J6_stringSize_0f7a4_J11 h w
def v_J5_append_c97b9 (S : MS) (p0 : Nat) (x1 : Int32) (ro : Nat) (uo : MS) : Prop := (∃ a1 : Int32, a1 = (qI S p0 3) ∧ (∃ (r3 : Int32) (S4 : MS), v_J6_stringSize_0f7a4 S x1 r3 S4 ∧ (∃ a7 : Int32, a7 = (a1 + r3) ∧ (∃ (S9 : MS), v_J5_ensureCapacityInternal_d00df S4 p0 a7 S9 ∧ (d_J5_isLatin1_aae02 S9 p0 ∧ (((f_J5_isLatin1_aae02 S9 p0).toInt = 0 ∧ False) ∨ (¬ (f_J5_isLatin1_aae02 S9 p0).toInt = 0 ∧ ((qR S9 p0 0 = some (qO S9 p0 0)) ∧ (∃ (r19 : Int32) (S20 : MS), v_J6_getChars_ba4f3 S9 x1 a7 (qO S9 p0 0) r19 S20 ∧ (∃ S22 : MS, S22 = wI S20 p0 3 a7 ∧ (ro = p0 ∧ uo = S22)))))))))))
set_option maxRecDepth 100000 in
theorem ru_J5_append_c97b9 {S : MS} {p0 : Nat} {x1 : Int32} {Q : Nat → MS → Prop} (h : w_J5_append_c97b9 S p0 x1 Q) : ∃ ro uo, v_J5_append_c97b9 S p0 x1 ro uo ∧ Q ro uo := by
  have i0 : Unit := ()
  have K : ∀ (i : Unit) (ro : Nat) (uo : MS), v_J5_append_c97b9 S p0 x1 ro uo → v_J5_append_c97b9 S p0 x1 ro uo := fun _ _ _ z => z
  unfold w_J5_append_c97b9 at h
  obtain ⟨a1, ea1⟩ : ∃ x9 : Int32, x9 = (qI S p0 3) := ⟨_, rfl⟩
  replace h := h a1 ea1
  replace K := fun i ro uo z => K i ro uo ⟨a1, ea1, z⟩
  obtain ⟨Q9, h0, h⟩ := h
  obtain ⟨r3, S4, z9, g9⟩ := ru_J6_stringSize_0f7a4 h0
  replace h := h r3 S4 g9
  replace K := fun i ro uo z => K i ro uo ⟨r3, S4, z9, z⟩
  obtain ⟨a7, ea7⟩ : ∃ x9 : Int32, x9 = (a1 + r3) := ⟨_, rfl⟩
  replace h := h a7 ea7
  replace K := fun i ro uo z => K i ro uo ⟨a7, ea7, z⟩
  obtain ⟨Q9, h0, h⟩ := h
  obtain ⟨S9, z9, g9⟩ := ru_J5_ensureCapacityInternal_d00df h0
  replace h := h S9 g9
  replace K := fun i ro uo z => K i ro uo ⟨S9, z9, z⟩
  obtain ⟨g1_, h⟩ := h
  replace K := fun i ro uo z => K i ro uo ⟨g1_, z⟩
  by_cases c : (f_J5_isLatin1_aae02 S9 p0).toInt = 0
  · replace h := h.1 c
    replace K := fun i ro uo z => K i ro uo (Or.inl ⟨c, z⟩)
    exact h.elim
  · replace h := h.2 c
    replace K := fun i ro uo z => K i ro uo (Or.inr ⟨c, z⟩)
    obtain ⟨g2_, h⟩ := h
    replace K := fun i ro uo z => K i ro uo ⟨g2_, z⟩
    obtain ⟨Q9, h0, h⟩ := h
    obtain ⟨r19, S20, z9, g9⟩ := ru_J6_getChars_ba4f3 h0
    replace h := h r19 S20 g9
    replace K := fun i ro uo z => K i ro uo ⟨r19, S20, z9, z⟩
    obtain ⟨S22, eS22⟩ : ∃ x9 : MS, x9 = wI S20 p0 3 a7 := ⟨_, rfl⟩
    replace h := h S22 eS22
    replace K := fun i ro uo z => K i ro uo ⟨S22, eS22, z⟩
    exact ⟨_, _, K i0 _ _ ⟨rfl, rfl⟩, h⟩
set_option maxRecDepth 100000 in
theorem vw_J5_append_c97b9 {S : MS} {p0 : Nat} {x1 : Int32} {ro : Nat} {uo : MS} (h : v_J5_append_c97b9 S p0 x1 ro uo) : w_J5_append_c97b9 S p0 x1 (fun r u => r = ro ∧ u = uo) := by
  unfold v_J5_append_c97b9 at h
  unfold w_J5_append_c97b9
  obtain ⟨v9, e9, h⟩ := h
  intro x9 d9
  have c9 : v9 = x9 := e9.trans d9.symm
  subst c9
  obtain ⟨p9, q9, z9, h⟩ := h
  refine ⟨_, vw_J6_stringSize_0f7a4 z9, ?_⟩
  rintro p8 q8 ⟨d8, d9⟩
  subst d8
  subst d9
  obtain ⟨v9, e9, h⟩ := h
  intro x9 d9
  have c9 : v9 = x9 := e9.trans d9.symm
  subst c9
  obtain ⟨q9, z9, h⟩ := h
  refine ⟨_, vw_J5_ensureCapacityInternal_d00df z9, ?_⟩
  intro q8 d9
  subst d9
  obtain ⟨g9, h⟩ := h
  refine ⟨g9, ?_⟩
  rcases h with ⟨c, h⟩ | ⟨c, h⟩
  · refine ⟨fun _ => ?_, fun c2 => absurd c c2⟩
    exact h.elim
  · refine ⟨fun c2 => absurd c2 c, fun _ => ?_⟩
    obtain ⟨g9, h⟩ := h
    refine ⟨g9, ?_⟩
    obtain ⟨p9, q9, z9, h⟩ := h
    refine ⟨_, vw_J6_getChars_ba4f3 z9, ?_⟩
    rintro p8 q8 ⟨d8, d9⟩
    subst d8
    subst d9
    obtain ⟨v9, e9, h⟩ := h
    intro x9 d9
    have c9 : v9 = x9 := e9.trans d9.symm
    subst c9
    exact ⟨h.1.symm, h.2.symm⟩
set_option maxRecDepth 100000 in
theorem vz_J5_append_c97b9 {S : MS} {p0 : Nat} {x1 : Int32} {ro : Nat} {uo : MS} {Q : Nat → MS → Prop} (h : v_J5_append_c97b9 S p0 x1 ro uo) (w : w_J5_append_c97b9 S p0 x1 Q) : Q ro uo := by
  unfold v_J5_append_c97b9 at h
  unfold w_J5_append_c97b9 at w
  obtain ⟨v9, e9, h⟩ := h
  replace w := w v9 e9
  obtain ⟨p9, q9, z9, h⟩ := h
  obtain ⟨Q9, w0, w⟩ := w
  replace w := w p9 q9 (vz_J6_stringSize_0f7a4 z9 w0)
  obtain ⟨v9, e9, h⟩ := h
  replace w := w v9 e9
  obtain ⟨q9, z9, h⟩ := h
  obtain ⟨Q9, w0, w⟩ := w
  replace w := w q9 (vz_J5_ensureCapacityInternal_d00df z9 w0)
  replace h := h.2
  replace w := w.2
  rcases h with ⟨c, h⟩ | ⟨c, h⟩
  · replace w := w.1 c
    exact h.elim
  · replace w := w.2 c
    replace h := h.2
    replace w := w.2
    obtain ⟨p9, q9, z9, h⟩ := h
    obtain ⟨Q9, w0, w⟩ := w
    replace w := w p9 q9 (vz_J6_getChars_ba4f3 z9 w0)
    obtain ⟨v9, e9, h⟩ := h
    replace w := w v9 e9
    rw [h.1, h.2]
    exact w
def v_J4_append_bf812 (S : MS) (p0 : Nat) (x1 : Int32) (ro : Nat) (uo : MS) : Prop := (∃ (b6 : Nat) (S3 : MS), v_J5_append_c97b9 S p0 x1 b6 S3 ∧ (ro = p0 ∧ uo = S3))
set_option maxRecDepth 100000 in
theorem ru_J4_append_bf812 {S : MS} {p0 : Nat} {x1 : Int32} {Q : Nat → MS → Prop} (h : w_J4_append_bf812 S p0 x1 Q) : ∃ ro uo, v_J4_append_bf812 S p0 x1 ro uo ∧ Q ro uo := by
  have i0 : Unit := ()
  have K : ∀ (i : Unit) (ro : Nat) (uo : MS), v_J4_append_bf812 S p0 x1 ro uo → v_J4_append_bf812 S p0 x1 ro uo := fun _ _ _ z => z
  unfold w_J4_append_bf812 at h
  obtain ⟨Q9, h0, h⟩ := h
  obtain ⟨b6, S3, z9, g9⟩ := ru_J5_append_c97b9 h0
  replace h := h b6 S3 g9
  replace K := fun i ro uo z => K i ro uo ⟨b6, S3, z9, z⟩
  exact ⟨_, _, K i0 _ _ ⟨rfl, rfl⟩, h⟩
set_option maxRecDepth 100000 in
theorem vw_J4_append_bf812 {S : MS} {p0 : Nat} {x1 : Int32} {ro : Nat} {uo : MS} (h : v_J4_append_bf812 S p0 x1 ro uo) : w_J4_append_bf812 S p0 x1 (fun r u => r = ro ∧ u = uo) := by
  unfold v_J4_append_bf812 at h
  unfold w_J4_append_bf812
  obtain ⟨p9, q9, z9, h⟩ := h
  refine ⟨_, vw_J5_append_c97b9 z9, ?_⟩
  rintro p8 q8 ⟨d8, d9⟩
  subst d8
  subst d9
  exact ⟨h.1.symm, h.2.symm⟩
set_option maxRecDepth 100000 in
theorem vz_J4_append_bf812 {S : MS} {p0 : Nat} {x1 : Int32} {ro : Nat} {uo : MS} {Q : Nat → MS → Prop} (h : v_J4_append_bf812 S p0 x1 ro uo) (w : w_J4_append_bf812 S p0 x1 Q) : Q ro uo := by
  unfold v_J4_append_bf812 at h
  unfold w_J4_append_bf812 at w
  obtain ⟨p9, q9, z9, h⟩ := h
  obtain ⟨Q9, w0, w⟩ := w
  replace w := w p9 q9 (vz_J5_append_c97b9 z9 w0)
  rw [h.1, h.2]
  exact w
def v_J5_append_3fe6f (S : MS) (p0 : Nat) (x1 : Int32) (ro : Nat) (uo : MS) : Prop := (∃ (S3 : MS), v_J5_ensureCapacityInternal_d00df S p0 ((qI S p0 3) + (1 : Int32)) S3 ∧ (d_J5_isLatin1_aae02 S3 p0 ∧ (((f_J5_isLatin1_aae02 S3 p0).toInt = 0 ∧ False) ∨ (¬ (f_J5_isLatin1_aae02 S3 p0).toInt = 0 ∧ (d_J1_canEncode_fc78d S3 x1 ∧ (((f_J1_canEncode_fc78d S3 x1).toInt = 0 ∧ False) ∨ (¬ (f_J1_canEncode_fc78d S3 x1).toInt = 0 ∧ ((qR S3 p0 0 = some (qO S3 p0 0)) ∧ (∃ S17 : MS, S17 = wI S3 p0 3 ((qI S3 p0 3) + (1 : Int32)) ∧ (((0 : Int) ≤ (qI S3 p0 3).toInt ∧ (qI S3 p0 3).toInt < (qN S17 (qO S3 p0 0) : Int)) ∧ (∃ S19 : MS, S19 = wI S17 (qO S3 p0 0) (((qI S3 p0 3).toInt).toNat) (vp_nar .byte (x1.toInt8.toInt32)) ∧ (ro = p0 ∧ uo = S19))))))))))))
set_option maxRecDepth 100000 in
theorem ru_J5_append_3fe6f {S : MS} {p0 : Nat} {x1 : Int32} {Q : Nat → MS → Prop} (h : w_J5_append_3fe6f S p0 x1 Q) : ∃ ro uo, v_J5_append_3fe6f S p0 x1 ro uo ∧ Q ro uo := by
  have i0 : Unit := ()
  have K : ∀ (i : Unit) (ro : Nat) (uo : MS), v_J5_append_3fe6f S p0 x1 ro uo → v_J5_append_3fe6f S p0 x1 ro uo := fun _ _ _ z => z
  unfold w_J5_append_3fe6f at h
  obtain ⟨Q9, h0, h⟩ := h
  obtain ⟨S3, z9, g9⟩ := ru_J5_ensureCapacityInternal_d00df h0
  replace h := h S3 g9
  replace K := fun i ro uo z => K i ro uo ⟨S3, z9, z⟩
  obtain ⟨g1_, h⟩ := h
  replace K := fun i ro uo z => K i ro uo ⟨g1_, z⟩
  by_cases c : (f_J5_isLatin1_aae02 S3 p0).toInt = 0
  · replace h := h.1 c
    replace K := fun i ro uo z => K i ro uo (Or.inl ⟨c, z⟩)
    exact h.elim
  · replace h := h.2 c
    replace K := fun i ro uo z => K i ro uo (Or.inr ⟨c, z⟩)
    obtain ⟨g2_, h⟩ := h
    replace K := fun i ro uo z => K i ro uo ⟨g2_, z⟩
    by_cases c : (f_J1_canEncode_fc78d S3 x1).toInt = 0
    · replace h := h.1 c
      replace K := fun i ro uo z => K i ro uo (Or.inl ⟨c, z⟩)
      exact h.elim
    · replace h := h.2 c
      replace K := fun i ro uo z => K i ro uo (Or.inr ⟨c, z⟩)
      obtain ⟨g3_, h⟩ := h
      replace K := fun i ro uo z => K i ro uo ⟨g3_, z⟩
      obtain ⟨S17, eS17⟩ : ∃ x9 : MS, x9 = wI S3 p0 3 ((qI S3 p0 3) + (1 : Int32)) := ⟨_, rfl⟩
      replace h := h S17 eS17
      replace K := fun i ro uo z => K i ro uo ⟨S17, eS17, z⟩
      obtain ⟨g4_, h⟩ := h
      replace K := fun i ro uo z => K i ro uo ⟨g4_, z⟩
      obtain ⟨S19, eS19⟩ : ∃ x9 : MS, x9 = wI S17 (qO S3 p0 0) (((qI S3 p0 3).toInt).toNat) (vp_nar .byte (x1.toInt8.toInt32)) := ⟨_, rfl⟩
      replace h := h S19 eS19
      replace K := fun i ro uo z => K i ro uo ⟨S19, eS19, z⟩
      exact ⟨_, _, K i0 _ _ ⟨rfl, rfl⟩, h⟩
set_option maxRecDepth 100000 in
theorem vw_J5_append_3fe6f {S : MS} {p0 : Nat} {x1 : Int32} {ro : Nat} {uo : MS} (h : v_J5_append_3fe6f S p0 x1 ro uo) : w_J5_append_3fe6f S p0 x1 (fun r u => r = ro ∧ u = uo) := by
  unfold v_J5_append_3fe6f at h
  unfold w_J5_append_3fe6f
  obtain ⟨q9, z9, h⟩ := h
  refine ⟨_, vw_J5_ensureCapacityInternal_d00df z9, ?_⟩
  intro q8 d9
  subst d9
  obtain ⟨g9, h⟩ := h
  refine ⟨g9, ?_⟩
  rcases h with ⟨c, h⟩ | ⟨c, h⟩
  · refine ⟨fun _ => ?_, fun c2 => absurd c c2⟩
    exact h.elim
  · refine ⟨fun c2 => absurd c2 c, fun _ => ?_⟩
    obtain ⟨g9, h⟩ := h
    refine ⟨g9, ?_⟩
    rcases h with ⟨c, h⟩ | ⟨c, h⟩
    · refine ⟨fun _ => ?_, fun c2 => absurd c c2⟩
      exact h.elim
    · refine ⟨fun c2 => absurd c2 c, fun _ => ?_⟩
      obtain ⟨g9, h⟩ := h
      refine ⟨g9, ?_⟩
      obtain ⟨v9, e9, h⟩ := h
      intro x9 d9
      have c9 : v9 = x9 := e9.trans d9.symm
      subst c9
      obtain ⟨g9, h⟩ := h
      refine ⟨g9, ?_⟩
      obtain ⟨v9, e9, h⟩ := h
      intro x9 d9
      have c9 : v9 = x9 := e9.trans d9.symm
      subst c9
      exact ⟨h.1.symm, h.2.symm⟩
set_option maxRecDepth 100000 in
theorem vz_J5_append_3fe6f {S : MS} {p0 : Nat} {x1 : Int32} {ro : Nat} {uo : MS} {Q : Nat → MS → Prop} (h : v_J5_append_3fe6f S p0 x1 ro uo) (w : w_J5_append_3fe6f S p0 x1 Q) : Q ro uo := by
  unfold v_J5_append_3fe6f at h
  unfold w_J5_append_3fe6f at w
  obtain ⟨q9, z9, h⟩ := h
  obtain ⟨Q9, w0, w⟩ := w
  replace w := w q9 (vz_J5_ensureCapacityInternal_d00df z9 w0)
  replace h := h.2
  replace w := w.2
  rcases h with ⟨c, h⟩ | ⟨c, h⟩
  · replace w := w.1 c
    exact h.elim
  · replace w := w.2 c
    replace h := h.2
    replace w := w.2
    rcases h with ⟨c, h⟩ | ⟨c, h⟩
    · replace w := w.1 c
      exact h.elim
    · replace w := w.2 c
      replace h := h.2
      replace w := w.2
      obtain ⟨v9, e9, h⟩ := h
      replace w := w v9 e9
      replace h := h.2
      replace w := w.2
      obtain ⟨v9, e9, h⟩ := h
      replace w := w v9 e9
      rw [h.1, h.2]
      exact w
def v_J4_append_cf468 (S : MS) (p0 : Nat) (x1 : Int32) (ro : Nat) (uo : MS) : Prop := (∃ (b6 : Nat) (S3 : MS), v_J5_append_3fe6f S p0 x1 b6 S3 ∧ (ro = p0 ∧ uo = S3))
set_option maxRecDepth 100000 in
theorem ru_J4_append_cf468 {S : MS} {p0 : Nat} {x1 : Int32} {Q : Nat → MS → Prop} (h : w_J4_append_cf468 S p0 x1 Q) : ∃ ro uo, v_J4_append_cf468 S p0 x1 ro uo ∧ Q ro uo := by
  have i0 : Unit := ()
  have K : ∀ (i : Unit) (ro : Nat) (uo : MS), v_J4_append_cf468 S p0 x1 ro uo → v_J4_append_cf468 S p0 x1 ro uo := fun _ _ _ z => z
  unfold w_J4_append_cf468 at h
  obtain ⟨Q9, h0, h⟩ := h
  obtain ⟨b6, S3, z9, g9⟩ := ru_J5_append_3fe6f h0
  replace h := h b6 S3 g9
  replace K := fun i ro uo z => K i ro uo ⟨b6, S3, z9, z⟩
  exact ⟨_, _, K i0 _ _ ⟨rfl, rfl⟩, h⟩
set_option maxRecDepth 100000 in
theorem vw_J4_append_cf468 {S : MS} {p0 : Nat} {x1 : Int32} {ro : Nat} {uo : MS} (h : v_J4_append_cf468 S p0 x1 ro uo) : w_J4_append_cf468 S p0 x1 (fun r u => r = ro ∧ u = uo) := by
  unfold v_J4_append_cf468 at h
  unfold w_J4_append_cf468
  obtain ⟨p9, q9, z9, h⟩ := h
  refine ⟨_, vw_J5_append_3fe6f z9, ?_⟩
  rintro p8 q8 ⟨d8, d9⟩
  subst d8
  subst d9
  exact ⟨h.1.symm, h.2.symm⟩
set_option maxRecDepth 100000 in
theorem vz_J4_append_cf468 {S : MS} {p0 : Nat} {x1 : Int32} {ro : Nat} {uo : MS} {Q : Nat → MS → Prop} (h : v_J4_append_cf468 S p0 x1 ro uo) (w : w_J4_append_cf468 S p0 x1 Q) : Q ro uo := by
  unfold v_J4_append_cf468 at h
  unfold w_J4_append_cf468 at w
  obtain ⟨p9, q9, z9, h⟩ := h
  obtain ⟨Q9, w0, w⟩ := w
  replace w := w p9 q9 (vz_J5_append_3fe6f z9 w0)
  rw [h.1, h.2]
  exact w
def v_J5_init_d00df (S : MS) (p0 : Nat) (x1 : Int32) (uo : MS) : Prop := (((0 : Int) ≤ x1.toInt ∧ (qn S + 1 ≤ KC ∧ qu S + x1.toInt.toNat ≤ KS)) ∧ (∃ S4 : MS, S4 = wN S 21 x1.toInt.toNat x1.toInt.toNat ∧ (∃ S6 : MS, S6 = wR S4 p0 0 (some (qn S)) ∧ (∃ S7 : MS, S7 = wI S6 p0 1 0 ∧ (uo = S7)))))
set_option maxRecDepth 100000 in
theorem ru_J5_init_d00df {S : MS} {p0 : Nat} {x1 : Int32} {Q : MS → Prop} (h : w_J5_init_d00df S p0 x1 Q) : ∃ uo, v_J5_init_d00df S p0 x1 uo ∧ Q uo := by
  have i0 : Unit := ()
  have K : ∀ (i : Unit) (uo : MS), v_J5_init_d00df S p0 x1 uo → v_J5_init_d00df S p0 x1 uo := fun _ _ z => z
  unfold w_J5_init_d00df at h
  obtain ⟨g1_, h⟩ := h
  replace K := fun i uo z => K i uo ⟨g1_, z⟩
  obtain ⟨S4, eS4⟩ : ∃ x9 : MS, x9 = wN S 21 x1.toInt.toNat x1.toInt.toNat := ⟨_, rfl⟩
  replace h := h S4 eS4
  replace K := fun i uo z => K i uo ⟨S4, eS4, z⟩
  obtain ⟨S6, eS6⟩ : ∃ x9 : MS, x9 = wR S4 p0 0 (some (qn S)) := ⟨_, rfl⟩
  replace h := h S6 eS6
  replace K := fun i uo z => K i uo ⟨S6, eS6, z⟩
  obtain ⟨S7, eS7⟩ : ∃ x9 : MS, x9 = wI S6 p0 1 0 := ⟨_, rfl⟩
  replace h := h S7 eS7
  replace K := fun i uo z => K i uo ⟨S7, eS7, z⟩
  exact ⟨_, K i0 _ rfl, h⟩
set_option maxRecDepth 100000 in
theorem vw_J5_init_d00df {S : MS} {p0 : Nat} {x1 : Int32} {uo : MS} (h : v_J5_init_d00df S p0 x1 uo) : w_J5_init_d00df S p0 x1 (fun u => u = uo) := by
  unfold v_J5_init_d00df at h
  unfold w_J5_init_d00df
  obtain ⟨g9, h⟩ := h
  refine ⟨g9, ?_⟩
  obtain ⟨v9, e9, h⟩ := h
  intro x9 d9
  have c9 : v9 = x9 := e9.trans d9.symm
  subst c9
  obtain ⟨v9, e9, h⟩ := h
  intro x9 d9
  have c9 : v9 = x9 := e9.trans d9.symm
  subst c9
  obtain ⟨v9, e9, h⟩ := h
  intro x9 d9
  have c9 : v9 = x9 := e9.trans d9.symm
  subst c9
  exact h.symm
set_option maxRecDepth 100000 in
theorem vz_J5_init_d00df {S : MS} {p0 : Nat} {x1 : Int32} {uo : MS} {Q : MS → Prop} (h : v_J5_init_d00df S p0 x1 uo) (w : w_J5_init_d00df S p0 x1 Q) : Q uo := by
  unfold v_J5_init_d00df at h
  unfold w_J5_init_d00df at w
  replace h := h.2
  replace w := w.2
  obtain ⟨v9, e9, h⟩ := h
  replace w := w v9 e9
  obtain ⟨v9, e9, h⟩ := h
  replace w := w v9 e9
  obtain ⟨v9, e9, h⟩ := h
  replace w := w v9 e9
  rw [h]
  exact w
def v_J4_init_d00df (S : MS) (p0 : Nat) (x1 : Int32) (uo : MS) : Prop := (∃ (S2 : MS), v_J5_init_d00df S p0 x1 S2 ∧ (uo = S2))
set_option maxRecDepth 100000 in
theorem ru_J4_init_d00df {S : MS} {p0 : Nat} {x1 : Int32} {Q : MS → Prop} (h : w_J4_init_d00df S p0 x1 Q) : ∃ uo, v_J4_init_d00df S p0 x1 uo ∧ Q uo := by
  have i0 : Unit := ()
  have K : ∀ (i : Unit) (uo : MS), v_J4_init_d00df S p0 x1 uo → v_J4_init_d00df S p0 x1 uo := fun _ _ z => z
  unfold w_J4_init_d00df at h
  obtain ⟨Q9, h0, h⟩ := h
  obtain ⟨S2, z9, g9⟩ := ru_J5_init_d00df h0
  replace h := h S2 g9
  replace K := fun i uo z => K i uo ⟨S2, z9, z⟩
  exact ⟨_, K i0 _ rfl, h⟩
set_option maxRecDepth 100000 in
theorem vw_J4_init_d00df {S : MS} {p0 : Nat} {x1 : Int32} {uo : MS} (h : v_J4_init_d00df S p0 x1 uo) : w_J4_init_d00df S p0 x1 (fun u => u = uo) := by
  unfold v_J4_init_d00df at h
  unfold w_J4_init_d00df
  obtain ⟨q9, z9, h⟩ := h
  refine ⟨_, vw_J5_init_d00df z9, ?_⟩
  intro q8 d9
  subst d9
  exact h.symm
set_option maxRecDepth 100000 in
theorem vz_J4_init_d00df {S : MS} {p0 : Nat} {x1 : Int32} {uo : MS} {Q : MS → Prop} (h : v_J4_init_d00df S p0 x1 uo) (w : w_J4_init_d00df S p0 x1 Q) : Q uo := by
  unfold v_J4_init_d00df at h
  unfold w_J4_init_d00df at w
  obtain ⟨q9, z9, h⟩ := h
  obtain ⟨Q9, w0, w⟩ := w
  replace w := w q9 (vz_J5_init_d00df z9 w0)
  rw [h]
  exact w
def v_J4_init_da8c8 (S : MS) (p0 : Nat) (uo : MS) : Prop := (∃ (S2 : MS), v_J5_init_d00df S p0 (16 : Int32) S2 ∧ (uo = S2))
set_option maxRecDepth 100000 in
theorem ru_J4_init_da8c8 {S : MS} {p0 : Nat} {Q : MS → Prop} (h : w_J4_init_da8c8 S p0 Q) : ∃ uo, v_J4_init_da8c8 S p0 uo ∧ Q uo := by
  have i0 : Unit := ()
  have K : ∀ (i : Unit) (uo : MS), v_J4_init_da8c8 S p0 uo → v_J4_init_da8c8 S p0 uo := fun _ _ z => z
  unfold w_J4_init_da8c8 at h
  obtain ⟨Q9, h0, h⟩ := h
  obtain ⟨S2, z9, g9⟩ := ru_J5_init_d00df h0
  replace h := h S2 g9
  replace K := fun i uo z => K i uo ⟨S2, z9, z⟩
  exact ⟨_, K i0 _ rfl, h⟩
set_option maxRecDepth 100000 in
theorem vw_J4_init_da8c8 {S : MS} {p0 : Nat} {uo : MS} (h : v_J4_init_da8c8 S p0 uo) : w_J4_init_da8c8 S p0 (fun u => u = uo) := by
  unfold v_J4_init_da8c8 at h
  unfold w_J4_init_da8c8
  obtain ⟨q9, z9, h⟩ := h
  refine ⟨_, vw_J5_init_d00df z9, ?_⟩
  intro q8 d9
  subst d9
  exact h.symm
set_option maxRecDepth 100000 in
theorem vz_J4_init_da8c8 {S : MS} {p0 : Nat} {uo : MS} {Q : MS → Prop} (h : v_J4_init_da8c8 S p0 uo) (w : w_J4_init_da8c8 S p0 Q) : Q uo := by
  unfold v_J4_init_da8c8 at h
  unfold w_J4_init_da8c8 at w
  obtain ⟨q9, z9, h⟩ := h
  obtain ⟨Q9, w0, w⟩ := w
  replace w := w q9 (vz_J5_init_d00df z9 w0)
  rw [h]
  exact w
def v_J4_toString_0e30d (S : MS) (p0 : Nat) (ro : Nat) (uo : MS) : Prop := ((qn S + 1 ≤ KC ∧ qu S + 4 ≤ KS) ∧ (∃ S4 : MS, S4 = wN S 24 0 4 ∧ (∃ (S7 : MS), v_J0_init_81219 S4 (qn S) p0 S7 ∧ ((qR S7 (qn S) 0 = some ((qn S) + 1) ∧ qI S7 (qn S) 1 = 0 ∧ qI S7 (qn S) 2 = 0 ∧ qI S7 (qn S) 3 = 0) ∧ (∃ S11 : MS, S11 = wT S7 (qn S) 12 ∧ (ro = (qn S) ∧ uo = S11))))))
set_option maxRecDepth 100000 in
theorem ru_J4_toString_0e30d {S : MS} {p0 : Nat} {Q : Nat → MS → Prop} (h : w_J4_toString_0e30d S p0 Q) : ∃ ro uo, v_J4_toString_0e30d S p0 ro uo ∧ Q ro uo := by
  have i0 : Unit := ()
  have K : ∀ (i : Unit) (ro : Nat) (uo : MS), v_J4_toString_0e30d S p0 ro uo → v_J4_toString_0e30d S p0 ro uo := fun _ _ _ z => z
  unfold w_J4_toString_0e30d at h
  obtain ⟨g1_, h⟩ := h
  replace K := fun i ro uo z => K i ro uo ⟨g1_, z⟩
  obtain ⟨S4, eS4⟩ : ∃ x9 : MS, x9 = wN S 24 0 4 := ⟨_, rfl⟩
  replace h := h S4 eS4
  replace K := fun i ro uo z => K i ro uo ⟨S4, eS4, z⟩
  obtain ⟨Q9, h0, h⟩ := h
  obtain ⟨S7, z9, g9⟩ := ru_J0_init_81219 h0
  replace h := h S7 g9
  replace K := fun i ro uo z => K i ro uo ⟨S7, z9, z⟩
  obtain ⟨g2_, h⟩ := h
  replace K := fun i ro uo z => K i ro uo ⟨g2_, z⟩
  obtain ⟨S11, eS11⟩ : ∃ x9 : MS, x9 = wT S7 (qn S) 12 := ⟨_, rfl⟩
  replace h := h S11 eS11
  replace K := fun i ro uo z => K i ro uo ⟨S11, eS11, z⟩
  exact ⟨_, _, K i0 _ _ ⟨rfl, rfl⟩, h⟩
set_option maxRecDepth 100000 in
theorem vw_J4_toString_0e30d {S : MS} {p0 : Nat} {ro : Nat} {uo : MS} (h : v_J4_toString_0e30d S p0 ro uo) : w_J4_toString_0e30d S p0 (fun r u => r = ro ∧ u = uo) := by
  unfold v_J4_toString_0e30d at h
  unfold w_J4_toString_0e30d
  obtain ⟨g9, h⟩ := h
  refine ⟨g9, ?_⟩
  obtain ⟨v9, e9, h⟩ := h
  intro x9 d9
  have c9 : v9 = x9 := e9.trans d9.symm
  subst c9
  obtain ⟨q9, z9, h⟩ := h
  refine ⟨_, vw_J0_init_81219 z9, ?_⟩
  intro q8 d9
  subst d9
  obtain ⟨g9, h⟩ := h
  refine ⟨g9, ?_⟩
  obtain ⟨v9, e9, h⟩ := h
  intro x9 d9
  have c9 : v9 = x9 := e9.trans d9.symm
  subst c9
  exact ⟨h.1.symm, h.2.symm⟩
set_option maxRecDepth 100000 in
theorem vz_J4_toString_0e30d {S : MS} {p0 : Nat} {ro : Nat} {uo : MS} {Q : Nat → MS → Prop} (h : v_J4_toString_0e30d S p0 ro uo) (w : w_J4_toString_0e30d S p0 Q) : Q ro uo := by
  unfold v_J4_toString_0e30d at h
  unfold w_J4_toString_0e30d at w
  replace h := h.2
  replace w := w.2
  obtain ⟨v9, e9, h⟩ := h
  replace w := w v9 e9
  obtain ⟨q9, z9, h⟩ := h
  obtain ⟨Q9, w0, w⟩ := w
  replace w := w q9 (vz_J0_init_81219 z9 w0)
  replace h := h.2
  replace w := w.2
  obtain ⟨v9, e9, h⟩ := h
  replace w := w v9 e9
  rw [h.1, h.2]
  exact w
def v_here_L2 (ro : Int32) (uo : MS) : Nat → MS → Int32 → Prop
  | 0, _, _ => False
  | n2 + 1, U2, v2_2 => (((qI U2 0 129).toInt ≤ v2_2.toInt ∧ (ro = v2_2 ∧ uo = U2)) ∨ (¬ (qI U2 0 129).toInt ≤ v2_2.toInt ∧ (((0 : Int) ≤ v2_2.toInt ∧ v2_2.toInt < 1200) ∧ (((qI U2 81 v2_2.toInt.toNat).toInt = 0 ∧ (ro = v2_2 ∧ uo = U2)) ∨ (¬ (qI U2 81 v2_2.toInt.toNat).toInt = 0 ∧ (∃ a5 : Int32, a5 = (v2_2 + Int32.ofInt 1) ∧ ((v_here_L2 ro uo n2) U2 a5)))))))
def v_here (S : MS) (x1 : Int32) (ro : Int32) (uo : MS) : Prop := (∃ n, v_here_L2 ro uo n S x1)
set_option maxRecDepth 100000 in
theorem ru_here_L2 {ι : Type} {P : Int32 → MS → Prop} {Q : Int32 → MS → Prop} : ∀ (n : Nat) {U2 : MS} {v2_2 : Int32} (i0 : ι), (∀ (i : ι) (ro : Int32) (uo : MS), (∃ n8, v_here_L2 ro uo n8 U2 v2_2) → P ro uo) → w_here_L2 Q n U2 v2_2 → ∃ ro uo, P ro uo ∧ Q ro uo := by
  intro n
  induction n with
  | zero => intro U2 v2_2 i0 K h; unfold w_here_L2 at h; exact h.elim
  | succ n ih =>
    intro U2 v2_2 i0 K h
    unfold w_here_L2 at h
    replace K := fun (i : ι × Nat) ro uo (z : v_here_L2 ro uo (i.2 + 1) U2 v2_2) => K i.1 ro uo ⟨i.2 + 1, z⟩
    have i00 := i0
    replace i0 : ι × Nat := (i0, 0)
    by_cases c : (qI U2 0 129).toInt ≤ v2_2.toInt
    · replace h := h.1 c
      replace K := fun i ro uo z => K i ro uo (Or.inl ⟨c, z⟩)
      exact ⟨_, _, K i0 _ _ ⟨rfl, rfl⟩, h⟩
    · replace h := h.2 c
      replace K := fun i ro uo z => K i ro uo (Or.inr ⟨c, z⟩)
      obtain ⟨g1_, h⟩ := h
      replace K := fun i ro uo z => K i ro uo ⟨g1_, z⟩
      by_cases c : (qI U2 81 v2_2.toInt.toNat).toInt = 0
      · replace h := h.1 c
        replace K := fun i ro uo z => K i ro uo (Or.inl ⟨c, z⟩)
        exact ⟨_, _, K i0 _ _ ⟨rfl, rfl⟩, h⟩
      · replace h := h.2 c
        replace K := fun i ro uo z => K i ro uo (Or.inr ⟨c, z⟩)
        obtain ⟨a5, ea5⟩ : ∃ x9 : Int32, x9 = (v2_2 + Int32.ofInt 1) := ⟨_, rfl⟩
        replace h := h a5 ea5
        replace K := fun i ro uo z => K i ro uo ⟨a5, ea5, z⟩
        exact ih i00 (fun i ro uo ⟨n8, z⟩ => K (i, n8) ro uo z) h
set_option maxRecDepth 100000 in
theorem ru_here {S : MS} {x1 : Int32} {Q : Int32 → MS → Prop} (h : w_here S x1 Q) : ∃ ro uo, v_here S x1 ro uo ∧ Q ro uo := by
  have i0 : Unit := ()
  have K : ∀ (i : Unit) (ro : Int32) (uo : MS), v_here S x1 ro uo → v_here S x1 ro uo := fun _ _ _ z => z
  unfold w_here at h
  obtain ⟨n9, h⟩ := h
  exact ru_here_L2 n9 i0 K h
set_option maxRecDepth 100000 in
theorem vw_here_L2 {ro : Int32} {uo : MS} : ∀ (n : Nat) {U2 : MS} {v2_2 : Int32}, v_here_L2 ro uo n U2 v2_2 → w_here_L2 (fun r u => r = ro ∧ u = uo) n U2 v2_2 := by
  intro n
  induction n with
  | zero => intro U2 v2_2 h; unfold v_here_L2 at h; exact h.elim
  | succ n ih =>
    intro U2 v2_2 h
    unfold v_here_L2 at h
    unfold w_here_L2
    rcases h with ⟨c, h⟩ | ⟨c, h⟩
    · refine ⟨fun _ => ?_, fun c2 => absurd c c2⟩
      exact ⟨h.1.symm, h.2.symm⟩
    · refine ⟨fun c2 => absurd c2 c, fun _ => ?_⟩
      obtain ⟨g9, h⟩ := h
      refine ⟨g9, ?_⟩
      rcases h with ⟨c, h⟩ | ⟨c, h⟩
      · refine ⟨fun _ => ?_, fun c2 => absurd c c2⟩
        exact ⟨h.1.symm, h.2.symm⟩
      · refine ⟨fun c2 => absurd c2 c, fun _ => ?_⟩
        obtain ⟨v9, e9, h⟩ := h
        intro x9 d9
        have c9 : v9 = x9 := e9.trans d9.symm
        subst c9
        exact ih h
set_option maxRecDepth 100000 in
theorem vz_here_L2 {ro : Int32} {uo : MS} {Q : Int32 → MS → Prop} : ∀ (n m : Nat) {U2 : MS} {v2_2 : Int32}, v_here_L2 ro uo n U2 v2_2 → w_here_L2 Q m U2 v2_2 → Q ro uo := by
  intro n
  induction n with
  | zero => intro m U2 v2_2 h; unfold v_here_L2 at h; exact h.elim
  | succ n ih =>
    intro m U2 v2_2 h w
    cases m with
    | zero => unfold w_here_L2 at w; exact w.elim
    | succ m =>
      unfold v_here_L2 at h
      unfold w_here_L2 at w
      rcases h with ⟨c, h⟩ | ⟨c, h⟩
      · replace w := w.1 c
        rw [h.1, h.2]
        exact w
      · replace w := w.2 c
        replace h := h.2
        replace w := w.2
        rcases h with ⟨c, h⟩ | ⟨c, h⟩
        · replace w := w.1 c
          rw [h.1, h.2]
          exact w
        · replace w := w.2 c
          obtain ⟨v9, e9, h⟩ := h
          replace w := w v9 e9
          exact ih m h w
set_option maxRecDepth 100000 in
theorem vw_here {S : MS} {x1 : Int32} {ro : Int32} {uo : MS} (h : v_here S x1 ro uo) : w_here S x1 (fun r u => r = ro ∧ u = uo) := by
  unfold v_here at h
  unfold w_here
  obtain ⟨n9, h⟩ := h
  exact ⟨n9, vw_here_L2 n9 h⟩
set_option maxRecDepth 100000 in
theorem vz_here {S : MS} {x1 : Int32} {ro : Int32} {uo : MS} {Q : Int32 → MS → Prop} (h : v_here S x1 ro uo) (w : w_here S x1 Q) : Q ro uo := by
  unfold v_here at h
  unfold w_here at w
  obtain ⟨n9, h⟩ := h
  obtain ⟨n8, w⟩ := w
  exact vz_here_L2 n9 n8 h w
def v_aimRow_L52 (uo : MS) : Nat → MS → Int32 → Int32 → Prop
  | 0, _, _, _ => False
  | n52 + 1, U52, v52_1, v52_3 => (((0 : Int) ≤ v52_1.toInt ∧ v52_1.toInt < 1200) ∧ (((qI U52 80 v52_1.toInt.toNat).toInt < v52_3.toInt ∧ (uo = U52)) ∨ (¬ (qI U52 80 v52_1.toInt.toNat).toInt < v52_3.toInt ∧ (((0 : Int) ≤ v52_1.toInt ∧ v52_1.toInt < 1200) ∧ (((0 : Int) ≤ v52_1.toInt ∧ v52_1.toInt < 1200) ∧ (((0 : Int) ≤ ((qI U52 79 v52_1.toInt.toNat) + ((2 : Int32) * v52_3)).toInt ∧ ((qI U52 79 v52_1.toInt.toNat) + ((2 : Int32) * v52_3)).toInt < 40000) ∧ (∃ (r26 : Int32) (S27 : MS), v_here U52 (qI U52 75 ((((qI U52 79 v52_1.toInt.toNat) + ((2 : Int32) * v52_3)).toInt).toNat)) r26 S27 ∧ (((0 : Int) ≤ r26.toInt ∧ r26.toInt < 1201) ∧ (((0 : Int) ≤ ((qI U52 79 v52_1.toInt.toNat) + ((2 : Int32) * v52_3)).toInt ∧ ((qI U52 79 v52_1.toInt.toNat) + ((2 : Int32) * v52_3)).toInt < 40000) ∧ (∃ S32 : MS, S32 = wI S27 75 ((((qI U52 79 v52_1.toInt.toNat) + ((2 : Int32) * v52_3)).toInt).toNat) (qI S27 91 r26.toInt.toNat) ∧ (∃ a33 : Int32, a33 = (v52_3 + Int32.ofInt 1) ∧ ((v_aimRow_L52 uo n52) S32 v52_1 a33))))))))))))
def v_aimRow_J37 (uo : MS) (U37 : MS) (v37_1 : Int32) : Prop := (((0 : Int) ≤ v37_1.toInt ∧ v37_1.toInt < 1200) ∧ (d_isSwitch U37 (qI U37 78 v37_1.toInt.toNat) ∧ (((f_isSwitch U37 (qI U37 78 v37_1.toInt.toNat)).toInt = 0 ∧ (uo = U37)) ∨ (¬ (f_isSwitch U37 (qI U37 78 v37_1.toInt.toNat)).toInt = 0 ∧ (∃ n, v_aimRow_L52 uo n U37 v37_1 0)))))
def v_aimRow (S : MS) (x1 : Int32) (x2 : Int32) (uo : MS) : Prop := (((0 : Int) ≤ x1.toInt ∧ x1.toInt < 1200) ∧ (d_isJump S (qI S 78 x1.toInt.toNat) ∧ (((f_isJump S (qI S 78 x1.toInt.toNat)).toInt = 0 ∧ (v_aimRow_J37 uo S x1)) ∨ (¬ (f_isJump S (qI S 78 x1.toInt.toNat)).toInt = 0 ∧ (((0 : Int) ≤ x1.toInt ∧ x1.toInt < 1200) ∧ (∃ (r40 : Int32) (S41 : MS), v_here S (qI S 79 x1.toInt.toNat) r40 S41 ∧ (((0 : Int) ≤ r40.toInt ∧ r40.toInt < 1201) ∧ (((0 : Int) ≤ (((3 : Int32) * x2) + (1 : Int32)).toInt ∧ (((3 : Int32) * x2) + (1 : Int32)).toInt < 87000) ∧ (∃ S46 : MS, S46 = wI S41 74 (((((3 : Int32) * x2) + (1 : Int32)).toInt).toNat) (qI S41 91 r40.toInt.toNat) ∧ (v_aimRow_J37 uo S46 x1))))))))))
set_option maxRecDepth 100000 in
theorem ru_aimRow_L52 {ι : Type} {P : MS → Prop} {Q : MS → Prop} : ∀ (n : Nat) {U52 : MS} {v52_1 : Int32} {v52_3 : Int32} (i0 : ι), (∀ (i : ι) (uo : MS), (∃ n8, v_aimRow_L52 uo n8 U52 v52_1 v52_3) → P uo) → w_aimRow_L52 Q n U52 v52_1 v52_3 → ∃ uo, P uo ∧ Q uo := by
  intro n
  induction n with
  | zero => intro U52 v52_1 v52_3 i0 K h; unfold w_aimRow_L52 at h; exact h.elim
  | succ n ih =>
    intro U52 v52_1 v52_3 i0 K h
    unfold w_aimRow_L52 at h
    replace K := fun (i : ι × Nat) uo (z : v_aimRow_L52 uo (i.2 + 1) U52 v52_1 v52_3) => K i.1 uo ⟨i.2 + 1, z⟩
    have i00 := i0
    replace i0 : ι × Nat := (i0, 0)
    obtain ⟨g1_, h⟩ := h
    replace K := fun i uo z => K i uo ⟨g1_, z⟩
    by_cases c : (qI U52 80 v52_1.toInt.toNat).toInt < v52_3.toInt
    · replace h := h.1 c
      replace K := fun i uo z => K i uo (Or.inl ⟨c, z⟩)
      exact ⟨_, K i0 _ rfl, h⟩
    · replace h := h.2 c
      replace K := fun i uo z => K i uo (Or.inr ⟨c, z⟩)
      obtain ⟨g2_, h⟩ := h
      replace K := fun i uo z => K i uo ⟨g2_, z⟩
      obtain ⟨g3_, h⟩ := h
      replace K := fun i uo z => K i uo ⟨g3_, z⟩
      obtain ⟨g4_, h⟩ := h
      replace K := fun i uo z => K i uo ⟨g4_, z⟩
      obtain ⟨Q9, h0, h⟩ := h
      obtain ⟨r26, S27, z9, g9⟩ := ru_here h0
      replace h := h r26 S27 g9
      replace K := fun i uo z => K i uo ⟨r26, S27, z9, z⟩
      obtain ⟨g5_, h⟩ := h
      replace K := fun i uo z => K i uo ⟨g5_, z⟩
      obtain ⟨g6_, h⟩ := h
      replace K := fun i uo z => K i uo ⟨g6_, z⟩
      obtain ⟨S32, eS32⟩ : ∃ x9 : MS, x9 = wI S27 75 ((((qI U52 79 v52_1.toInt.toNat) + ((2 : Int32) * v52_3)).toInt).toNat) (qI S27 91 r26.toInt.toNat) := ⟨_, rfl⟩
      replace h := h S32 eS32
      replace K := fun i uo z => K i uo ⟨S32, eS32, z⟩
      obtain ⟨a33, ea33⟩ : ∃ x9 : Int32, x9 = (v52_3 + Int32.ofInt 1) := ⟨_, rfl⟩
      replace h := h a33 ea33
      replace K := fun i uo z => K i uo ⟨a33, ea33, z⟩
      exact ih i00 (fun i uo ⟨n8, z⟩ => K (i, n8) uo z) h
set_option maxRecDepth 100000 in
theorem ru_aimRow_J37 {ι : Type} {P : MS → Prop} {Q : MS → Prop} {U37 : MS} {v37_1 : Int32} (i0 : ι) (K : ∀ (i : ι) (uo : MS), v_aimRow_J37 uo U37 v37_1 → P uo) (h : w_aimRow_J37 Q U37 v37_1) : ∃ uo, P uo ∧ Q uo := by
  unfold w_aimRow_J37 at h
  obtain ⟨g7_, h⟩ := h
  replace K := fun i uo z => K i uo ⟨g7_, z⟩
  obtain ⟨g8_, h⟩ := h
  replace K := fun i uo z => K i uo ⟨g8_, z⟩
  by_cases c : (f_isSwitch U37 (qI U37 78 v37_1.toInt.toNat)).toInt = 0
  · replace h := h.1 c
    replace K := fun i uo z => K i uo (Or.inl ⟨c, z⟩)
    exact ⟨_, K i0 _ rfl, h⟩
  · replace h := h.2 c
    replace K := fun i uo z => K i uo (Or.inr ⟨c, z⟩)
    obtain ⟨n9, h⟩ := h
    exact ru_aimRow_L52 n9 i0 K h
set_option maxRecDepth 100000 in
theorem ru_aimRow {S : MS} {x1 : Int32} {x2 : Int32} {Q : MS → Prop} (h : w_aimRow S x1 x2 Q) : ∃ uo, v_aimRow S x1 x2 uo ∧ Q uo := by
  have i0 : Unit := ()
  have K : ∀ (i : Unit) (uo : MS), v_aimRow S x1 x2 uo → v_aimRow S x1 x2 uo := fun _ _ z => z
  unfold w_aimRow at h
  obtain ⟨g9_, h⟩ := h
  replace K := fun i uo z => K i uo ⟨g9_, z⟩
  obtain ⟨g10_, h⟩ := h
  replace K := fun i uo z => K i uo ⟨g10_, z⟩
  by_cases c : (f_isJump S (qI S 78 x1.toInt.toNat)).toInt = 0
  · replace h := h.1 c
    replace K := fun i uo z => K i uo (Or.inl ⟨c, z⟩)
    exact ru_aimRow_J37 i0 K h
  · replace h := h.2 c
    replace K := fun i uo z => K i uo (Or.inr ⟨c, z⟩)
    obtain ⟨g11_, h⟩ := h
    replace K := fun i uo z => K i uo ⟨g11_, z⟩
    obtain ⟨Q9, h0, h⟩ := h
    obtain ⟨r40, S41, z9, g9⟩ := ru_here h0
    replace h := h r40 S41 g9
    replace K := fun i uo z => K i uo ⟨r40, S41, z9, z⟩
    obtain ⟨g12_, h⟩ := h
    replace K := fun i uo z => K i uo ⟨g12_, z⟩
    obtain ⟨g13_, h⟩ := h
    replace K := fun i uo z => K i uo ⟨g13_, z⟩
    obtain ⟨S46, eS46⟩ : ∃ x9 : MS, x9 = wI S41 74 (((((3 : Int32) * x2) + (1 : Int32)).toInt).toNat) (qI S41 91 r40.toInt.toNat) := ⟨_, rfl⟩
    replace h := h S46 eS46
    replace K := fun i uo z => K i uo ⟨S46, eS46, z⟩
    exact ru_aimRow_J37 i0 K h
set_option maxRecDepth 100000 in
theorem vw_aimRow_L52 {uo : MS} : ∀ (n : Nat) {U52 : MS} {v52_1 : Int32} {v52_3 : Int32}, v_aimRow_L52 uo n U52 v52_1 v52_3 → w_aimRow_L52 (fun u => u = uo) n U52 v52_1 v52_3 := by
  intro n
  induction n with
  | zero => intro U52 v52_1 v52_3 h; unfold v_aimRow_L52 at h; exact h.elim
  | succ n ih =>
    intro U52 v52_1 v52_3 h
    unfold v_aimRow_L52 at h
    unfold w_aimRow_L52
    obtain ⟨g9, h⟩ := h
    refine ⟨g9, ?_⟩
    rcases h with ⟨c, h⟩ | ⟨c, h⟩
    · refine ⟨fun _ => ?_, fun c2 => absurd c c2⟩
      exact h.symm
    · refine ⟨fun c2 => absurd c2 c, fun _ => ?_⟩
      obtain ⟨g9, h⟩ := h
      refine ⟨g9, ?_⟩
      obtain ⟨g9, h⟩ := h
      refine ⟨g9, ?_⟩
      obtain ⟨g9, h⟩ := h
      refine ⟨g9, ?_⟩
      obtain ⟨p9, q9, z9, h⟩ := h
      refine ⟨_, vw_here z9, ?_⟩
      rintro p8 q8 ⟨d8, d9⟩
      subst d8
      subst d9
      obtain ⟨g9, h⟩ := h
      refine ⟨g9, ?_⟩
      obtain ⟨g9, h⟩ := h
      refine ⟨g9, ?_⟩
      obtain ⟨v9, e9, h⟩ := h
      intro x9 d9
      have c9 : v9 = x9 := e9.trans d9.symm
      subst c9
      obtain ⟨v9, e9, h⟩ := h
      intro x9 d9
      have c9 : v9 = x9 := e9.trans d9.symm
      subst c9
      exact ih h
set_option maxRecDepth 100000 in
theorem vz_aimRow_L52 {uo : MS} {Q : MS → Prop} : ∀ (n m : Nat) {U52 : MS} {v52_1 : Int32} {v52_3 : Int32}, v_aimRow_L52 uo n U52 v52_1 v52_3 → w_aimRow_L52 Q m U52 v52_1 v52_3 → Q uo := by
  intro n
  induction n with
  | zero => intro m U52 v52_1 v52_3 h; unfold v_aimRow_L52 at h; exact h.elim
  | succ n ih =>
    intro m U52 v52_1 v52_3 h w
    cases m with
    | zero => unfold w_aimRow_L52 at w; exact w.elim
    | succ m =>
      unfold v_aimRow_L52 at h
      unfold w_aimRow_L52 at w
      replace h := h.2
      replace w := w.2
      rcases h with ⟨c, h⟩ | ⟨c, h⟩
      · replace w := w.1 c
        rw [h]
        exact w
      · replace w := w.2 c
        replace h := h.2
        replace w := w.2
        replace h := h.2
        replace w := w.2
        replace h := h.2
        replace w := w.2
        obtain ⟨p9, q9, z9, h⟩ := h
        obtain ⟨Q9, w0, w⟩ := w
        replace w := w p9 q9 (vz_here z9 w0)
        replace h := h.2
        replace w := w.2
        replace h := h.2
        replace w := w.2
        obtain ⟨v9, e9, h⟩ := h
        replace w := w v9 e9
        obtain ⟨v9, e9, h⟩ := h
        replace w := w v9 e9
        exact ih m h w
set_option maxRecDepth 100000 in
theorem vw_aimRow_J37 {uo : MS} {U37 : MS} {v37_1 : Int32} (h : v_aimRow_J37 uo U37 v37_1) : w_aimRow_J37 (fun u => u = uo) U37 v37_1 := by
  unfold v_aimRow_J37 at h
  unfold w_aimRow_J37
  obtain ⟨g9, h⟩ := h
  refine ⟨g9, ?_⟩
  obtain ⟨g9, h⟩ := h
  refine ⟨g9, ?_⟩
  rcases h with ⟨c, h⟩ | ⟨c, h⟩
  · refine ⟨fun _ => ?_, fun c2 => absurd c c2⟩
    exact h.symm
  · refine ⟨fun c2 => absurd c2 c, fun _ => ?_⟩
    obtain ⟨n9, h⟩ := h
    exact ⟨n9, vw_aimRow_L52 n9 h⟩
set_option maxRecDepth 100000 in
theorem vz_aimRow_J37 {uo : MS} {Q : MS → Prop} {U37 : MS} {v37_1 : Int32} (h : v_aimRow_J37 uo U37 v37_1) (w : w_aimRow_J37 Q U37 v37_1) : Q uo := by
  unfold v_aimRow_J37 at h
  unfold w_aimRow_J37 at w
  replace h := h.2
  replace w := w.2
  replace h := h.2
  replace w := w.2
  rcases h with ⟨c, h⟩ | ⟨c, h⟩
  · replace w := w.1 c
    rw [h]
    exact w
  · replace w := w.2 c
    obtain ⟨n9, h⟩ := h
    obtain ⟨n8, w⟩ := w
    exact vz_aimRow_L52 n9 n8 h w
set_option maxRecDepth 100000 in
theorem vw_aimRow {S : MS} {x1 : Int32} {x2 : Int32} {uo : MS} (h : v_aimRow S x1 x2 uo) : w_aimRow S x1 x2 (fun u => u = uo) := by
  unfold v_aimRow at h
  unfold w_aimRow
  obtain ⟨g9, h⟩ := h
  refine ⟨g9, ?_⟩
  obtain ⟨g9, h⟩ := h
  refine ⟨g9, ?_⟩
  rcases h with ⟨c, h⟩ | ⟨c, h⟩
  · refine ⟨fun _ => ?_, fun c2 => absurd c c2⟩
    exact vw_aimRow_J37 h
  · refine ⟨fun c2 => absurd c2 c, fun _ => ?_⟩
    obtain ⟨g9, h⟩ := h
    refine ⟨g9, ?_⟩
    obtain ⟨p9, q9, z9, h⟩ := h
    refine ⟨_, vw_here z9, ?_⟩
    rintro p8 q8 ⟨d8, d9⟩
    subst d8
    subst d9
    obtain ⟨g9, h⟩ := h
    refine ⟨g9, ?_⟩
    obtain ⟨g9, h⟩ := h
    refine ⟨g9, ?_⟩
    obtain ⟨v9, e9, h⟩ := h
    intro x9 d9
    have c9 : v9 = x9 := e9.trans d9.symm
    subst c9
    exact vw_aimRow_J37 h
set_option maxRecDepth 100000 in
theorem vz_aimRow {S : MS} {x1 : Int32} {x2 : Int32} {uo : MS} {Q : MS → Prop} (h : v_aimRow S x1 x2 uo) (w : w_aimRow S x1 x2 Q) : Q uo := by
  unfold v_aimRow at h
  unfold w_aimRow at w
  replace h := h.2
  replace w := w.2
  replace h := h.2
  replace w := w.2
  rcases h with ⟨c, h⟩ | ⟨c, h⟩
  · replace w := w.1 c
    exact vz_aimRow_J37 h w
  · replace w := w.2 c
    replace h := h.2
    replace w := w.2
    obtain ⟨p9, q9, z9, h⟩ := h
    obtain ⟨Q9, w0, w⟩ := w
    replace w := w p9 q9 (vz_here z9 w0)
    replace h := h.2
    replace w := w.2
    replace h := h.2
    replace w := w.2
    obtain ⟨v9, e9, h⟩ := h
    replace w := w v9 e9
    exact vz_aimRow_J37 h w
def v_behind (S : MS) (x1 : Int32) (ro : Int32) (uo : MS) : Prop := (∃ (r3 : Int32) (S4 : MS), v_here S (x1 + (1 : Int32)) r3 S4 ∧ (ro = r3 ∧ uo = S4))
set_option maxRecDepth 100000 in
theorem ru_behind {S : MS} {x1 : Int32} {Q : Int32 → MS → Prop} (h : w_behind S x1 Q) : ∃ ro uo, v_behind S x1 ro uo ∧ Q ro uo := by
  have i0 : Unit := ()
  have K : ∀ (i : Unit) (ro : Int32) (uo : MS), v_behind S x1 ro uo → v_behind S x1 ro uo := fun _ _ _ z => z
  unfold w_behind at h
  obtain ⟨Q9, h0, h⟩ := h
  obtain ⟨r3, S4, z9, g9⟩ := ru_here h0
  replace h := h r3 S4 g9
  replace K := fun i ro uo z => K i ro uo ⟨r3, S4, z9, z⟩
  exact ⟨_, _, K i0 _ _ ⟨rfl, rfl⟩, h⟩
set_option maxRecDepth 100000 in
theorem vw_behind {S : MS} {x1 : Int32} {ro : Int32} {uo : MS} (h : v_behind S x1 ro uo) : w_behind S x1 (fun r u => r = ro ∧ u = uo) := by
  unfold v_behind at h
  unfold w_behind
  obtain ⟨p9, q9, z9, h⟩ := h
  refine ⟨_, vw_here z9, ?_⟩
  rintro p8 q8 ⟨d8, d9⟩
  subst d8
  subst d9
  exact ⟨h.1.symm, h.2.symm⟩
set_option maxRecDepth 100000 in
theorem vz_behind {S : MS} {x1 : Int32} {ro : Int32} {uo : MS} {Q : Int32 → MS → Prop} (h : v_behind S x1 ro uo) (w : w_behind S x1 Q) : Q ro uo := by
  unfold v_behind at h
  unfold w_behind at w
  obtain ⟨p9, q9, z9, h⟩ := h
  obtain ⟨Q9, w0, w⟩ := w
  replace w := w p9 q9 (vz_here z9 w0)
  rw [h.1, h.2]
  exact w
def v_wayOf (S : MS) (x1 : Int32) (x2 : Int32) (ro : Int32) (uo : MS) : Prop := (((0 : Int) ≤ x1.toInt ∧ x1.toInt < 1200) ∧ (d_isJump S (qI S 78 x1.toInt.toNat) ∧ (((f_isJump S (qI S 78 x1.toInt.toNat)).toInt = 0 ∧ (((0 : Int) ≤ x1.toInt ∧ x1.toInt < 1200) ∧ (((0 : Int) ≤ ((qI S 79 x1.toInt.toNat) + ((2 : Int32) * x2)).toInt ∧ ((qI S 79 x1.toInt.toNat) + ((2 : Int32) * x2)).toInt < 40000) ∧ (∃ (r14 : Int32) (S15 : MS), v_here S (qI S 75 ((((qI S 79 x1.toInt.toNat) + ((2 : Int32) * x2)).toInt).toNat)) r14 S15 ∧ (ro = r14 ∧ uo = S15))))) ∨ (¬ (f_isJump S (qI S 78 x1.toInt.toNat)).toInt = 0 ∧ (((0 : Int) ≤ x1.toInt ∧ x1.toInt < 1200) ∧ (∃ (r20 : Int32) (S21 : MS), v_here S (qI S 79 x1.toInt.toNat) r20 S21 ∧ (ro = r20 ∧ uo = S21)))))))
set_option maxRecDepth 100000 in
theorem ru_wayOf {S : MS} {x1 : Int32} {x2 : Int32} {Q : Int32 → MS → Prop} (h : w_wayOf S x1 x2 Q) : ∃ ro uo, v_wayOf S x1 x2 ro uo ∧ Q ro uo := by
  have i0 : Unit := ()
  have K : ∀ (i : Unit) (ro : Int32) (uo : MS), v_wayOf S x1 x2 ro uo → v_wayOf S x1 x2 ro uo := fun _ _ _ z => z
  unfold w_wayOf at h
  obtain ⟨g1_, h⟩ := h
  replace K := fun i ro uo z => K i ro uo ⟨g1_, z⟩
  obtain ⟨g2_, h⟩ := h
  replace K := fun i ro uo z => K i ro uo ⟨g2_, z⟩
  by_cases c : (f_isJump S (qI S 78 x1.toInt.toNat)).toInt = 0
  · replace h := h.1 c
    replace K := fun i ro uo z => K i ro uo (Or.inl ⟨c, z⟩)
    obtain ⟨g3_, h⟩ := h
    replace K := fun i ro uo z => K i ro uo ⟨g3_, z⟩
    obtain ⟨g4_, h⟩ := h
    replace K := fun i ro uo z => K i ro uo ⟨g4_, z⟩
    obtain ⟨Q9, h0, h⟩ := h
    obtain ⟨r14, S15, z9, g9⟩ := ru_here h0
    replace h := h r14 S15 g9
    replace K := fun i ro uo z => K i ro uo ⟨r14, S15, z9, z⟩
    exact ⟨_, _, K i0 _ _ ⟨rfl, rfl⟩, h⟩
  · replace h := h.2 c
    replace K := fun i ro uo z => K i ro uo (Or.inr ⟨c, z⟩)
    obtain ⟨g5_, h⟩ := h
    replace K := fun i ro uo z => K i ro uo ⟨g5_, z⟩
    obtain ⟨Q9, h0, h⟩ := h
    obtain ⟨r20, S21, z9, g9⟩ := ru_here h0
    replace h := h r20 S21 g9
    replace K := fun i ro uo z => K i ro uo ⟨r20, S21, z9, z⟩
    exact ⟨_, _, K i0 _ _ ⟨rfl, rfl⟩, h⟩
set_option maxRecDepth 100000 in
theorem vw_wayOf {S : MS} {x1 : Int32} {x2 : Int32} {ro : Int32} {uo : MS} (h : v_wayOf S x1 x2 ro uo) : w_wayOf S x1 x2 (fun r u => r = ro ∧ u = uo) := by
  unfold v_wayOf at h
  unfold w_wayOf
  obtain ⟨g9, h⟩ := h
  refine ⟨g9, ?_⟩
  obtain ⟨g9, h⟩ := h
  refine ⟨g9, ?_⟩
  rcases h with ⟨c, h⟩ | ⟨c, h⟩
  · refine ⟨fun _ => ?_, fun c2 => absurd c c2⟩
    obtain ⟨g9, h⟩ := h
    refine ⟨g9, ?_⟩
    obtain ⟨g9, h⟩ := h
    refine ⟨g9, ?_⟩
    obtain ⟨p9, q9, z9, h⟩ := h
    refine ⟨_, vw_here z9, ?_⟩
    rintro p8 q8 ⟨d8, d9⟩
    subst d8
    subst d9
    exact ⟨h.1.symm, h.2.symm⟩
  · refine ⟨fun c2 => absurd c2 c, fun _ => ?_⟩
    obtain ⟨g9, h⟩ := h
    refine ⟨g9, ?_⟩
    obtain ⟨p9, q9, z9, h⟩ := h
    refine ⟨_, vw_here z9, ?_⟩
    rintro p8 q8 ⟨d8, d9⟩
    subst d8
    subst d9
    exact ⟨h.1.symm, h.2.symm⟩
set_option maxRecDepth 100000 in
theorem vz_wayOf {S : MS} {x1 : Int32} {x2 : Int32} {ro : Int32} {uo : MS} {Q : Int32 → MS → Prop} (h : v_wayOf S x1 x2 ro uo) (w : w_wayOf S x1 x2 Q) : Q ro uo := by
  unfold v_wayOf at h
  unfold w_wayOf at w
  replace h := h.2
  replace w := w.2
  replace h := h.2
  replace w := w.2
  rcases h with ⟨c, h⟩ | ⟨c, h⟩
  · replace w := w.1 c
    replace h := h.2
    replace w := w.2
    replace h := h.2
    replace w := w.2
    obtain ⟨p9, q9, z9, h⟩ := h
    obtain ⟨Q9, w0, w⟩ := w
    replace w := w p9 q9 (vz_here z9 w0)
    rw [h.1, h.2]
    exact w
  · replace w := w.2 c
    replace h := h.2
    replace w := w.2
    obtain ⟨p9, q9, z9, h⟩ := h
    obtain ⟨Q9, w0, w⟩ := w
    replace w := w p9 q9 (vz_here z9 w0)
    rw [h.1, h.2]
    exact w
def v_liveBehind_L41 (ro : Int32) (uo : MS) : Nat → MS → Int32 → Int32 → Int32 → Prop
  | 0, _, _, _, _ => False
  | n41 + 1, U41, v41_1, v41_2, v41_3 => (d_waysOf U41 v41_1 ∧ (((f_waysOf U41 v41_1).toInt ≤ v41_3.toInt ∧ (ro = v41_2 ∧ uo = U41)) ∨ (¬ (f_waysOf U41 v41_1).toInt ≤ v41_3.toInt ∧ (∃ (r11 : Int32) (S12 : MS), v_wayOf U41 v41_1 v41_3 r11 S12 ∧ (((0 : Int) ≤ r11.toInt ∧ r11.toInt < 1200) ∧ (∃ a17 : Int32, a17 = (v41_2 ||| (qI S12 90 r11.toInt.toNat)) ∧ (∃ a18 : Int32, a18 = (v41_3 + Int32.ofInt 1) ∧ ((v_liveBehind_L41 ro uo n41) S12 v41_1 a17 a18))))))))
def v_liveBehind_J38 (ro : Int32) (uo : MS) (U38 : MS) (t38_0 : Int32) (v38_1 : Int32) : Prop := (∃ n, v_liveBehind_L41 ro uo n U38 v38_1 t38_0 0)
def v_liveBehind_J37 (ro : Int32) (uo : MS) (U37 : MS) (v37_1 : Int32) : Prop := (v_liveBehind_J38 ro uo U37 0 v37_1)
def v_liveBehind (S : MS) (x1 : Int32) (ro : Int32) (uo : MS) : Prop := (((0 : Int) ≤ x1.toInt ∧ x1.toInt < 1200) ∧ (d_goesOn S (qI S 78 x1.toInt.toNat) ∧ (((f_goesOn S (qI S 78 x1.toInt.toNat)).toInt = 0 ∧ (v_liveBehind_J37 ro uo S x1)) ∨ (¬ (f_goesOn S (qI S 78 x1.toInt.toNat)).toInt = 0 ∧ (∃ (r21 : Int32) (S22 : MS), v_behind S x1 r21 S22 ∧ (((qI S22 0 129).toInt ≤ r21.toInt ∧ (v_liveBehind_J37 ro uo S22 x1)) ∨ (¬ (qI S22 0 129).toInt ≤ r21.toInt ∧ (∃ (r26 : Int32) (S27 : MS), v_behind S22 x1 r26 S27 ∧ (((0 : Int) ≤ r26.toInt ∧ r26.toInt < 1200) ∧ (v_liveBehind_J38 ro uo S27 (qI S27 90 r26.toInt.toNat) x1))))))))))
set_option maxRecDepth 100000 in
theorem ru_liveBehind_L41 {ι : Type} {P : Int32 → MS → Prop} {Q : Int32 → MS → Prop} : ∀ (n : Nat) {U41 : MS} {v41_1 : Int32} {v41_2 : Int32} {v41_3 : Int32} (i0 : ι), (∀ (i : ι) (ro : Int32) (uo : MS), (∃ n8, v_liveBehind_L41 ro uo n8 U41 v41_1 v41_2 v41_3) → P ro uo) → w_liveBehind_L41 Q n U41 v41_1 v41_2 v41_3 → ∃ ro uo, P ro uo ∧ Q ro uo := by
  intro n
  induction n with
  | zero => intro U41 v41_1 v41_2 v41_3 i0 K h; unfold w_liveBehind_L41 at h; exact h.elim
  | succ n ih =>
    intro U41 v41_1 v41_2 v41_3 i0 K h
    unfold w_liveBehind_L41 at h
    replace K := fun (i : ι × Nat) ro uo (z : v_liveBehind_L41 ro uo (i.2 + 1) U41 v41_1 v41_2 v41_3) => K i.1 ro uo ⟨i.2 + 1, z⟩
    have i00 := i0
    replace i0 : ι × Nat := (i0, 0)
    obtain ⟨g1_, h⟩ := h
    replace K := fun i ro uo z => K i ro uo ⟨g1_, z⟩
    by_cases c : (f_waysOf U41 v41_1).toInt ≤ v41_3.toInt
    · replace h := h.1 c
      replace K := fun i ro uo z => K i ro uo (Or.inl ⟨c, z⟩)
      exact ⟨_, _, K i0 _ _ ⟨rfl, rfl⟩, h⟩
    · replace h := h.2 c
      replace K := fun i ro uo z => K i ro uo (Or.inr ⟨c, z⟩)
      obtain ⟨Q9, h0, h⟩ := h
      obtain ⟨r11, S12, z9, g9⟩ := ru_wayOf h0
      replace h := h r11 S12 g9
      replace K := fun i ro uo z => K i ro uo ⟨r11, S12, z9, z⟩
      obtain ⟨g2_, h⟩ := h
      replace K := fun i ro uo z => K i ro uo ⟨g2_, z⟩
      obtain ⟨a17, ea17⟩ : ∃ x9 : Int32, x9 = (v41_2 ||| (qI S12 90 r11.toInt.toNat)) := ⟨_, rfl⟩
      replace h := h a17 ea17
      replace K := fun i ro uo z => K i ro uo ⟨a17, ea17, z⟩
      obtain ⟨a18, ea18⟩ : ∃ x9 : Int32, x9 = (v41_3 + Int32.ofInt 1) := ⟨_, rfl⟩
      replace h := h a18 ea18
      replace K := fun i ro uo z => K i ro uo ⟨a18, ea18, z⟩
      exact ih i00 (fun i ro uo ⟨n8, z⟩ => K (i, n8) ro uo z) h
set_option maxRecDepth 100000 in
theorem ru_liveBehind_J38 {ι : Type} {P : Int32 → MS → Prop} {Q : Int32 → MS → Prop} {U38 : MS} {t38_0 : Int32} {v38_1 : Int32} (i0 : ι) (K : ∀ (i : ι) (ro : Int32) (uo : MS), v_liveBehind_J38 ro uo U38 t38_0 v38_1 → P ro uo) (h : w_liveBehind_J38 Q U38 t38_0 v38_1) : ∃ ro uo, P ro uo ∧ Q ro uo := by
  unfold w_liveBehind_J38 at h
  obtain ⟨n9, h⟩ := h
  exact ru_liveBehind_L41 n9 i0 K h
set_option maxRecDepth 100000 in
theorem ru_liveBehind_J37 {ι : Type} {P : Int32 → MS → Prop} {Q : Int32 → MS → Prop} {U37 : MS} {v37_1 : Int32} (i0 : ι) (K : ∀ (i : ι) (ro : Int32) (uo : MS), v_liveBehind_J37 ro uo U37 v37_1 → P ro uo) (h : w_liveBehind_J37 Q U37 v37_1) : ∃ ro uo, P ro uo ∧ Q ro uo := by
  unfold w_liveBehind_J37 at h
  exact ru_liveBehind_J38 i0 K h
set_option maxRecDepth 100000 in
theorem ru_liveBehind {S : MS} {x1 : Int32} {Q : Int32 → MS → Prop} (h : w_liveBehind S x1 Q) : ∃ ro uo, v_liveBehind S x1 ro uo ∧ Q ro uo := by
  have i0 : Unit := ()
  have K : ∀ (i : Unit) (ro : Int32) (uo : MS), v_liveBehind S x1 ro uo → v_liveBehind S x1 ro uo := fun _ _ _ z => z
  unfold w_liveBehind at h
  obtain ⟨g3_, h⟩ := h
  replace K := fun i ro uo z => K i ro uo ⟨g3_, z⟩
  obtain ⟨g4_, h⟩ := h
  replace K := fun i ro uo z => K i ro uo ⟨g4_, z⟩
  by_cases c : (f_goesOn S (qI S 78 x1.toInt.toNat)).toInt = 0
  · replace h := h.1 c
    replace K := fun i ro uo z => K i ro uo (Or.inl ⟨c, z⟩)
    exact ru_liveBehind_J37 i0 K h
  · replace h := h.2 c
    replace K := fun i ro uo z => K i ro uo (Or.inr ⟨c, z⟩)
    obtain ⟨Q9, h0, h⟩ := h
    obtain ⟨r21, S22, z9, g9⟩ := ru_behind h0
    replace h := h r21 S22 g9
    replace K := fun i ro uo z => K i ro uo ⟨r21, S22, z9, z⟩
    by_cases c : (qI S22 0 129).toInt ≤ r21.toInt
    · replace h := h.1 c
      replace K := fun i ro uo z => K i ro uo (Or.inl ⟨c, z⟩)
      exact ru_liveBehind_J37 i0 K h
    · replace h := h.2 c
      replace K := fun i ro uo z => K i ro uo (Or.inr ⟨c, z⟩)
      obtain ⟨Q9, h0, h⟩ := h
      obtain ⟨r26, S27, z9, g9⟩ := ru_behind h0
      replace h := h r26 S27 g9
      replace K := fun i ro uo z => K i ro uo ⟨r26, S27, z9, z⟩
      obtain ⟨g5_, h⟩ := h
      replace K := fun i ro uo z => K i ro uo ⟨g5_, z⟩
      exact ru_liveBehind_J38 i0 K h
set_option maxRecDepth 100000 in
theorem vw_liveBehind_L41 {ro : Int32} {uo : MS} : ∀ (n : Nat) {U41 : MS} {v41_1 : Int32} {v41_2 : Int32} {v41_3 : Int32}, v_liveBehind_L41 ro uo n U41 v41_1 v41_2 v41_3 → w_liveBehind_L41 (fun r u => r = ro ∧ u = uo) n U41 v41_1 v41_2 v41_3 := by
  intro n
  induction n with
  | zero => intro U41 v41_1 v41_2 v41_3 h; unfold v_liveBehind_L41 at h; exact h.elim
  | succ n ih =>
    intro U41 v41_1 v41_2 v41_3 h
    unfold v_liveBehind_L41 at h
    unfold w_liveBehind_L41
    obtain ⟨g9, h⟩ := h
    refine ⟨g9, ?_⟩
    rcases h with ⟨c, h⟩ | ⟨c, h⟩
    · refine ⟨fun _ => ?_, fun c2 => absurd c c2⟩
      exact ⟨h.1.symm, h.2.symm⟩
    · refine ⟨fun c2 => absurd c2 c, fun _ => ?_⟩
      obtain ⟨p9, q9, z9, h⟩ := h
      refine ⟨_, vw_wayOf z9, ?_⟩
      rintro p8 q8 ⟨d8, d9⟩
      subst d8
      subst d9
      obtain ⟨g9, h⟩ := h
      refine ⟨g9, ?_⟩
      obtain ⟨v9, e9, h⟩ := h
      intro x9 d9
      have c9 : v9 = x9 := e9.trans d9.symm
      subst c9
      obtain ⟨v9, e9, h⟩ := h
      intro x9 d9
      have c9 : v9 = x9 := e9.trans d9.symm
      subst c9
      exact ih h
set_option maxRecDepth 100000 in
theorem vz_liveBehind_L41 {ro : Int32} {uo : MS} {Q : Int32 → MS → Prop} : ∀ (n m : Nat) {U41 : MS} {v41_1 : Int32} {v41_2 : Int32} {v41_3 : Int32}, v_liveBehind_L41 ro uo n U41 v41_1 v41_2 v41_3 → w_liveBehind_L41 Q m U41 v41_1 v41_2 v41_3 → Q ro uo := by
  intro n
  induction n with
  | zero => intro m U41 v41_1 v41_2 v41_3 h; unfold v_liveBehind_L41 at h; exact h.elim
  | succ n ih =>
    intro m U41 v41_1 v41_2 v41_3 h w
    cases m with
    | zero => unfold w_liveBehind_L41 at w; exact w.elim
    | succ m =>
      unfold v_liveBehind_L41 at h
      unfold w_liveBehind_L41 at w
      replace h := h.2
      replace w := w.2
      rcases h with ⟨c, h⟩ | ⟨c, h⟩
      · replace w := w.1 c
        rw [h.1, h.2]
        exact w
      · replace w := w.2 c
        obtain ⟨p9, q9, z9, h⟩ := h
        obtain ⟨Q9, w0, w⟩ := w
        replace w := w p9 q9 (vz_wayOf z9 w0)
        replace h := h.2
        replace w := w.2
        obtain ⟨v9, e9, h⟩ := h
        replace w := w v9 e9
        obtain ⟨v9, e9, h⟩ := h
        replace w := w v9 e9
        exact ih m h w
set_option maxRecDepth 100000 in
theorem vw_liveBehind_J38 {ro : Int32} {uo : MS} {U38 : MS} {t38_0 : Int32} {v38_1 : Int32} (h : v_liveBehind_J38 ro uo U38 t38_0 v38_1) : w_liveBehind_J38 (fun r u => r = ro ∧ u = uo) U38 t38_0 v38_1 := by
  unfold v_liveBehind_J38 at h
  unfold w_liveBehind_J38
  obtain ⟨n9, h⟩ := h
  exact ⟨n9, vw_liveBehind_L41 n9 h⟩
set_option maxRecDepth 100000 in
theorem vz_liveBehind_J38 {ro : Int32} {uo : MS} {Q : Int32 → MS → Prop} {U38 : MS} {t38_0 : Int32} {v38_1 : Int32} (h : v_liveBehind_J38 ro uo U38 t38_0 v38_1) (w : w_liveBehind_J38 Q U38 t38_0 v38_1) : Q ro uo := by
  unfold v_liveBehind_J38 at h
  unfold w_liveBehind_J38 at w
  obtain ⟨n9, h⟩ := h
  obtain ⟨n8, w⟩ := w
  exact vz_liveBehind_L41 n9 n8 h w
set_option maxRecDepth 100000 in
theorem vw_liveBehind_J37 {ro : Int32} {uo : MS} {U37 : MS} {v37_1 : Int32} (h : v_liveBehind_J37 ro uo U37 v37_1) : w_liveBehind_J37 (fun r u => r = ro ∧ u = uo) U37 v37_1 := by
  unfold v_liveBehind_J37 at h
  unfold w_liveBehind_J37
  exact vw_liveBehind_J38 h
set_option maxRecDepth 100000 in
theorem vz_liveBehind_J37 {ro : Int32} {uo : MS} {Q : Int32 → MS → Prop} {U37 : MS} {v37_1 : Int32} (h : v_liveBehind_J37 ro uo U37 v37_1) (w : w_liveBehind_J37 Q U37 v37_1) : Q ro uo := by
  unfold v_liveBehind_J37 at h
  unfold w_liveBehind_J37 at w
  exact vz_liveBehind_J38 h w
set_option maxRecDepth 100000 in
theorem vw_liveBehind {S : MS} {x1 : Int32} {ro : Int32} {uo : MS} (h : v_liveBehind S x1 ro uo) : w_liveBehind S x1 (fun r u => r = ro ∧ u = uo) := by
  unfold v_liveBehind at h
  unfold w_liveBehind
  obtain ⟨g9, h⟩ := h
  refine ⟨g9, ?_⟩
  obtain ⟨g9, h⟩ := h
  refine ⟨g9, ?_⟩
  rcases h with ⟨c, h⟩ | ⟨c, h⟩
  · refine ⟨fun _ => ?_, fun c2 => absurd c c2⟩
    exact vw_liveBehind_J37 h
  · refine ⟨fun c2 => absurd c2 c, fun _ => ?_⟩
    obtain ⟨p9, q9, z9, h⟩ := h
    refine ⟨_, vw_behind z9, ?_⟩
    rintro p8 q8 ⟨d8, d9⟩
    subst d8
    subst d9
    rcases h with ⟨c, h⟩ | ⟨c, h⟩
    · refine ⟨fun _ => ?_, fun c2 => absurd c c2⟩
      exact vw_liveBehind_J37 h
    · refine ⟨fun c2 => absurd c2 c, fun _ => ?_⟩
      obtain ⟨p9, q9, z9, h⟩ := h
      refine ⟨_, vw_behind z9, ?_⟩
      rintro p8 q8 ⟨d8, d9⟩
      subst d8
      subst d9
      obtain ⟨g9, h⟩ := h
      refine ⟨g9, ?_⟩
      exact vw_liveBehind_J38 h
set_option maxRecDepth 100000 in
theorem vz_liveBehind {S : MS} {x1 : Int32} {ro : Int32} {uo : MS} {Q : Int32 → MS → Prop} (h : v_liveBehind S x1 ro uo) (w : w_liveBehind S x1 Q) : Q ro uo := by
  unfold v_liveBehind at h
  unfold w_liveBehind at w
  replace h := h.2
  replace w := w.2
  replace h := h.2
  replace w := w.2
  rcases h with ⟨c, h⟩ | ⟨c, h⟩
  · replace w := w.1 c
    exact vz_liveBehind_J37 h w
  · replace w := w.2 c
    obtain ⟨p9, q9, z9, h⟩ := h
    obtain ⟨Q9, w0, w⟩ := w
    replace w := w p9 q9 (vz_behind z9 w0)
    rcases h with ⟨c, h⟩ | ⟨c, h⟩
    · replace w := w.1 c
      exact vz_liveBehind_J37 h w
    · replace w := w.2 c
      obtain ⟨p9, q9, z9, h⟩ := h
      obtain ⟨Q9, w0, w⟩ := w
      replace w := w p9 q9 (vz_behind z9 w0)
      replace h := h.2
      replace w := w.2
      exact vz_liveBehind_J38 h w
def v_dead_J95 (ro : Int32) (uo : MS) (U95 : MS) (t95_0 : Int32) (t95_1 : Int32) (v95_1 : Int32) : Prop := (((0 : Int) ≤ t95_1.toInt ∧ t95_1.toInt < 1200) ∧ (∃ S25 : MS, S25 = wI U95 78 t95_1.toInt.toNat t95_0 ∧ (((0 : Int) ≤ v95_1.toInt ∧ v95_1.toInt < 1200) ∧ (∃ S27 : MS, S27 = wI S25 79 v95_1.toInt.toNat (0 : Int32) ∧ (((0 : Int) ≤ v95_1.toInt ∧ v95_1.toInt < 1200) ∧ (∃ S29 : MS, S29 = wI S27 80 v95_1.toInt.toNat (0 : Int32) ∧ (ro = (1 : Int32) ∧ uo = S29)))))))
def v_dead_J24 (ro : Int32) (uo : MS) (U24 : MS) (v24_1 : Int32) : Prop := (∃ (r7 : Int32) (S8 : MS), v_liveBehind U24 v24_1 r7 S8 ∧ (((0 : Int) ≤ v24_1.toInt ∧ v24_1.toInt < 1200) ∧ (((0 : Int) ≤ v24_1.toInt ∧ v24_1.toInt < 1200) ∧ (d_bitsOf S8 (qI S8 78 v24_1.toInt.toNat) (qI S8 79 v24_1.toInt.toNat) ∧ (((r7 &&& (f_bitsOf S8 (qI S8 78 v24_1.toInt.toNat) (qI S8 79 v24_1.toInt.toNat))).toInt = 0 ∧ (((0 : Int) ≤ v24_1.toInt ∧ v24_1.toInt < 1200) ∧ (((qI S8 78 v24_1.toInt.toNat).toInt = 132 ∧ (((0 : Int) ≤ v24_1.toInt ∧ v24_1.toInt < 1200) ∧ (∃ S32 : MS, S32 = wI S8 81 v24_1.toInt.toNat (vp_nar .boolean (1 : Int32)) ∧ (ro = (1 : Int32) ∧ uo = S32)))) ∨ (¬ (qI S8 78 v24_1.toInt.toNat).toInt = 132 ∧ (((0 : Int) ≤ v24_1.toInt ∧ v24_1.toInt < 1200) ∧ (((qI S8 78 v24_1.toInt.toNat).toInt = 55 ∧ (v_dead_J95 ro uo S8 88 v24_1 v24_1)) ∨ (¬ (qI S8 78 v24_1.toInt.toNat).toInt = 55 ∧ (v_dead_J95 ro uo S8 87 v24_1 v24_1)))))))) ∨ (¬ (r7 &&& (f_bitsOf S8 (qI S8 78 v24_1.toInt.toNat) (qI S8 79 v24_1.toInt.toNat))).toInt = 0 ∧ (ro = (0 : Int32) ∧ uo = S8)))))))
def v_dead (S : MS) (x1 : Int32) (ro : Int32) (uo : MS) : Prop := (((0 : Int) ≤ x1.toInt ∧ x1.toInt < 1200) ∧ (d_isStore S (qI S 78 x1.toInt.toNat) ∧ (((f_isStore S (qI S 78 x1.toInt.toNat)).toInt = 0 ∧ (((0 : Int) ≤ x1.toInt ∧ x1.toInt < 1200) ∧ (((qI S 78 x1.toInt.toNat).toInt = 132 ∧ (v_dead_J24 ro uo S x1)) ∨ (¬ (qI S 78 x1.toInt.toNat).toInt = 132 ∧ (ro = (0 : Int32) ∧ uo = S))))) ∨ (¬ (f_isStore S (qI S 78 x1.toInt.toNat)).toInt = 0 ∧ (v_dead_J24 ro uo S x1)))))
set_option maxRecDepth 100000 in
theorem ru_dead_J95 {ι : Type} {P : Int32 → MS → Prop} {Q : Int32 → MS → Prop} {U95 : MS} {t95_0 : Int32} {t95_1 : Int32} {v95_1 : Int32} (i0 : ι) (K : ∀ (i : ι) (ro : Int32) (uo : MS), v_dead_J95 ro uo U95 t95_0 t95_1 v95_1 → P ro uo) (h : w_dead_J95 Q U95 t95_0 t95_1 v95_1) : ∃ ro uo, P ro uo ∧ Q ro uo := by
  unfold w_dead_J95 at h
  obtain ⟨g1_, h⟩ := h
  replace K := fun i ro uo z => K i ro uo ⟨g1_, z⟩
  obtain ⟨S25, eS25⟩ : ∃ x9 : MS, x9 = wI U95 78 t95_1.toInt.toNat t95_0 := ⟨_, rfl⟩
  replace h := h S25 eS25
  replace K := fun i ro uo z => K i ro uo ⟨S25, eS25, z⟩
  obtain ⟨g2_, h⟩ := h
  replace K := fun i ro uo z => K i ro uo ⟨g2_, z⟩
  obtain ⟨S27, eS27⟩ : ∃ x9 : MS, x9 = wI S25 79 v95_1.toInt.toNat (0 : Int32) := ⟨_, rfl⟩
  replace h := h S27 eS27
  replace K := fun i ro uo z => K i ro uo ⟨S27, eS27, z⟩
  obtain ⟨g3_, h⟩ := h
  replace K := fun i ro uo z => K i ro uo ⟨g3_, z⟩
  obtain ⟨S29, eS29⟩ : ∃ x9 : MS, x9 = wI S27 80 v95_1.toInt.toNat (0 : Int32) := ⟨_, rfl⟩
  replace h := h S29 eS29
  replace K := fun i ro uo z => K i ro uo ⟨S29, eS29, z⟩
  exact ⟨_, _, K i0 _ _ ⟨rfl, rfl⟩, h⟩
set_option maxRecDepth 100000 in
theorem ru_dead_J24 {ι : Type} {P : Int32 → MS → Prop} {Q : Int32 → MS → Prop} {U24 : MS} {v24_1 : Int32} (i0 : ι) (K : ∀ (i : ι) (ro : Int32) (uo : MS), v_dead_J24 ro uo U24 v24_1 → P ro uo) (h : w_dead_J24 Q U24 v24_1) : ∃ ro uo, P ro uo ∧ Q ro uo := by
  unfold w_dead_J24 at h
  obtain ⟨Q9, h0, h⟩ := h
  obtain ⟨r7, S8, z9, g9⟩ := ru_liveBehind h0
  replace h := h r7 S8 g9
  replace K := fun i ro uo z => K i ro uo ⟨r7, S8, z9, z⟩
  obtain ⟨g4_, h⟩ := h
  replace K := fun i ro uo z => K i ro uo ⟨g4_, z⟩
  obtain ⟨g5_, h⟩ := h
  replace K := fun i ro uo z => K i ro uo ⟨g5_, z⟩
  obtain ⟨g6_, h⟩ := h
  replace K := fun i ro uo z => K i ro uo ⟨g6_, z⟩
  by_cases c : (r7 &&& (f_bitsOf S8 (qI S8 78 v24_1.toInt.toNat) (qI S8 79 v24_1.toInt.toNat))).toInt = 0
  · replace h := h.1 c
    replace K := fun i ro uo z => K i ro uo (Or.inl ⟨c, z⟩)
    obtain ⟨g7_, h⟩ := h
    replace K := fun i ro uo z => K i ro uo ⟨g7_, z⟩
    by_cases c : (qI S8 78 v24_1.toInt.toNat).toInt = 132
    · replace h := h.1 c
      replace K := fun i ro uo z => K i ro uo (Or.inl ⟨c, z⟩)
      obtain ⟨g8_, h⟩ := h
      replace K := fun i ro uo z => K i ro uo ⟨g8_, z⟩
      obtain ⟨S32, eS32⟩ : ∃ x9 : MS, x9 = wI S8 81 v24_1.toInt.toNat (vp_nar .boolean (1 : Int32)) := ⟨_, rfl⟩
      replace h := h S32 eS32
      replace K := fun i ro uo z => K i ro uo ⟨S32, eS32, z⟩
      exact ⟨_, _, K i0 _ _ ⟨rfl, rfl⟩, h⟩
    · replace h := h.2 c
      replace K := fun i ro uo z => K i ro uo (Or.inr ⟨c, z⟩)
      obtain ⟨g9_, h⟩ := h
      replace K := fun i ro uo z => K i ro uo ⟨g9_, z⟩
      by_cases c : (qI S8 78 v24_1.toInt.toNat).toInt = 55
      · replace h := h.1 c
        replace K := fun i ro uo z => K i ro uo (Or.inl ⟨c, z⟩)
        exact ru_dead_J95 i0 K h
      · replace h := h.2 c
        replace K := fun i ro uo z => K i ro uo (Or.inr ⟨c, z⟩)
        exact ru_dead_J95 i0 K h
  · replace h := h.2 c
    replace K := fun i ro uo z => K i ro uo (Or.inr ⟨c, z⟩)
    exact ⟨_, _, K i0 _ _ ⟨rfl, rfl⟩, h⟩
set_option maxRecDepth 100000 in
theorem ru_dead {S : MS} {x1 : Int32} {Q : Int32 → MS → Prop} (h : w_dead S x1 Q) : ∃ ro uo, v_dead S x1 ro uo ∧ Q ro uo := by
  have i0 : Unit := ()
  have K : ∀ (i : Unit) (ro : Int32) (uo : MS), v_dead S x1 ro uo → v_dead S x1 ro uo := fun _ _ _ z => z
  unfold w_dead at h
  obtain ⟨g10_, h⟩ := h
  replace K := fun i ro uo z => K i ro uo ⟨g10_, z⟩
  obtain ⟨g11_, h⟩ := h
  replace K := fun i ro uo z => K i ro uo ⟨g11_, z⟩
  by_cases c : (f_isStore S (qI S 78 x1.toInt.toNat)).toInt = 0
  · replace h := h.1 c
    replace K := fun i ro uo z => K i ro uo (Or.inl ⟨c, z⟩)
    obtain ⟨g12_, h⟩ := h
    replace K := fun i ro uo z => K i ro uo ⟨g12_, z⟩
    by_cases c : (qI S 78 x1.toInt.toNat).toInt = 132
    · replace h := h.1 c
      replace K := fun i ro uo z => K i ro uo (Or.inl ⟨c, z⟩)
      exact ru_dead_J24 i0 K h
    · replace h := h.2 c
      replace K := fun i ro uo z => K i ro uo (Or.inr ⟨c, z⟩)
      exact ⟨_, _, K i0 _ _ ⟨rfl, rfl⟩, h⟩
  · replace h := h.2 c
    replace K := fun i ro uo z => K i ro uo (Or.inr ⟨c, z⟩)
    exact ru_dead_J24 i0 K h
set_option maxRecDepth 100000 in
theorem vw_dead_J95 {ro : Int32} {uo : MS} {U95 : MS} {t95_0 : Int32} {t95_1 : Int32} {v95_1 : Int32} (h : v_dead_J95 ro uo U95 t95_0 t95_1 v95_1) : w_dead_J95 (fun r u => r = ro ∧ u = uo) U95 t95_0 t95_1 v95_1 := by
  unfold v_dead_J95 at h
  unfold w_dead_J95
  obtain ⟨g9, h⟩ := h
  refine ⟨g9, ?_⟩
  obtain ⟨v9, e9, h⟩ := h
  intro x9 d9
  have c9 : v9 = x9 := e9.trans d9.symm
  subst c9
  obtain ⟨g9, h⟩ := h
  refine ⟨g9, ?_⟩
  obtain ⟨v9, e9, h⟩ := h
  intro x9 d9
  have c9 : v9 = x9 := e9.trans d9.symm
  subst c9
  obtain ⟨g9, h⟩ := h
  refine ⟨g9, ?_⟩
  obtain ⟨v9, e9, h⟩ := h
  intro x9 d9
  have c9 : v9 = x9 := e9.trans d9.symm
  subst c9
  exact ⟨h.1.symm, h.2.symm⟩
set_option maxRecDepth 100000 in
theorem vz_dead_J95 {ro : Int32} {uo : MS} {Q : Int32 → MS → Prop} {U95 : MS} {t95_0 : Int32} {t95_1 : Int32} {v95_1 : Int32} (h : v_dead_J95 ro uo U95 t95_0 t95_1 v95_1) (w : w_dead_J95 Q U95 t95_0 t95_1 v95_1) : Q ro uo := by
  unfold v_dead_J95 at h
  unfold w_dead_J95 at w
  replace h := h.2
  replace w := w.2
  obtain ⟨v9, e9, h⟩ := h
  replace w := w v9 e9
  replace h := h.2
  replace w := w.2
  obtain ⟨v9, e9, h⟩ := h
  replace w := w v9 e9
  replace h := h.2
  replace w := w.2
  obtain ⟨v9, e9, h⟩ := h
  replace w := w v9 e9
  rw [h.1, h.2]
  exact w
set_option maxRecDepth 100000 in
theorem vw_dead_J24 {ro : Int32} {uo : MS} {U24 : MS} {v24_1 : Int32} (h : v_dead_J24 ro uo U24 v24_1) : w_dead_J24 (fun r u => r = ro ∧ u = uo) U24 v24_1 := by
  unfold v_dead_J24 at h
  unfold w_dead_J24
  obtain ⟨p9, q9, z9, h⟩ := h
  refine ⟨_, vw_liveBehind z9, ?_⟩
  rintro p8 q8 ⟨d8, d9⟩
  subst d8
  subst d9
  obtain ⟨g9, h⟩ := h
  refine ⟨g9, ?_⟩
  obtain ⟨g9, h⟩ := h
  refine ⟨g9, ?_⟩
  obtain ⟨g9, h⟩ := h
  refine ⟨g9, ?_⟩
  rcases h with ⟨c, h⟩ | ⟨c, h⟩
  · refine ⟨fun _ => ?_, fun c2 => absurd c c2⟩
    obtain ⟨g9, h⟩ := h
    refine ⟨g9, ?_⟩
    rcases h with ⟨c, h⟩ | ⟨c, h⟩
    · refine ⟨fun _ => ?_, fun c2 => absurd c c2⟩
      obtain ⟨g9, h⟩ := h
      refine ⟨g9, ?_⟩
      obtain ⟨v9, e9, h⟩ := h
      intro x9 d9
      have c9 : v9 = x9 := e9.trans d9.symm
      subst c9
      exact ⟨h.1.symm, h.2.symm⟩
    · refine ⟨fun c2 => absurd c2 c, fun _ => ?_⟩
      obtain ⟨g9, h⟩ := h
      refine ⟨g9, ?_⟩
      rcases h with ⟨c, h⟩ | ⟨c, h⟩
      · refine ⟨fun _ => ?_, fun c2 => absurd c c2⟩
        exact vw_dead_J95 h
      · refine ⟨fun c2 => absurd c2 c, fun _ => ?_⟩
        exact vw_dead_J95 h
  · refine ⟨fun c2 => absurd c2 c, fun _ => ?_⟩
    exact ⟨h.1.symm, h.2.symm⟩
set_option maxRecDepth 100000 in
theorem vz_dead_J24 {ro : Int32} {uo : MS} {Q : Int32 → MS → Prop} {U24 : MS} {v24_1 : Int32} (h : v_dead_J24 ro uo U24 v24_1) (w : w_dead_J24 Q U24 v24_1) : Q ro uo := by
  unfold v_dead_J24 at h
  unfold w_dead_J24 at w
  obtain ⟨p9, q9, z9, h⟩ := h
  obtain ⟨Q9, w0, w⟩ := w
  replace w := w p9 q9 (vz_liveBehind z9 w0)
  replace h := h.2
  replace w := w.2
  replace h := h.2
  replace w := w.2
  replace h := h.2
  replace w := w.2
  rcases h with ⟨c, h⟩ | ⟨c, h⟩
  · replace w := w.1 c
    replace h := h.2
    replace w := w.2
    rcases h with ⟨c, h⟩ | ⟨c, h⟩
    · replace w := w.1 c
      replace h := h.2
      replace w := w.2
      obtain ⟨v9, e9, h⟩ := h
      replace w := w v9 e9
      rw [h.1, h.2]
      exact w
    · replace w := w.2 c
      replace h := h.2
      replace w := w.2
      rcases h with ⟨c, h⟩ | ⟨c, h⟩
      · replace w := w.1 c
        exact vz_dead_J95 h w
      · replace w := w.2 c
        exact vz_dead_J95 h w
  · replace w := w.2 c
    rw [h.1, h.2]
    exact w
set_option maxRecDepth 100000 in
theorem vw_dead {S : MS} {x1 : Int32} {ro : Int32} {uo : MS} (h : v_dead S x1 ro uo) : w_dead S x1 (fun r u => r = ro ∧ u = uo) := by
  unfold v_dead at h
  unfold w_dead
  obtain ⟨g9, h⟩ := h
  refine ⟨g9, ?_⟩
  obtain ⟨g9, h⟩ := h
  refine ⟨g9, ?_⟩
  rcases h with ⟨c, h⟩ | ⟨c, h⟩
  · refine ⟨fun _ => ?_, fun c2 => absurd c c2⟩
    obtain ⟨g9, h⟩ := h
    refine ⟨g9, ?_⟩
    rcases h with ⟨c, h⟩ | ⟨c, h⟩
    · refine ⟨fun _ => ?_, fun c2 => absurd c c2⟩
      exact vw_dead_J24 h
    · refine ⟨fun c2 => absurd c2 c, fun _ => ?_⟩
      exact ⟨h.1.symm, h.2.symm⟩
  · refine ⟨fun c2 => absurd c2 c, fun _ => ?_⟩
    exact vw_dead_J24 h
set_option maxRecDepth 100000 in
theorem vz_dead {S : MS} {x1 : Int32} {ro : Int32} {uo : MS} {Q : Int32 → MS → Prop} (h : v_dead S x1 ro uo) (w : w_dead S x1 Q) : Q ro uo := by
  unfold v_dead at h
  unfold w_dead at w
  replace h := h.2
  replace w := w.2
  replace h := h.2
  replace w := w.2
  rcases h with ⟨c, h⟩ | ⟨c, h⟩
  · replace w := w.1 c
    replace h := h.2
    replace w := w.2
    rcases h with ⟨c, h⟩ | ⟨c, h⟩
    · replace w := w.1 c
      exact vz_dead_J24 h w
    · replace w := w.2 c
      rw [h.1, h.2]
      exact w
  · replace w := w.2 c
    exact vz_dead_J24 h w
def v_settle (S : MS) (x1 : Int32) (x2 : Int32) (x3 : Int32) (uo : MS) : Prop := (((0 : Int) ≤ x2.toInt ∧ x2.toInt < 1200) ∧ (∃ a3 : Int32, a3 = (qI S 79 x2.toInt.toNat) ∧ (((0 : Int) ≤ x2.toInt ∧ x2.toInt < 1200) ∧ (∃ S5 : MS, S5 = wI S 81 x2.toInt.toNat (vp_nar .boolean (1 : Int32)) ∧ ((x3.toInt = 0 ∧ (((0 : Int) ≤ x1.toInt ∧ x1.toInt < 1200) ∧ (∃ S14 : MS, S14 = wI S5 81 x1.toInt.toNat (vp_nar .boolean (1 : Int32)) ∧ (uo = S14)))) ∨ (¬ x3.toInt = 0 ∧ (((0 : Int) ≤ x1.toInt ∧ x1.toInt < 1200) ∧ (∃ S8 : MS, S8 = wI S5 78 x1.toInt.toNat (167 : Int32) ∧ (((0 : Int) ≤ x1.toInt ∧ x1.toInt < 1200) ∧ (∃ S10 : MS, S10 = wI S8 79 x1.toInt.toNat a3 ∧ (((0 : Int) ≤ x1.toInt ∧ x1.toInt < 1200) ∧ (∃ S12 : MS, S12 = wI S10 80 x1.toInt.toNat (0 : Int32) ∧ (uo = S12)))))))))))))
set_option maxRecDepth 100000 in
theorem ru_settle {S : MS} {x1 : Int32} {x2 : Int32} {x3 : Int32} {Q : MS → Prop} (h : w_settle S x1 x2 x3 Q) : ∃ uo, v_settle S x1 x2 x3 uo ∧ Q uo := by
  have i0 : Unit := ()
  have K : ∀ (i : Unit) (uo : MS), v_settle S x1 x2 x3 uo → v_settle S x1 x2 x3 uo := fun _ _ z => z
  unfold w_settle at h
  obtain ⟨g1_, h⟩ := h
  replace K := fun i uo z => K i uo ⟨g1_, z⟩
  obtain ⟨a3, ea3⟩ : ∃ x9 : Int32, x9 = (qI S 79 x2.toInt.toNat) := ⟨_, rfl⟩
  replace h := h a3 ea3
  replace K := fun i uo z => K i uo ⟨a3, ea3, z⟩
  obtain ⟨g2_, h⟩ := h
  replace K := fun i uo z => K i uo ⟨g2_, z⟩
  obtain ⟨S5, eS5⟩ : ∃ x9 : MS, x9 = wI S 81 x2.toInt.toNat (vp_nar .boolean (1 : Int32)) := ⟨_, rfl⟩
  replace h := h S5 eS5
  replace K := fun i uo z => K i uo ⟨S5, eS5, z⟩
  by_cases c : x3.toInt = 0
  · replace h := h.1 c
    replace K := fun i uo z => K i uo (Or.inl ⟨c, z⟩)
    obtain ⟨g3_, h⟩ := h
    replace K := fun i uo z => K i uo ⟨g3_, z⟩
    obtain ⟨S14, eS14⟩ : ∃ x9 : MS, x9 = wI S5 81 x1.toInt.toNat (vp_nar .boolean (1 : Int32)) := ⟨_, rfl⟩
    replace h := h S14 eS14
    replace K := fun i uo z => K i uo ⟨S14, eS14, z⟩
    exact ⟨_, K i0 _ rfl, h⟩
  · replace h := h.2 c
    replace K := fun i uo z => K i uo (Or.inr ⟨c, z⟩)
    obtain ⟨g4_, h⟩ := h
    replace K := fun i uo z => K i uo ⟨g4_, z⟩
    obtain ⟨S8, eS8⟩ : ∃ x9 : MS, x9 = wI S5 78 x1.toInt.toNat (167 : Int32) := ⟨_, rfl⟩
    replace h := h S8 eS8
    replace K := fun i uo z => K i uo ⟨S8, eS8, z⟩
    obtain ⟨g5_, h⟩ := h
    replace K := fun i uo z => K i uo ⟨g5_, z⟩
    obtain ⟨S10, eS10⟩ : ∃ x9 : MS, x9 = wI S8 79 x1.toInt.toNat a3 := ⟨_, rfl⟩
    replace h := h S10 eS10
    replace K := fun i uo z => K i uo ⟨S10, eS10, z⟩
    obtain ⟨g6_, h⟩ := h
    replace K := fun i uo z => K i uo ⟨g6_, z⟩
    obtain ⟨S12, eS12⟩ : ∃ x9 : MS, x9 = wI S10 80 x1.toInt.toNat (0 : Int32) := ⟨_, rfl⟩
    replace h := h S12 eS12
    replace K := fun i uo z => K i uo ⟨S12, eS12, z⟩
    exact ⟨_, K i0 _ rfl, h⟩
set_option maxRecDepth 100000 in
theorem vw_settle {S : MS} {x1 : Int32} {x2 : Int32} {x3 : Int32} {uo : MS} (h : v_settle S x1 x2 x3 uo) : w_settle S x1 x2 x3 (fun u => u = uo) := by
  unfold v_settle at h
  unfold w_settle
  obtain ⟨g9, h⟩ := h
  refine ⟨g9, ?_⟩
  obtain ⟨v9, e9, h⟩ := h
  intro x9 d9
  have c9 : v9 = x9 := e9.trans d9.symm
  subst c9
  obtain ⟨g9, h⟩ := h
  refine ⟨g9, ?_⟩
  obtain ⟨v9, e9, h⟩ := h
  intro x9 d9
  have c9 : v9 = x9 := e9.trans d9.symm
  subst c9
  rcases h with ⟨c, h⟩ | ⟨c, h⟩
  · refine ⟨fun _ => ?_, fun c2 => absurd c c2⟩
    obtain ⟨g9, h⟩ := h
    refine ⟨g9, ?_⟩
    obtain ⟨v9, e9, h⟩ := h
    intro x9 d9
    have c9 : v9 = x9 := e9.trans d9.symm
    subst c9
    exact h.symm
  · refine ⟨fun c2 => absurd c2 c, fun _ => ?_⟩
    obtain ⟨g9, h⟩ := h
    refine ⟨g9, ?_⟩
    obtain ⟨v9, e9, h⟩ := h
    intro x9 d9
    have c9 : v9 = x9 := e9.trans d9.symm
    subst c9
    obtain ⟨g9, h⟩ := h
    refine ⟨g9, ?_⟩
    obtain ⟨v9, e9, h⟩ := h
    intro x9 d9
    have c9 : v9 = x9 := e9.trans d9.symm
    subst c9
    obtain ⟨g9, h⟩ := h
    refine ⟨g9, ?_⟩
    obtain ⟨v9, e9, h⟩ := h
    intro x9 d9
    have c9 : v9 = x9 := e9.trans d9.symm
    subst c9
    exact h.symm
set_option maxRecDepth 100000 in
theorem vz_settle {S : MS} {x1 : Int32} {x2 : Int32} {x3 : Int32} {uo : MS} {Q : MS → Prop} (h : v_settle S x1 x2 x3 uo) (w : w_settle S x1 x2 x3 Q) : Q uo := by
  unfold v_settle at h
  unfold w_settle at w
  replace h := h.2
  replace w := w.2
  obtain ⟨v9, e9, h⟩ := h
  replace w := w v9 e9
  replace h := h.2
  replace w := w.2
  obtain ⟨v9, e9, h⟩ := h
  replace w := w v9 e9
  rcases h with ⟨c, h⟩ | ⟨c, h⟩
  · replace w := w.1 c
    replace h := h.2
    replace w := w.2
    obtain ⟨v9, e9, h⟩ := h
    replace w := w v9 e9
    rw [h]
    exact w
  · replace w := w.2 c
    replace h := h.2
    replace w := w.2
    obtain ⟨v9, e9, h⟩ := h
    replace w := w v9 e9
    replace h := h.2
    replace w := w.2
    obtain ⟨v9, e9, h⟩ := h
    replace w := w v9 e9
    replace h := h.2
    replace w := w.2
    obtain ⟨v9, e9, h⟩ := h
    replace w := w v9 e9
    rw [h]
    exact w
def v_decided_J65 (ro : Int32) (uo : MS) (U65 : MS) (v65_1 : Int32) (v65_2 : Int32) (v65_3 : Int32) : Prop := (∃ (r7 : Int32) (S8 : MS), v_behind U65 v65_2 r7 S8 ∧ (((0 : Int) ≤ v65_2.toInt ∧ v65_2.toInt < 1200) ∧ (((qI S8 78 v65_2.toInt.toNat).toInt = 18 ∧ (((qI S8 0 129).toInt ≤ r7.toInt ∧ (ro = (0 : Int32) ∧ uo = S8)) ∨ (¬ (qI S8 0 129).toInt ≤ r7.toInt ∧ ((r7.toInt = v65_3.toInt ∧ (ro = (0 : Int32) ∧ uo = S8)) ∨ (¬ r7.toInt = v65_3.toInt ∧ (((0 : Int) ≤ r7.toInt ∧ r7.toInt < 1201) ∧ (((qI S8 87 r7.toInt.toNat).toInt = 0 ∧ (((0 : Int) ≤ r7.toInt ∧ r7.toInt < 1200) ∧ (((qI S8 78 r7.toInt.toNat).toInt < 159 ∧ (ro = (0 : Int32) ∧ uo = S8)) ∨ (¬ (qI S8 78 r7.toInt.toNat).toInt < 159 ∧ (((0 : Int) ≤ r7.toInt ∧ r7.toInt < 1200) ∧ (((qI S8 78 r7.toInt.toNat).toInt ≤ 164 ∧ (((0 : Int) ≤ r7.toInt ∧ r7.toInt < 1200) ∧ (((0 : Int) ≤ v65_1.toInt ∧ v65_1.toInt < 1200) ∧ (((0 : Int) ≤ v65_2.toInt ∧ v65_2.toInt < 1200) ∧ (d_isSo S8 ((qI S8 78 r7.toInt.toNat) - (159 : Int32)) (qI S8 79 v65_1.toInt.toNat) (qI S8 79 v65_2.toInt.toNat) ∧ (∃ a34 : Int32, a34 = (f_isSo S8 ((qI S8 78 r7.toInt.toNat) - (159 : Int32)) (qI S8 79 v65_1.toInt.toNat) (qI S8 79 v65_2.toInt.toNat)) ∧ (((0 : Int) ≤ v65_2.toInt ∧ v65_2.toInt < 1200) ∧ (∃ S36 : MS, S36 = wI S8 81 v65_2.toInt.toNat (vp_nar .boolean (1 : Int32)) ∧ (∃ (S38 : MS), v_settle S36 v65_1 r7 a34 S38 ∧ (ro = (1 : Int32) ∧ uo = S38)))))))))) ∨ (¬ (qI S8 78 r7.toInt.toNat).toInt ≤ 164 ∧ (ro = (0 : Int32) ∧ uo = S8)))))))) ∨ (¬ (qI S8 87 r7.toInt.toNat).toInt = 0 ∧ (ro = (0 : Int32) ∧ uo = S8))))))))) ∨ (¬ (qI S8 78 v65_2.toInt.toNat).toInt = 18 ∧ (ro = (0 : Int32) ∧ uo = S8)))))
def v_decided (S : MS) (x1 : Int32) (x2 : Int32) (x3 : Int32) (ro : Int32) (uo : MS) : Prop := (((0 : Int) ≤ x1.toInt ∧ x1.toInt < 1200) ∧ (((qI S 78 x1.toInt.toNat).toInt = 18 ∧ (((0 : Int) ≤ x2.toInt ∧ x2.toInt < 1200) ∧ (((qI S 78 x2.toInt.toNat).toInt < 153 ∧ (v_decided_J65 ro uo S x1 x2 x3)) ∨ (¬ (qI S 78 x2.toInt.toNat).toInt < 153 ∧ (((0 : Int) ≤ x2.toInt ∧ x2.toInt < 1200) ∧ ((158 < (qI S 78 x2.toInt.toNat).toInt ∧ (v_decided_J65 ro uo S x1 x2 x3)) ∨ (¬ 158 < (qI S 78 x2.toInt.toNat).toInt ∧ (((0 : Int) ≤ x2.toInt ∧ x2.toInt < 1200) ∧ (((0 : Int) ≤ x1.toInt ∧ x1.toInt < 1200) ∧ (d_isSo S ((qI S 78 x2.toInt.toNat) - (153 : Int32)) (qI S 79 x1.toInt.toNat) (0 : Int32) ∧ (∃ (S53 : MS), v_settle S x1 x2 (f_isSo S ((qI S 78 x2.toInt.toNat) - (153 : Int32)) (qI S 79 x1.toInt.toNat) (0 : Int32)) S53 ∧ (ro = (1 : Int32) ∧ uo = S53)))))))))))) ∨ (¬ (qI S 78 x1.toInt.toNat).toInt = 18 ∧ (ro = (0 : Int32) ∧ uo = S))))
set_option maxRecDepth 100000 in
theorem ru_decided_J65 {ι : Type} {P : Int32 → MS → Prop} {Q : Int32 → MS → Prop} {U65 : MS} {v65_1 : Int32} {v65_2 : Int32} {v65_3 : Int32} (i0 : ι) (K : ∀ (i : ι) (ro : Int32) (uo : MS), v_decided_J65 ro uo U65 v65_1 v65_2 v65_3 → P ro uo) (h : w_decided_J65 Q U65 v65_1 v65_2 v65_3) : ∃ ro uo, P ro uo ∧ Q ro uo := by
  unfold w_decided_J65 at h
  obtain ⟨Q9, h0, h⟩ := h
  obtain ⟨r7, S8, z9, g9⟩ := ru_behind h0
  replace h := h r7 S8 g9
  replace K := fun i ro uo z => K i ro uo ⟨r7, S8, z9, z⟩
  obtain ⟨g1_, h⟩ := h
  replace K := fun i ro uo z => K i ro uo ⟨g1_, z⟩
  by_cases c : (qI S8 78 v65_2.toInt.toNat).toInt = 18
  · replace h := h.1 c
    replace K := fun i ro uo z => K i ro uo (Or.inl ⟨c, z⟩)
    by_cases c : (qI S8 0 129).toInt ≤ r7.toInt
    · replace h := h.1 c
      replace K := fun i ro uo z => K i ro uo (Or.inl ⟨c, z⟩)
      exact ⟨_, _, K i0 _ _ ⟨rfl, rfl⟩, h⟩
    · replace h := h.2 c
      replace K := fun i ro uo z => K i ro uo (Or.inr ⟨c, z⟩)
      by_cases c : r7.toInt = v65_3.toInt
      · replace h := h.1 c
        replace K := fun i ro uo z => K i ro uo (Or.inl ⟨c, z⟩)
        exact ⟨_, _, K i0 _ _ ⟨rfl, rfl⟩, h⟩
      · replace h := h.2 c
        replace K := fun i ro uo z => K i ro uo (Or.inr ⟨c, z⟩)
        obtain ⟨g2_, h⟩ := h
        replace K := fun i ro uo z => K i ro uo ⟨g2_, z⟩
        by_cases c : (qI S8 87 r7.toInt.toNat).toInt = 0
        · replace h := h.1 c
          replace K := fun i ro uo z => K i ro uo (Or.inl ⟨c, z⟩)
          obtain ⟨g3_, h⟩ := h
          replace K := fun i ro uo z => K i ro uo ⟨g3_, z⟩
          by_cases c : (qI S8 78 r7.toInt.toNat).toInt < 159
          · replace h := h.1 c
            replace K := fun i ro uo z => K i ro uo (Or.inl ⟨c, z⟩)
            exact ⟨_, _, K i0 _ _ ⟨rfl, rfl⟩, h⟩
          · replace h := h.2 c
            replace K := fun i ro uo z => K i ro uo (Or.inr ⟨c, z⟩)
            obtain ⟨g4_, h⟩ := h
            replace K := fun i ro uo z => K i ro uo ⟨g4_, z⟩
            by_cases c : (qI S8 78 r7.toInt.toNat).toInt ≤ 164
            · replace h := h.1 c
              replace K := fun i ro uo z => K i ro uo (Or.inl ⟨c, z⟩)
              obtain ⟨g5_, h⟩ := h
              replace K := fun i ro uo z => K i ro uo ⟨g5_, z⟩
              obtain ⟨g6_, h⟩ := h
              replace K := fun i ro uo z => K i ro uo ⟨g6_, z⟩
              obtain ⟨g7_, h⟩ := h
              replace K := fun i ro uo z => K i ro uo ⟨g7_, z⟩
              obtain ⟨g8_, h⟩ := h
              replace K := fun i ro uo z => K i ro uo ⟨g8_, z⟩
              obtain ⟨a34, ea34⟩ : ∃ x9 : Int32, x9 = (f_isSo S8 ((qI S8 78 r7.toInt.toNat) - (159 : Int32)) (qI S8 79 v65_1.toInt.toNat) (qI S8 79 v65_2.toInt.toNat)) := ⟨_, rfl⟩
              replace h := h a34 ea34
              replace K := fun i ro uo z => K i ro uo ⟨a34, ea34, z⟩
              obtain ⟨g9_, h⟩ := h
              replace K := fun i ro uo z => K i ro uo ⟨g9_, z⟩
              obtain ⟨S36, eS36⟩ : ∃ x9 : MS, x9 = wI S8 81 v65_2.toInt.toNat (vp_nar .boolean (1 : Int32)) := ⟨_, rfl⟩
              replace h := h S36 eS36
              replace K := fun i ro uo z => K i ro uo ⟨S36, eS36, z⟩
              obtain ⟨Q9, h0, h⟩ := h
              obtain ⟨S38, z9, g9⟩ := ru_settle h0
              replace h := h S38 g9
              replace K := fun i ro uo z => K i ro uo ⟨S38, z9, z⟩
              exact ⟨_, _, K i0 _ _ ⟨rfl, rfl⟩, h⟩
            · replace h := h.2 c
              replace K := fun i ro uo z => K i ro uo (Or.inr ⟨c, z⟩)
              exact ⟨_, _, K i0 _ _ ⟨rfl, rfl⟩, h⟩
        · replace h := h.2 c
          replace K := fun i ro uo z => K i ro uo (Or.inr ⟨c, z⟩)
          exact ⟨_, _, K i0 _ _ ⟨rfl, rfl⟩, h⟩
  · replace h := h.2 c
    replace K := fun i ro uo z => K i ro uo (Or.inr ⟨c, z⟩)
    exact ⟨_, _, K i0 _ _ ⟨rfl, rfl⟩, h⟩
set_option maxRecDepth 100000 in
theorem ru_decided {S : MS} {x1 : Int32} {x2 : Int32} {x3 : Int32} {Q : Int32 → MS → Prop} (h : w_decided S x1 x2 x3 Q) : ∃ ro uo, v_decided S x1 x2 x3 ro uo ∧ Q ro uo := by
  have i0 : Unit := ()
  have K : ∀ (i : Unit) (ro : Int32) (uo : MS), v_decided S x1 x2 x3 ro uo → v_decided S x1 x2 x3 ro uo := fun _ _ _ z => z
  unfold w_decided at h
  obtain ⟨g10_, h⟩ := h
  replace K := fun i ro uo z => K i ro uo ⟨g10_, z⟩
  by_cases c : (qI S 78 x1.toInt.toNat).toInt = 18
  · replace h := h.1 c
    replace K := fun i ro uo z => K i ro uo (Or.inl ⟨c, z⟩)
    obtain ⟨g11_, h⟩ := h
    replace K := fun i ro uo z => K i ro uo ⟨g11_, z⟩
    by_cases c : (qI S 78 x2.toInt.toNat).toInt < 153
    · replace h := h.1 c
      replace K := fun i ro uo z => K i ro uo (Or.inl ⟨c, z⟩)
      exact ru_decided_J65 i0 K h
    · replace h := h.2 c
      replace K := fun i ro uo z => K i ro uo (Or.inr ⟨c, z⟩)
      obtain ⟨g12_, h⟩ := h
      replace K := fun i ro uo z => K i ro uo ⟨g12_, z⟩
      by_cases c : 158 < (qI S 78 x2.toInt.toNat).toInt
      · replace h := h.1 c
        replace K := fun i ro uo z => K i ro uo (Or.inl ⟨c, z⟩)
        exact ru_decided_J65 i0 K h
      · replace h := h.2 c
        replace K := fun i ro uo z => K i ro uo (Or.inr ⟨c, z⟩)
        obtain ⟨g13_, h⟩ := h
        replace K := fun i ro uo z => K i ro uo ⟨g13_, z⟩
        obtain ⟨g14_, h⟩ := h
        replace K := fun i ro uo z => K i ro uo ⟨g14_, z⟩
        obtain ⟨g15_, h⟩ := h
        replace K := fun i ro uo z => K i ro uo ⟨g15_, z⟩
        obtain ⟨Q9, h0, h⟩ := h
        obtain ⟨S53, z9, g9⟩ := ru_settle h0
        replace h := h S53 g9
        replace K := fun i ro uo z => K i ro uo ⟨S53, z9, z⟩
        exact ⟨_, _, K i0 _ _ ⟨rfl, rfl⟩, h⟩
  · replace h := h.2 c
    replace K := fun i ro uo z => K i ro uo (Or.inr ⟨c, z⟩)
    exact ⟨_, _, K i0 _ _ ⟨rfl, rfl⟩, h⟩
set_option maxRecDepth 100000 in
theorem vw_decided_J65 {ro : Int32} {uo : MS} {U65 : MS} {v65_1 : Int32} {v65_2 : Int32} {v65_3 : Int32} (h : v_decided_J65 ro uo U65 v65_1 v65_2 v65_3) : w_decided_J65 (fun r u => r = ro ∧ u = uo) U65 v65_1 v65_2 v65_3 := by
  unfold v_decided_J65 at h
  unfold w_decided_J65
  obtain ⟨p9, q9, z9, h⟩ := h
  refine ⟨_, vw_behind z9, ?_⟩
  rintro p8 q8 ⟨d8, d9⟩
  subst d8
  subst d9
  obtain ⟨g9, h⟩ := h
  refine ⟨g9, ?_⟩
  rcases h with ⟨c, h⟩ | ⟨c, h⟩
  · refine ⟨fun _ => ?_, fun c2 => absurd c c2⟩
    rcases h with ⟨c, h⟩ | ⟨c, h⟩
    · refine ⟨fun _ => ?_, fun c2 => absurd c c2⟩
      exact ⟨h.1.symm, h.2.symm⟩
    · refine ⟨fun c2 => absurd c2 c, fun _ => ?_⟩
      rcases h with ⟨c, h⟩ | ⟨c, h⟩
      · refine ⟨fun _ => ?_, fun c2 => absurd c c2⟩
        exact ⟨h.1.symm, h.2.symm⟩
      · refine ⟨fun c2 => absurd c2 c, fun _ => ?_⟩
        obtain ⟨g9, h⟩ := h
        refine ⟨g9, ?_⟩
        rcases h with ⟨c, h⟩ | ⟨c, h⟩
        · refine ⟨fun _ => ?_, fun c2 => absurd c c2⟩
          obtain ⟨g9, h⟩ := h
          refine ⟨g9, ?_⟩
          rcases h with ⟨c, h⟩ | ⟨c, h⟩
          · refine ⟨fun _ => ?_, fun c2 => absurd c c2⟩
            exact ⟨h.1.symm, h.2.symm⟩
          · refine ⟨fun c2 => absurd c2 c, fun _ => ?_⟩
            obtain ⟨g9, h⟩ := h
            refine ⟨g9, ?_⟩
            rcases h with ⟨c, h⟩ | ⟨c, h⟩
            · refine ⟨fun _ => ?_, fun c2 => absurd c c2⟩
              obtain ⟨g9, h⟩ := h
              refine ⟨g9, ?_⟩
              obtain ⟨g9, h⟩ := h
              refine ⟨g9, ?_⟩
              obtain ⟨g9, h⟩ := h
              refine ⟨g9, ?_⟩
              obtain ⟨g9, h⟩ := h
              refine ⟨g9, ?_⟩
              obtain ⟨v9, e9, h⟩ := h
              intro x9 d9
              have c9 : v9 = x9 := e9.trans d9.symm
              subst c9
              obtain ⟨g9, h⟩ := h
              refine ⟨g9, ?_⟩
              obtain ⟨v9, e9, h⟩ := h
              intro x9 d9
              have c9 : v9 = x9 := e9.trans d9.symm
              subst c9
              obtain ⟨q9, z9, h⟩ := h
              refine ⟨_, vw_settle z9, ?_⟩
              intro q8 d9
              subst d9
              exact ⟨h.1.symm, h.2.symm⟩
            · refine ⟨fun c2 => absurd c2 c, fun _ => ?_⟩
              exact ⟨h.1.symm, h.2.symm⟩
        · refine ⟨fun c2 => absurd c2 c, fun _ => ?_⟩
          exact ⟨h.1.symm, h.2.symm⟩
  · refine ⟨fun c2 => absurd c2 c, fun _ => ?_⟩
    exact ⟨h.1.symm, h.2.symm⟩
set_option maxRecDepth 100000 in
theorem vz_decided_J65 {ro : Int32} {uo : MS} {Q : Int32 → MS → Prop} {U65 : MS} {v65_1 : Int32} {v65_2 : Int32} {v65_3 : Int32} (h : v_decided_J65 ro uo U65 v65_1 v65_2 v65_3) (w : w_decided_J65 Q U65 v65_1 v65_2 v65_3) : Q ro uo := by
  unfold v_decided_J65 at h
  unfold w_decided_J65 at w
  obtain ⟨p9, q9, z9, h⟩ := h
  obtain ⟨Q9, w0, w⟩ := w
  replace w := w p9 q9 (vz_behind z9 w0)
  replace h := h.2
  replace w := w.2
  rcases h with ⟨c, h⟩ | ⟨c, h⟩
  · replace w := w.1 c
    rcases h with ⟨c, h⟩ | ⟨c, h⟩
    · replace w := w.1 c
      rw [h.1, h.2]
      exact w
    · replace w := w.2 c
      rcases h with ⟨c, h⟩ | ⟨c, h⟩
      · replace w := w.1 c
        rw [h.1, h.2]
        exact w
      · replace w := w.2 c
        replace h := h.2
        replace w := w.2
        rcases h with ⟨c, h⟩ | ⟨c, h⟩
        · replace w := w.1 c
          replace h := h.2
          replace w := w.2
          rcases h with ⟨c, h⟩ | ⟨c, h⟩
          · replace w := w.1 c
            rw [h.1, h.2]
            exact w
          · replace w := w.2 c
            replace h := h.2
            replace w := w.2
            rcases h with ⟨c, h⟩ | ⟨c, h⟩
            · replace w := w.1 c
              replace h := h.2
              replace w := w.2
              replace h := h.2
              replace w := w.2
              replace h := h.2
              replace w := w.2
              replace h := h.2
              replace w := w.2
              obtain ⟨v9, e9, h⟩ := h
              replace w := w v9 e9
              replace h := h.2
              replace w := w.2
              obtain ⟨v9, e9, h⟩ := h
              replace w := w v9 e9
              obtain ⟨q9, z9, h⟩ := h
              obtain ⟨Q9, w0, w⟩ := w
              replace w := w q9 (vz_settle z9 w0)
              rw [h.1, h.2]
              exact w
            · replace w := w.2 c
              rw [h.1, h.2]
              exact w
        · replace w := w.2 c
          rw [h.1, h.2]
          exact w
  · replace w := w.2 c
    rw [h.1, h.2]
    exact w
set_option maxRecDepth 100000 in
theorem vw_decided {S : MS} {x1 : Int32} {x2 : Int32} {x3 : Int32} {ro : Int32} {uo : MS} (h : v_decided S x1 x2 x3 ro uo) : w_decided S x1 x2 x3 (fun r u => r = ro ∧ u = uo) := by
  unfold v_decided at h
  unfold w_decided
  obtain ⟨g9, h⟩ := h
  refine ⟨g9, ?_⟩
  rcases h with ⟨c, h⟩ | ⟨c, h⟩
  · refine ⟨fun _ => ?_, fun c2 => absurd c c2⟩
    obtain ⟨g9, h⟩ := h
    refine ⟨g9, ?_⟩
    rcases h with ⟨c, h⟩ | ⟨c, h⟩
    · refine ⟨fun _ => ?_, fun c2 => absurd c c2⟩
      exact vw_decided_J65 h
    · refine ⟨fun c2 => absurd c2 c, fun _ => ?_⟩
      obtain ⟨g9, h⟩ := h
      refine ⟨g9, ?_⟩
      rcases h with ⟨c, h⟩ | ⟨c, h⟩
      · refine ⟨fun _ => ?_, fun c2 => absurd c c2⟩
        exact vw_decided_J65 h
      · refine ⟨fun c2 => absurd c2 c, fun _ => ?_⟩
        obtain ⟨g9, h⟩ := h
        refine ⟨g9, ?_⟩
        obtain ⟨g9, h⟩ := h
        refine ⟨g9, ?_⟩
        obtain ⟨g9, h⟩ := h
        refine ⟨g9, ?_⟩
        obtain ⟨q9, z9, h⟩ := h
        refine ⟨_, vw_settle z9, ?_⟩
        intro q8 d9
        subst d9
        exact ⟨h.1.symm, h.2.symm⟩
  · refine ⟨fun c2 => absurd c2 c, fun _ => ?_⟩
    exact ⟨h.1.symm, h.2.symm⟩
set_option maxRecDepth 100000 in
theorem vz_decided {S : MS} {x1 : Int32} {x2 : Int32} {x3 : Int32} {ro : Int32} {uo : MS} {Q : Int32 → MS → Prop} (h : v_decided S x1 x2 x3 ro uo) (w : w_decided S x1 x2 x3 Q) : Q ro uo := by
  unfold v_decided at h
  unfold w_decided at w
  replace h := h.2
  replace w := w.2
  rcases h with ⟨c, h⟩ | ⟨c, h⟩
  · replace w := w.1 c
    replace h := h.2
    replace w := w.2
    rcases h with ⟨c, h⟩ | ⟨c, h⟩
    · replace w := w.1 c
      exact vz_decided_J65 h w
    · replace w := w.2 c
      replace h := h.2
      replace w := w.2
      rcases h with ⟨c, h⟩ | ⟨c, h⟩
      · replace w := w.1 c
        exact vz_decided_J65 h w
      · replace w := w.2 c
        replace h := h.2
        replace w := w.2
        replace h := h.2
        replace w := w.2
        replace h := h.2
        replace w := w.2
        obtain ⟨q9, z9, h⟩ := h
        obtain ⟨Q9, w0, w⟩ := w
        replace w := w q9 (vz_settle z9 w0)
        rw [h.1, h.2]
        exact w
  · replace w := w.2 c
    rw [h.1, h.2]
    exact w
def v_become_J28 (uo : MS) (U28 : MS) (t28_0 : Int32) (t28_1 : Int32) (v28_1 : Int32) (v28_2 : Int32) (v28_3 : Int64) : Prop := (((0 : Int) ≤ t28_1.toInt ∧ t28_1.toInt < 1200) ∧ (∃ S4 : MS, S4 = wI U28 79 t28_1.toInt.toNat t28_0 ∧ ((v28_2.toInt = 18 ∧ (((0 : Int) ≤ v28_1.toInt ∧ v28_1.toInt < 1200) ∧ (∃ S9 : MS, S9 = wI S4 80 v28_1.toInt.toNat (0 : Int32) ∧ (uo = S9)))) ∨ (¬ v28_2.toInt = 18 ∧ (((0 : Int) ≤ v28_1.toInt ∧ v28_1.toInt < 1200) ∧ (∃ S7 : MS, S7 = wI S4 80 v28_1.toInt.toNat (v28_3.toInt32) ∧ (uo = S7)))))))
def v_become (S : MS) (x1 : Int32) (x2 : Int32) (y3 : Int64) (uo : MS) : Prop := (((0 : Int) ≤ x1.toInt ∧ x1.toInt < 1200) ∧ (∃ S2 : MS, S2 = wI S 78 x1.toInt.toNat x2 ∧ ((x2.toInt = 18 ∧ (v_become_J28 uo S2 (y3.toInt32) x1 x1 x2 y3)) ∨ (¬ x2.toInt = 18 ∧ (v_become_J28 uo S2 ((y3 >>> ((32 : Int32).toInt64 &&& 63)).toInt32) x1 x1 x2 y3)))))
set_option maxRecDepth 100000 in
theorem ru_become_J28 {ι : Type} {P : MS → Prop} {Q : MS → Prop} {U28 : MS} {t28_0 : Int32} {t28_1 : Int32} {v28_1 : Int32} {v28_2 : Int32} {v28_3 : Int64} (i0 : ι) (K : ∀ (i : ι) (uo : MS), v_become_J28 uo U28 t28_0 t28_1 v28_1 v28_2 v28_3 → P uo) (h : w_become_J28 Q U28 t28_0 t28_1 v28_1 v28_2 v28_3) : ∃ uo, P uo ∧ Q uo := by
  unfold w_become_J28 at h
  obtain ⟨g1_, h⟩ := h
  replace K := fun i uo z => K i uo ⟨g1_, z⟩
  obtain ⟨S4, eS4⟩ : ∃ x9 : MS, x9 = wI U28 79 t28_1.toInt.toNat t28_0 := ⟨_, rfl⟩
  replace h := h S4 eS4
  replace K := fun i uo z => K i uo ⟨S4, eS4, z⟩
  by_cases c : v28_2.toInt = 18
  · replace h := h.1 c
    replace K := fun i uo z => K i uo (Or.inl ⟨c, z⟩)
    obtain ⟨g2_, h⟩ := h
    replace K := fun i uo z => K i uo ⟨g2_, z⟩
    obtain ⟨S9, eS9⟩ : ∃ x9 : MS, x9 = wI S4 80 v28_1.toInt.toNat (0 : Int32) := ⟨_, rfl⟩
    replace h := h S9 eS9
    replace K := fun i uo z => K i uo ⟨S9, eS9, z⟩
    exact ⟨_, K i0 _ rfl, h⟩
  · replace h := h.2 c
    replace K := fun i uo z => K i uo (Or.inr ⟨c, z⟩)
    obtain ⟨g3_, h⟩ := h
    replace K := fun i uo z => K i uo ⟨g3_, z⟩
    obtain ⟨S7, eS7⟩ : ∃ x9 : MS, x9 = wI S4 80 v28_1.toInt.toNat (v28_3.toInt32) := ⟨_, rfl⟩
    replace h := h S7 eS7
    replace K := fun i uo z => K i uo ⟨S7, eS7, z⟩
    exact ⟨_, K i0 _ rfl, h⟩
set_option maxRecDepth 100000 in
theorem ru_become {S : MS} {x1 : Int32} {x2 : Int32} {y3 : Int64} {Q : MS → Prop} (h : w_become S x1 x2 y3 Q) : ∃ uo, v_become S x1 x2 y3 uo ∧ Q uo := by
  have i0 : Unit := ()
  have K : ∀ (i : Unit) (uo : MS), v_become S x1 x2 y3 uo → v_become S x1 x2 y3 uo := fun _ _ z => z
  unfold w_become at h
  obtain ⟨g4_, h⟩ := h
  replace K := fun i uo z => K i uo ⟨g4_, z⟩
  obtain ⟨S2, eS2⟩ : ∃ x9 : MS, x9 = wI S 78 x1.toInt.toNat x2 := ⟨_, rfl⟩
  replace h := h S2 eS2
  replace K := fun i uo z => K i uo ⟨S2, eS2, z⟩
  by_cases c : x2.toInt = 18
  · replace h := h.1 c
    replace K := fun i uo z => K i uo (Or.inl ⟨c, z⟩)
    exact ru_become_J28 i0 K h
  · replace h := h.2 c
    replace K := fun i uo z => K i uo (Or.inr ⟨c, z⟩)
    exact ru_become_J28 i0 K h
set_option maxRecDepth 100000 in
theorem vw_become_J28 {uo : MS} {U28 : MS} {t28_0 : Int32} {t28_1 : Int32} {v28_1 : Int32} {v28_2 : Int32} {v28_3 : Int64} (h : v_become_J28 uo U28 t28_0 t28_1 v28_1 v28_2 v28_3) : w_become_J28 (fun u => u = uo) U28 t28_0 t28_1 v28_1 v28_2 v28_3 := by
  unfold v_become_J28 at h
  unfold w_become_J28
  obtain ⟨g9, h⟩ := h
  refine ⟨g9, ?_⟩
  obtain ⟨v9, e9, h⟩ := h
  intro x9 d9
  have c9 : v9 = x9 := e9.trans d9.symm
  subst c9
  rcases h with ⟨c, h⟩ | ⟨c, h⟩
  · refine ⟨fun _ => ?_, fun c2 => absurd c c2⟩
    obtain ⟨g9, h⟩ := h
    refine ⟨g9, ?_⟩
    obtain ⟨v9, e9, h⟩ := h
    intro x9 d9
    have c9 : v9 = x9 := e9.trans d9.symm
    subst c9
    exact h.symm
  · refine ⟨fun c2 => absurd c2 c, fun _ => ?_⟩
    obtain ⟨g9, h⟩ := h
    refine ⟨g9, ?_⟩
    obtain ⟨v9, e9, h⟩ := h
    intro x9 d9
    have c9 : v9 = x9 := e9.trans d9.symm
    subst c9
    exact h.symm
set_option maxRecDepth 100000 in
theorem vz_become_J28 {uo : MS} {Q : MS → Prop} {U28 : MS} {t28_0 : Int32} {t28_1 : Int32} {v28_1 : Int32} {v28_2 : Int32} {v28_3 : Int64} (h : v_become_J28 uo U28 t28_0 t28_1 v28_1 v28_2 v28_3) (w : w_become_J28 Q U28 t28_0 t28_1 v28_1 v28_2 v28_3) : Q uo := by
  unfold v_become_J28 at h
  unfold w_become_J28 at w
  replace h := h.2
  replace w := w.2
  obtain ⟨v9, e9, h⟩ := h
  replace w := w v9 e9
  rcases h with ⟨c, h⟩ | ⟨c, h⟩
  · replace w := w.1 c
    replace h := h.2
    replace w := w.2
    obtain ⟨v9, e9, h⟩ := h
    replace w := w v9 e9
    rw [h]
    exact w
  · replace w := w.2 c
    replace h := h.2
    replace w := w.2
    obtain ⟨v9, e9, h⟩ := h
    replace w := w v9 e9
    rw [h]
    exact w
set_option maxRecDepth 100000 in
theorem vw_become {S : MS} {x1 : Int32} {x2 : Int32} {y3 : Int64} {uo : MS} (h : v_become S x1 x2 y3 uo) : w_become S x1 x2 y3 (fun u => u = uo) := by
  unfold v_become at h
  unfold w_become
  obtain ⟨g9, h⟩ := h
  refine ⟨g9, ?_⟩
  obtain ⟨v9, e9, h⟩ := h
  intro x9 d9
  have c9 : v9 = x9 := e9.trans d9.symm
  subst c9
  rcases h with ⟨c, h⟩ | ⟨c, h⟩
  · refine ⟨fun _ => ?_, fun c2 => absurd c c2⟩
    exact vw_become_J28 h
  · refine ⟨fun c2 => absurd c2 c, fun _ => ?_⟩
    exact vw_become_J28 h
set_option maxRecDepth 100000 in
theorem vz_become {S : MS} {x1 : Int32} {x2 : Int32} {y3 : Int64} {uo : MS} {Q : MS → Prop} (h : v_become S x1 x2 y3 uo) (w : w_become S x1 x2 y3 Q) : Q uo := by
  unfold v_become at h
  unfold w_become at w
  replace h := h.2
  replace w := w.2
  obtain ⟨v9, e9, h⟩ := h
  replace w := w v9 e9
  rcases h with ⟨c, h⟩ | ⟨c, h⟩
  · replace w := w.1 c
    exact vz_become_J28 h w
  · replace w := w.2 c
    exact vz_become_J28 h w
def v_folded_J217 (ro : Int32) (uo : MS) (U217 : MS) (v217_2 : Int32) (v217_4 : Int32) : Prop := (((0 : Int) ≤ v217_2.toInt ∧ v217_2.toInt < 1200) ∧ (∃ S40 : MS, S40 = wI U217 81 v217_2.toInt.toNat (vp_nar .boolean (1 : Int32)) ∧ (((0 : Int) ≤ v217_4.toInt ∧ v217_4.toInt < 1200) ∧ (∃ S42 : MS, S42 = wI S40 81 v217_4.toInt.toNat (vp_nar .boolean (1 : Int32)) ∧ (ro = (1 : Int32) ∧ uo = S42)))))
def v_folded_J162 (ro : Int32) (uo : MS) (U162 : MS) (t162_0 : Int64) (t162_1 : Int32) (t162_2 : Int32) (v162_2 : Int32) (v162_4 : Int32) : Prop := (∃ (S61 : MS), v_become U162 t162_2 t162_1 t162_0 S61 ∧ (v_folded_J217 ro uo S61 v162_2 v162_4))
def v_folded_J123 (ro : Int32) (uo : MS) (U123 : MS) (v123_1 : Int32) (v123_2 : Int32) (v123_4 : Int32) (v123_5 : Int32) (v123_6 : Int64) (v123_8 : Int64) : Prop := ((v123_5.toInt = 148 ∧ ((0 ≤ (lg_cmp v123_6 v123_8).toInt ∧ (((lg_cmp v123_6 v123_8).toInt ≤ 0 ∧ (v_folded_J162 ro uo U123 0 18 v123_1 v123_2 v123_4)) ∨ (¬ (lg_cmp v123_6 v123_8).toInt ≤ 0 ∧ (v_folded_J162 ro uo U123 1 18 v123_1 v123_2 v123_4)))) ∨ (¬ 0 ≤ (lg_cmp v123_6 v123_8).toInt ∧ (v_folded_J162 ro uo U123 (-1 : Int64) 18 v123_1 v123_2 v123_4)))) ∨ (¬ v123_5.toInt = 148 ∧ (((0 : Int) ≤ v123_1.toInt ∧ v123_1.toInt < 1200) ∧ (((qI U123 78 v123_1.toInt.toNat).toInt = 18 ∧ (d_intWork U123 v123_5 (v123_6.toInt32) (v123_8.toInt32) ∧ (∃ (S57 : MS), v_become U123 v123_1 (18 : Int32) ((f_intWork U123 v123_5 (v123_6.toInt32) (v123_8.toInt32)).toInt64) S57 ∧ (v_folded_J217 ro uo S57 v123_2 v123_4)))) ∨ (¬ (qI U123 78 v123_1.toInt.toNat).toInt = 18 ∧ (d_longWork U123 v123_5 v123_6 v123_8 ∧ (∃ (S51 : MS), v_become U123 v123_1 (20 : Int32) (f_longWork U123 v123_5 v123_6 v123_8) S51 ∧ (v_folded_J217 ro uo S51 v123_2 v123_4))))))))
def v_folded (S : MS) (x1 : Int32) (x2 : Int32) (x3 : Int32) (ro : Int32) (uo : MS) : Prop := (∃ (r2 : Int32) (S3 : MS), v_behind S x2 r2 S3 ∧ (((qI S3 0 129).toInt ≤ r2.toInt ∧ (ro = (0 : Int32) ∧ uo = S3)) ∨ (¬ (qI S3 0 129).toInt ≤ r2.toInt ∧ ((r2.toInt = x3.toInt ∧ (ro = (0 : Int32) ∧ uo = S3)) ∨ (¬ r2.toInt = x3.toInt ∧ (((0 : Int) ≤ r2.toInt ∧ r2.toInt < 1201) ∧ (((qI S3 87 r2.toInt.toNat).toInt = 0 ∧ (((0 : Int) ≤ r2.toInt ∧ r2.toInt < 1200) ∧ (d_isOperator S3 (qI S3 78 r2.toInt.toNat) ∧ (((f_isOperator S3 (qI S3 78 r2.toInt.toNat)).toInt = 0 ∧ (ro = (0 : Int32) ∧ uo = S3)) ∨ (¬ (f_isOperator S3 (qI S3 78 r2.toInt.toNat)).toInt = 0 ∧ (((0 : Int) ≤ r2.toInt ∧ r2.toInt < 1200) ∧ (∃ a18 : Int32, a18 = (qI S3 78 r2.toInt.toNat) ∧ (((0 : Int) ≤ x1.toInt ∧ x1.toInt < 1200) ∧ (d_lower S3 a18 ∧ (((qI S3 78 x1.toInt.toNat).toInt = (f_lower S3 a18).toInt ∧ (((0 : Int) ≤ x2.toInt ∧ x2.toInt < 1200) ∧ (d_upper S3 a18 ∧ (((qI S3 78 x2.toInt.toNat).toInt = (f_upper S3 a18).toInt ∧ (d_worthAt S3 x1 ∧ (∃ a34 : Int64, a34 = (f_worthAt S3 x1) ∧ (d_worthAt S3 x2 ∧ (∃ a38 : Int64, a38 = (f_worthAt S3 x2) ∧ ((a18.toInt < 108 ∧ (v_folded_J123 ro uo S3 x1 x2 r2 a18 a34 a38)) ∨ (¬ a18.toInt < 108 ∧ ((113 < a18.toInt ∧ (v_folded_J123 ro uo S3 x1 x2 r2 a18 a34 a38)) ∨ (¬ 113 < a18.toInt ∧ (((lg_cmp a38 0).toInt = 0 ∧ (ro = (0 : Int32) ∧ uo = S3)) ∨ (¬ (lg_cmp a38 0).toInt = 0 ∧ (v_folded_J123 ro uo S3 x1 x2 r2 a18 a34 a38)))))))))))) ∨ (¬ (qI S3 78 x2.toInt.toNat).toInt = (f_upper S3 a18).toInt ∧ (ro = (0 : Int32) ∧ uo = S3)))))) ∨ (¬ (qI S3 78 x1.toInt.toNat).toInt = (f_lower S3 a18).toInt ∧ (ro = (0 : Int32) ∧ uo = S3)))))))))))) ∨ (¬ (qI S3 87 r2.toInt.toNat).toInt = 0 ∧ (ro = (0 : Int32) ∧ uo = S3)))))))))
set_option maxRecDepth 100000 in
theorem ru_folded_J217 {ι : Type} {P : Int32 → MS → Prop} {Q : Int32 → MS → Prop} {U217 : MS} {v217_2 : Int32} {v217_4 : Int32} (i0 : ι) (K : ∀ (i : ι) (ro : Int32) (uo : MS), v_folded_J217 ro uo U217 v217_2 v217_4 → P ro uo) (h : w_folded_J217 Q U217 v217_2 v217_4) : ∃ ro uo, P ro uo ∧ Q ro uo := by
  unfold w_folded_J217 at h
  obtain ⟨g1_, h⟩ := h
  replace K := fun i ro uo z => K i ro uo ⟨g1_, z⟩
  obtain ⟨S40, eS40⟩ : ∃ x9 : MS, x9 = wI U217 81 v217_2.toInt.toNat (vp_nar .boolean (1 : Int32)) := ⟨_, rfl⟩
  replace h := h S40 eS40
  replace K := fun i ro uo z => K i ro uo ⟨S40, eS40, z⟩
  obtain ⟨g2_, h⟩ := h
  replace K := fun i ro uo z => K i ro uo ⟨g2_, z⟩
  obtain ⟨S42, eS42⟩ : ∃ x9 : MS, x9 = wI S40 81 v217_4.toInt.toNat (vp_nar .boolean (1 : Int32)) := ⟨_, rfl⟩
  replace h := h S42 eS42
  replace K := fun i ro uo z => K i ro uo ⟨S42, eS42, z⟩
  exact ⟨_, _, K i0 _ _ ⟨rfl, rfl⟩, h⟩
set_option maxRecDepth 100000 in
theorem ru_folded_J162 {ι : Type} {P : Int32 → MS → Prop} {Q : Int32 → MS → Prop} {U162 : MS} {t162_0 : Int64} {t162_1 : Int32} {t162_2 : Int32} {v162_2 : Int32} {v162_4 : Int32} (i0 : ι) (K : ∀ (i : ι) (ro : Int32) (uo : MS), v_folded_J162 ro uo U162 t162_0 t162_1 t162_2 v162_2 v162_4 → P ro uo) (h : w_folded_J162 Q U162 t162_0 t162_1 t162_2 v162_2 v162_4) : ∃ ro uo, P ro uo ∧ Q ro uo := by
  unfold w_folded_J162 at h
  obtain ⟨Q9, h0, h⟩ := h
  obtain ⟨S61, z9, g9⟩ := ru_become h0
  replace h := h S61 g9
  replace K := fun i ro uo z => K i ro uo ⟨S61, z9, z⟩
  exact ru_folded_J217 i0 K h
set_option maxRecDepth 100000 in
theorem ru_folded_J123 {ι : Type} {P : Int32 → MS → Prop} {Q : Int32 → MS → Prop} {U123 : MS} {v123_1 : Int32} {v123_2 : Int32} {v123_4 : Int32} {v123_5 : Int32} {v123_6 : Int64} {v123_8 : Int64} (i0 : ι) (K : ∀ (i : ι) (ro : Int32) (uo : MS), v_folded_J123 ro uo U123 v123_1 v123_2 v123_4 v123_5 v123_6 v123_8 → P ro uo) (h : w_folded_J123 Q U123 v123_1 v123_2 v123_4 v123_5 v123_6 v123_8) : ∃ ro uo, P ro uo ∧ Q ro uo := by
  unfold w_folded_J123 at h
  by_cases c : v123_5.toInt = 148
  · replace h := h.1 c
    replace K := fun i ro uo z => K i ro uo (Or.inl ⟨c, z⟩)
    by_cases c : 0 ≤ (lg_cmp v123_6 v123_8).toInt
    · replace h := h.1 c
      replace K := fun i ro uo z => K i ro uo (Or.inl ⟨c, z⟩)
      by_cases c : (lg_cmp v123_6 v123_8).toInt ≤ 0
      · replace h := h.1 c
        replace K := fun i ro uo z => K i ro uo (Or.inl ⟨c, z⟩)
        exact ru_folded_J162 i0 K h
      · replace h := h.2 c
        replace K := fun i ro uo z => K i ro uo (Or.inr ⟨c, z⟩)
        exact ru_folded_J162 i0 K h
    · replace h := h.2 c
      replace K := fun i ro uo z => K i ro uo (Or.inr ⟨c, z⟩)
      exact ru_folded_J162 i0 K h
  · replace h := h.2 c
    replace K := fun i ro uo z => K i ro uo (Or.inr ⟨c, z⟩)
    obtain ⟨g3_, h⟩ := h
    replace K := fun i ro uo z => K i ro uo ⟨g3_, z⟩
    by_cases c : (qI U123 78 v123_1.toInt.toNat).toInt = 18
    · replace h := h.1 c
      replace K := fun i ro uo z => K i ro uo (Or.inl ⟨c, z⟩)
      obtain ⟨g4_, h⟩ := h
      replace K := fun i ro uo z => K i ro uo ⟨g4_, z⟩
      obtain ⟨Q9, h0, h⟩ := h
      obtain ⟨S57, z9, g9⟩ := ru_become h0
      replace h := h S57 g9
      replace K := fun i ro uo z => K i ro uo ⟨S57, z9, z⟩
      exact ru_folded_J217 i0 K h
    · replace h := h.2 c
      replace K := fun i ro uo z => K i ro uo (Or.inr ⟨c, z⟩)
      obtain ⟨g5_, h⟩ := h
      replace K := fun i ro uo z => K i ro uo ⟨g5_, z⟩
      obtain ⟨Q9, h0, h⟩ := h
      obtain ⟨S51, z9, g9⟩ := ru_become h0
      replace h := h S51 g9
      replace K := fun i ro uo z => K i ro uo ⟨S51, z9, z⟩
      exact ru_folded_J217 i0 K h
set_option maxRecDepth 100000 in
theorem ru_folded {S : MS} {x1 : Int32} {x2 : Int32} {x3 : Int32} {Q : Int32 → MS → Prop} (h : w_folded S x1 x2 x3 Q) : ∃ ro uo, v_folded S x1 x2 x3 ro uo ∧ Q ro uo := by
  have i0 : Unit := ()
  have K : ∀ (i : Unit) (ro : Int32) (uo : MS), v_folded S x1 x2 x3 ro uo → v_folded S x1 x2 x3 ro uo := fun _ _ _ z => z
  unfold w_folded at h
  obtain ⟨Q9, h0, h⟩ := h
  obtain ⟨r2, S3, z9, g9⟩ := ru_behind h0
  replace h := h r2 S3 g9
  replace K := fun i ro uo z => K i ro uo ⟨r2, S3, z9, z⟩
  by_cases c : (qI S3 0 129).toInt ≤ r2.toInt
  · replace h := h.1 c
    replace K := fun i ro uo z => K i ro uo (Or.inl ⟨c, z⟩)
    exact ⟨_, _, K i0 _ _ ⟨rfl, rfl⟩, h⟩
  · replace h := h.2 c
    replace K := fun i ro uo z => K i ro uo (Or.inr ⟨c, z⟩)
    by_cases c : r2.toInt = x3.toInt
    · replace h := h.1 c
      replace K := fun i ro uo z => K i ro uo (Or.inl ⟨c, z⟩)
      exact ⟨_, _, K i0 _ _ ⟨rfl, rfl⟩, h⟩
    · replace h := h.2 c
      replace K := fun i ro uo z => K i ro uo (Or.inr ⟨c, z⟩)
      obtain ⟨g6_, h⟩ := h
      replace K := fun i ro uo z => K i ro uo ⟨g6_, z⟩
      by_cases c : (qI S3 87 r2.toInt.toNat).toInt = 0
      · replace h := h.1 c
        replace K := fun i ro uo z => K i ro uo (Or.inl ⟨c, z⟩)
        obtain ⟨g7_, h⟩ := h
        replace K := fun i ro uo z => K i ro uo ⟨g7_, z⟩
        obtain ⟨g8_, h⟩ := h
        replace K := fun i ro uo z => K i ro uo ⟨g8_, z⟩
        by_cases c : (f_isOperator S3 (qI S3 78 r2.toInt.toNat)).toInt = 0
        · replace h := h.1 c
          replace K := fun i ro uo z => K i ro uo (Or.inl ⟨c, z⟩)
          exact ⟨_, _, K i0 _ _ ⟨rfl, rfl⟩, h⟩
        · replace h := h.2 c
          replace K := fun i ro uo z => K i ro uo (Or.inr ⟨c, z⟩)
          obtain ⟨g9_, h⟩ := h
          replace K := fun i ro uo z => K i ro uo ⟨g9_, z⟩
          obtain ⟨a18, ea18⟩ : ∃ x9 : Int32, x9 = (qI S3 78 r2.toInt.toNat) := ⟨_, rfl⟩
          replace h := h a18 ea18
          replace K := fun i ro uo z => K i ro uo ⟨a18, ea18, z⟩
          obtain ⟨g10_, h⟩ := h
          replace K := fun i ro uo z => K i ro uo ⟨g10_, z⟩
          obtain ⟨g11_, h⟩ := h
          replace K := fun i ro uo z => K i ro uo ⟨g11_, z⟩
          by_cases c : (qI S3 78 x1.toInt.toNat).toInt = (f_lower S3 a18).toInt
          · replace h := h.1 c
            replace K := fun i ro uo z => K i ro uo (Or.inl ⟨c, z⟩)
            obtain ⟨g12_, h⟩ := h
            replace K := fun i ro uo z => K i ro uo ⟨g12_, z⟩
            obtain ⟨g13_, h⟩ := h
            replace K := fun i ro uo z => K i ro uo ⟨g13_, z⟩
            by_cases c : (qI S3 78 x2.toInt.toNat).toInt = (f_upper S3 a18).toInt
            · replace h := h.1 c
              replace K := fun i ro uo z => K i ro uo (Or.inl ⟨c, z⟩)
              obtain ⟨g14_, h⟩ := h
              replace K := fun i ro uo z => K i ro uo ⟨g14_, z⟩
              obtain ⟨a34, ea34⟩ : ∃ x9 : Int64, x9 = (f_worthAt S3 x1) := ⟨_, rfl⟩
              replace h := h a34 ea34
              replace K := fun i ro uo z => K i ro uo ⟨a34, ea34, z⟩
              obtain ⟨g15_, h⟩ := h
              replace K := fun i ro uo z => K i ro uo ⟨g15_, z⟩
              obtain ⟨a38, ea38⟩ : ∃ x9 : Int64, x9 = (f_worthAt S3 x2) := ⟨_, rfl⟩
              replace h := h a38 ea38
              replace K := fun i ro uo z => K i ro uo ⟨a38, ea38, z⟩
              by_cases c : a18.toInt < 108
              · replace h := h.1 c
                replace K := fun i ro uo z => K i ro uo (Or.inl ⟨c, z⟩)
                exact ru_folded_J123 i0 K h
              · replace h := h.2 c
                replace K := fun i ro uo z => K i ro uo (Or.inr ⟨c, z⟩)
                by_cases c : 113 < a18.toInt
                · replace h := h.1 c
                  replace K := fun i ro uo z => K i ro uo (Or.inl ⟨c, z⟩)
                  exact ru_folded_J123 i0 K h
                · replace h := h.2 c
                  replace K := fun i ro uo z => K i ro uo (Or.inr ⟨c, z⟩)
                  by_cases c : (lg_cmp a38 0).toInt = 0
                  · replace h := h.1 c
                    replace K := fun i ro uo z => K i ro uo (Or.inl ⟨c, z⟩)
                    exact ⟨_, _, K i0 _ _ ⟨rfl, rfl⟩, h⟩
                  · replace h := h.2 c
                    replace K := fun i ro uo z => K i ro uo (Or.inr ⟨c, z⟩)
                    exact ru_folded_J123 i0 K h
            · replace h := h.2 c
              replace K := fun i ro uo z => K i ro uo (Or.inr ⟨c, z⟩)
              exact ⟨_, _, K i0 _ _ ⟨rfl, rfl⟩, h⟩
          · replace h := h.2 c
            replace K := fun i ro uo z => K i ro uo (Or.inr ⟨c, z⟩)
            exact ⟨_, _, K i0 _ _ ⟨rfl, rfl⟩, h⟩
      · replace h := h.2 c
        replace K := fun i ro uo z => K i ro uo (Or.inr ⟨c, z⟩)
        exact ⟨_, _, K i0 _ _ ⟨rfl, rfl⟩, h⟩
set_option maxRecDepth 100000 in
theorem vw_folded_J217 {ro : Int32} {uo : MS} {U217 : MS} {v217_2 : Int32} {v217_4 : Int32} (h : v_folded_J217 ro uo U217 v217_2 v217_4) : w_folded_J217 (fun r u => r = ro ∧ u = uo) U217 v217_2 v217_4 := by
  unfold v_folded_J217 at h
  unfold w_folded_J217
  obtain ⟨g9, h⟩ := h
  refine ⟨g9, ?_⟩
  obtain ⟨v9, e9, h⟩ := h
  intro x9 d9
  have c9 : v9 = x9 := e9.trans d9.symm
  subst c9
  obtain ⟨g9, h⟩ := h
  refine ⟨g9, ?_⟩
  obtain ⟨v9, e9, h⟩ := h
  intro x9 d9
  have c9 : v9 = x9 := e9.trans d9.symm
  subst c9
  exact ⟨h.1.symm, h.2.symm⟩
set_option maxRecDepth 100000 in
theorem vz_folded_J217 {ro : Int32} {uo : MS} {Q : Int32 → MS → Prop} {U217 : MS} {v217_2 : Int32} {v217_4 : Int32} (h : v_folded_J217 ro uo U217 v217_2 v217_4) (w : w_folded_J217 Q U217 v217_2 v217_4) : Q ro uo := by
  unfold v_folded_J217 at h
  unfold w_folded_J217 at w
  replace h := h.2
  replace w := w.2
  obtain ⟨v9, e9, h⟩ := h
  replace w := w v9 e9
  replace h := h.2
  replace w := w.2
  obtain ⟨v9, e9, h⟩ := h
  replace w := w v9 e9
  rw [h.1, h.2]
  exact w
set_option maxRecDepth 100000 in
theorem vw_folded_J162 {ro : Int32} {uo : MS} {U162 : MS} {t162_0 : Int64} {t162_1 : Int32} {t162_2 : Int32} {v162_2 : Int32} {v162_4 : Int32} (h : v_folded_J162 ro uo U162 t162_0 t162_1 t162_2 v162_2 v162_4) : w_folded_J162 (fun r u => r = ro ∧ u = uo) U162 t162_0 t162_1 t162_2 v162_2 v162_4 := by
  unfold v_folded_J162 at h
  unfold w_folded_J162
  obtain ⟨q9, z9, h⟩ := h
  refine ⟨_, vw_become z9, ?_⟩
  intro q8 d9
  subst d9
  exact vw_folded_J217 h
set_option maxRecDepth 100000 in
theorem vz_folded_J162 {ro : Int32} {uo : MS} {Q : Int32 → MS → Prop} {U162 : MS} {t162_0 : Int64} {t162_1 : Int32} {t162_2 : Int32} {v162_2 : Int32} {v162_4 : Int32} (h : v_folded_J162 ro uo U162 t162_0 t162_1 t162_2 v162_2 v162_4) (w : w_folded_J162 Q U162 t162_0 t162_1 t162_2 v162_2 v162_4) : Q ro uo := by
  unfold v_folded_J162 at h
  unfold w_folded_J162 at w
  obtain ⟨q9, z9, h⟩ := h
  obtain ⟨Q9, w0, w⟩ := w
  replace w := w q9 (vz_become z9 w0)
  exact vz_folded_J217 h w
set_option maxRecDepth 100000 in
theorem vw_folded_J123 {ro : Int32} {uo : MS} {U123 : MS} {v123_1 : Int32} {v123_2 : Int32} {v123_4 : Int32} {v123_5 : Int32} {v123_6 : Int64} {v123_8 : Int64} (h : v_folded_J123 ro uo U123 v123_1 v123_2 v123_4 v123_5 v123_6 v123_8) : w_folded_J123 (fun r u => r = ro ∧ u = uo) U123 v123_1 v123_2 v123_4 v123_5 v123_6 v123_8 := by
  unfold v_folded_J123 at h
  unfold w_folded_J123
  rcases h with ⟨c, h⟩ | ⟨c, h⟩
  · refine ⟨fun _ => ?_, fun c2 => absurd c c2⟩
    rcases h with ⟨c, h⟩ | ⟨c, h⟩
    · refine ⟨fun _ => ?_, fun c2 => absurd c c2⟩
      rcases h with ⟨c, h⟩ | ⟨c, h⟩
      · refine ⟨fun _ => ?_, fun c2 => absurd c c2⟩
        exact vw_folded_J162 h
      · refine ⟨fun c2 => absurd c2 c, fun _ => ?_⟩
        exact vw_folded_J162 h
    · refine ⟨fun c2 => absurd c2 c, fun _ => ?_⟩
      exact vw_folded_J162 h
  · refine ⟨fun c2 => absurd c2 c, fun _ => ?_⟩
    obtain ⟨g9, h⟩ := h
    refine ⟨g9, ?_⟩
    rcases h with ⟨c, h⟩ | ⟨c, h⟩
    · refine ⟨fun _ => ?_, fun c2 => absurd c c2⟩
      obtain ⟨g9, h⟩ := h
      refine ⟨g9, ?_⟩
      obtain ⟨q9, z9, h⟩ := h
      refine ⟨_, vw_become z9, ?_⟩
      intro q8 d9
      subst d9
      exact vw_folded_J217 h
    · refine ⟨fun c2 => absurd c2 c, fun _ => ?_⟩
      obtain ⟨g9, h⟩ := h
      refine ⟨g9, ?_⟩
      obtain ⟨q9, z9, h⟩ := h
      refine ⟨_, vw_become z9, ?_⟩
      intro q8 d9
      subst d9
      exact vw_folded_J217 h
set_option maxRecDepth 100000 in
theorem vz_folded_J123 {ro : Int32} {uo : MS} {Q : Int32 → MS → Prop} {U123 : MS} {v123_1 : Int32} {v123_2 : Int32} {v123_4 : Int32} {v123_5 : Int32} {v123_6 : Int64} {v123_8 : Int64} (h : v_folded_J123 ro uo U123 v123_1 v123_2 v123_4 v123_5 v123_6 v123_8) (w : w_folded_J123 Q U123 v123_1 v123_2 v123_4 v123_5 v123_6 v123_8) : Q ro uo := by
  unfold v_folded_J123 at h
  unfold w_folded_J123 at w
  rcases h with ⟨c, h⟩ | ⟨c, h⟩
  · replace w := w.1 c
    rcases h with ⟨c, h⟩ | ⟨c, h⟩
    · replace w := w.1 c
      rcases h with ⟨c, h⟩ | ⟨c, h⟩
      · replace w := w.1 c
        exact vz_folded_J162 h w
      · replace w := w.2 c
        exact vz_folded_J162 h w
    · replace w := w.2 c
      exact vz_folded_J162 h w
  · replace w := w.2 c
    replace h := h.2
    replace w := w.2
    rcases h with ⟨c, h⟩ | ⟨c, h⟩
    · replace w := w.1 c
      replace h := h.2
      replace w := w.2
      obtain ⟨q9, z9, h⟩ := h
      obtain ⟨Q9, w0, w⟩ := w
      replace w := w q9 (vz_become z9 w0)
      exact vz_folded_J217 h w
    · replace w := w.2 c
      replace h := h.2
      replace w := w.2
      obtain ⟨q9, z9, h⟩ := h
      obtain ⟨Q9, w0, w⟩ := w
      replace w := w q9 (vz_become z9 w0)
      exact vz_folded_J217 h w
set_option maxRecDepth 100000 in
theorem vw_folded {S : MS} {x1 : Int32} {x2 : Int32} {x3 : Int32} {ro : Int32} {uo : MS} (h : v_folded S x1 x2 x3 ro uo) : w_folded S x1 x2 x3 (fun r u => r = ro ∧ u = uo) := by
  unfold v_folded at h
  unfold w_folded
  obtain ⟨p9, q9, z9, h⟩ := h
  refine ⟨_, vw_behind z9, ?_⟩
  rintro p8 q8 ⟨d8, d9⟩
  subst d8
  subst d9
  rcases h with ⟨c, h⟩ | ⟨c, h⟩
  · refine ⟨fun _ => ?_, fun c2 => absurd c c2⟩
    exact ⟨h.1.symm, h.2.symm⟩
  · refine ⟨fun c2 => absurd c2 c, fun _ => ?_⟩
    rcases h with ⟨c, h⟩ | ⟨c, h⟩
    · refine ⟨fun _ => ?_, fun c2 => absurd c c2⟩
      exact ⟨h.1.symm, h.2.symm⟩
    · refine ⟨fun c2 => absurd c2 c, fun _ => ?_⟩
      obtain ⟨g9, h⟩ := h
      refine ⟨g9, ?_⟩
      rcases h with ⟨c, h⟩ | ⟨c, h⟩
      · refine ⟨fun _ => ?_, fun c2 => absurd c c2⟩
        obtain ⟨g9, h⟩ := h
        refine ⟨g9, ?_⟩
        obtain ⟨g9, h⟩ := h
        refine ⟨g9, ?_⟩
        rcases h with ⟨c, h⟩ | ⟨c, h⟩
        · refine ⟨fun _ => ?_, fun c2 => absurd c c2⟩
          exact ⟨h.1.symm, h.2.symm⟩
        · refine ⟨fun c2 => absurd c2 c, fun _ => ?_⟩
          obtain ⟨g9, h⟩ := h
          refine ⟨g9, ?_⟩
          obtain ⟨v9, e9, h⟩ := h
          intro x9 d9
          have c9 : v9 = x9 := e9.trans d9.symm
          subst c9
          obtain ⟨g9, h⟩ := h
          refine ⟨g9, ?_⟩
          obtain ⟨g9, h⟩ := h
          refine ⟨g9, ?_⟩
          rcases h with ⟨c, h⟩ | ⟨c, h⟩
          · refine ⟨fun _ => ?_, fun c2 => absurd c c2⟩
            obtain ⟨g9, h⟩ := h
            refine ⟨g9, ?_⟩
            obtain ⟨g9, h⟩ := h
            refine ⟨g9, ?_⟩
            rcases h with ⟨c, h⟩ | ⟨c, h⟩
            · refine ⟨fun _ => ?_, fun c2 => absurd c c2⟩
              obtain ⟨g9, h⟩ := h
              refine ⟨g9, ?_⟩
              obtain ⟨v9, e9, h⟩ := h
              intro x9 d9
              have c9 : v9 = x9 := e9.trans d9.symm
              subst c9
              obtain ⟨g9, h⟩ := h
              refine ⟨g9, ?_⟩
              obtain ⟨v9, e9, h⟩ := h
              intro x9 d9
              have c9 : v9 = x9 := e9.trans d9.symm
              subst c9
              rcases h with ⟨c, h⟩ | ⟨c, h⟩
              · refine ⟨fun _ => ?_, fun c2 => absurd c c2⟩
                exact vw_folded_J123 h
              · refine ⟨fun c2 => absurd c2 c, fun _ => ?_⟩
                rcases h with ⟨c, h⟩ | ⟨c, h⟩
                · refine ⟨fun _ => ?_, fun c2 => absurd c c2⟩
                  exact vw_folded_J123 h
                · refine ⟨fun c2 => absurd c2 c, fun _ => ?_⟩
                  rcases h with ⟨c, h⟩ | ⟨c, h⟩
                  · refine ⟨fun _ => ?_, fun c2 => absurd c c2⟩
                    exact ⟨h.1.symm, h.2.symm⟩
                  · refine ⟨fun c2 => absurd c2 c, fun _ => ?_⟩
                    exact vw_folded_J123 h
            · refine ⟨fun c2 => absurd c2 c, fun _ => ?_⟩
              exact ⟨h.1.symm, h.2.symm⟩
          · refine ⟨fun c2 => absurd c2 c, fun _ => ?_⟩
            exact ⟨h.1.symm, h.2.symm⟩
      · refine ⟨fun c2 => absurd c2 c, fun _ => ?_⟩
        exact ⟨h.1.symm, h.2.symm⟩
set_option maxRecDepth 100000 in
theorem vz_folded {S : MS} {x1 : Int32} {x2 : Int32} {x3 : Int32} {ro : Int32} {uo : MS} {Q : Int32 → MS → Prop} (h : v_folded S x1 x2 x3 ro uo) (w : w_folded S x1 x2 x3 Q) : Q ro uo := by
  unfold v_folded at h
  unfold w_folded at w
  obtain ⟨p9, q9, z9, h⟩ := h
  obtain ⟨Q9, w0, w⟩ := w
  replace w := w p9 q9 (vz_behind z9 w0)
  rcases h with ⟨c, h⟩ | ⟨c, h⟩
  · replace w := w.1 c
    rw [h.1, h.2]
    exact w
  · replace w := w.2 c
    rcases h with ⟨c, h⟩ | ⟨c, h⟩
    · replace w := w.1 c
      rw [h.1, h.2]
      exact w
    · replace w := w.2 c
      replace h := h.2
      replace w := w.2
      rcases h with ⟨c, h⟩ | ⟨c, h⟩
      · replace w := w.1 c
        replace h := h.2
        replace w := w.2
        replace h := h.2
        replace w := w.2
        rcases h with ⟨c, h⟩ | ⟨c, h⟩
        · replace w := w.1 c
          rw [h.1, h.2]
          exact w
        · replace w := w.2 c
          replace h := h.2
          replace w := w.2
          obtain ⟨v9, e9, h⟩ := h
          replace w := w v9 e9
          replace h := h.2
          replace w := w.2
          replace h := h.2
          replace w := w.2
          rcases h with ⟨c, h⟩ | ⟨c, h⟩
          · replace w := w.1 c
            replace h := h.2
            replace w := w.2
            replace h := h.2
            replace w := w.2
            rcases h with ⟨c, h⟩ | ⟨c, h⟩
            · replace w := w.1 c
              replace h := h.2
              replace w := w.2
              obtain ⟨v9, e9, h⟩ := h
              replace w := w v9 e9
              replace h := h.2
              replace w := w.2
              obtain ⟨v9, e9, h⟩ := h
              replace w := w v9 e9
              rcases h with ⟨c, h⟩ | ⟨c, h⟩
              · replace w := w.1 c
                exact vz_folded_J123 h w
              · replace w := w.2 c
                rcases h with ⟨c, h⟩ | ⟨c, h⟩
                · replace w := w.1 c
                  exact vz_folded_J123 h w
                · replace w := w.2 c
                  rcases h with ⟨c, h⟩ | ⟨c, h⟩
                  · replace w := w.1 c
                    rw [h.1, h.2]
                    exact w
                  · replace w := w.2 c
                    exact vz_folded_J123 h w
            · replace w := w.2 c
              rw [h.1, h.2]
              exact w
          · replace w := w.2 c
            rw [h.1, h.2]
            exact w
      · replace w := w.2 c
        rw [h.1, h.2]
        exact w
