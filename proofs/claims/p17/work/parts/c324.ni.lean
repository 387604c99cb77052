/-! numberInstructions, instructionsHold -/
theorem smX.w15 {S : MS} {i : Nat} {v : Int32} (w : wfC S) : smX S (wI S 15 i v) := by
  have k9 : qT S 9 = 46 := (w.2.1 _ finC_2).2.1
  have k8 : qT S 15 = 201 := (w.2.1 _ finC_3).2.1
  have kd : qT S (qO S 9 0) = 101 := w.ref (w.ptr ptrC_3) k9
  have hne : qO S 9 0 ≠ 15 := fun q => by rw [q, k8] at kd; exact absurd kd (by decide)
  refine ⟨by rw [qI_wI, if_neg (fun q => absurd q.1 (by decide))], rfl, rfl, ?_⟩
  exact if_neg hne
theorem mx1 {r : Int32} (h : 0 ≤ r.toInt ∧ r.toInt ≤ 3000) : 1 ≤ (if (1 : Int32) < r then r else (1 : Int32)).toInt ∧ (if (1 : Int32) < r then r else (1 : Int32)).toInt ≤ 3000 ∧ (r.toInt ≤ 0 ∨ (if (1 : Int32) < r then r else (1 : Int32)).toInt = r.toInt) := by
  have e := li_1
  by_cases c : (1 : Int32) < r
  · have c' := n_lt.mp c
    rw [if_pos c]
    omega
  · have c' : ¬ (1 : Int32).toInt < r.toInt := fun q => c (n_lt.mpr q)
    rw [if_neg c]
    omega
def NiQ (S u : MS) : Prop := smX S u ∧ (0 ≤ (qI u 8 8).toInt ∧ ((qI u 8 8).toInt = 0 ∨ (qI u 8 8).toInt ≤ (qI S 8 2).toInt)) ∧ ∀ j : Nat, j ≠ 8 → qI u 8 j = qI S 8 j
theorem sp_ni67 {S U : MS} {Q : MS → Prop} (hQ : ∀ u : MS, NiQ S u → Q u) (h : NiQ S U) : w_X2_numberInstructions_J67 Q U := by
  unfold w_X2_numberInstructions_J67
  intro w
  refine ⟨fun _ => hQ U h, fun c => ⟨fun _ => hQ U h, fun c2 => ⟨by omega, fun S8 e8 k8 w8 => hQ S8 ?_⟩⟩⟩
  have i8 : ∀ j, qI S8 8 j = qI U 8 j := fun j => by rw [e8, qI_wI, if_neg (fun q => absurd q.1 (by decide))]
  exact ⟨h.1.tr (by rw [e8]; exact smX.w15 w), by rw [i8]; exact h.2.1, fun j hj => by rw [i8]; exact h.2.2 j hj⟩
theorem sp_niL {S : MS} {Q : MS → Prop} (h9 : 0 ≤ (qI S 9 1).toInt) (hs : (qI S 8 2).toInt ≤ 1200) (hQ : ∀ u : MS, NiQ S u → Q u) : ∀ (n : Nat) {U : MS} {v : Int32}, NiQ S U → 0 ≤ v.toInt → (qI U 8 8).toInt ≤ v.toInt → 5000 - v.toInt < n → v.toInt ≤ 4300 → w_X2_numberInstructions_L15 Q n U v := by
  intro n
  induction n with
  | zero => intro U v h h0 h1 hm h2; exfalso; omega
  | succ n ih =>
    intro U v h h0 h1 hm h2
    unfold w_X2_numberInstructions_L15
    intro w
    have e2 := h.2.2 2 (by decide)
    refine ⟨fun _ => sp_ni67 hQ h, fun c => ⟨fun _ => sp_ni67 hQ h, fun c2 => ⟨by omega, fun S12 e12 k12 w12 S14 e14 k14 w14 => ?_⟩⟩⟩
    rw [e2] at c
    have m12 : smX S S12 := h.1.tr (by rw [e12]; exact smX.w15 w)
    have m14 : smX S S14 := m12.tr (by rw [e14]; exact smX.w8 w12)
    have i12 : ∀ j, qI S12 8 j = qI U 8 j := fun j => by rw [e12, qI_wI, if_neg (fun q => absurd q.1 (by decide))]
    have i14 : ∀ j, j ≠ 8 → qI S14 8 j = qI U 8 j := fun j hj => by rw [e14, qI_wI, if_neg (fun q => hj q.2), i12]
    have h88 := h.2.1
    have i8 : (qI S14 8 8).toInt = (qI U 8 8).toInt + 1 := by rw [e14, qI_wI, if_pos ⟨rfl, rfl⟩, i12, t_add (by rw [li_1]; omega), li_1]
    obtain ⟨r, hr⟩ := ex_lengthAt (S := S14) (o := v) (m14.h9 h9) ⟨h0, by omega⟩
    refine ⟨_, sp_lengthAt hr, ?_⟩
    rintro r' u ⟨rfl, rfl⟩ wu _ a e
    have hm1 := mx1 hr.1
    have ea : a.toInt = v.toInt + (if (1 : Int32) < r' then r' else (1 : Int32)).toInt := by rw [e, t_add (by omega)]
    exact ih (U := u) ⟨m14, by rw [i8]; omega, fun j hj => by rw [i14 j hj]; exact h.2.2 j hj⟩ (by omega) (by rw [i8]; omega) (by omega) (by omega)
theorem sp_numberInstructions {S : MS} {Q : MS → Prop} (hw : wfC S) (h9 : 0 ≤ (qI S 9 1).toInt) (hs : (qI S 8 2).toInt ≤ 1200) (hQ : ∀ u : MS, NiQ S u → Q u) : wX2_numberInstructions S Q := by
  unfold wX2_numberInstructions
  intro k15
  refine ⟨_, frJ7_fill_53178 k15 (by decide) (sfJ7_fill_53178 hw k15 (by decide)), ?_⟩
  intro S2 q2 w2 _ S4 e4 k4 w4
  have m2 : smX S S2 := cfr.sm hw q2.2 (by decide) (by decide) (by decide) (by decide) (fun _ => rfl)
  have k8 : qT S 8 = 42 := (hw.2.1 _ finC_26).2.1
  have i2 : ∀ j, qI S2 8 j = qI S 8 j := fun j => (q2.2.2.2 8 j (by rw [k8]; decide) (by rw [k8]; decide) rfl).1
  have m4 : smX S S4 := m2.tr (by rw [e4]; exact smX.w8 w2)
  have z : (qI S4 8 8).toInt = 0 := by rw [e4, qI_wI, if_pos ⟨rfl, rfl⟩]; exact li_0
  have z0 := li_0
  refine ⟨5001, sp_niL h9 hs hQ 5001 ⟨m4, by omega, fun j hj => by rw [e4, qI_wI, if_neg (fun q => hj q.2), i2]⟩ (by omega) (by omega) (by omega) (by omega)⟩
/-- all instructions of the looked-at method are whole -/
theorem sp_ihL {S0 : MS} {Q : Int32 → MS → Prop} {k2 : MS → Int32 → Prop} {v1 : Int32} (h9 : 0 ≤ (qI S0 9 1).toInt) (hk : ∀ U : MS, smX S0 U → ∀ a : Int32, a = v1 + Int32.ofInt 1 → k2 U a) (hq : ∀ (r : Int32) (U : MS), smX S0 U → Q r U) : ∀ (n : Nat) {U : MS} {v : Int32}, wfC U → smX S0 U → (qI U 8 2).toInt ≤ 1200 → 0 ≤ v.toInt → v.toInt ≤ 4300 → 5000 - v.toInt < n → w_X2_instructionsHold_L20 Q k2 n U v1 v := by
  intro n
  induction n with
  | zero => intro U v w h hs h0 h1 hm; exfalso; omega
  | succ n ih =>
    intro U v w h hs h0 h1 hm
    unfold w_X2_instructionsHold_L20
    intro wU
    refine ⟨fun c a e => hk U h a e, fun c => ?_⟩
    obtain ⟨r, hr⟩ := ex_lengthAt (S := U) (o := v) (h.h9 h9) ⟨h0, by omega⟩
    refine ⟨_, sp_lengthAt hr, ?_⟩
    rintro r' u ⟨rfl, rfl⟩ wu _
    refine ⟨fun c2 => ⟨_, sp_lengthAt hr, ?_⟩, fun c2 => ⟨_, frX7_breaks wu (sfX7_breaks wu), fun r2 u2 q2 w2 _ => hq r2 u2 (h.tr (cfr.sm wu q2.2 (by decide) (by decide) (by decide) (by decide) (fun _ => rfl)))⟩⟩
    rintro r2 u2 ⟨rfl, rfl⟩ wu2 _ a e
    have hr1 := hr.1
    have ea : a.toInt = v.toInt + r2.toInt := by rw [e, t_add (by omega)]
    exact ih wu2 h hs (by omega) (by omega) (by omega)
