/-! limitsHold: what it finds -/
theorem HdO.sm {S u : MS} {x : Int32} (h : smX S u) : HdO u x ↔ HdO S x := by
  unfold HdO fX7_u4
  simp only [h.u2, h.s4]
theorem cfr.k13 {K : List Nat} {F : List (Nat × Nat)} {S u : MS} {j : Nat} (w : wfC S) (f : cfr K F S u) (hK : K.contains 220 = false) (h : F.contains (220, j) = false) : qI u 13 j = qI S 13 j := by
  have k : qT S 13 = 220 := (w.2.1 _ finC_9).2.1
  exact (f.2.2 13 j (by rw [k]; decide) (by rw [k]; exact hK) (by rw [k]; exact h)).1
/-- the heads of the first v methods are within bounds -/
def LmI (S : MS) (v : Int) : Prop := ∀ j : Nat, (j : Int) < v → j < 24 → HdO S (qI S 13 j)
theorem LmI.sm {S u : MS} {v : Int} (h : smX S u) (e : ∀ j, qI u 13 j = qI S 13 j) : LmI u v ↔ LmI S v :=
  ⟨fun k j a b => by have := k j a b; rw [e] at this; exact (HdO.sm h).mp this, fun k j a b => by rw [e]; exact (HdO.sm h).mpr (k j a b)⟩
theorem sp_lmL {S0 : MS} (h9 : 0 ≤ (qI S0 9 1).toInt) : ∀ (n : Nat) {U : MS} {v : Int32}, smX S0 U → (∀ j, qI U 13 j = qI S0 13 j) → qI U 9 8 = qI S0 9 8 → LmI S0 v.toInt → 0 ≤ v.toInt → 25 - v.toInt < n → v.toInt ≤ 24 → w_X2_limitsHold_L2 (fun r _ => r = 0 ∨ LmI S0 (qI S0 9 8).toInt) n U v := by
  intro n
  induction n with
  | zero => intro U v h e13 e8 l h0 hn h1; exfalso; omega
  | succ n ih =>
    intro U v h e13 e8 l h0 hn h1
    unfold w_X2_limitsHold_L2
    intro w
    rw [e8]
    refine ⟨fun c => Or.inr (fun j a b => l j (by omega) b), fun c => ⟨fun c2 => Or.inr (fun j a b => l j (by omega) b), fun c2 => ⟨dd_X7_typeOf (h.h9 h9), fun a7 _ => ⟨_, frX7_isMethodType w (sfX7_isMethodType w (h.h9 h9) (w.2.1 _ finC_2).2.1), ?_⟩⟩⟩⟩
    rintro r9 S10 ⟨_, f10⟩ w10 _
    have m10 : smX S0 S10 := h.tr (cfr.sm w f10 (by decide) (by decide) (by decide) (by decide) (fun _ => rfl))
    have e10 : ∀ j, qI S10 13 j = qI S0 13 j := fun j => (f10.k13 w rfl rfl).trans (e13 j)
    refine ⟨by omega, by omega, _, frX2_headHolds w10 (sp_headHolds w10 (m10.h9 h9)), ?_⟩
    rintro r17 S18 ⟨q, f18⟩ w18 _
    have m18 : smX S0 S18 := m10.tr (cfr.sm w10 f18 (by decide) (by decide) (by decide) (by decide) (fun _ => rfl))
    refine ⟨fun _ => Or.inl rfl, fun d a e => ?_⟩
    have ea : a.toInt = v.toInt + 1 := by rw [e, t_add (by rw [show (Int32.ofInt 1).toInt = 1 from rfl]; omega)]; rfl
    have hd : HdO S0 (qI S0 13 v.toInt.toNat) := by
      rcases q with q | q
      · exact absurd (by rw [q]; rfl) d
      · rw [e10] at q
        exact (HdO.sm m10).mp q
    refine ih m18 (fun j => (f18.k13 w10 rfl rfl).trans (e10 j)) ((f18.k98 w10 rfl rfl).trans ((f10.k98 w rfl rfl).trans e8)) ?_ (by omega) (by omega) (by omega)
    intro j x y
    by_cases z : (j : Int) < v.toInt
    · exact l j z y
    · have ej : j = v.toInt.toNat := by omega
      rw [ej]
      exact hd
theorem sp_limitsHold {S : MS} (h9 : 0 ≤ (qI S 9 1).toInt) : wX2_limitsHold S (fun r _ => r = 0 ∨ LmI S (qI S 9 8).toInt) := by
  unfold wX2_limitsHold
  exact ⟨26, sp_lmL h9 26 smX.rf (fun _ => rfl) rfl (fun j a b => absurd a (by rw [li_0]; omega)) (by decide) (by decide) (by decide)⟩
