/-! the layout: both have the same parts at the same places, or break the same rule at the same place -/
def LyE (S R : MS) : Prop := BtE S R ∧ SrN R ∧ PsI S ∧ (qI R 0 14 = qI S 9 5 ∧ 1 ≤ (qI S 9 5).toInt ∧ (qI S 9 5).toInt ≤ 500) ∧ (∀ j : Nat, (j : Int) < (qI S 9 5).toInt → (qI S 11 j = 0 ∧ qI R 4 j = 0) ∨ EnR S R j (qI S 11 j)) ∧ (qI R 0 20 = qI S 9 6 ∧ 0 < (qI S 9 6).toInt ∧ (qI S 9 6).toInt + 8 ≤ (qI S 9 1).toInt) ∧
  (qI R 0 22 = qI S 9 7 ∧ (0 ≤ (qI S 9 7).toInt ∧ (qI S 9 7).toInt ≤ 24) ∧ (0 ≤ (qI S 9 8).toInt ∧ (qI S 9 8).toInt ≤ 24) ∧ (qI R 0 21).toInt = (qI S 9 7).toInt + (qI S 9 8).toInt) ∧
  (∃ (q0 q1 : Int32) (a1 a2 : Nat), q0.toInt = (qI S 9 6).toInt + 10 ∧ MbC S R (qI S 9 7).toInt.toNat 0 q0 0 q1 a1 ∧ MbC S R (qI S 9 8).toInt.toNat (qI S 9 7).toInt.toNat (q1 + (2 : Int32)) a1 (qI S 9 16) a2 ∧ AtC S R (-1) (fX7_u2 S (qI S 9 16)).toInt.toNat ((qI S 9 16) + (2 : Int32)) a2 (qI S 9 15) ∧ (qI R 0 25).toInt = a2 + (fX7_u2 S (qI S 9 16)).toInt ∧ (0 < (qI S 9 16).toInt ∧ (qI S 9 16).toInt + 2 ≤ (qI S 9 1).toInt) ∧ 0 < q1.toInt ∧ q1.toInt + 2 ≤ (qI S 9 1).toInt) ∧ qI R 0 28 = qI S 9 15
/-- the class's calls of the layout, one behind another -/
def LyV (S : MS) (r : Int32) (u : MS) : Prop := ∃ (r1 : Int32) (S1 : MS), vX7_magicHolds S r1 S1 ∧ wfC S1 ∧ ((r1.toInt = 0 ∧ r = 0 ∧ u = S1) ∨ (¬ r1.toInt = 0 ∧ ∃ (r2 : Int32) (S2 : MS), vX7_poolFits S1 r2 S2 ∧ wfC S2 ∧ ((r2.toInt = 0 ∧ r = 0 ∧ u = S2) ∨ (¬ r2.toInt = 0 ∧ ∃ (r3 : Int32) (S3 : MS), vX7_headFits S2 r3 S3 ∧ wfC S3 ∧ ((r3.toInt = 0 ∧ r = 0 ∧ u = S3) ∨ (¬ r3.toInt = 0 ∧ ∃ (r4 : Int32) (S4 : MS), vX7_fieldsFit S3 r4 S4 ∧ wfC S4 ∧ ((r4.toInt = 0 ∧ r = 0 ∧ u = S4) ∨ (¬ r4.toInt = 0 ∧ ∃ (r5 : Int32) (S5 : MS), vX7_methodsFit S4 r5 S5 ∧ wfC S5 ∧ ((r5.toInt = 0 ∧ r = 0 ∧ u = S5) ∨ (¬ r5.toInt = 0 ∧ ∃ (r6 : Int32) (S6 : MS), vX7_fileAttributesFit S5 r6 S6 ∧ wfC S6 ∧ ((r6.toInt = 0 ∧ r = 0 ∧ u = S6) ∨ (¬ r6.toInt = 0 ∧ r = 1 ∧ u = S6))))))))))))
section LY
variable {S S' R R' T u w : MS} {x y z r c v e len o N i x1 : Int32} {k a p : Nat} {oo : MS ⊕ MS}
/-- what leaves entries as they are -/
theorem en_mv (hE : ∀ j : Nat, (j : Int) < (qI S 9 5).toInt → (qI S 11 j = 0 ∧ qI R 4 j = 0) ∨ EnR S R j (qI S 11 j)) (s : smX S S') (e5 : qI S' 9 5 = qI S 9 5) (e11 : ∀ j, qI S' 11 j = qI S 11 j) (f : ∀ b j, 4 ≤ b → b ≤ 7 → qI R' b j = qI R b j) (g : qJ R' = qJ R) : ∀ j : Nat, (j : Int) < (qI S' 9 5).toInt → (qI S' 11 j = 0 ∧ qI R' 4 j = 0) ∨ EnR S' R' j (qI S' 11 j) := fun j hj => by
  rw [e5] at hj
  rcases hE j hj with ⟨a, b⟩ | a
  · exact Or.inl ⟨by rw [e11, a], by rw [f 4 j (by decide) (by decide), b]⟩
  · rw [e11]
    exact Or.inr (a.mv s (fun b h1 h2 => f b j h1 h2) (by rw [g]))
/-- both stand behind the pool, or further on -/
def PoE (S R : MS) : Prop := BtE S R ∧ SrN R ∧ PsI S ∧ (0 < (qI S 9 15).toInt ∧ qI R 0 13 = qI S 9 15) ∧ (qI R 0 14 = qI S 9 5 ∧ 1 ≤ (qI S 9 5).toInt ∧ (qI S 9 5).toInt ≤ 500) ∧ ∀ j : Nat, (j : Int) < (qI S 9 5).toInt → (qI S 11 j = 0 ∧ qI R 4 j = 0) ∨ EnR S R j (qI S 11 j)
theorem PoI.po {K9 : Int} (h : PoI S R K9) (hk : (qI S 9 5).toInt ≤ K9) : PoE S R := by
  obtain ⟨h1, h2, h3, h4, h5, h6, -⟩ := h
  exact ⟨h1, h2, h3, h4, h5, fun j hj => h6 j (by omega) (by omega)⟩
theorem PoE.mv (h : PoE S R) (s : smX S S') (hp : PsI S') (p0 : 0 < (qI S' 9 15).toInt) (e13 : qI R' 0 13 = qI S' 9 15) (e5 : qI S' 9 5 = qI S 9 5) (e11 : ∀ j, qI S' 11 j = qI S 11 j) (b : smB R R') (f0 : qI R' 0 12 = qI R 0 12 ∧ qI R' 0 14 = qI R 0 14) (f : ∀ b j, 4 ≤ b → b ≤ 7 → qI R' b j = qI R b j) (g : qJ R' = qJ R) : PoE S' R' := by
  obtain ⟨h1, h2, h3, h4, h5, h6⟩ := h
  exact ⟨h1.mv s b f0.1, h2.sm b, hp, ⟨p0, e13⟩, ⟨by rw [f0.2, e5]; exact h5.1, by rw [e5]; exact h5.2.1, by rw [e5]; exact h5.2.2⟩, en_mv h6 s e5 e11 f g⟩
theorem cv_head (hp : PsI S) (wS : wfC S) (h : vX7_headFits S r u) : ((qI S 9 15).toInt + 8 ≤ (qI S 9 1).toInt ∧ r = 1 ∧ u = wI (wI S 9 6 (qI S 9 15)) 9 15 ((qI S 9 15) + (8 : Int32))) ∨ ((qI S 9 1).toInt < (qI S 9 15).toInt + 8 ∧ r = 0 ∧ u = bRk (wI S 9 6 (qI S 9 15)) 2 (qI S 9 1)) := by
  obtain ⟨S1, e1, -, w1, r4, S4, h4, -, -, h⟩ := h
  have x15 : qI S1 9 15 = qI S 9 15 := by rw [e1, g_nf (by decide)]
  have x1 : qI S1 9 1 = qI S 9 1 := by rw [e1, g_nf (by decide)]
  have hp1 : PsI S1 := ⟨by rw [x15]; exact hp.1, by rw [x15, x1]; exact hp.2.1, by rw [x1]; exact hp.2.2⟩
  rcases cv_there hp1 (by decide) h4 with ⟨c, er, eS⟩ | ⟨c, er, eS⟩
  · rw [x15, x1, li_8] at c
    rcases h with ⟨z, -⟩ | ⟨-, S8, e8, -, -, er8, eu⟩
    · exact absurd z (by rw [er]; decide)
    · exact Or.inl ⟨c, er8, by rw [eu, e8, eS, x15, e1]⟩
  · rw [x15, x1, li_8] at c
    rcases h with ⟨-, er2, eu⟩ | ⟨z, -⟩
    · exact Or.inr ⟨c, er2, by rw [eu, eS, x1, e1]⟩
    · exact absurd (by rw [er]; decide) z
end LY
