/-! a pool entry: both readers go through it alike -/
section EG
variable {S R T u w : MS} {x y z r c v len x1 x2 : Int32} {k : Nat} {oo : MS ⊕ MS}
theorem g_ne {a b i j : Nat} (h : a ≠ b) : qI (wI S b i v) a j = qI S a j := by rw [qI_wI, if_neg (fun q => h q.1)]
theorem g_nf {a b i j : Nat} (h : j ≠ i) : qI (wI S b i v) a j = qI S a j := by rw [qI_wI, if_neg (fun q => h q.2)]
theorem g_eq {b i : Nat} : qI (wI S b i v) b i = v := by rw [qI_wI, if_pos ⟨rfl, rfl⟩]
theorem j_eq {b i : Nat} {g : Int64} : qJ (wJ S b i g) b i = g := by rw [qJ_wJ, if_pos ⟨rfl, rfl⟩]
theorem cv_entry (hp : PsI S) (h : vX7_entryFits S r u) : ((qI S 9 1).toInt < (qI S 9 15).toInt + 1 ∧ r = 0 ∧ u = bRk S 2 (qI S 9 1)) ∨ ((qI S 9 15).toInt + 1 ≤ (qI S 9 1).toInt ∧ (((fX7_u1 S (qI S 9 15)).toInt = 1 ∧ vX7_nameFits S r u) ∨ ((fX7_u1 S (qI S 9 15)).toInt ≠ 1 ∧ (((fX7_entryLength S (fX7_u1 S (qI S 9 15))).toInt = 0 ∧ r = 0 ∧ u = bRk S 3 (qI S 9 15)) ∨ ((fX7_entryLength S (fX7_u1 S (qI S 9 15))).toInt ≠ 0 ∧ ((qI S 9 15).toInt + (fX7_entryLength S (fX7_u1 S (qI S 9 15))).toInt ≤ (qI S 9 1).toInt ∧ r = 1 ∧ u = S ∨ (qI S 9 1).toInt < (qI S 9 15).toInt + (fX7_entryLength S (fX7_u1 S (qI S 9 15))).toInt ∧ r = 0 ∧ u = bRk S 2 (qI S 9 1))))))) := by
  obtain ⟨r2, S2, h2, -, -, h⟩ := h
  rcases cv_there hp (by decide) h2 with ⟨c1, er, eS⟩ | ⟨c1, er, eS⟩
  · rw [li_1] at c1
    rcases h with ⟨z, -⟩ | ⟨-, -, a9, e9, h⟩
    · exact absurd z (by rw [er]; decide)
    rw [eS] at h e9
    rw [← e9]
    refine Or.inr ⟨c1, ?_⟩
    rcases h with ⟨c2, r3, S3, h, -, -, er3, eu⟩ | ⟨c2, -, a14, e14, h⟩
    · exact Or.inl ⟨c2, by rw [er3, eu]; exact h⟩
    · refine Or.inr ⟨c2, ?_⟩
      rw [← e14]
      rcases h with ⟨c3, r3, S3, h, -, -, er3, eu⟩ | ⟨c3, -, a19, e19, r3, S3, h, -, -, er3, eu⟩
      · obtain ⟨a, b⟩ := cv_breaks h
        exact Or.inl ⟨c3, by rw [er3, a], by rw [eu, b]⟩
      · refine Or.inr ⟨c3, ?_⟩
        have e : a19 = a14 := by rw [e19, e14]
        rw [e] at h
        have g0 : 0 ≤ a14.toInt := by
          rw [e14]
          unfold fX7_entryLength
          rw [if_neg c2]
          repeat' split
          all_goals decide
        rcases cv_there hp g0 h with ⟨a, b, c⟩ | ⟨a, b, c⟩
        · exact Or.inl ⟨a, by rw [er3, b], by rw [eu, c]⟩
        · exact Or.inr ⟨a, by rw [er3, b], by rw [eu, c]⟩
  · rw [li_1] at c1
    rcases h with ⟨-, er2, eu⟩ | ⟨z, -⟩
    · exact Or.inl ⟨c1, er2, by rw [eu, eS]⟩
    · exact absurd (by rw [er]; decide) z
/-- how the two end, entry k beginning at p -/
def EnE (S R : MS) (k : Nat) (r : Int32) (u : MS) (oo : MS ⊕ MS) : Prop := (r = 1 ∧ u = S ∧ ∃ w, oo = .inl w ∧ EnF R w k ∧ EnR S w k (qI S 9 15) ∧ (qI w 0 13).toInt = (qI S 9 15).toInt + (fX7_entryLength S (fX7_u1 S (qI S 9 15))).toInt ∧ (qI S 9 15).toInt + (fX7_entryLength S (fX7_u1 S (qI S 9 15))).toInt ≤ (qI S 9 1).toInt ∧ 3 ≤ (fX7_entryLength S (fX7_u1 S (qI S 9 15))).toInt) ∨ (r = 0 ∧ ∃ w, oo = .inr w ∧ BadP u w)
theorem ov_at {U : MS} {yy : Int64} {y : Int} {p : (Int32 × MS) ⊕ MS} (ey : yy.toInt = y) (hy : 0 ≤ y ∧ y ≤ 100) (e12 : qI U 0 12 = qI S 9 1) (hp : PsI S) (h0 : 0 ≤ (qI U 0 13).toInt) (h1 : (qI U 0 13).toInt ≤ (qI S 9 1).toInt) (h : v_over U yy p) : ((qI U 0 13).toInt + y ≤ (qI S 9 1).toInt ∧ ∃ v : Int32, v.toInt = (qI U 0 13).toInt + y ∧ p = .inl (qI U 0 13, wI U 0 13 v)) ∨ ((qI S 9 1).toInt < (qI U 0 13).toInt + y ∧ p = .inr (rBk U 2 (qI S 9 1))) := by
  obtain ⟨-, -, p2⟩ := hp
  have q := rv_over (by rw [e12]; omega) (by rw [ey]; omega) h
  rw [e12, ey] at q
  exact q
theorem el_n1 (h : (fX7_u1 S (qI S 9 15)).toInt = 3 ∨ (fX7_u1 S (qI S 9 15)).toInt = 9 ∨ (fX7_u1 S (qI S 9 15)).toInt = 10 ∨ (fX7_u1 S (qI S 9 15)).toInt = 12) : (fX7_entryLength S (fX7_u1 S (qI S 9 15))).toInt = 5 := by
  unfold fX7_entryLength
  repeat' split
  all_goals first | decide | omega
theorem el_7 (h : (fX7_u1 S (qI S 9 15)).toInt = 7) : (fX7_entryLength S (fX7_u1 S (qI S 9 15))).toInt = 3 := by
  unfold fX7_entryLength
  repeat' split
  all_goals first | decide | omega
theorem el_5 (h : (fX7_u1 S (qI S 9 15)).toInt = 5) : (fX7_entryLength S (fX7_u1 S (qI S 9 15))).toInt = 9 := by
  unfold fX7_entryLength
  repeat' split
  all_goals first | decide | omega
theorem el_0 (h : (fX7_u1 S (qI S 9 15)).toInt = 2 ∨ (fX7_u1 S (qI S 9 15)).toInt = 4 ∨ (fX7_u1 S (qI S 9 15)).toInt = 6 ∨ (fX7_u1 S (qI S 9 15)).toInt = 8 ∨ (fX7_u1 S (qI S 9 15)).toInt = 11 ∨ (¬ (fX7_u1 S (qI S 9 15)).toInt = 1 ∧ ¬ (fX7_u1 S (qI S 9 15)).toInt = 3 ∧ ¬ (fX7_u1 S (qI S 9 15)).toInt = 5 ∧ ¬ (fX7_u1 S (qI S 9 15)).toInt = 7 ∧ ¬ (fX7_u1 S (qI S 9 15)).toInt = 9 ∧ ¬ (fX7_u1 S (qI S 9 15)).toInt = 10 ∧ ¬ (fX7_u1 S (qI S 9 15)).toInt = 12)) : (fX7_entryLength S (fX7_u1 S (qI S 9 15))).toInt = 0 := by
  unfold fX7_entryLength
  repeat' split
  all_goals first | decide | omega
theorem el_1 (h : (fX7_u1 S (qI S 9 15)).toInt = 1) (hl : (fX7_u2 S ((qI S 9 15) + (1 : Int32))).toInt ≤ 100) (h0 : 0 ≤ (fX7_u2 S ((qI S 9 15) + (1 : Int32))).toInt) : (fX7_entryLength S (fX7_u1 S (qI S 9 15))).toInt = 3 + (fX7_u2 S ((qI S 9 15) + (1 : Int32))).toInt := by
  unfold fX7_entryLength
  rw [if_pos h, t_add (by rw [li_3]; omega), li_3]
end EG
