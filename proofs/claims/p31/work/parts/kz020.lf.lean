/-! leaves of the two readers -/
def bRk (S : MS) (a b : Int32) : MS := wI (wI S 9 2 a) 9 3 b
def rBk (S : MS) (a b : Int32) : MS := wI (wI S 0 7 a) 0 8 b
def PsI (S : MS) : Prop := 0 ≤ (qI S 9 15).toInt ∧ (qI S 9 15).toInt ≤ (qI S 9 1).toInt ∧ (qI S 9 1).toInt ≤ 131072
/-- both have broken the same rule at the same place -/
def BadP (u w : MS) : Prop := qI u 9 2 = qI w 0 7 ∧ qI u 9 3 = qI w 0 8
theorem badP {S R : MS} {a b : Int32} : BadP (bRk S a b) (rBk R a b) := by
  refine ⟨?_, ?_⟩
  · show qI (wI (wI S 9 2 a) 9 3 b) 9 2 = qI (wI (wI R 0 7 a) 0 8 b) 0 7
    rw [qI_wI, if_neg (by decide), qI_wI, if_pos ⟨rfl, rfl⟩, qI_wI, if_neg (by decide), qI_wI, if_pos ⟨rfl, rfl⟩]
  · show qI (wI (wI S 9 2 a) 9 3 b) 9 3 = qI (wI (wI R 0 7 a) 0 8 b) 0 8
    rw [qI_wI, if_pos ⟨rfl, rfl⟩, qI_wI, if_pos ⟨rfl, rfl⟩]
section LF
variable {S R u w : MS} {x y z r : Int32}
theorem cv_breaks {a b : Int32} (h : vX7_breaks S a b r u) : r = 0 ∧ u = bRk S a b := by
  obtain ⟨S1, e1, -, -, S2, e2, -, -, er, eu⟩ := h
  exact ⟨er, by rw [eu, e2, e1]; rfl⟩
theorem cv_there (hp : PsI S) (hx : 0 ≤ x.toInt) (h : vX7_isThere S x r u) : ((qI S 9 15).toInt + x.toInt ≤ (qI S 9 1).toInt ∧ r = 1 ∧ u = S) ∨ ((qI S 9 1).toInt < (qI S 9 15).toInt + x.toInt ∧ r = 0 ∧ u = bRk S 2 (qI S 9 1)) := by
  obtain ⟨p0, p1, p2⟩ := hp
  have e : ((qI S 9 1) - (qI S 9 15)).toInt = (qI S 9 1).toInt - (qI S 9 15).toInt := t_sub (by omega)
  unfold vX7_isThere at h
  rw [e] at h
  rcases h with ⟨c, -, er, eu⟩ | ⟨c, r4, S5, h, -, -, h2⟩
  · exact Or.inl ⟨by omega, er, eu⟩
  · obtain ⟨z, e⟩ := cv_breaks h
    rcases h2 with ⟨-, er, eu⟩ | ⟨n, -⟩
    · exact Or.inr ⟨by omega, er, by rw [eu, e]⟩
    · exact absurd (by rw [z]; rfl) n
theorem rv_broken {a b : Int32} {n : Nat} (h : v_broken R a b n w) : w = rBk R a b := by
  obtain ⟨S1, e1, S2, e2, -, eu⟩ := h
  rw [eu, e2, e1]
  rfl
theorem rv_must {a b : Int32} {oo : MS ⊕ MS} (h : v_must R x a b oo) : (x.toInt ≠ 0 ∧ oo = .inl R) ∨ (x.toInt = 0 ∧ oo = .inr (rBk R a b)) := by
  rcases h with ⟨c, n, w, h, e⟩ | ⟨c, e⟩
  · exact Or.inr ⟨c, by rw [e, rv_broken h]⟩
  · exact Or.inl ⟨c, e⟩
theorem rv_over {y : Int64} {oo : (Int32 × MS) ⊕ MS} (hn : 0 ≤ (qI R 0 13).toInt ∧ (qI R 0 13).toInt ≤ (qI R 0 12).toInt ∧ (qI R 0 12).toInt ≤ 131072) (hy : 0 ≤ y.toInt ∧ y.toInt ≤ 4294967296) (h : v_over R y oo) : ((qI R 0 13).toInt + y.toInt ≤ (qI R 0 12).toInt ∧ ∃ v : Int32, v.toInt = (qI R 0 13).toInt + y.toInt ∧ oo = .inl (qI R 0 13, wI R 0 13 v)) ∨ ((qI R 0 12).toInt < (qI R 0 13).toInt + y.toInt ∧ oo = .inr (rBk R 2 (qI R 0 12))) := by
  have e1 : (((qI R 0 13).toInt64) + y).toInt = (qI R 0 13).toInt + y.toInt := by rw [tl_add (by rw [tl_of]; omega), tl_of]
  unfold v_over at h
  rw [c_le, e1, tl_of] at h
  rcases h with ⟨c, a4, ea, S6, e6, e⟩ | ⟨c, n, w, h, e⟩
  · refine Or.inl ⟨c, (qI R 0 13) + (y.toInt32), ?_, by rw [e, ea, e6]⟩
    have ey : y.toInt32.toInt = y.toInt := tl_to (by omega)
    rw [t_add (by omega), ey]
  · exact Or.inr ⟨by omega, by rw [e, rv_broken h]⟩
end LF
