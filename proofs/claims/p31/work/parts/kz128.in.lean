/-! rule 16: the reference's instruction, by its first byte -/
/-- a way that the reference goes from o: target, then the row -/
def JmV (R : MS) (o op b : Int32) (oo : MS ⊕ MS) : Prop := (∃ (r49 : Int32) (S50 : MS), v_target R o b (.inl (r49, S50)) ∧ (∃ S53 : MS, v_row S50 op r49 0 S53 ∧ oo = .inl S53)) ∨ (∃ u9 : MS, v_target R o b (.inr u9) ∧ oo = .inr u9)
def MeV (R : MS) (o op t : Int32) (oo : MS ⊕ MS) : Prop := (∃ (r64 : Int32) (S65 : MS), v_member R o t (.inl (r64, S65)) ∧ (∃ S68 : MS, v_row S65 op r64 0 S68 ∧ oo = .inl S68)) ∨ (∃ u9 : MS, v_member R o t (.inr u9) ∧ oo = .inr u9)
def InsC (R : MS) (o r : Int32) (oo : MS ⊕ MS) : Prop :=
  ((2 ≤ r.toInt ∧ r.toInt ≤ 8) ∧ ∃ w, v_row R 18 (r - (3 : Int32)) 0 w ∧ oo = .inl w) ∨
  ((r.toInt = 9 ∨ r.toInt = 10) ∧ ∃ w, v_row R 20 0 (r - (9 : Int32)) w ∧ oo = .inl w) ∨
  (r.toInt = 16 ∧ ∃ w, v_row R 18 (qI R (qO R 0 11) ((((qI R 0 36) + o) + (1 : Int32)).toInt).toNat) 0 w ∧ oo = .inl w) ∨
  (r.toInt = 17 ∧ ∃ w, v_row R 18 (f_codeTwo R (o + (1 : Int32))) 0 w ∧ oo = .inl w) ∨
  (r.toInt = 18 ∧ v_pushed R o (f_codeOctet R (o + (1 : Int32))) 3 oo) ∨
  (r.toInt = 19 ∧ v_pushed R o ((f_codeTwo R (o + (1 : Int32))) &&& (65535 : Int32)) 3 oo) ∨
  (r.toInt = 20 ∧ v_pushed R o ((f_codeTwo R (o + (1 : Int32))) &&& (65535 : Int32)) 5 oo) ∨
  ((26 ≤ r.toInt ∧ r.toInt ≤ 29) ∧ v_localRow R o 21 ((r - (26 : Int32)) - (r - (26 : Int32)) / (4 : Int32) * (4 : Int32)) oo) ∨
  ((30 ≤ r.toInt ∧ r.toInt ≤ 33) ∧ v_localRow R o 22 ((r - (26 : Int32)) - (r - (26 : Int32)) / (4 : Int32) * (4 : Int32)) oo) ∨
  ((42 ≤ r.toInt ∧ r.toInt ≤ 45) ∧ v_localRow R o 25 (r - (42 : Int32)) oo) ∨
  ((59 ≤ r.toInt ∧ r.toInt ≤ 62) ∧ v_localRow R o 54 ((r - (59 : Int32)) - (r - (59 : Int32)) / (4 : Int32) * (4 : Int32)) oo) ∨
  ((63 ≤ r.toInt ∧ r.toInt ≤ 66) ∧ v_localRow R o 55 ((r - (59 : Int32)) - (r - (59 : Int32)) / (4 : Int32) * (4 : Int32)) oo) ∨
  ((75 ≤ r.toInt ∧ r.toInt ≤ 78) ∧ v_localRow R o 58 (r - (75 : Int32)) oo) ∨
  ((r.toInt = 21 ∨ r.toInt = 22 ∨ r.toInt = 25 ∨ r.toInt = 54 ∨ r.toInt = 55 ∨ r.toInt = 58) ∧ v_localRow R o r (f_codeOctet R (o + (1 : Int32))) oo) ∨
  (r.toInt = 132 ∧ v_grown R o (f_codeOctet R (o + (1 : Int32))) (qI R (qO R 0 11) ((((qI R 0 36) + o) + (2 : Int32)).toInt).toNat) oo) ∨
  (r.toInt = 196 ∧ v_wide R o (f_codeOctet R (o + (1 : Int32))) oo) ∨
  (((153 ≤ r.toInt ∧ r.toInt ≤ 167) ∨ r.toInt = 198 ∨ r.toInt = 199) ∧ JmV R o r (f_codeTwo R (o + (1 : Int32))) oo) ∨
  (r.toInt = 200 ∧ JmV R o 167 (f_codeFour R (o + (1 : Int32))) oo) ∨
  ((r.toInt = 170 ∨ r.toInt = 171) ∧ v_switched R o r oo) ∨
  ((r.toInt = 178 ∨ r.toInt = 179) ∧ MeV R o r 9 oo) ∨
  (r.toInt = 184 ∧ MeV R o r 10 oo) ∨
  ((¬ (2 ≤ r.toInt ∧ r.toInt ≤ 10) ∧ ¬ (16 ≤ r.toInt ∧ r.toInt ≤ 22) ∧ ¬ (25 ≤ r.toInt ∧ r.toInt ≤ 33) ∧ ¬ (42 ≤ r.toInt ∧ r.toInt ≤ 45) ∧ ¬ (54 ≤ r.toInt ∧ r.toInt ≤ 55) ∧ ¬ (58 ≤ r.toInt ∧ r.toInt ≤ 66) ∧ ¬ (75 ≤ r.toInt ∧ r.toInt ≤ 78) ∧ r.toInt ≠ 132 ∧ ¬ (153 ≤ r.toInt ∧ r.toInt ≤ 167) ∧ ¬ (170 ≤ r.toInt ∧ r.toInt ≤ 171) ∧ ¬ (178 ≤ r.toInt ∧ r.toInt ≤ 179) ∧ r.toInt ≠ 184 ∧ r.toInt ≠ 196 ∧ ¬ (198 ≤ r.toInt ∧ r.toInt ≤ 200)) ∧ ∃ w, v_row R r 0 0 w ∧ oo = .inl w)
section IN
variable {S S' S0 R R' T V U u w : MS} {x y z r c v e len o N i x1 k t a b f pr g op q low fst many : Int32} {p tt : Nat} {oo : MS ⊕ MS}
theorem rv_thru {P : MS ⊕ MS → Prop} (h : (∃ S1 : MS, P (.inl S1) ∧ oo = .inl S1) ∨ (∃ u9 : MS, P (.inr u9) ∧ oo = .inr u9)) : P oo := by
  rcases h with ⟨S1, h, e⟩ | ⟨u9, h, e⟩
  · rw [e]; exact h
  · rw [e]; exact h
theorem rv_insC (h : v_instruction R o oo) : InsC R o (f_codeOctet R o) oo := by
  obtain ⟨-, r, er, h⟩ := h
  rw [← er]
  have J449 : ((153 ≤ r.toInt ∧ r.toInt ≤ 167) ∨ r.toInt = 198 ∨ r.toInt = 199) → v_instruction_J449 oo R o r → InsC R o r oo := fun c h => by
    obtain ⟨-, h⟩ := h
    exact Or.inr (Or.inr (Or.inr (Or.inr (Or.inr (Or.inr (Or.inr (Or.inr (Or.inr (Or.inr (Or.inr (Or.inr (Or.inr (Or.inr (Or.inr (Or.inr (Or.inl ⟨c, h⟩))))))))))))))))
  have J514 : (r.toInt = 170 ∨ r.toInt = 171) → v_instruction_J514 oo R o r → InsC R o r oo := fun c h => by
    exact Or.inr (Or.inr (Or.inr (Or.inr (Or.inr (Or.inr (Or.inr (Or.inr (Or.inr (Or.inr (Or.inr (Or.inr (Or.inr (Or.inr (Or.inr (Or.inr (Or.inr (Or.inr (Or.inl ⟨c, rv_thru h⟩))))))))))))))))))
  have J537 : (r.toInt = 178 ∨ r.toInt = 179) → v_instruction_J537 oo R o r → InsC R o r oo := fun c h => by
    exact Or.inr (Or.inr (Or.inr (Or.inr (Or.inr (Or.inr (Or.inr (Or.inr (Or.inr (Or.inr (Or.inr (Or.inr (Or.inr (Or.inr (Or.inr (Or.inr (Or.inr (Or.inr (Or.inr (Or.inl ⟨c, h⟩)))))))))))))))))))
  have J435 : (¬ (2 ≤ r.toInt ∧ r.toInt ≤ 10) ∧ ¬ (16 ≤ r.toInt ∧ r.toInt ≤ 22) ∧ ¬ (25 ≤ r.toInt ∧ r.toInt ≤ 33) ∧ ¬ (42 ≤ r.toInt ∧ r.toInt ≤ 45) ∧ ¬ (54 ≤ r.toInt ∧ r.toInt ≤ 55) ∧ ¬ (58 ≤ r.toInt ∧ r.toInt ≤ 66) ∧ ¬ (75 ≤ r.toInt ∧ r.toInt ≤ 78) ∧ r.toInt ≠ 132 ∧ r.toInt ≠ 196 ∧ ¬ (153 ≤ r.toInt ∧ r.toInt ≤ 167)) → v_instruction_J435 oo R o r → InsC R o r oo := fun c h => by
    rcases h with ⟨d, h⟩ | ⟨d1, h⟩
    · exact J449 (by omega) h
    rcases h with ⟨d, h⟩ | ⟨d2, h⟩
    · exact J449 (by omega) h
    rcases h with ⟨d, -, h⟩ | ⟨d3, h⟩
    · exact Or.inr (Or.inr (Or.inr (Or.inr (Or.inr (Or.inr (Or.inr (Or.inr (Or.inr (Or.inr (Or.inr (Or.inr (Or.inr (Or.inr (Or.inr (Or.inr (Or.inr (Or.inl ⟨d, h⟩)))))))))))))))))
    rcases h with ⟨d, h⟩ | ⟨d4, h⟩
    · exact J514 (Or.inl d) h
    rcases h with ⟨d, h⟩ | ⟨d5, h⟩
    · exact J514 (Or.inr d) h
    rcases h with ⟨d, h⟩ | ⟨d6, h⟩
    · exact J537 (Or.inl d) h
    rcases h with ⟨d, h⟩ | ⟨d7, h⟩
    · exact J537 (Or.inr d) h
    rcases h with ⟨d, h⟩ | ⟨d8, w, h, e⟩
    · exact Or.inr (Or.inr (Or.inr (Or.inr (Or.inr (Or.inr (Or.inr (Or.inr (Or.inr (Or.inr (Or.inr (Or.inr (Or.inr (Or.inr (Or.inr (Or.inr (Or.inr (Or.inr (Or.inr (Or.inr (Or.inl ⟨d, h⟩))))))))))))))))))))
    · exact Or.inr (Or.inr (Or.inr (Or.inr (Or.inr (Or.inr (Or.inr (Or.inr (Or.inr (Or.inr (Or.inr (Or.inr (Or.inr (Or.inr (Or.inr (Or.inr (Or.inr (Or.inr (Or.inr (Or.inr (Or.inr ⟨by omega, w, h, e⟩))))))))))))))))))))
  have LC : (r.toInt = 21 ∨ r.toInt = 22 ∨ r.toInt = 25 ∨ r.toInt = 54 ∨ r.toInt = 55 ∨ r.toInt = 58) → v_instruction_J348 oo R o r → InsC R o r oo := fun c h => by
    obtain ⟨-, h⟩ := h
    exact Or.inr (Or.inr (Or.inr (Or.inr (Or.inr (Or.inr (Or.inr (Or.inr (Or.inr (Or.inr (Or.inr (Or.inr (Or.inr (Or.inl ⟨c, rv_thru h⟩)))))))))))))
  have J312 : (¬ (2 ≤ r.toInt ∧ r.toInt ≤ 10) ∧ ¬ (16 ≤ r.toInt ∧ r.toInt ≤ 20) ∧ ¬ (26 ≤ r.toInt ∧ r.toInt ≤ 33) ∧ ¬ (42 ≤ r.toInt ∧ r.toInt ≤ 45) ∧ ¬ (59 ≤ r.toInt ∧ r.toInt ≤ 66) ∧ ¬ (75 ≤ r.toInt ∧ r.toInt ≤ 78)) → v_instruction_J312 oo R o r → InsC R o r oo := fun c h => by
    rcases h with ⟨d, h⟩ | ⟨d1, h⟩
    · exact LC (by omega) h
    rcases h with ⟨d, h⟩ | ⟨d2, h⟩
    · exact LC (by omega) h
    rcases h with ⟨d, h⟩ | ⟨d3, h⟩
    · exact LC (by omega) h
    rcases h with ⟨d, h⟩ | ⟨d4, h⟩
    · exact LC (by omega) h
    rcases h with ⟨d, h⟩ | ⟨d5, h⟩
    · exact LC (by omega) h
    rcases h with ⟨d, h⟩ | ⟨d6, h⟩
    · exact LC (by omega) h
    rcases h with ⟨d, -, -, -, h⟩ | ⟨d7, h⟩
    · exact Or.inr (Or.inr (Or.inr (Or.inr (Or.inr (Or.inr (Or.inr (Or.inr (Or.inr (Or.inr (Or.inr (Or.inr (Or.inr (Or.inr (Or.inl ⟨d, rv_thru h⟩))))))))))))))
    rcases h with ⟨d, -, h⟩ | ⟨d8, h⟩
    · exact Or.inr (Or.inr (Or.inr (Or.inr (Or.inr (Or.inr (Or.inr (Or.inr (Or.inr (Or.inr (Or.inr (Or.inr (Or.inr (Or.inr (Or.inr (Or.inl ⟨d, rv_thru h⟩)))))))))))))))
    rcases h with ⟨d, h⟩ | ⟨d9, h⟩
    · exact J435 (by omega) h
    rcases h with ⟨d, h⟩ | ⟨d10, h⟩
    · exact J449 (by omega) h
    · exact J435 (by omega) h
  have J286 : (¬ (2 ≤ r.toInt ∧ r.toInt ≤ 10) ∧ ¬ (16 ≤ r.toInt ∧ r.toInt ≤ 20) ∧ ¬ (26 ≤ r.toInt ∧ r.toInt ≤ 33) ∧ ¬ (42 ≤ r.toInt ∧ r.toInt ≤ 45) ∧ ¬ (59 ≤ r.toInt ∧ r.toInt ≤ 66)) → v_instruction_J286 oo R o r → InsC R o r oo := fun c h => by
    rcases h with ⟨d, h⟩ | ⟨d1, ⟨d2, h⟩ | ⟨d2, h⟩⟩
    · exact J312 (by omega) h
    · exact J312 (by omega) h
    · exact Or.inr (Or.inr (Or.inr (Or.inr (Or.inr (Or.inr (Or.inr (Or.inr (Or.inr (Or.inr (Or.inr (Or.inr (Or.inl ⟨by omega, rv_thru h⟩))))))))))))
  have J247 : (¬ (2 ≤ r.toInt ∧ r.toInt ≤ 10) ∧ ¬ (16 ≤ r.toInt ∧ r.toInt ≤ 20) ∧ ¬ (26 ≤ r.toInt ∧ r.toInt ≤ 33) ∧ ¬ (42 ≤ r.toInt ∧ r.toInt ≤ 45)) → v_instruction_J247 oo R o r → InsC R o r oo := fun c h => by
    rcases h with ⟨d, h⟩ | ⟨d1, ⟨d2, h⟩ | ⟨d2, ⟨d3, h⟩ | ⟨d3, h⟩⟩⟩
    · exact J286 (by omega) h
    · exact J286 (by omega) h
    · exact Or.inr (Or.inr (Or.inr (Or.inr (Or.inr (Or.inr (Or.inr (Or.inr (Or.inr (Or.inr (Or.inr (Or.inl ⟨by omega, rv_thru h⟩)))))))))))
    · exact Or.inr (Or.inr (Or.inr (Or.inr (Or.inr (Or.inr (Or.inr (Or.inr (Or.inr (Or.inr (Or.inl ⟨by omega, rv_thru h⟩))))))))))
  have J221 : (¬ (2 ≤ r.toInt ∧ r.toInt ≤ 10) ∧ ¬ (16 ≤ r.toInt ∧ r.toInt ≤ 20) ∧ ¬ (26 ≤ r.toInt ∧ r.toInt ≤ 33)) → v_instruction_J221 oo R o r → InsC R o r oo := fun c h => by
    rcases h with ⟨d, h⟩ | ⟨d1, ⟨d2, h⟩ | ⟨d2, h⟩⟩
    · exact J247 (by omega) h
    · exact J247 (by omega) h
    · exact Or.inr (Or.inr (Or.inr (Or.inr (Or.inr (Or.inr (Or.inr (Or.inr (Or.inr (Or.inl ⟨by omega, rv_thru h⟩)))))))))
  have J30 : ¬ (2 ≤ r.toInt ∧ r.toInt ≤ 8) → v_instruction_J30 oo R o r → InsC R o r oo := fun c h => by
    rcases h with ⟨d, w, h, e⟩ | ⟨d1, h⟩
    · exact Or.inr (Or.inl ⟨Or.inl d, w, h, e⟩)
    rcases h with ⟨d, w, h, e⟩ | ⟨d2, h⟩
    · exact Or.inr (Or.inl ⟨Or.inr d, w, h, e⟩)
    rcases h with ⟨d, -, -, w, h, e⟩ | ⟨d3, h⟩
    · exact Or.inr (Or.inr (Or.inl ⟨d, w, h, e⟩))
    rcases h with ⟨d, -, w, h, e⟩ | ⟨d4, h⟩
    · exact Or.inr (Or.inr (Or.inr (Or.inl ⟨d, w, h, e⟩)))
    have J120 : (r.toInt = 18 ∨ r.toInt = 19) → v_instruction_J120 oo R o r → InsC R o r oo := fun c h => by
      rcases h with ⟨d, -, h⟩ | ⟨d, -, h⟩
      · exact Or.inr (Or.inr (Or.inr (Or.inr (Or.inl ⟨d, rv_thru h⟩))))
      · exact Or.inr (Or.inr (Or.inr (Or.inr (Or.inr (Or.inl ⟨by omega, rv_thru h⟩)))))
    rcases h with ⟨d, h⟩ | ⟨d5, h⟩
    · exact J120 (Or.inl d) h
    rcases h with ⟨d, h⟩ | ⟨d6, h⟩
    · exact J120 (Or.inr d) h
    rcases h with ⟨d, -, h⟩ | ⟨d7, h⟩
    · exact Or.inr (Or.inr (Or.inr (Or.inr (Or.inr (Or.inr (Or.inl ⟨d, rv_thru h⟩))))))
    rcases h with ⟨d, h⟩ | ⟨d8, ⟨d9, h⟩ | ⟨d9, ⟨d10, h⟩ | ⟨d10, h⟩⟩⟩
    · exact J221 (by omega) h
    · exact J221 (by omega) h
    · exact Or.inr (Or.inr (Or.inr (Or.inr (Or.inr (Or.inr (Or.inr (Or.inr (Or.inl ⟨by omega, rv_thru h⟩))))))))
    · exact Or.inr (Or.inr (Or.inr (Or.inr (Or.inr (Or.inr (Or.inr (Or.inl ⟨by omega, rv_thru h⟩)))))))
  rcases h with ⟨d, h⟩ | ⟨d1, ⟨d2, h⟩ | ⟨d2, w, h, e⟩⟩
  · exact J30 (by omega) h
  · exact J30 (by omega) h
  · exact Or.inl ⟨by omega, w, h, e⟩
end IN
