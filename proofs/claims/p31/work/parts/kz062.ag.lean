/-! attributes, with their number; members -/
def AtG (S R : MS) (o : Int32) (r : Int32) (u : MS) (oo : MS ⊕ MS) : Prop := (r = 1 ∧ ∃ (q2 : Int32) (w : MS), u = wI S 9 15 q2 ∧ oo = .inl w ∧ AtF R w (qI R 0 25).toInt.toNat ∧ AtC S w o (fX7_u2 S (qI S 9 15)).toInt.toNat ((qI S 9 15) + (2 : Int32)) (qI R 0 25).toInt.toNat q2 ∧ qI w 0 13 = q2 ∧ ((qI S 9 15).toInt + 2 ≤ q2.toInt ∧ q2.toInt ≤ (qI S 9 1).toInt) ∧ (qI w 0 25).toInt = (qI R 0 25).toInt + (fX7_u2 S (qI S 9 15)).toInt) ∨ (r = 0 ∧ ∃ w, oo = .inr w ∧ BadP u w)
section AG
variable {S S' R R' T u w : MS} {x y z r c v e len o : Int32} {k a : Nat} {oo : MS ⊕ MS}
theorem smX.sy (h : smX S S') : smX S' S := by
  have e1 : qO S' 9 0 = qO S 9 0 := h.2.1
  exact ⟨h.1.symm, e1.symm, by rw [e1]; exact h.2.2.1.symm, by rw [e1]; exact h.2.2.2.symm⟩
theorem s_at (hb : BtE S R) (hs : SrN R) (hp : PsI S) (p0 : 0 < (qI S 9 15).toInt) (e13 : qI R 0 13 = qI S 9 15) (a0 : 0 ≤ (qI R 0 25).toInt) (wS : wfC S) (h : vX7_attributesFit S r u) (g : v_attributesOf R o oo) : AtG S R o r u oo := by
  have hp' := hp
  obtain ⟨pa, pb, pc⟩ := hp'
  have l2 : (2 : Int64).toInt = 2 := by decide
  have q2 : ((qI S 9 15) + (2 : Int32)).toInt = (qI S 9 15).toInt + 2 ∨ (qI S 9 1).toInt < (qI S 9 15).toInt + 2 := by
    by_cases c : (qI S 9 15).toInt + 2 ≤ (qI S 9 1).toInt
    · exact Or.inl (by rw [t_add (by rw [li_2]; omega), li_2])
    · exact Or.inr (by omega)
  obtain ⟨r2, S2, h2, -, -, h⟩ := h
  rcases g with ⟨r4, S4, g4, -, a8, e8, n8, g⟩ | ⟨u9, g4, g⟩
  · rcases ov_at (y := 2) l2 (by omega) hb.1 hp (by rw [e13]; omega) (by rw [e13]; omega) g4 with ⟨c4, v4, ev4, e⟩ | ⟨-, e⟩
    · injection e with e
      injection e with er4 eS4
      rw [e13] at ev4 er4 c4
      rcases cv_there hp (by decide) h2 with ⟨c1, er, eS⟩ | ⟨c1, er, eS⟩
      · rcases h with ⟨z, -⟩ | ⟨-, -, a9, e9, S11, e11, k11, w11, n9, h⟩
        · exact absurd z (by rw [er]; decide)
        rw [eS] at e9 e11
        have f4 : AtF R S4 (qI R 0 25).toInt.toNat := by rw [eS4]; exact AtF.rf.w13 hs
        have s11 : smX S S11 := by rw [e11]; exact sm915 wS
        have b4 := rd12 hb f4.1 (f4.2.1 12 (by decide) (by decide))
        have e89 : a8 = a9 := by
          rw [e8, e9, er4, b4.u2 (by omega) (by omega)]
        have x11 : qI S11 9 15 = (qI S 9 15) + (2 : Int32) := by rw [e11, g_eq]
        have q2' : ((qI S 9 15) + (2 : Int32)).toInt = (qI S 9 15).toInt + 2 := by omega
        have n4 : qI S4 0 13 = qI S11 9 15 := Int32.toInt_inj.mp (by rw [eS4, n_13, x11, q2']; omega)
        have z25 : qI S4 0 25 = qI R 0 25 := by rw [eS4, g_nf (by decide)]
        rw [e89] at g
        have rg : 0 ≤ a9.toInt ∧ a9.toInt < 65536 := by rw [e9]; exact rg_u2
        have K := s_atL n9 n8 (b4.mv s11 smB.rf rfl) (hs.sm f4.1) ⟨by rw [x11]; omega, by rw [x11, s11.1]; omega, by rw [s11.1]; exact pc⟩ (by rw [x11]; omega) n4 (by decide) (by omega) (by omega) (by rw [z25]; exact a0) h g
        unfold AtE at K
        rw [z25, x11, s11.1, show a9.toInt - (0 : Int32).toInt = a9.toInt from Int.sub_zero _] at K
        rcases K with ⟨er', q9, w9, eu9, e9', F9, C9, n9', ⟨b9, b9'⟩, c9⟩ | K
        · refine Or.inl ⟨er', q9, w9, by rw [eu9, e11, wI_wI], e9', f4.tr F9 (Nat.le_refl _), ?_, n9', ⟨by omega, b9'⟩, by rw [← e9, c9]; omega⟩
          rw [← e9]
          exact AtC.mv _ C9 s11.sy (fun _ _ _ _ _ => rfl)
        · exact Or.inr K
      · rw [li_2] at c1
        omega
    · exact nomatch e
  · rcases ov_at (y := 2) l2 (by omega) hb.1 hp (by rw [e13]; omega) (by rw [e13]; omega) g4 with ⟨-, v4, -, e⟩ | ⟨c4, e⟩
    · exact nomatch e
    · injection e with e
      rw [e13] at c4
      rcases cv_there hp (by decide) h2 with ⟨c1, er, eS⟩ | ⟨c1, er, eS⟩
      · rw [li_2] at c1
        omega
      · rcases h with ⟨-, er2, eu⟩ | ⟨z, -⟩
        · exact Or.inr ⟨er2, u9, g, by rw [eu, eS, e]; exact badP⟩
        · exact absurd (by rw [er]; decide) z
end AG
