/-! fields, or methods: their number, and they -/
def MbG (S R : MS) (k : Nat) (r : Int32) (u : MS) (oo : MS ⊕ MS) : Prop := (r = fX7_u2 S (qI S 9 15) ∧ (0 ≤ r.toInt ∧ r.toInt ≤ 24) ∧ ∃ (q2 : Int32) (w : MS) (a2 : Nat), oo = .inl w ∧ smX S u ∧ qI u 9 15 = q2 ∧ (∀ j : Nat, j < k → qI u 12 j = qI S 12 j) ∧ MbF R w k (qI R 0 25).toInt.toNat ∧ MbC u w r.toInt.toNat k ((qI S 9 15) + (2 : Int32)) (qI R 0 25).toInt.toNat q2 a2 ∧ qI w 0 13 = q2 ∧ ((qI S 9 15).toInt + 2 ≤ q2.toInt ∧ q2.toInt ≤ (qI S 9 1).toInt) ∧ (qI w 0 25).toInt = a2 ∧ (qI w 0 21).toInt = k + r.toInt) ∨ (r = -1 ∧ ∃ w, oo = .inr w ∧ BadP u w)
section MG
variable {S S' R R' T u w : MS} {x y z r c v e len o N i x1 : Int32} {k a : Nat} {oo : MS ⊕ MS}
theorem s_mb (hb : BtE S R) (hs : SrN R) (hp : PsI S) (p0 : 0 < (qI S 9 15).toInt) (e13 : qI R 0 13 = qI S 9 15) (hx : 0 ≤ x1.toInt ∧ x1.toInt ≤ 24) (e21 : (qI R 0 21).toInt = x1.toInt) (a0 : 0 ≤ (qI R 0 25).toInt) (wS : wfC S) (h : vX7_membersFit S x1 r u) (g : v_members R oo) : MbG S R x1.toInt.toNat r u oo := by
  have hp' := hp
  obtain ⟨pa, pb, pc⟩ := hp'
  have l2 : (2 : Int64).toInt = 2 := by decide
  obtain ⟨r2, S2, h2, -, -, h⟩ := h
  rcases g with ⟨r4, S4, g4, -, a8, e8, g⟩ | ⟨u9, g4, g⟩
  · rcases ov_at (y := 2) l2 (by omega) hb.1 hp (by rw [e13]; omega) (by rw [e13]; omega) g4 with ⟨c4, v4, ev4, e⟩ | ⟨-, e⟩
    · injection e with e
      injection e with er4 eS4
      rw [e13] at ev4 er4 c4
      have q2 : ((qI S 9 15) + (2 : Int32)).toInt = (qI S 9 15).toInt + 2 := by rw [t_add (by rw [li_2]; omega), li_2]
      rcases cv_there hp (by decide) h2 with ⟨c1, er, eS⟩ | ⟨c1, er, eS⟩
      · rcases h with ⟨z, -⟩ | ⟨-, -, a9, e9, h⟩
        · exact absurd z (by rw [er]; decide)
        rw [eS] at e9 h
        have f4 : AtF R S4 (qI R 0 25).toInt.toNat := by rw [eS4]; exact AtF.rf.w13 hs
        have b4 := rd12 hb f4.1 (f4.2.1 12 (by decide) (by decide))
        have e89 : a8 = a9 := by rw [e8, e9, er4, b4.u2 (by omega) (by omega)]
        have rg : 0 ≤ a9.toInt ∧ a9.toInt < 65536 := by rw [e9]; exact rg_u2
        rw [e89] at g
        rcases h with ⟨c9, S12, e12, -, w12, n9, h⟩ | ⟨c9, r32, S33, h, -, -, er33, eu33⟩
        · rcases g with ⟨c8, -⟩ | ⟨-, g⟩
          · omega
          rcases g with ⟨S10, hm, n8, g⟩ | ⟨u9, hm, -⟩
          · rcases rv_must hm with ⟨-, z⟩ | ⟨z, -⟩
            · injection z with z
              rw [z] at g
              have s12 : smX S S12 := by rw [e12]; exact sm915 wS
              have x12 : qI S12 9 15 = (qI S 9 15) + (2 : Int32) := by rw [e12, g_eq]
              have n4 : qI S4 0 13 = qI S12 9 15 := Int32.toInt_inj.mp (by rw [eS4, n_13, x12, q2]; omega)
              have z25 : qI S4 0 25 = qI R 0 25 := by rw [eS4, g_nf (by decide)]
              have z21 : qI S4 0 21 = qI R 0 21 := by rw [eS4, g_nf (by decide)]
              have z0 : (0 : Int32).toInt = 0 := by decide
              have K := s_mbL n9 n8 (b4.mv s12 smB.rf rfl) (hs.sm f4.1) ⟨by rw [x12]; omega, by rw [x12, s12.1]; omega, by rw [s12.1]; exact pc⟩ (by rw [x12]; omega) n4 hx ⟨rg.1, c9⟩ ⟨by rw [z0]; omega, by rw [z0]; omega, by rw [z0]; omega⟩ (by rw [z21, e21]) (by rw [z25]; exact a0) h g
              unfold MbE at K
              rw [z25, x12, s12.1, z0, show a9.toInt - 0 = a9.toInt from Int.sub_zero _] at K
              rcases K with ⟨er', qq, ww, a2, eo, sm, xq, f12, FF, CC, nn, ⟨bb, bb'⟩, aa, mm⟩ | K
              · rw [er']
                refine Or.inl ⟨e9, ⟨rg.1, c9⟩, qq, ww, a2, eo, s12.tr sm, xq, fun j hj => by rw [f12 j hj, e12, g_ne (by decide)], ?_, CC, nn, ⟨by omega, bb'⟩, aa, by rw [mm]; omega⟩
                exact (f4.mb (k := x1.toInt.toNat)).tr FF (Nat.le_refl _) (Nat.le_refl _)
              · exact Or.inr K
            · exact absurd z (by decide)
          · rcases rv_must hm with ⟨-, z⟩ | ⟨z, -⟩
            · exact nomatch z
            · exact absurd z (by decide)
        · obtain ⟨a, b⟩ := cv_breaks h
          rcases g with ⟨c8, g⟩ | ⟨c8, -⟩
          · rcases g with ⟨S10, hm, -⟩ | ⟨u9, hm, g⟩
            · rcases rv_must hm with ⟨z, -⟩ | ⟨-, z⟩
              · exact absurd (by decide) z
              · exact nomatch z
            · rcases rv_must hm with ⟨z, -⟩ | ⟨-, z⟩
              · exact absurd (by decide) z
              · injection z with z
                exact Or.inr ⟨er33, u9, g, by rw [eu33, b, z, er4]; exact badP⟩
          · omega
      · rw [li_2] at c1
        omega
    · exact nomatch e
  · rcases ov_at (y := 2) l2 (by omega) hb.1 hp (by rw [e13]; omega) (by rw [e13]; omega) g4 with ⟨-, v4, -, e⟩ | ⟨c4, e⟩
    · exact nomatch e
    · injection e with e
      rw [e13] at c4
      rcases cv_there hp (by decide) h2 with ⟨c1, er, eS⟩ | ⟨c1, er, eS⟩
      · rw [li_2] at c1
        omega
      · rcases h with ⟨-, er2, eu⟩ | ⟨z, -⟩
        · exact Or.inr ⟨er2, u9, g, by rw [eu, eS, e]; exact badP⟩
        · exact absurd (by rw [er]; decide) z
end MG
