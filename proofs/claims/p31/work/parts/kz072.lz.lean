/-! the layout, put together -/
section LZ
variable {S S' R R' T u w : MS} {x y z r c v e len o N i x1 : Int32} {k a p : Nat} {oo : MS ⊕ MS}
theorem cv_mbF (w : wfC S) (h : vX7_membersFit S x r u) : cfr [219] [(46, 2), (46, 3), (46, 15)] S u := (vpX7_membersFit h (frX7_membersFit w (vwX7_membersFit h))).2
theorem cv_atF (w : wfC S) (h : vX7_attributesFit S r u) : cfr [] [(46, 2), (46, 3), (46, 15)] S u := (vpX7_attributesFit h (frX7_attributesFit w (vwX7_attributesFit h))).2
theorem wfC.q9 (w : wfC S) : qT S 9 = 46 := (w.2.1 _ finC_2).2.1
theorem wfC.q11 (w : wfC S) : qT S 11 = 218 := (w.2.1 _ finC_7).2.1
/-- from behind the head on -/
theorem s_tail {S3 S26 : MS} (hE : PoE S3 S26) (w3 : wfC S3) (h6 : qI S26 0 20 = qI S3 9 6 ∧ 0 < (qI S3 9 6).toInt ∧ (qI S3 9 6).toInt + 8 ≤ (qI S3 9 1).toInt) (h15 : (qI S3 9 15).toInt = (qI S3 9 6).toInt + 8) (z21 : qI S26 0 21 = 0) (z25 : qI S26 0 25 = 0)
    (h : ∃ (r4 : Int32) (S4 : MS), vX7_fieldsFit S3 r4 S4 ∧ wfC S4 ∧ ((r4.toInt = 0 ∧ r = 0 ∧ u = S4) ∨ (¬ r4.toInt = 0 ∧ ∃ (r5 : Int32) (S5 : MS), vX7_methodsFit S4 r5 S5 ∧ wfC S5 ∧ ((r5.toInt = 0 ∧ r = 0 ∧ u = S5) ∨ (¬ r5.toInt = 0 ∧ ∃ (r6 : Int32) (S6 : MS), vX7_fileAttributesFit S5 r6 S6 ∧ wfC S6 ∧ ((r6.toInt = 0 ∧ r = 0 ∧ u = S6) ∨ (¬ r6.toInt = 0 ∧ r = 1 ∧ u = S6)))))))
    (g : (∃ (S28 : MS), v_members S26 (.inl S28) ∧ (∃ S30 : MS, S30 = wI S28 0 22 (qI S28 0 21) ∧ ((∃ (S32 : MS), v_members S30 (.inl S32) ∧ ((∃ (S35 : MS), v_attributesOf S32 (-1 : Int32) (.inl S35) ∧ (∃ S37 : MS, S37 = wI S35 0 28 (qI S35 0 13) ∧ (oo = .inl S37))) ∨ (∃ u9 : MS, v_attributesOf S32 (-1 : Int32) (.inr u9) ∧ (oo = .inr u9)))) ∨ (∃ u9 : MS, v_members S30 (.inr u9) ∧ (oo = .inr u9))))) ∨ (∃ u9 : MS, v_members S26 (.inr u9) ∧ (oo = .inr u9))) :
    (r = 1 ∧ ∃ w, oo = .inl w ∧ LyE u w) ∨ (r = 0 ∧ ∃ w, oo = .inr w ∧ BadP u w) := by
  have m1 : (-1 : Int32).toInt = -1 := by decide
  obtain ⟨r4, S4, h4, w4, h⟩ := h
  obtain ⟨A1, eA1, -, wA1, A2, eA2, -, wA2, r5, A5, h5, wA5, -, A7, eA7, -, -, h4⟩ := h4
  have sA : smX S3 A2 := (show smX S3 A1 by rw [eA1]; exact smX.wk w3 w3.q9 (by decide) (fun _ => by decide)).tr (by rw [eA2]; exact smX.wk wA1 wA1.q9 (by decide) (fun _ => by decide))
  have a2 : ∀ j, j ≠ 7 → j ≠ 8 → qI A2 9 j = qI S3 9 j := fun j h1 h2 => by rw [eA2, g_nf h1, eA1, g_nf h2]
  have a2r : ∀ b j, b ≠ 9 → qI A2 b j = qI S3 b j := fun b j h1 => by rw [eA2, g_ne h1, eA1, g_ne h1]
  obtain ⟨hb, hs, hp, ⟨p0, e13⟩, ⟨e14, pc1, pc5⟩, hent⟩ := hE
  have E2 : PoE A2 S26 := PoE.mv ⟨hb, hs, hp, ⟨p0, e13⟩, ⟨e14, pc1, pc5⟩, hent⟩ sA ⟨by rw [a2 15 (by decide) (by decide)]; exact hp.1, by rw [a2 15 (by decide) (by decide), sA.1]; exact hp.2.1, by rw [sA.1]; exact hp.2.2⟩ (by rw [a2 15 (by decide) (by decide)]; exact p0) (by rw [a2 15 (by decide) (by decide)]; exact e13) (a2 5 (by decide) (by decide)) (fun j => a2r 11 j (by decide)) smB.rf ⟨rfl, rfl⟩ (fun _ _ _ _ => rfl) rfl
  have f5 := cv_mbF wA2 h5
  have z0 : (0 : Int32).toInt = 0 := by decide
  have G1 : ∀ {o1 : MS ⊕ MS}, v_members S26 o1 → MbG A2 S26 (0 : Int32).toInt.toNat r5 A5 o1 := fun hg => s_mb E2.1 E2.2.1 E2.2.2.1 E2.2.2.2.1.1 E2.2.2.2.1.2 (by rw [z0]; omega) (by rw [z21]) (by rw [z25, z0]; omega) wA2 h5 hg
  rcases g with ⟨S28, g28, S30, e30, g⟩ | ⟨u9, g28, g⟩
  · rcases G1 g28 with ⟨er5, rg5, q5, w5, a5, eo5, sm5, xq5, -, F5, C5, n5, ⟨b5, b5'⟩, aa5, mm5⟩ | ⟨-, w5, eo5, -⟩
    · injection eo5 with eo5
      rw [eo5] at e30
      rw [z25, z0] at F5 C5
      have k0 : ((0 : Int).toNat) = 0 := rfl
      rw [k0] at F5 C5
      rcases h4 with ⟨c, er4, eu4⟩ | ⟨c, er4, eu4⟩
      · rw [eA7, g_eq] at c
        omega
      rcases h with ⟨z, -⟩ | ⟨-, r7, S5, h7, w7, h⟩
      · exact absurd z (by rw [er4]; decide)
      have s4 : smX S3 S4 := (sA.tr sm5).tr (by rw [eu4, eA7]; exact smX.wk wA5 wA5.q9 (by decide) (fun _ => by decide))
      have x45 : qI S4 9 5 = qI S3 9 5 := by rw [eu4, eA7, g_nf (by decide), f5.kI (a := 9) (j := 5) wA2.q9 (by decide) (by decide), a2 5 (by decide) (by decide)]
      have x46 : qI S4 9 6 = qI S3 9 6 := by rw [eu4, eA7, g_nf (by decide), f5.kI (a := 9) (j := 6) wA2.q9 (by decide) (by decide), a2 6 (by decide) (by decide)]
      have x47 : qI S4 9 7 = r5 := by rw [eu4, eA7, g_eq]
      have x415 : qI S4 9 15 = q5 := by rw [eu4, eA7, g_nf (by decide), xq5]
      have x411 : ∀ j, qI S4 11 j = qI S3 11 j := fun j => by rw [eu4, eA7, g_ne (by decide), f5.kI (a := 11) (j := j) wA2.q11 (by decide) (by rfl), a2r 11 j (by decide)]
      have x412 : ∀ j, qI S4 12 j = qI A5 12 j := fun j => by rw [eu4, eA7, g_ne (by decide)]
      have y30 : ∀ j, j ≠ 22 → qI S30 0 j = qI w5 0 j := fun j hj => by rw [e30, g_nf hj]
      have y30r : ∀ b j, b ≠ 0 → qI S30 b j = qI w5 b j := fun b j hb => by rw [e30, g_ne hb]
      have b30 : smB S26 S30 := F5.1.tr (by rw [e30]; exact ⟨rfl, rdH (hs.sm F5.1).nz⟩)
      have p4 : (qI A2 9 15).toInt = (qI S3 9 15).toInt := by rw [a2 15 (by decide) (by decide)]
      have hp4 : PsI S4 := ⟨by rw [x415]; omega, by rw [x415, s4.1]; rw [sA.1] at b5'; exact b5', by rw [s4.1]; exact hp.2.2⟩
      have hE4 : PoE S4 S30 := PoE.mv ⟨hb, hs, hp, ⟨p0, e13⟩, ⟨e14, pc1, pc5⟩, hent⟩ s4 hp4 (by rw [x415]; omega) (by rw [y30 13 (by decide), n5, x415]) x45 x411 b30 ⟨by rw [y30 12 (by decide), F5.2.1 12 (by decide) (by decide) (by decide)], by rw [y30 14 (by decide), F5.2.1 14 (by decide) (by decide) (by decide)]⟩ (fun b j h1 h2 => by rw [y30r b j (by omega)]; exact F5.2.2.1 b j (by omega) (Or.inl (by omega))) (by rw [e30]; exact F5.2.2.2.1)
      have q2122 : (qI S30 0 21).toInt = r5.toInt := by
        rw [y30 21 (by decide), mm5, z0, k0]
        omega
      have e2122 : qI S30 0 21 = r5 := Int32.toInt_inj.mp q2122
      have e22 : qI S30 0 22 = r5 := by rw [← e2122, y30 21 (by decide), e30, g_eq]
      have z3025 : (qI S30 0 25).toInt = a5 := by rw [y30 25 (by decide)]; exact aa5
      obtain ⟨r2, B3, h7, wB3, -, B5, eB5, -, wB5, h7'⟩ := h7
      rw [x47] at h7
      have f7 := cv_mbF w4 h7
      have G2 : ∀ {o1 : MS ⊕ MS}, v_members S30 o1 → MbG S4 S30 r5.toInt.toNat r2 B3 o1 := fun hg => s_mb hE4.1 hE4.2.1 hE4.2.2.1 hE4.2.2.2.1.1 hE4.2.2.2.1.2 rg5 (by rw [e2122]) (by rw [z3025]; omega) w4 h7 hg
      rcases g with ⟨S32, g32, g⟩ | ⟨u9, g32, g⟩
      · rcases G2 g32 with ⟨er7, rg7, q7, w7', a7, eo7, sm7, xq7, f12, F7, C7, n7, ⟨b7, b7'⟩, aa7, mm7⟩ | ⟨-, w7', eo7, -⟩
        · injection eo7 with eo7
          rcases h7' with ⟨c7, -, -⟩ | ⟨c7, er7', eu7⟩
          · rw [eB5, g_eq] at c7
            omega
          rcases h with ⟨z, -⟩ | ⟨-, r8, S6, h8, w8, h⟩
          · exact absurd z (by rw [er7']; decide)
          obtain ⟨D1, eD1, -, wD1, r9, D4, h9, wD4, -, er8, eu8⟩ := h8
          have s5 : smX S4 S5 := sm7.tr (by rw [eu7, eB5]; exact smX.wk wB3 wB3.q9 (by decide) (fun _ => by decide))
          have sD : smX S4 D1 := s5.tr (by rw [eD1]; exact smX.wk w7 w7.q9 (by decide) (fun _ => by decide))
          have xD : ∀ j, j ≠ 16 → j ≠ 8 → qI D1 9 j = qI B3 9 j := fun j h1 h2 => by rw [eD1, g_nf h1, eu7, eB5, g_nf h2]
          have xDr : ∀ b j, b ≠ 9 → qI D1 b j = qI B3 b j := fun b j h1 => by rw [eD1, g_ne h1, eu7, eB5, g_ne h1]
          have xD8 : qI D1 9 8 = r2 := by rw [eD1, g_nf (by decide), eu7, eB5, g_eq]
          have xD15 : qI D1 9 15 = q7 := by rw [xD 15 (by decide) (by decide), xq7]
          have xD16 : qI D1 9 16 = q7 := by rw [eD1, g_eq, eu7, eB5, g_nf (by decide), xq7]
          have xD5 : qI D1 9 5 = qI S4 9 5 := by rw [xD 5 (by decide) (by decide), f7.kI (a := 9) (j := 5) w4.q9 (by decide) (by decide)]
          have xD6 : qI D1 9 6 = qI S4 9 6 := by rw [xD 6 (by decide) (by decide), f7.kI (a := 9) (j := 6) w4.q9 (by decide) (by decide)]
          have xD7 : qI D1 9 7 = r5 := by rw [xD 7 (by decide) (by decide), f7.kI (a := 9) (j := 7) w4.q9 (by decide) (by decide), x47]
          have xD11 : ∀ j, qI D1 11 j = qI S4 11 j := fun j => by rw [xDr 11 j (by decide), f7.kI (a := 11) (j := j) w4.q11 (by decide) (by rfl)]
          have hpD : PsI D1 := ⟨by rw [xD15]; have := hp4.1; omega, by rw [xD15, sD.1]; exact b7', by rw [sD.1]; exact hp4.2.2⟩
          rw [eo7] at g
          rw [z3025, x415] at C7
          rw [z3025] at F7
          have ta5 : ((a5 : Int)).toNat = a5 := rfl
          rw [ta5] at C7 F7
          rw [x415] at b7
          have ED : PoE D1 w7' := PoE.mv hE4 sD hpD (by rw [xD15]; omega) (by rw [n7, xD15]) xD5 xD11 F7.1 ⟨F7.2.1 12 (by decide) (by decide) (by decide), F7.2.1 14 (by decide) (by decide) (by decide)⟩ (fun b j h1 h2 => F7.2.2.1 b j (by omega) (Or.inl (by omega))) F7.2.2.2.1
          have f9 := cv_atF wD1 h9
          have G3 : ∀ {o1 : MS ⊕ MS}, v_attributesOf w7' (-1) o1 → AtG D1 w7' (-1) r9 D4 o1 := fun hg => s_at ED.1 ED.2.1 ED.2.2.1 ED.2.2.2.1.1 ED.2.2.2.1.2 (by rw [aa7]; omega) wD1 h9 hg
          rcases g with ⟨S35, g35, S37, e37, g⟩ | ⟨u9, g35, g⟩
          · rcases G3 g35 with ⟨er9, q9, w9, eu9, eo9, F9, C9, n9, ⟨b9, b9'⟩, c9⟩ | ⟨-, w9, eo9, -⟩
            · injection eo9 with eo9
              rcases h with ⟨z, -⟩ | ⟨-, er, eu⟩
              · exact absurd z (by rw [er8, er9]; decide)
              rw [eo9] at e37
              rw [aa7, xD15] at C9
              rw [aa7] at F9
              have ta7 : ((a7 : Int)).toNat = a7 := rfl
              rw [ta7] at C9 F9
              rw [xD15] at b9 c9
              rw [sD.1] at b9'
              have eU : u = wI D1 9 15 q9 := by rw [eu, eu8, eu9]
              have sU : smX D1 u := by rw [eU]; exact sm915 wD1
              have xU : ∀ j, j ≠ 15 → qI u 9 j = qI D1 9 j := fun j hj => by rw [eU, g_nf hj]
              have xU15 : qI u 9 15 = q9 := by rw [eU, g_eq]
              have xUr : ∀ b j, b ≠ 9 → qI u b j = qI D1 b j := fun b j hb => by rw [eU, g_ne hb]
              have y37 : ∀ j, j ≠ 28 → qI S37 0 j = qI w9 0 j := fun j hj => by rw [e37, g_nf hj]
              have y37r : ∀ b j, b ≠ 0 → qI S37 b j = qI w9 b j := fun b j hb => by rw [e37, g_ne hb]
              have b37 : smB w7' S37 := F9.1.tr (by rw [e37]; exact ⟨rfl, rdH (ED.2.1.sm F9.1).nz⟩)
              have hpU : PsI u := ⟨by rw [xU15]; omega, by rw [xU15, sU.1, sD.1]; exact b9', by rw [sU.1]; exact hpD.2.2⟩
              have EU : PoE u S37 := PoE.mv ED sU hpU (by rw [xU15]; omega) (by rw [y37 13 (by decide), n9, xU15]) (xU 5 (by decide)) (fun j => xUr 11 j (by decide)) b37 ⟨by rw [y37 12 (by decide), F9.2.1 12 (by decide) (by decide)], by rw [y37 14 (by decide), F9.2.1 14 (by decide) (by decide)]⟩ (fun b j h1 h2 => by rw [y37r b j (by omega)]; exact F9.2.2.1 b j (by omega) (Or.inl (by omega))) (by rw [e37]; exact F9.2.2.2.1)
              refine Or.inl ⟨er, S37, g, EU.1, EU.2.1, EU.2.2.1, EU.2.2.2.2.1, EU.2.2.2.2.2, ?_, ?_, ?_, ?_⟩
              · rw [xU 6 (by decide), xD6, x46, sU.1, sD.1, s4.1]
                refine ⟨?_, h6.2.1, h6.2.2⟩
                rw [y37 20 (by decide), F9.2.1 20 (by decide) (by decide), F7.2.1 20 (by decide) (by decide) (by decide), y30 20 (by decide), F5.2.1 20 (by decide) (by decide) (by decide), h6.1]
              · rw [xU 7 (by decide), xD7, xU 8 (by decide), xD8]
                refine ⟨?_, rg5, rg7, ?_⟩
                · rw [y37 22 (by decide), F9.2.1 22 (by decide) (by decide), F7.2.1 22 (by decide) (by decide) (by decide), e22]
                · rw [y37 21 (by decide), F9.2.1 21 (by decide) (by decide), mm7]
                  omega
              · rw [xU 6 (by decide), xD6, x46, xU 7 (by decide), xD7, xU 8 (by decide), xD8, xU 16 (by decide), xD16, xU15, sU.u2]
                have l1 := MbC.le _ C7
                refine ⟨(qI A2 9 15) + (2 : Int32), q5, a5, a7, ?_, ?_, ?_, ?_, ?_, ?_, ?_⟩
                · rw [t_add (by rw [li_2]; have := hp.2.2; rw [p4]; have := hp.2.1; omega), li_2, p4]
                  omega
                · have sAU : smX A5 u := (show smX A5 S4 by rw [eu4, eA7]; exact smX.wk wA5 wA5.q9 (by decide) (fun _ => by decide)).tr (sD.tr sU)
                  refine MbC.mv _ C5 (Nat.zero_le _) sAU (fun j _ hj => ⟨?_, ?_⟩) (fun b j hb _ hj => ?_)
                  · rw [xUr 12 j (by decide), xDr 12 j (by decide), f12 j (by omega), x412]
                  · rw [y37r 9 j (by decide), F9.2.2.1 9 j (by decide) (Or.inl (by decide)), F7.2.2.1 9 j (by decide) (Or.inr (Or.inl ⟨rfl, by omega⟩)), y30r 9 j (by decide)]
                  · rw [y37r b j (by omega), F9.2.2.1 b j (by omega) (Or.inr (by omega)), F7.2.2.1 b j (by omega) (Or.inr (Or.inr ⟨by omega, hj⟩)), y30r b j (by omega)]
                · have sBU : smX B3 u := (show smX B3 D1 by
                    have q : smX B3 S5 := by rw [eu7, eB5]; exact smX.wk wB3 wB3.q9 (by decide) (fun _ => by decide)
                    exact q.tr (by rw [eD1]; exact smX.wk w7 w7.q9 (by decide) (fun _ => by decide))).tr sU
                  refine MbC.mv _ C7 l1 sBU (fun j _ _ => ⟨?_, ?_⟩) (fun b j hb _ hj => ?_)
                  · rw [xUr 12 j (by decide), xDr 12 j (by decide)]
                  · rw [y37r 9 j (by decide), F9.2.2.1 9 j (by decide) (Or.inl (by decide))]
                  · rw [y37r b j (by omega), F9.2.2.1 b j (by omega) (Or.inr hj)]
                · exact AtC.mv _ C9 sU (fun b j hb _ _ => y37r b j (by omega))
                · rw [y37 25 (by decide), c9, aa7]
                · rw [sU.1, sD.1]
                  exact ⟨by omega, by omega⟩
                · rw [sU.1, sD.1, s4.1]
                  rw [s4.1] at b7'
                  exact ⟨by omega, by omega⟩
              · rw [e37, g_eq, n9, xU15]
            · exact nomatch eo9
          · rcases G3 g35 with ⟨-, q9, w9, -, eo9, -⟩ | ⟨er9, w9, eo9, hbad⟩
            · exact nomatch eo9
            · injection eo9 with eo9
              rcases h with ⟨-, er, eu⟩ | ⟨z, -⟩
              · exact Or.inr ⟨er, u9, g, by rw [eu, eu8, eo9]; exact hbad⟩
              · exact absurd (by rw [er8, er9]; decide) z
        · exact nomatch eo7
      · rcases G2 g32 with ⟨-, -, q7, w7', a7, eo7, -⟩ | ⟨er7, w7', eo7, hbad⟩
        · exact nomatch eo7
        · injection eo7 with eo7
          rcases h7' with ⟨c7, er7', eu7⟩ | ⟨c7, -, -⟩
          · rcases h with ⟨-, er, eu⟩ | ⟨z, -⟩
            · refine Or.inr ⟨er, u9, g, ?_⟩
              rw [eu, eu7, eB5, eo7]
              exact ⟨by rw [g_nf (by decide)]; exact hbad.1, by rw [g_nf (by decide)]; exact hbad.2⟩
            · exact absurd (by rw [er7']; decide) z
          · rw [eB5, g_eq, er7, m1] at c7
            exact absurd (by decide) c7
    · exact nomatch eo5
  · rcases G1 g28 with ⟨-, -, q5, w5, a5, eo5, -⟩ | ⟨er5, w5, eo5, hbad⟩
    · exact nomatch eo5
    · injection eo5 with eo5
      rcases h4 with ⟨c, er4, eu4⟩ | ⟨c, er4, eu4⟩
      · rcases h with ⟨-, er, eu⟩ | ⟨z, -⟩
        · refine Or.inr ⟨er, u9, g, ?_⟩
          rw [eu, eu4, eA7, eo5]
          exact ⟨by rw [g_nf (by decide)]; exact hbad.1, by rw [g_nf (by decide)]; exact hbad.2⟩
        · exact absurd (by rw [er4]; decide) z
      · rw [eA7, g_eq, er5, m1] at c
        exact absurd (by decide) c
/-- the whole layout -/
theorem s_layout {n : Nat} (hb : BtE S R) (hs : SrN R) (h0 : qI S 9 15 = 0) (h502 : qN R 4 = 502) (wS : wfC S) (h : LyV S r u) (g : v_layout R oo) : (r = 1 ∧ ∃ w, oo = .inl w ∧ LyE u w) ∨ (r = 0 ∧ ∃ w, oo = .inr w ∧ BadP u w) := by
  obtain ⟨n0, g⟩ := g
  obtain ⟨r1, S1, ⟨n1, h1⟩, w1, h⟩ := h
  have hb2 := hb.2.1
  have M := s_mgL hb hs n1 n0 (by decide) (by decide) (by rw [show (0 : Int32).toInt = 0 from rfl]; omega) h1 g
  rcases M with ⟨er1, eS1, c8, m', v', hv', g⟩ | ⟨er1, w, e, hbad⟩
  · rcases h with ⟨z, -⟩ | ⟨-, r2, S2, h2, w2, h⟩
    · exact absurd z (by rw [er1]; decide)
    have s1 : smX S S1 := by rw [eS1]; exact sm915 wS
    have x15 : qI S1 9 15 = 8 := by rw [eS1, g_eq]
    have hp1 : PsI S1 := ⟨by rw [x15]; decide, by rw [x15, s1.1, li_8]; exact c8, by rw [s1.1]; omega⟩
    rcases s_pool (hb.mv s1 smB.rf rfl) hs hp1 (by rw [x15, li_8]) h502 w1 h2 hv' g with ⟨er2, R', m2, v2, hI, hv2, g⟩ | ⟨er2, w, e, hbad⟩
    · rcases h with ⟨z, -⟩ | ⟨-, r3, S3, h3, w3, h⟩
      · exact absurd z (by rw [er2]; decide)
      have hE := PoI.po hI hv2
      obtain ⟨b2, hs2, hp2, ⟨p0, e13⟩, ⟨e14, pc1, pc5⟩, hent⟩ := hE
      unfold v_layout_L136 at g
      rw [e14] at g
      rcases g with ⟨-, g⟩ | ⟨c, -⟩
      · have l2 : (2 : Int64).toInt = 2 := by decide
        have l6 : (6 : Int64).toInt = 6 := by decide
        have H := cv_head hp2 w2 h3
        rcases g with ⟨r17, S18, g18, S20, e20, g⟩ | ⟨u9, g18, g⟩
        · rcases ov_at (y := 2) l2 (by omega) b2.1 hp2 (by rw [e13]; exact hp2.1) (by rw [e13]; exact hp2.2.1) g18 with ⟨c18, v18, ev18, e⟩ | ⟨-, e⟩
          · injection e with e
            injection e with er18 eS18
            rw [e13] at c18 ev18 er18
            have y20 : ∀ j, j ≠ 20 → j ≠ 13 → qI S20 0 j = qI R' 0 j := fun j h1 h2 => by rw [e20, g_nf h1, eS18, g_nf h2]
            have n20 : (qI S20 0 13).toInt = (qI S2 9 15).toInt + 2 := by rw [e20, g_nf (by decide), eS18, n_13]; exact ev18
            have b20 : smB R' S20 := (sm13 (c := v18) hs2).tr (by rw [e20, eS18]; exact ⟨rfl, rdH (hs2.sm (sm13 hs2)).nz⟩)
            rcases g with ⟨r22, S23, g23, S25, e25, S26, e26, g⟩ | ⟨u9, g23, g⟩
            · rcases ov_at (y := 6) l6 (by omega) (by rw [y20 12 (by decide) (by decide), b2.1]) hp2 (by rw [n20]; have := hp2.1; omega) (by rw [n20]; exact c18) g23 with ⟨c23, v23, ev23, e⟩ | ⟨-, e⟩
              · injection e with e
                injection e with er23 eS23
                rw [n20] at c23 ev23
                rcases H with ⟨c, er3, eS3⟩ | ⟨c, -⟩
                · rcases h with ⟨z, -⟩ | ⟨-, h⟩
                  · exact absurd z (by rw [er3]; decide)
                  have q8 : ((qI S2 9 15) + (8 : Int32)).toInt = (qI S2 9 15).toInt + 8 := by rw [t_add (by rw [li_8]; have := hp2.1; have := hp2.2.2; omega), li_8]
                  have x3 : ∀ j, j ≠ 15 → j ≠ 6 → qI S3 9 j = qI S2 9 j := fun j h1 h2 => by rw [eS3, g_nf h1, g_nf h2]
                  have x3r : ∀ b j, b ≠ 9 → qI S3 b j = qI S2 b j := fun b j h1 => by rw [eS3, g_ne h1, g_ne h1]
                  have x36 : qI S3 9 6 = qI S2 9 15 := by rw [eS3, g_nf (by decide), g_eq]
                  have x315 : (qI S3 9 15).toInt = (qI S2 9 15).toInt + 8 := by rw [eS3, g_eq, q8]
                  have s3 : smX S2 S3 := by
                    have dn : qO S2 9 0 ≠ 9 := fun q => by
                      have kd : qT S2 (qO S2 9 0) = 101 := w2.ref (w2.ptr ptrC_3) w2.q9
                      rw [q, w2.q9] at kd
                      exact absurd kd (by decide)
                    exact ⟨x3 1 (by decide) (by decide), by rw [eS3]; rfl, by rw [eS3]; rfl, by rw [eS3, rdH dn, rdH dn]⟩
                  have y26 : ∀ j, j ≠ 25 → j ≠ 21 → j ≠ 13 → qI S26 0 j = qI S20 0 j := fun j h1 h2 h3 => by rw [e26, g_nf h1, e25, g_nf h2, eS23, g_nf h3]
                  have y26r : ∀ b j, b ≠ 0 → qI S26 b j = qI R' b j := fun b j hb => by rw [e26, g_ne hb, e25, g_ne hb, eS23, g_ne hb, e20, g_ne hb, eS18, g_ne hb]
                  have b26 : smB R' S26 := b20.tr ⟨by rw [e26, e25, eS23]; rfl, by
                    have hz := (hs2.sm b20).nz
                    rw [e26, rdH hz, e25, rdH hz, eS23, rdH hz]⟩
                  have n26 : qI S26 0 13 = qI S3 9 15 := Int32.toInt_inj.mp (by rw [e26, g_nf (by decide), e25, g_nf (by decide), eS23, n_13, x315]; omega)
                  have EE : PoE S3 S26 := PoE.mv ⟨b2, hs2, hp2, ⟨p0, e13⟩, ⟨e14, pc1, pc5⟩, hent⟩ s3 ⟨by rw [x315]; have := hp2.1; omega, by rw [x315, s3.1]; exact c, by rw [s3.1]; exact hp2.2.2⟩ (by rw [x315]; omega) n26 (x3 5 (by decide) (by decide)) (fun j => x3r 11 j (by decide)) b26 ⟨by rw [y26 12 (by decide) (by decide) (by decide), y20 12 (by decide) (by decide)], by rw [y26 14 (by decide) (by decide) (by decide), y20 14 (by decide) (by decide)]⟩ (fun b j h1 _ => y26r b j (by omega)) (by rw [e26, e25, eS23, e20, eS18]; rfl)
                  exact s_tail EE w3 ⟨by rw [y26 20 (by decide) (by decide) (by decide), e20, g_eq, er18, x36], by rw [x36]; exact p0, by rw [x36, s3.1]; exact c⟩ (by rw [x315, x36]) (by rw [e26, g_nf (by decide), e25, g_eq]) (by rw [e26, g_eq]) h g
                · have := hp2.2.1
                  omega
              · exact nomatch e
            · rcases ov_at (y := 6) l6 (by omega) (by rw [y20 12 (by decide) (by decide), b2.1]) hp2 (by rw [n20]; have := hp2.1; omega) (by rw [n20]; exact c18) g23 with ⟨-, v23, -, e⟩ | ⟨c23, e⟩
              · exact nomatch e
              · injection e with e
                rw [n20] at c23
                rcases H with ⟨c, -⟩ | ⟨-, er3, eS3⟩
                · omega
                · rcases h with ⟨-, er, eu⟩ | ⟨z, -⟩
                  · exact Or.inr ⟨er, u9, g, by rw [eu, eS3, e]; exact badP⟩
                  · exact absurd (by rw [er3]; decide) z
          · exact nomatch e
        · rcases ov_at (y := 2) l2 (by omega) b2.1 hp2 (by rw [e13]; exact hp2.1) (by rw [e13]; exact hp2.2.1) g18 with ⟨-, v18, -, e⟩ | ⟨c18, e⟩
          · exact nomatch e
          · injection e with e
            rw [e13] at c18
            rcases H with ⟨c, -⟩ | ⟨-, er3, eS3⟩
            · omega
            · rcases h with ⟨-, er, eu⟩ | ⟨z, -⟩
              · exact Or.inr ⟨er, u9, g, by rw [eu, eS3, e]; exact badP⟩
              · exact absurd (by rw [er3]; decide) z
      · exact absurd hv2 c
    · rcases h with ⟨-, er, eu⟩ | ⟨z, -⟩
      · exact Or.inr ⟨er, w, e, by rw [eu]; exact hbad⟩
      · exact absurd (by rw [er2]; decide) z
  · rcases h with ⟨-, er, eu⟩ | ⟨z, -⟩
    · exact Or.inr ⟨er, w, e, by rw [eu]; exact hbad⟩
    · exact absurd (by rw [er1]; decide) z
end LZ
