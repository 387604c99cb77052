/-! a pool entry: both readers end alike -/
section EH
variable {S R T u w : MS} {x y z r c v len x1 x2 a10 : Int32} {k : Nat} {oo : MS ⊕ MS}
theorem EnF.k12 (f : EnF R w k) : qI w 0 12 = qI R 0 12 := f.2.1 12 (by decide)
/-- from a state U that has tag and place of entry k, to the end -/
theorem en_220 {U : MS} (hs : SrN R) (f : EnF R U k) (hk : k = x1.toInt.toNat) (h5 : qI U 5 k = qI S 9 15) (ht : a10 = fX7_u1 S (qI S 9 15)) (hp : 0 < (qI S 9 15).toInt ∧ (qI S 9 15).toInt + 3 ≤ (qI S 9 1).toInt)
    (hE : (a10.toInt = 1 ∧ (1 ≤ (fX7_u2 S ((qI S 9 15) + (1 : Int32))).toInt ∧ (fX7_u2 S ((qI S 9 15) + (1 : Int32))).toInt ≤ 100) ∧ (qI S 9 15).toInt + 3 + (fX7_u2 S ((qI S 9 15) + (1 : Int32))).toInt ≤ (qI S 9 1).toInt ∧ qI U 6 k = (qI S 9 15) + (3 : Int32) ∧ qI U 7 k = fX7_u2 S ((qI S 9 15) + (1 : Int32))) ∨
   (a10.toInt = 3 ∧ (qI S 9 15).toInt + 5 ≤ (qI S 9 1).toInt ∧ qJ U 8 k = (fX7_s4 S ((qI S 9 15) + (1 : Int32))).toInt64) ∨
   (a10.toInt = 5 ∧ (qI S 9 15).toInt + 9 ≤ (qI S 9 1).toInt ∧ qJ U 8 k = (((fX7_s4 S ((qI S 9 15) + (1 : Int32))).toInt64 <<< ((32 : Int32).toInt64 &&& 63)) ||| ((fX7_s4 S ((qI S 9 15) + (5 : Int32))).toInt64 &&& (4294967295 : Int64)))) ∨
   (a10.toInt = 7 ∧ qI U 6 k = fX7_u2 S ((qI S 9 15) + (1 : Int32))) ∨
   ((a10.toInt = 9 ∨ a10.toInt = 10 ∨ a10.toInt = 12) ∧ (qI S 9 15).toInt + 5 ≤ (qI S 9 1).toInt ∧ qI U 6 k = fX7_u2 S ((qI S 9 15) + (1 : Int32)) ∧ qI U 7 k = fX7_u2 S ((qI S 9 15) + (3 : Int32))))
    (h : v_entry_J220 oo U x1 a10) : ∃ w, oo = .inl w ∧ EnF R w k ∧ EnR S w k (qI S 9 15) ∧ qI w 0 13 = qI U 0 13 := by
  obtain ⟨-, w, ew, e⟩ := h
  rw [← hk] at ew
  have w4 : qI w 4 k = a10 := by rw [ew, g_eq]
  refine ⟨w, e, by rw [ew]; exact EnF.wr hs (by decide) f, ⟨hp, by rw [ew, g_ne (by decide)]; exact h5, by rw [w4, ht], ?_⟩, by rw [ew, g_ne (by decide)]⟩
  have w6 : qI w 6 k = qI U 6 k := by rw [ew, g_ne (by decide)]
  have w7 : qI w 7 k = qI U 7 k := by rw [ew, g_ne (by decide)]
  have w8 : qJ w 8 k = qJ U 8 k := by rw [ew]; rfl
  rw [w4, w6, w7, w8]
  exact hE
theorem s_two {S6 : MS} (hb : BtE S R) (hs : SrN R) (hp : PsI S) (h0 : 0 < (qI S 9 15).toInt) (f6 : EnF R S6 k) (hk : k = x1.toInt.toNat) (e13 : (qI S6 0 13).toInt = (qI S 9 15).toInt + 1) (hc : (qI S 9 15).toInt + 1 ≤ (qI S 9 1).toInt) (h5 : qI S6 5 k = qI S 9 15) (ht : a10 = fX7_u1 S (qI S 9 15)) (h9 : a10.toInt = 9 ∨ a10.toInt = 10 ∨ a10.toInt = 12)
    (hcl : (qI S 9 15).toInt + 5 ≤ (qI S 9 1).toInt ∧ r = 1 ∧ u = S ∨ (qI S 9 1).toInt < (qI S 9 15).toInt + 5 ∧ r = 0 ∧ u = bRk S 2 (qI S 9 1))
    (h : ((∃ (r : Int32) (S7 : MS), v_over S6 (2 : Int64) (.inl (r, S7)) ∧ (d_two S7 r ∧ (((0 : Int) ≤ x1.toInt ∧ x1.toInt < 502) ∧ (∃ S8 : MS, S8 = wI S7 6 x1.toInt.toNat (f_two S7 r) ∧ ((∃ (r9 : Int32) (S9 : MS), v_over S8 (2 : Int64) (.inl (r9, S9)) ∧ (d_two S9 r9 ∧ (((0 : Int) ≤ x1.toInt ∧ x1.toInt < 502) ∧ (∃ S10 : MS, S10 = wI S9 7 x1.toInt.toNat (f_two S9 r9) ∧ (v_entry_J220 oo S10 x1 a10))))) ∨ (∃ u9 : MS, v_over S8 (2 : Int64) (.inr u9) ∧ (oo = .inr u9))))))) ∨ (∃ u9 : MS, v_over S6 (2 : Int64) (.inr u9) ∧ (oo = .inr u9)))) : EnE S R k r u oo := by
  have hp' := hp
  obtain ⟨p0, p1, p2⟩ := hp'
  have l2 : (2 : Int64).toInt = 2 := by decide
  have q1 : ((qI S 9 15) + (1 : Int32)).toInt = (qI S 9 15).toInt + 1 := by rw [t_add (by rw [li_1]; omega), li_1]
  have q3 : ((qI S 9 15) + (3 : Int32)).toInt = (qI S 9 15).toInt + 3 := by rw [t_add (by rw [li_3]; omega), li_3]
  have BAD : ∀ {U : MS}, (qI S 9 1).toInt < (qI S 9 15).toInt + 5 → oo = .inr (rBk U 2 (qI S 9 1)) → EnE S R k r u oo := fun b e => by
    rcases hcl with ⟨a, -⟩ | ⟨-, er, eu⟩
    · omega
    · exact Or.inr ⟨er, _, e, by rw [eu]; exact badP⟩
  have en : qI S6 0 13 = (qI S 9 15) + (1 : Int32) := Int32.toInt_inj.mp (by rw [e13, q1])
  rcases h with ⟨r7, S7, h7, -, -, S8, e8, h⟩ | ⟨u9, h7, h⟩
  · rcases ov_at (y := 2) l2 (by omega) (by rw [f6.k12, hb.1]) hp (by omega) (by omega) h7 with ⟨c7, v7, ev7, e⟩ | ⟨-, e⟩
    · injection e with e
      injection e with er7 eS7
      have f7 : EnF R S7 k := by rw [eS7]; exact f6.w13 hs
      have n7 : qI S7 0 13 = v7 := by rw [eS7, n_13]
      rw [← hk] at e8 h
      have f8 : EnF R S8 k := by rw [e8]; exact EnF.wr hs (by decide) f7
      have n8 : qI S8 0 13 = (qI S 9 15) + (3 : Int32) := Int32.toInt_inj.mp (by rw [e8, g_ne (by decide), n7, q3]; omega)
      have x8 : qI S8 6 k = fX7_u2 S ((qI S 9 15) + (1 : Int32)) := by rw [e8, g_eq, f7.two, er7, en, hb.u2 (by omega) (by omega)]
      rcases h with ⟨r9, S9, h9', -, -, S10, e10, h⟩ | ⟨u9, h9', h⟩
      · rcases ov_at (y := 2) l2 (by omega) (by rw [f8.k12, hb.1]) hp (by rw [n8]; omega) (by rw [n8]; omega) h9' with ⟨c9, v9, ev9, e⟩ | ⟨-, e⟩
        · injection e with e
          injection e with er9 eS9
          rw [n8] at c9 ev9 er9
          have f9 : EnF R S9 k := by rw [eS9]; exact f8.w13 hs
          have f10 : EnF R S10 k := by rw [e10]; exact EnF.wr hs (by decide) f9
          have y5 : qI S10 5 k = qI S 9 15 := by rw [e10, g_ne (by decide), eS9, g_ne (by decide), e8, g_ne (by decide), eS7, g_ne (by decide), h5]
          have y6 : qI S10 6 k = fX7_u2 S ((qI S 9 15) + (1 : Int32)) := by rw [e10, g_ne (by decide), eS9, g_ne (by decide), x8]
          have y7 : qI S10 7 k = fX7_u2 S ((qI S 9 15) + (3 : Int32)) := by rw [e10, g_eq, f9.two, er9, hb.u2 (by omega) (by omega)]
          obtain ⟨w, e, g1, g2, g3⟩ := en_220 hs f10 hk y5 ht ⟨h0, by omega⟩ (Or.inr (Or.inr (Or.inr (Or.inr ⟨h9, by omega, y6, y7⟩)))) h
          have el := el_n1 (S := S) (by rw [← ht]; omega)
          rcases hcl with ⟨a, er, eu⟩ | ⟨a, -⟩
          · refine Or.inl ⟨er, eu, w, e, g1, g2, ?_, by rw [el]; omega, by rw [el]; omega⟩
            rw [g3, e10, g_ne (by decide), eS9, n_13, el]
            omega
          · omega
        · exact nomatch e
      · rcases ov_at (y := 2) l2 (by omega) (by rw [f8.k12, hb.1]) hp (by rw [n8]; omega) (by rw [n8]; omega) h9' with ⟨-, v9, -, e⟩ | ⟨c9, e⟩
        · exact nomatch e
        · injection e with e
          rw [n8] at c9
          exact BAD (by omega) (by rw [h, e])
    · exact nomatch e
  · rcases ov_at (y := 2) l2 (by omega) (by rw [f6.k12, hb.1]) hp (by omega) (by omega) h7 with ⟨-, v7, -, e⟩ | ⟨c7, e⟩
    · exact nomatch e
    · injection e with e
      exact BAD (by omega) (by rw [h, e])
theorem EnF.bt {S : MS} (f : EnF R w k) (hb : BtE S R) : BtE S w := hb.mv smX.rf f.1 f.k12
theorem s_entry (hb : BtE S R) (hs : SrN R) (hp : PsI S) (h0 : 0 < (qI S 9 15).toInt) (e13 : qI R 0 13 = qI S 9 15) (hk : k = x1.toInt.toNat) (h : vX7_entryFits S r u) (g : v_entry R x1 oo) : EnE S R k r u oo := by
  have hp' := hp
  obtain ⟨p0, p1, p2⟩ := hp'
  have l1 : (1 : Int64).toInt = 1 := by decide
  have l2 : (2 : Int64).toInt = 2 := by decide
  have l4 : (4 : Int64).toInt = 4 := by decide
  have l8 : (8 : Int64).toInt = 8 := by decide
  have q1 : ((qI S 9 15) + (1 : Int32)).toInt = (qI S 9 15).toInt + 1 := by rw [t_add (by rw [li_1]; omega), li_1]
  have H := cv_entry hp h
  rcases g with ⟨r2, S3, g2, -, S6, e6, -, a10, e10, g⟩ | ⟨u9, g2, g⟩
  · rcases ov_at (y := 1) l1 (by omega) hb.1 hp (by rw [e13]; omega) (by rw [e13]; omega) g2 with ⟨c3, v3, ev3, e⟩ | ⟨-, e⟩
    · injection e with e
      injection e with er2 eS3
      rw [e13] at c3 ev3 er2
      rcases H with ⟨c, -⟩ | ⟨hc, H⟩
      · omega
      rw [← hk] at e6 g
      have f6 : EnF R S6 k := by rw [e6, eS3]; exact EnF.wr hs (by decide) (EnF.rf.w13 hs)
      have h5 : qI S6 5 k = qI S 9 15 := by rw [e6, g_eq, er2]
      have n6 : (qI S6 0 13).toInt = (qI S 9 15).toInt + 1 := by rw [e6, g_ne (by decide), eS3, n_13]; omega
      have en6 : qI S6 0 13 = (qI S 9 15) + (1 : Int32) := Int32.toInt_inj.mp (by rw [n6, q1])
      have b6 := f6.bt hb
      have ht : a10 = fX7_u1 S (qI S 9 15) := by rw [e10, er2, b6.u1 (by omega) (by omega)]
      rw [← ht] at H
      have Z : ((fX7_u1 S (qI S 9 15)).toInt = 2 ∨ (fX7_u1 S (qI S 9 15)).toInt = 4 ∨ (fX7_u1 S (qI S 9 15)).toInt = 6 ∨ (fX7_u1 S (qI S 9 15)).toInt = 8 ∨ (fX7_u1 S (qI S 9 15)).toInt = 11 ∨ (¬ (fX7_u1 S (qI S 9 15)).toInt = 1 ∧ ¬ (fX7_u1 S (qI S 9 15)).toInt = 3 ∧ ¬ (fX7_u1 S (qI S 9 15)).toInt = 5 ∧ ¬ (fX7_u1 S (qI S 9 15)).toInt = 7 ∧ ¬ (fX7_u1 S (qI S 9 15)).toInt = 9 ∧ ¬ (fX7_u1 S (qI S 9 15)).toInt = 10 ∧ ¬ (fX7_u1 S (qI S 9 15)).toInt = 12)) → (∃ (n : Nat) (W : MS), v_broken S6 (3 : Int32) r2 n W ∧ oo = .inr W) → EnE S R k r u oo := fun hz g => by
        obtain ⟨n, W, g, e⟩ := g
        have ez := el_0 hz
        rw [← ht] at ez hz
        rcases H with ⟨a, -⟩ | ⟨-, ⟨-, er, eu⟩ | ⟨a, -⟩⟩
        · omega
        · exact Or.inr ⟨er, W, e, by rw [eu, rv_broken g, er2]; exact badP⟩
        · omega
      have N1 : a10.toInt ≠ 1 → ∀ {L : Int}, (fX7_entryLength S a10).toInt = L → L ≠ 0 → ((qI S 9 15).toInt + L ≤ (qI S 9 1).toInt ∧ r = 1 ∧ u = S ∨ (qI S 9 1).toInt < (qI S 9 15).toInt + L ∧ r = 0 ∧ u = bRk S 2 (qI S 9 1)) := fun n1 L eL nL => by
        rcases H with ⟨a, -⟩ | ⟨-, ⟨a, -⟩ | ⟨-, a⟩⟩
        · exact absurd a n1
        · omega
        · rw [eL] at a
          exact a
      have SH : ∀ {yy : Int64} {y L : Int} {u9 : MS}, yy.toInt = y → 0 ≤ y ∧ y ≤ 100 → L = y + 1 → ((qI S 9 15).toInt + L ≤ (qI S 9 1).toInt ∧ r = 1 ∧ u = S ∨ (qI S 9 1).toInt < (qI S 9 15).toInt + L ∧ r = 0 ∧ u = bRk S 2 (qI S 9 1)) → v_over S6 yy (.inr u9) → oo = .inr u9 → EnE S R k r u oo := fun ey hy eL hcl hv e => by
        rcases ov_at ey hy b6.1 hp (by omega) (by omega) hv with ⟨-, v, -, e2⟩ | ⟨c, e2⟩
        · exact nomatch e2
        · injection e2 with e2
          rcases hcl with ⟨a, -⟩ | ⟨-, er, eu⟩
          · omega
          · exact Or.inr ⟨er, _, e, by rw [eu, e2]; exact badP⟩
      rcases g with ⟨t1, g⟩ | ⟨t1, g⟩
      · have hn : vX7_nameFits S r u := by
          rcases H with ⟨-, a⟩ | ⟨a, -⟩
          · exact a
          · exact absurd t1 a
        rcases g with ⟨S14, g14, g⟩ | ⟨u9, g14, g⟩
        · rcases s_name b6 (f6.s hs) hp n6 hc er2 hn g14 with ⟨er, eu, hl, hfit, a, d, ea, ed, e⟩ | ⟨-, w, e, -⟩
          · injection e with e
            rw [← hk] at e
            have f14 : EnF R S14 k := by rw [e]; exact EnF.w13 hs (EnF.wr hs (by decide) (EnF.wr hs (by decide) (f6.w13 hs)))
            have ea3 : a = (qI S 9 15) + (3 : Int32) := Int32.toInt_inj.mp (by rw [ea, t_add (by rw [li_3]; omega), li_3])
            have y5 : qI S14 5 k = qI S 9 15 := by rw [e, g_ne (by decide), g_ne (by decide), g_ne (by decide), g_ne (by decide), h5]
            have y6 : qI S14 6 k = (qI S 9 15) + (3 : Int32) := by rw [e, g_ne (by decide), g_ne (by decide), g_eq, ea3]
            have y7 : qI S14 7 k = fX7_u2 S ((qI S 9 15) + (1 : Int32)) := by rw [e, g_ne (by decide), g_eq]
            obtain ⟨w, e2, g1, g2', g3⟩ := en_220 hs f14 hk y5 ht ⟨h0, by omega⟩ (Or.inl ⟨t1, hl, hfit, y6, y7⟩) g
            have el := el_1 (S := S) (by rw [← ht]; exact t1) (by omega) (by omega)
            refine Or.inl ⟨er, eu, w, e2, g1, g2', ?_, by rw [el]; omega, by rw [el]; omega⟩
            rw [g3, e, n_13, el]
            omega
          · exact nomatch e
        · rcases s_name b6 (f6.s hs) hp n6 hc er2 hn g14 with ⟨-, -, -, -, a, d, -, -, e⟩ | ⟨er, w, e, hbad⟩
          · exact nomatch e
          · injection e with e
            exact Or.inr ⟨er, w, by rw [g, e], hbad⟩
      rcases g with ⟨t2, n, W, g, e⟩ | ⟨t2, g⟩
      · exact Z (by rw [← ht]; omega) ⟨n, W, g, e⟩
      rcases g with ⟨t3, g⟩ | ⟨t3, g⟩
      · have el := el_n1 (S := S) (by rw [← ht]; omega)
        rw [← ht] at el
        have hcl := N1 (by omega) el (by decide)
        rcases g with ⟨r7, S7, g7, -, -, S8, e8, g⟩ | ⟨u9, g7, g⟩
        · rcases ov_at (y := 4) l4 (by omega) b6.1 hp (by omega) (by omega) g7 with ⟨c7, v7, ev7, e⟩ | ⟨-, e⟩
          · injection e with e
            injection e with er7 eS7
            have f7 : EnF R S7 k := by rw [eS7]; exact f6.w13 hs
            have f8 : EnF R S8 k := by rw [e8]; exact f7.wj
            have y5 : qI S8 5 k = qI S 9 15 := by rw [e8, qI_wJ, eS7, g_ne (by decide), h5]
            have y8 : qJ S8 8 k = (fX7_s4 S ((qI S 9 15) + (1 : Int32))).toInt64 := by rw [e8, j_eq, f7.four, er7, en6, hb.s4 (by omega) (by omega)]
            obtain ⟨w, e2, g1, g2', g3⟩ := en_220 hs f8 hk y5 ht ⟨h0, by omega⟩ (Or.inr (Or.inl ⟨t3, by omega, y8⟩)) g
            rcases hcl with ⟨a, er, eu⟩ | ⟨a, -⟩
            · rw [ht] at el
              refine Or.inl ⟨er, eu, w, e2, g1, g2', ?_, by rw [el]; omega, by rw [el]; omega⟩
              rw [g3, e8, qI_wJ, eS7, n_13, el]
              omega
            · omega
          · exact nomatch e
        · exact SH (y := 4) l4 (by omega) (by omega) hcl g7 g
      rcases g with ⟨t4, n, W, g, e⟩ | ⟨t4, g⟩
      · exact Z (by rw [← ht]; omega) ⟨n, W, g, e⟩
      rcases g with ⟨t5, g⟩ | ⟨t5, g⟩
      · have el := el_5 (S := S) (by rw [← ht]; omega)
        rw [← ht] at el
        have hcl := N1 (by omega) el (by decide)
        rcases g with ⟨r7, S7, g7, -, -, -, S8, e8, g⟩ | ⟨u9, g7, g⟩
        · rcases ov_at (y := 8) l8 (by omega) b6.1 hp (by omega) (by omega) g7 with ⟨c7, v7, ev7, e⟩ | ⟨-, e⟩
          · injection e with e
            injection e with er7 eS7
            have f7 : EnF R S7 k := by rw [eS7]; exact f6.w13 hs
            have f8 : EnF R S8 k := by rw [e8]; exact f7.wj
            have y5 : qI S8 5 k = qI S 9 15 := by rw [e8, qI_wJ, eS7, g_ne (by decide), h5]
            have q5 : ((qI S 9 15) + (5 : Int32)).toInt = (qI S 9 15).toInt + 5 := by rw [t_add (by rw [li_5]; omega), li_5]
            have e5 : r7 + (4 : Int32) = (qI S 9 15) + (5 : Int32) := Int32.toInt_inj.mp (by rw [er7, en6, t_add (by rw [li_4, q1]; omega), li_4, q1, q5]; omega)
            have y8 : qJ S8 8 k = (((fX7_s4 S ((qI S 9 15) + (1 : Int32))).toInt64 <<< ((32 : Int32).toInt64 &&& 63)) ||| ((fX7_s4 S ((qI S 9 15) + (5 : Int32))).toInt64 &&& (4294967295 : Int64))) := by rw [e8, j_eq, f7.four, f7.four, e5, er7, en6, hb.s4 (by omega) (by omega), hb.s4 (by omega) (by omega)]
            obtain ⟨w, e2, g1, g2', g3⟩ := en_220 hs f8 hk y5 ht ⟨h0, by omega⟩ (Or.inr (Or.inr (Or.inl ⟨t5, by omega, y8⟩))) g
            rcases hcl with ⟨a, er, eu⟩ | ⟨a, -⟩
            · rw [ht] at el
              refine Or.inl ⟨er, eu, w, e2, g1, g2', ?_, by rw [el]; omega, by rw [el]; omega⟩
              rw [g3, e8, qI_wJ, eS7, n_13, el]
              omega
            · omega
          · exact nomatch e
        · exact SH (y := 8) l8 (by omega) (by omega) hcl g7 g
      rcases g with ⟨t6, n, W, g, e⟩ | ⟨t6, g⟩
      · exact Z (by rw [← ht]; omega) ⟨n, W, g, e⟩
      rcases g with ⟨t7, g⟩ | ⟨t7, g⟩
      · have el := el_7 (S := S) (by rw [← ht]; omega)
        rw [← ht] at el
        have hcl := N1 (by omega) el (by decide)
        rcases g with ⟨r7, S7, g7, -, -, S8, e8, g⟩ | ⟨u9, g7, g⟩
        · rcases ov_at (y := 2) l2 (by omega) b6.1 hp (by omega) (by omega) g7 with ⟨c7, v7, ev7, e⟩ | ⟨-, e⟩
          · injection e with e
            injection e with er7 eS7
            have f7 : EnF R S7 k := by rw [eS7]; exact f6.w13 hs
            have f8 : EnF R S8 k := by rw [e8]; exact EnF.wr hs (by decide) f7
            have y5 : qI S8 5 k = qI S 9 15 := by rw [e8, g_ne (by decide), eS7, g_ne (by decide), h5]
            have y6 : qI S8 6 k = fX7_u2 S ((qI S 9 15) + (1 : Int32)) := by rw [e8, g_eq, f7.two, er7, en6, hb.u2 (by omega) (by omega)]
            obtain ⟨w, e2, g1, g2', g3⟩ := en_220 hs f8 hk y5 ht ⟨h0, by omega⟩ (Or.inr (Or.inr (Or.inr (Or.inl ⟨t7, y6⟩)))) g
            rcases hcl with ⟨a, er, eu⟩ | ⟨a, -⟩
            · rw [ht] at el
              refine Or.inl ⟨er, eu, w, e2, g1, g2', ?_, by rw [el]; omega, by rw [el]; omega⟩
              rw [g3, e8, g_ne (by decide), eS7, n_13, el]
              omega
            · omega
          · exact nomatch e
        · exact SH (y := 2) l2 (by omega) (by omega) hcl g7 g
      rcases g with ⟨t8, n, W, g, e⟩ | ⟨t8, g⟩
      · exact Z (by rw [← ht]; omega) ⟨n, W, g, e⟩
      have T2 : a10.toInt = 9 ∨ a10.toInt = 10 ∨ a10.toInt = 12 → ((qI S 9 15).toInt + 5 ≤ (qI S 9 1).toInt ∧ r = 1 ∧ u = S ∨ (qI S 9 1).toInt < (qI S 9 15).toInt + 5 ∧ r = 0 ∧ u = bRk S 2 (qI S 9 1)) := fun h => by
        have el := el_n1 (S := S) (by rw [← ht]; omega)
        rw [← ht] at el
        exact N1 t1 el (by decide)
      rcases g with ⟨t9, g⟩ | ⟨t9, g⟩
      · rw [hk] at f6 h5 ⊢
        exact s_two hb hs hp h0 f6 rfl n6 hc h5 ht (by omega) (T2 (by omega)) (by rw [← hk]; exact g)
      rcases g with ⟨t10, g⟩ | ⟨t10, g⟩
      · rw [hk] at f6 h5 ⊢
        exact s_two hb hs hp h0 f6 rfl n6 hc h5 ht (by omega) (T2 (by omega)) (by rw [← hk]; exact g)
      rcases g with ⟨t11, n, W, g, e⟩ | ⟨t11, g⟩
      · exact Z (by rw [← ht]; omega) ⟨n, W, g, e⟩
      rcases g with ⟨t12, g⟩ | ⟨t12, n, W, g, e⟩
      · rw [hk] at f6 h5 ⊢
        exact s_two hb hs hp h0 f6 rfl n6 hc h5 ht (by omega) (T2 (by omega)) (by rw [← hk]; exact g)
      · exact Z (by rw [← ht]; exact Or.inr (Or.inr (Or.inr (Or.inr (Or.inr ⟨t1, t3, t5, t7, t9, t10, t12⟩))))) ⟨n, W, g, e⟩
    · exact nomatch e
  · rcases ov_at (y := 1) l1 (by omega) hb.1 hp (by rw [e13]; omega) (by rw [e13]; omega) g2 with ⟨-, v3, -, e⟩ | ⟨c3, e⟩
    · exact nomatch e
    · injection e with e
      rw [e13] at c3
      rcases H with ⟨-, er, eu⟩ | ⟨hc, -⟩
      · exact Or.inr ⟨er, u9, g, by rw [eu, e]; exact badP⟩
      · omega
end EH
