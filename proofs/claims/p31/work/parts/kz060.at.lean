/-! attributes -/
/-- n attributes stand from q on, noted from place a on as o's; behind them q2 -/
def AtC (S R : MS) (o : Int32) : Nat → Int32 → Nat → Int32 → Prop
  | 0, q, _, q2 => q2 = q
  | n + 1, q, a, q2 => (qI R 10 a = q ∧ qI R 11 a = o ∧ 0 < q.toInt ∧ 0 ≤ (fX7_s4 S (q + (2 : Int32))).toInt ∧ q.toInt + 6 + (fX7_s4 S (q + (2 : Int32))).toInt ≤ (qI S 9 1).toInt) ∧ AtC S R o n (q + ((6 : Int32) + (fX7_s4 S (q + (2 : Int32))))) (a + 1) q2
/-- what attributes leave, a of them being there before -/
def AtF (R w : MS) (a : Nat) : Prop := smB R w ∧ (∀ j, j ≠ 13 → j ≠ 25 → qI w 0 j = qI R 0 j) ∧ (∀ b j, b ≠ 0 → ((b ≠ 10 ∧ b ≠ 11) ∨ j < a) → qI w b j = qI R b j) ∧ qJ w = qJ R ∧ qR w = qR R ∧ qN w = qN R
section AT
variable {S S' R R' T u w : MS} {x y z r c v e len o : Int32} {k a : Nat} {oo : MS ⊕ MS}
theorem AtF.rf : AtF R R a := ⟨smB.rf, fun _ _ _ => rfl, fun _ _ _ _ => rfl, rfl, rfl, rfl⟩
theorem AtF.tr {b : Nat} (h : AtF R T a) (g : AtF T w b) (hb : a ≤ b) : AtF R w a := ⟨h.1.tr g.1, fun j h1 h2 => (g.2.1 j h1 h2).trans (h.2.1 j h1 h2), fun c j h0 hk => (g.2.2.1 c j h0 (by omega)).trans (h.2.2.1 c j h0 hk), g.2.2.2.1.trans h.2.2.2.1, g.2.2.2.2.1.trans h.2.2.2.2.1, g.2.2.2.2.2.trans h.2.2.2.2.2⟩
theorem AtF.w13 (hs : SrN R) (h : AtF R w a) : AtF R (wI w 0 13 v) a := ⟨h.1.tr (sm13 (hs.sm h.1)), fun j h1 h2 => by rw [g_nf h1]; exact h.2.1 j h1 h2, fun b j h0 hk => by rw [g_ne h0]; exact h.2.2.1 b j h0 hk, h.2.2.2⟩
theorem AtF.w25 (hs : SrN R) (h : AtF R w a) : AtF R (wI w 0 25 v) a := ⟨h.1.tr ⟨rfl, rdH (hs.sm h.1).nz⟩, fun j h1 h2 => by rw [g_nf h2]; exact h.2.1 j h1 h2, fun b j h0 hk => by rw [g_ne h0]; exact h.2.2.1 b j h0 hk, h.2.2.2⟩
theorem AtF.wr {b i : Nat} (hs : SrN R) (hb : b = 10 ∨ b = 11) (hi : a ≤ i) (h : AtF R w a) : AtF R (wI w b i v) a := ⟨h.1.tr ⟨rfl, rdH (fun q => (hs.sm h.1) b (by omega) (by omega) q.symm)⟩, fun j h1 h2 => by rw [g_ne (by omega)]; exact h.2.1 j h1 h2, fun c j h0 hk => by rw [qI_wI, if_neg (fun q => by omega)]; exact h.2.2.1 c j h0 hk, h.2.2.2⟩
theorem AtC.mv {q2 : Int32} : ∀ (n : Nat) {q : Int32} {a : Nat}, AtC S R o n q a q2 → smX S S' → (∀ b j, b = 10 ∨ b = 11 → a ≤ j → j < a + n → qI R' b j = qI R b j) → AtC S' R' o n q a q2 := by
  intro n
  induction n with
  | zero => intro q a h _ _; exact h
  | succ n ih =>
    intro q a h s f
    unfold AtC at h ⊢
    obtain ⟨⟨h1, h2, h3, h4, h5⟩, h6⟩ := h
    rw [f 10 a (Or.inl rfl) (Nat.le_refl _) (by omega), f 11 a (Or.inr rfl) (Nat.le_refl _) (by omega), s.s4, s.1]
    exact ⟨⟨h1, h2, h3, h4, h5⟩, ih h6 s (fun b j hb h1 h2 => f b j hb (by omega) (by omega))⟩
theorem rd12 (hb : BtE S R) (f : smB R w) (e : qI w 0 12 = qI R 0 12) : BtE S w := hb.mv smX.rf f e
/-- how the two end behind attributes -/
def AtE (S R : MS) (o : Int32) (n : Nat) (r : Int32) (u : MS) (oo : MS ⊕ MS) : Prop := (r = 1 ∧ ∃ (q2 : Int32) (w : MS), u = wI S 9 15 q2 ∧ oo = .inl w ∧ AtF R w (qI R 0 25).toInt.toNat ∧ AtC S w o n (qI S 9 15) (qI R 0 25).toInt.toNat q2 ∧ qI w 0 13 = q2 ∧ ((qI S 9 15).toInt ≤ q2.toInt ∧ q2.toInt ≤ (qI S 9 1).toInt) ∧ (qI w 0 25).toInt = (qI R 0 25).toInt + n) ∨ (r = 0 ∧ ∃ w, oo = .inr w ∧ BadP u w)
theorem sm915 (w : wfC S) : smX S (wI S 9 15 v) := smX.wk w (w.2.1 _ finC_2).2.1 (by decide) (fun _ => by decide)
theorem s_atL : ∀ (n m : Nat) {S R : MS} {N v : Int32}, BtE S R → SrN R → PsI S → 0 < (qI S 9 15).toInt → qI R 0 13 = qI S 9 15 → 0 ≤ v.toInt → 0 ≤ N.toInt → N.toInt ≤ 65535 → 0 ≤ (qI R 0 25).toInt → v_X7_attributesFit_L31 r u n S N v → v_attributesOf_L14 oo m R o N v → AtE S R o (N.toInt - v.toInt).toNat r u oo := by
  intro n
  induction n with
  | zero => intro m S R N v _ _ _ _ _ _ _ _ _ h _; unfold v_X7_attributesFit_L31 at h; exact h.elim
  | succ n ih =>
    intro m S R N v hb hs hp p0 e13 v0 N0 N1 a0 h g
    cases m with
    | zero => unfold v_attributesOf_L14 at g; exact g.elim
    | succ m =>
      unfold v_X7_attributesFit_L31 at h
      unfold v_attributesOf_L14 at g
      obtain ⟨wS, h⟩ := h
      have hp' := hp
      obtain ⟨pa, pb, pc⟩ := hp'
      have l2 : (2 : Int64).toInt = 2 := by decide
      have l4 : (4 : Int64).toInt = 4 := by decide
      rcases h with ⟨c, er, eu⟩ | ⟨c, h⟩
      · rcases g with ⟨-, e⟩ | ⟨c2, -⟩
        · refine Or.inl ⟨er, qI S 9 15, R, by rw [eu, wI_id], e, AtF.rf, ?_, e13, by omega, ?_⟩
          · rw [show (N.toInt - v.toInt).toNat = 0 by omega]
            rfl
          · omega
        · exact absurd c c2
      rcases g with ⟨c2, -⟩ | ⟨-, g⟩
      · exact absurd c2 c
      have en : (N.toInt - v.toInt).toNat = (N.toInt - (v.toInt + 1)).toNat + 1 := by omega
      obtain ⟨r14, S15, h14, w15, -, h⟩ := h
      have q2 : ((qI S 9 15) + (2 : Int32)).toInt = (qI S 9 15).toInt + 2 := by
        rw [t_add (by rw [li_2]; omega), li_2]
      have q6 : ((qI S 9 15) + (6 : Int32)).toInt = (qI S 9 15).toInt + 6 := by
        rw [t_add (by rw [li_6]; omega), li_6]
      have BAD : ∀ {W : MS}, r = 0 ∧ u = bRk S 2 (qI S 9 1) ∨ (∃ p9 : Int32, r = 0 ∧ u = bRk (wI S 9 15 p9) 2 (qI S 9 1)) → oo = .inr (rBk W 2 (qI S 9 1)) → AtE S R o (N.toInt - v.toInt).toNat r u oo := fun a e => by
        rcases a with ⟨er, eu⟩ | ⟨p9, er, eu⟩
        · exact Or.inr ⟨er, _, e, by rw [eu]; exact badP⟩
        · exact Or.inr ⟨er, _, e, by rw [eu]; exact badP⟩
      rcases cv_there hp (by decide) h14 with ⟨c1, er, eS⟩ | ⟨c1, er, eS⟩
      · rw [li_6] at c1
        rcases h with ⟨z, -⟩ | ⟨-, -, a22, e22, S24, e24, k24, w24, h⟩
        · exact absurd z (by rw [er]; decide)
        rw [eS] at e22 e24
        rcases g with ⟨r11, S12, g11, g⟩ | ⟨u9, g11, g⟩
        · rcases ov_at (y := 2) l2 (by omega) hb.1 hp (by rw [e13]; omega) (by rw [e13]; omega) g11 with ⟨-, v11, ev11, e⟩ | ⟨-, e⟩
          · injection e with e
            injection e with er11 eS12
            rw [e13] at ev11 er11
            have f12 : AtF R S12 (qI R 0 25).toInt.toNat := by rw [eS12]; exact AtF.rf.w13 hs
            have n12 : qI S12 0 13 = (qI S 9 15) + (2 : Int32) := Int32.toInt_inj.mp (by rw [eS12, n_13, q2]; omega)
            rcases g with ⟨r15, S16, g15, g⟩ | ⟨u9, g15, g⟩
            · rcases ov_at (y := 4) l4 (by omega) (by rw [f12.2.1 12 (by decide) (by decide), hb.1]) hp (by rw [n12]; omega) (by rw [n12]; omega) g15 with ⟨-, v15, ev15, e⟩ | ⟨-, e⟩
              · injection e with e
                injection e with er15 eS16
                rw [n12] at ev15 er15
                have f16 : AtF R S16 (qI R 0 25).toInt.toNat := by rw [eS16]; exact f12.w13 hs
                have n16 : qI S16 0 13 = (qI S 9 15) + (6 : Int32) := Int32.toInt_inj.mp (by rw [eS16, n_13, q6]; omega)
                have s16 : f_four S16 r15 = fX7_s4 S ((qI S 9 15) + (2 : Int32)) := by
                  have b16 := rd12 hb f16.1 (f16.2.1 12 (by decide) (by decide))
                  rw [er15, b16.s4 (by omega) (by omega)]
                have x24 : qI S24 9 15 = (qI S 9 15) + (6 : Int32) := by rw [e24, g_eq]
                have y24 : qI S24 9 1 = qI S 9 1 := by rw [e24, g_nf (by decide)]
                have ed : ((qI S24 9 1) - (qI S24 9 15)).toInt = (qI S 9 1).toInt - ((qI S 9 15).toInt + 6) := by rw [x24, y24, t_sub (by omega), q6]
                rw [c_le, tl_of, ed] at h
                have ea : (fX7_s4 S ((qI S 9 15) + (2 : Int32))).toInt64 &&& (4294967295 : Int64) = a22 := e22.symm
                have a64 : 0 ≤ a22.toInt ∧ a22.toInt ≤ 4294967295 := by rw [← ea]; exact c_and64
                have es : a22.toInt32 = fX7_s4 S ((qI S 9 15) + (2 : Int32)) := by rw [e22]; exact u4_32
                obtain ⟨-, g⟩ := g
                rw [s16, ea] at g
                have OV : ∀ {p : (Int32 × MS) ⊕ MS}, v_over S16 a22 p → ((qI S 9 15).toInt + 6 + a22.toInt ≤ (qI S 9 1).toInt ∧ ∃ d : Int32, d.toInt = (qI S 9 15).toInt + 6 + a22.toInt ∧ p = .inl ((qI S 9 15) + (6 : Int32), wI S16 0 13 d)) ∨ ((qI S 9 1).toInt < (qI S 9 15).toInt + 6 + a22.toInt ∧ p = .inr (rBk S16 2 (qI S 9 1))) := fun hv => by
                  have e12 : qI S16 0 12 = qI S 9 1 := by rw [f16.2.1 12 (by decide) (by decide), hb.1]
                  have q := rv_over (by rw [n16, e12, q6]; omega) ⟨a64.1, by omega⟩ hv
                  rw [e12, n16, q6] at q
                  exact q
                rcases g with ⟨r23, S24', g23, g⟩ | ⟨u9, g23, g⟩
                · rcases OV g23 with ⟨c23, d, ed2, e⟩ | ⟨-, e⟩
                  · injection e with e
                    injection e with er23 eS24
                    rcases h with ⟨c5, S29, e29, k29, w29, a30, e30, h⟩ | ⟨c5, -⟩
                    · have e32 : a22.toInt32.toInt = a22.toInt := tl_to (by omega)
                      have eu29 : S29 = wI S 9 15 (((qI S 9 15) + (6 : Int32)) + a22.toInt32) := by rw [e29, x24, e24, wI_wI]
                      have p29 : (((qI S 9 15) + (6 : Int32)) + a22.toInt32).toInt = (qI S 9 15).toInt + 6 + a22.toInt := by rw [t_add (by rw [q6]; omega), q6, e32]
                      have s29 : smX S S29 := by rw [eu29]; exact sm915 wS
                      obtain ⟨g25, S27, e27, g25', S29', e29', S31, e31, a32, e32', g⟩ := g
                      have z25 : qI S24' 0 25 = qI R 0 25 := by rw [eS24, g_nf (by decide), eS16, g_nf (by decide), eS12, g_nf (by decide)]
                      have z27 : qI S27 0 25 = qI R 0 25 := by rw [e27, g_ne (by decide), z25]
                      have z29 : qI S29' 0 25 = qI R 0 25 := by rw [e29', g_ne (by decide), z27]
                      rw [z25] at e27 g25
                      rw [z27] at e29'
                      rw [z29] at e31
                      have f24 : AtF R S24' (qI R 0 25).toInt.toNat := by rw [eS24]; exact f16.w13 hs
                      have f27 : AtF R S27 (qI R 0 25).toInt.toNat := by rw [e27]; exact AtF.wr hs (Or.inl rfl) (Nat.le_refl _) f24
                      have f29 : AtF R S29' (qI R 0 25).toInt.toNat := by rw [e29']; exact AtF.wr hs (Or.inr rfl) (Nat.le_refl _) f27
                      have f31 : AtF R S31 (qI R 0 25).toInt.toNat := by rw [e31]; exact f29.w25 hs
                      have y25 : (qI S31 0 25).toInt = (qI R 0 25).toInt + 1 := by rw [e31, g_eq, t_add (by rw [li_1]; omega), li_1]
                      have y13 : qI S31 0 13 = qI S29 9 15 := Int32.toInt_inj.mp (by rw [e31, g_nf (by decide), e29', g_ne (by decide), e27, g_ne (by decide), eS24, n_13, eu29, g_eq, p29, ed2])
                      have y10 : qI S31 10 (qI R 0 25).toInt.toNat = qI S 9 15 := by rw [e31, g_ne (by decide), e29', g_ne (by decide), e27, g_eq, er11]
                      have y11 : qI S31 11 (qI R 0 25).toInt.toNat = o := by rw [e31, g_ne (by decide), e29', g_eq]
                      have x29 : qI S29 9 15 = (qI S 9 15) + ((6 : Int32) + fX7_s4 S ((qI S 9 15) + (2 : Int32))) := by
                        apply Int32.toInt_inj.mp
                        rw [eu29, g_eq, p29, ← es, t_add (by rw [t_add (by rw [li_6]; omega), li_6]; omega), t_add (by rw [li_6]; omega), li_6, e32]
                        omega
                      have ea30 : a30.toInt = v.toInt + 1 := by rw [e30, t_add (by rw [show (Int32.ofInt 1).toInt = 1 from rfl]; omega)]; rfl
                      have ea32 : a32 = a30 := by rw [e32', e30]
                      rw [ea32] at g
                      have K := ih m ((rd12 hb f31.1 (f31.2.1 12 (by decide) (by decide))).mv s29 smB.rf rfl) (hs.sm f31.1) ⟨by rw [eu29, g_eq, p29]; omega, by rw [s29.1, eu29, g_eq, p29]; omega, by rw [s29.1]; omega⟩ (by rw [eu29, g_eq, p29]; omega) y13 (by omega) N0 N1 (by rw [y25]; omega) h g
                      rw [ea30] at K
                      rcases K with ⟨er', q9, w9, eu9, e9, F9, C9, n9, ⟨b9, b9'⟩, c9⟩ | ⟨er', w9, e9, hbad⟩
                      · have na : (qI S31 0 25).toInt.toNat = (qI R 0 25).toInt.toNat + 1 := by omega
                        rw [na] at F9 C9
                        rw [eu29, g_eq, p29] at b9
                        rw [s29.1] at b9'
                        refine Or.inl ⟨er', q9, w9, by rw [eu9, eu29, wI_wI], e9, f31.tr F9 (by omega), ?_, n9, ⟨by omega, b9'⟩, by rw [c9, y25]; omega⟩
                        rw [en]
                        refine ⟨⟨?_, ?_, p0, by rw [← es, e32]; omega, by rw [← es, e32]; omega⟩, ?_⟩
                        · rw [F9.2.2.1 10 _ (by decide) (Or.inr (by omega)), y10]
                        · rw [F9.2.2.1 11 _ (by decide) (Or.inr (by omega)), y11]
                        · rw [← x29]
                          have sb : smX S29 S := by
                            have e1 : qO S29 9 0 = qO S 9 0 := s29.2.1
                            exact ⟨s29.1.symm, e1.symm, by rw [e1]; exact s29.2.2.1.symm, by rw [e1]; exact s29.2.2.2.symm⟩
                          exact AtC.mv _ C9 sb (fun _ _ _ _ _ => rfl)
                      · exact Or.inr ⟨er', w9, e9, hbad⟩
                    · omega
                  · exact nomatch e
                · rcases OV g23 with ⟨-, d, -, e⟩ | ⟨c23, e⟩
                  · exact nomatch e
                  · injection e with e
                    rcases h with ⟨c5, -⟩ | ⟨c5, r32, S33, h, -, -, er33, eu33⟩
                    · omega
                    · obtain ⟨a, b⟩ := cv_breaks h
                      exact BAD (Or.inr ⟨_, by rw [er33, a], by rw [eu33, b, y24, e24]⟩) (by rw [g, e])
              · exact nomatch e
            · rcases ov_at (y := 4) l4 (by omega) (by rw [f12.2.1 12 (by decide) (by decide), hb.1]) hp (by rw [n12]; omega) (by rw [n12]; omega) g15 with ⟨-, v15, -, e⟩ | ⟨c15, e⟩
              · exact nomatch e
              · rw [n12] at c15
                omega
          · exact nomatch e
        · rcases ov_at (y := 2) l2 (by omega) hb.1 hp (by rw [e13]; omega) (by rw [e13]; omega) g11 with ⟨-, v11, -, e⟩ | ⟨c11, e⟩
          · exact nomatch e
          · rw [e13] at c11
            omega
      · rw [li_6] at c1
        rcases h with ⟨-, er2, eu⟩ | ⟨z, -⟩
        · rcases g with ⟨r11, S12, g11, g⟩ | ⟨u9, g11, g⟩
          · rcases ov_at (y := 2) l2 (by omega) hb.1 hp (by rw [e13]; omega) (by rw [e13]; omega) g11 with ⟨c11, v11, ev11, e⟩ | ⟨-, e⟩
            · injection e with e
              injection e with er11 eS12
              rw [e13] at ev11 c11
              have f12 : AtF R S12 (qI R 0 25).toInt.toNat := by rw [eS12]; exact AtF.rf.w13 hs
              have n12 : (qI S12 0 13).toInt = (qI S 9 15).toInt + 2 := by rw [eS12, n_13]; omega
              rcases g with ⟨r15, S16, g15, g⟩ | ⟨u9, g15, g⟩
              · rcases ov_at (y := 4) l4 (by omega) (by rw [f12.2.1 12 (by decide) (by decide), hb.1]) hp (by rw [n12]; omega) (by rw [n12]; omega) g15 with ⟨c15, v15, -, e⟩ | ⟨-, e⟩
                · rw [n12] at c15
                  omega
                · exact nomatch e
              · rcases ov_at (y := 4) l4 (by omega) (by rw [f12.2.1 12 (by decide) (by decide), hb.1]) hp (by rw [n12]; omega) (by rw [n12]; omega) g15 with ⟨-, v15, -, e⟩ | ⟨c15, e⟩
                · exact nomatch e
                · injection e with e
                  exact BAD (Or.inl ⟨er2, by rw [eu, eS]⟩) (by rw [g, e])
            · exact nomatch e
          · rcases ov_at (y := 2) l2 (by omega) hb.1 hp (by rw [e13]; omega) (by rw [e13]; omega) g11 with ⟨-, v11, -, e⟩ | ⟨c11, e⟩
            · exact nomatch e
            · injection e with e
              exact BAD (Or.inl ⟨er2, by rw [eu, eS]⟩) (by rw [g, e])
        · exact absurd (by rw [er]; decide) z
end AT
