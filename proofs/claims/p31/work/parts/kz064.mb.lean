/-! members -/
/-- n members stand from q on, as numbers k and on, their attributes noted from place a on; behind them q2 and a2 -/
def MbC (S R : MS) : Nat → Nat → Int32 → Nat → Int32 → Nat → Prop
  | 0, _, q, a, q2, a2 => q2 = q ∧ a2 = a
  | n + 1, k, q, a, q2, a2 => (qI S 12 k = q ∧ qI R 9 k = q ∧ 0 < q.toInt ∧ q.toInt + 8 ≤ (qI S 9 1).toInt) ∧ ∃ (o q1 : Int32), o.toInt = k ∧ AtC S R o (fX7_u2 S (q + (6 : Int32))).toInt.toNat (q + (8 : Int32)) a q1 ∧ MbC S R n (k + 1) q1 (a + (fX7_u2 S (q + (6 : Int32))).toInt.toNat) q2 a2
def MbF (R w : MS) (k a : Nat) : Prop := smB R w ∧ (∀ j, j ≠ 13 → j ≠ 25 → j ≠ 21 → qI w 0 j = qI R 0 j) ∧ (∀ b j, b ≠ 0 → ((b ≠ 9 ∧ b ≠ 10 ∧ b ≠ 11) ∨ (b = 9 ∧ j < k) ∨ (b ≠ 9 ∧ j < a)) → qI w b j = qI R b j) ∧ qJ w = qJ R ∧ qR w = qR R ∧ qN w = qN R
section MB
variable {S S' R R' T u w : MS} {x y z r c v e len o N i v1 : Int32} {k a : Nat} {oo : MS ⊕ MS}
theorem MbF.rf : MbF R R k a := ⟨smB.rf, fun _ _ _ _ => rfl, fun _ _ _ _ => rfl, rfl, rfl, rfl⟩
theorem MbF.tr {k2 b : Nat} (h : MbF R T k a) (g : MbF T w k2 b) (hk : k ≤ k2) (hb : a ≤ b) : MbF R w k a := ⟨h.1.tr g.1, fun j h1 h2 h3 => (g.2.1 j h1 h2 h3).trans (h.2.1 j h1 h2 h3), fun c j h0 hq => (g.2.2.1 c j h0 (by omega)).trans (h.2.2.1 c j h0 hq), g.2.2.2.1.trans h.2.2.2.1, g.2.2.2.2.1.trans h.2.2.2.2.1, g.2.2.2.2.2.trans h.2.2.2.2.2⟩
theorem MbF.w0 {j : Nat} (hs : SrN R) (hj : j = 13 ∨ j = 21) (h : MbF R w k a) : MbF R (wI w 0 j v) k a := ⟨h.1.tr ⟨rfl, rdH (hs.sm h.1).nz⟩, fun i h1 h2 h3 => by rw [g_nf (by omega)]; exact h.2.1 i h1 h2 h3, fun b j h0 hk => by rw [g_ne h0]; exact h.2.2.1 b j h0 hk, h.2.2.2⟩
theorem MbF.w9 {j : Nat} (hs : SrN R) (hj : k ≤ j) (h : MbF R w k a) : MbF R (wI w 9 j v) k a := ⟨h.1.tr ⟨rfl, rdH (fun q => (hs.sm h.1) 9 (by omega) (by omega) q.symm)⟩, fun i h1 h2 h3 => by rw [g_ne (by omega)]; exact h.2.1 i h1 h2 h3, fun b i h0 hk => by rw [qI_wI, if_neg (fun q => by omega)]; exact h.2.2.1 b i h0 hk, h.2.2.2⟩
theorem AtF.mb (h : AtF R w a) : MbF R w k a := ⟨h.1, fun j h1 h2 _ => h.2.1 j h1 h2, fun b j h0 hk => h.2.2.1 b j h0 (by omega), h.2.2.2⟩
theorem MbC.mv {q2 : Int32} {a2 : Nat} : ∀ (n : Nat) {k : Nat} {q : Int32} {a : Nat}, MbC S R n k q a q2 a2 → a ≤ a2 → smX S S' → (∀ j, k ≤ j → j < k + n → qI S' 12 j = qI S 12 j ∧ qI R' 9 j = qI R 9 j) → (∀ b j, b = 10 ∨ b = 11 → a ≤ j → j < a2 → qI R' b j = qI R b j) → MbC S' R' n k q a q2 a2 := by
  have le : ∀ (n : Nat) {k : Nat} {q : Int32} {a : Nat}, MbC S R n k q a q2 a2 → a ≤ a2 := by
    intro n
    induction n with
    | zero => intro k q a h; exact Nat.le_of_eq h.2.symm
    | succ n ih =>
      intro k q a h
      obtain ⟨-, o, q1, -, -, h⟩ := h
      have := ih h
      omega
  intro n
  induction n with
  | zero => intro k q a h _ _ _ _; exact h
  | succ n ih =>
    intro k q a h ha s f g
    unfold MbC at h ⊢
    obtain ⟨⟨h1, h2, h3, h4⟩, o, q1, ho, hA, hM⟩ := h
    have l := le n hM
    rw [(f k (Nat.le_refl _) (by omega)).1, (f k (Nat.le_refl _) (by omega)).2, s.u2, s.1]
    exact ⟨⟨h1, h2, h3, h4⟩, o, q1, ho, AtC.mv _ hA s (fun b j hb h1 h2 => g b j hb h1 (by omega)), ih hM l s (fun j h1 h2 => f j (by omega) (by omega)) (fun b j hb h1 h2 => g b j hb (by omega) h2)⟩
theorem MbC.le {q2 : Int32} {a2 : Nat} : ∀ (n : Nat) {k : Nat} {q : Int32} {a : Nat}, MbC S R n k q a q2 a2 → a ≤ a2 := by
  intro n
  induction n with
  | zero => intro k q a h; exact Nat.le_of_eq h.2.symm
  | succ n ih =>
    intro k q a h
    obtain ⟨-, o, q1, -, -, h⟩ := h
    have := ih h
    omega
/-- how the two end behind n members, from number k on -/
def MbE (S R : MS) (N : Int32) (n k : Nat) (r : Int32) (u : MS) (oo : MS ⊕ MS) : Prop := (r = N ∧ ∃ (q2 : Int32) (w : MS) (a2 : Nat), oo = .inl w ∧ smX S u ∧ qI u 9 15 = q2 ∧ (∀ j : Nat, j < k → qI u 12 j = qI S 12 j) ∧ MbF R w k (qI R 0 25).toInt.toNat ∧ MbC u w n k (qI S 9 15) (qI R 0 25).toInt.toNat q2 a2 ∧ qI w 0 13 = q2 ∧ ((qI S 9 15).toInt ≤ q2.toInt ∧ q2.toInt ≤ (qI S 9 1).toInt) ∧ (qI w 0 25).toInt = a2 ∧ (qI w 0 21).toInt = k + n) ∨ (r = -1 ∧ ∃ w, oo = .inr w ∧ BadP u w)
theorem s_mbL : ∀ (n m : Nat) {S R : MS} {v i : Int32}, BtE S R → SrN R → PsI S → 0 < (qI S 9 15).toInt → qI R 0 13 = qI S 9 15 → (0 ≤ v1.toInt ∧ v1.toInt ≤ 24) → (0 ≤ N.toInt ∧ N.toInt ≤ 24) → (0 ≤ i.toInt ∧ i.toInt ≤ N.toInt ∧ v.toInt = v1.toInt + i.toInt) → (qI R 0 21).toInt = v.toInt → 0 ≤ (qI R 0 25).toInt → v_X7_membersFit_L49 r u n S v1 N v → v_members_L33 oo m R N i → MbE S R N (N.toInt - i.toInt).toNat v.toInt.toNat r u oo := by
  intro n
  induction n with
  | zero => intro m S R v i _ _ _ _ _ _ _ _ _ _ h _; unfold v_X7_membersFit_L49 at h; exact h.elim
  | succ n ih =>
    intro m S R v i hb hs hp p0 e13 hv1 hN hi e21 a0 h g
    cases m with
    | zero => unfold v_members_L33 at g; exact g.elim
    | succ m =>
      unfold v_X7_membersFit_L49 at h
      unfold v_members_L33 at g
      obtain ⟨wS, h⟩ := h
      have hp' := hp
      obtain ⟨pa, pb, pc⟩ := hp'
      obtain ⟨i0, i1, iv⟩ := hi
      have l2 : (2 : Int64).toInt = 2 := by decide
      have l4 : (4 : Int64).toInt = 4 := by decide
      have es : (v1 + N).toInt = v1.toInt + N.toInt := t_add (by omega)
      rw [es] at h
      rcases h with ⟨c, er, eu⟩ | ⟨c, h⟩
      · rcases g with ⟨-, e⟩ | ⟨c2, -⟩
        · have z : (N.toInt - i.toInt).toNat = 0 := by omega
          have hv : ((v.toInt.toNat : Nat) : Int) = v.toInt := by omega
          refine Or.inl ⟨er, qI S 9 15, R, (qI R 0 25).toInt.toNat, e, by rw [eu]; exact smX.rf, by rw [eu], fun j _ => by rw [eu], MbF.rf, ?_, e13, by omega, by omega, by rw [z, e21]; omega⟩
          rw [z]
          exact ⟨rfl, rfl⟩
        · omega
      rcases g with ⟨c2, -⟩ | ⟨-, g⟩
      · omega
      have en : (N.toInt - i.toInt).toNat = (N.toInt - (i.toInt + 1)).toNat + 1 := by omega
      rcases h with ⟨c3, -⟩ | ⟨c3, -, S17, e17, k12, w17, r19, S20, h19, w20, -, h⟩
      · omega
      have s17 : smX S S17 := by rw [e17]; exact smX.wk wS k12 (by decide) (fun q => absurd q (by decide))
      have x17 : qI S17 9 15 = qI S 9 15 := by rw [e17, g_ne (by decide)]
      have hp17 : PsI S17 := ⟨by rw [x17]; exact pa, by rw [x17, s17.1]; exact pb, by rw [s17.1]; exact pc⟩
      have q2 : (qI S 9 15).toInt + 2 ≤ (qI S 9 1).toInt → ((qI S 9 15) + (2 : Int32)).toInt = (qI S 9 15).toInt + 2 := fun _ => by rw [t_add (by rw [li_2]; omega), li_2]
      rcases cv_there hp17 (by decide) h19 with ⟨c1, er, eS⟩ | ⟨c1, er, eS⟩
      · rw [li_6, x17, s17.1] at c1
        rcases h with ⟨z, -⟩ | ⟨-, S24, e24, -, w24, r26, S27, h26, -, -, h⟩
        · exact absurd z (by rw [er]; decide)
        have q6 : ((qI S 9 15) + (6 : Int32)).toInt = (qI S 9 15).toInt + 6 := by rw [t_add (by rw [li_6]; omega), li_6]
        rw [eS] at e24
        have x24 : qI S24 9 15 = (qI S 9 15) + (6 : Int32) := by rw [e24, g_eq, x17]
        have s24 : smX S S24 := s17.tr (by rw [e24]; exact sm915 w17)
        have hp24 : PsI S24 := ⟨by rw [x24]; omega, by rw [x24, s24.1]; omega, by rw [s24.1]; exact pc⟩
        rcases g with ⟨r14, S15, g14, -, S18, e18, g⟩ | ⟨u9, g14, g⟩
        · rcases ov_at (y := 2) l2 (by omega) hb.1 hp (by rw [e13]; omega) (by rw [e13]; omega) g14 with ⟨c14, v14, ev14, e⟩ | ⟨-, e⟩
          · injection e with e
            injection e with er14 eS15
            rw [e13] at ev14 er14 c14
            have f15 : MbF R S15 v.toInt.toNat (qI R 0 25).toInt.toNat := by rw [eS15]; exact MbF.w0 hs (Or.inl rfl) MbF.rf
            rw [e21] at e18
            have f18 : MbF R S18 v.toInt.toNat (qI R 0 25).toInt.toNat := by rw [e18]; exact MbF.w9 hs (Nat.le_refl _) f15
            have n18 : (qI S18 0 13).toInt = (qI S 9 15).toInt + 2 := by rw [e18, g_ne (by decide), eS15, n_13]; omega
            rcases g with ⟨r20, S21, g20, g⟩ | ⟨u9, g20, g⟩
            · rcases ov_at (y := 4) l4 (by omega) (by rw [f18.2.1 12 (by decide) (by decide) (by decide), hb.1]) hp (by rw [n18]; omega) (by rw [n18]; omega) g20 with ⟨c20, v20, ev20, e⟩ | ⟨-, e⟩
              · injection e with e
                injection e with er20 eS21
                have f21 : MbF R S21 v.toInt.toNat (qI R 0 25).toInt.toNat := by rw [eS21]; exact MbF.w0 hs (Or.inl rfl) f18
                have n21 : qI S21 0 13 = qI S24 9 15 := Int32.toInt_inj.mp (by rw [eS21, n_13, x24]; omega)
                have z21 : qI S21 0 21 = qI R 0 21 := by rw [eS21, g_nf (by decide), e18, g_ne (by decide), eS15, g_nf (by decide)]
                have z25 : qI S21 0 25 = qI R 0 25 := by rw [eS21, g_nf (by decide), e18, g_ne (by decide), eS15, g_nf (by decide)]
                have y9 : qI S21 9 v.toInt.toNat = qI S 9 15 := by rw [eS21, g_ne (by decide), e18, g_eq, er14]
                have b21 : BtE S24 S21 := (rd12 hb f21.1 (f21.2.1 12 (by decide) (by decide) (by decide))).mv s24 smB.rf rfl
                have hs21 := hs.sm f21.1
                rcases g with ⟨S24', g23, S27', e27, a28, e28, g⟩ | ⟨u9, g23, g⟩
                · rcases s_at b21 hs21 hp24 (by rw [x24]; omega) n21 (by rw [z25]; exact a0) w24 h26 g23 with ⟨er26, q9, w9, eu9, e9, F9, C9, n9, ⟨b9, b9'⟩, c9⟩ | ⟨-, w9, e9, -⟩
                  · injection e9 with e9
                    rcases h with ⟨z, -⟩ | ⟨-, a30, e30, h⟩
                    · exact absurd z (by rw [er26]; decide)
                    rw [z25] at F9 C9 c9
                    rw [x24] at C9 b9 c9
                    rw [s24.1] at b9'
                    rw [s24.u2] at C9 c9
                    have s27 : smX S S27 := s24.tr (by rw [eu9]; exact sm915 w24)
                    have x27 : qI S27 9 15 = q9 := by rw [eu9, g_eq]
                    rw [e9] at e27
                    have f9 : MbF R w9 v.toInt.toNat (qI R 0 25).toInt.toNat := f21.tr (F9.mb (k := v.toInt.toNat)) (Nat.le_refl _) (Nat.le_refl _)
                    have f27 : MbF R S27' v.toInt.toNat (qI R 0 25).toInt.toNat := by rw [e27]; exact MbF.w0 hs (Or.inr rfl) f9
                    have y21 : qI w9 0 21 = qI R 0 21 := by rw [F9.2.1 21 (by decide) (by decide), z21]
                    have z27 : (qI S27' 0 21).toInt = v.toInt + 1 := by rw [e27, g_eq, y21, t_add (by rw [e21, li_1]; omega), e21, li_1]
                    have z27' : qI S27' 0 25 = qI w9 0 25 := by rw [e27, g_nf (by decide)]
                    have ea30 : a30.toInt = v.toInt + 1 := by rw [e30, t_add (by rw [show (Int32.ofInt 1).toInt = 1 from rfl]; omega)]; rfl
                    have ea28 : a28.toInt = i.toInt + 1 := by rw [e28, t_add (by rw [show (Int32.ofInt 1).toInt = 1 from rfl]; omega)]; rfl
                    have rg2 : 0 ≤ (fX7_u2 S ((qI S 9 15) + (6 : Int32))).toInt := rg_u2.1
                    have K := ih m ((rd12 hb f27.1 (f27.2.1 12 (by decide) (by decide) (by decide))).mv s27 smB.rf rfl) (hs.sm f27.1) ⟨by rw [x27]; omega, by rw [x27, s27.1]; exact b9', by rw [s27.1]; exact pc⟩ (by rw [x27]; omega) (by rw [e27, g_nf (by decide), n9, x27]) hv1 hN ⟨by omega, by omega, by omega⟩ (by rw [z27, ea30]) (by rw [z27', c9]; omega) h g
                    have na : (qI S27' 0 25).toInt.toNat = (qI R 0 25).toInt.toNat + (fX7_u2 S ((qI S 9 15) + (6 : Int32))).toInt.toNat := by rw [z27']; omega
                    have nv : a30.toInt.toNat = v.toInt.toNat + 1 := by omega
                    unfold MbE at K
                    rw [na, nv, x27, ea28, s27.1] at K
                    rcases K with ⟨er', qq, ww, a2, eo, sm, xq, f12, FF, CC, nn, ⟨bb, bb'⟩, aa, mm⟩ | K
                    · refine Or.inl ⟨er', qq, ww, a2, eo, s27.tr sm, xq, fun j hj => ?_, f27.tr FF (by omega) (by omega), ?_, nn, ⟨by omega, bb'⟩, aa, by rw [mm, en]; omega⟩
                      · rw [f12 j (by omega), eu9, g_ne (by decide), e24, g_ne (by decide), e17, g_nf (by omega)]
                      · rw [en]
                        refine ⟨⟨?_, ?_, p0, ?_⟩, qI R 0 21, q9, by rw [e21]; omega, ?_, ?_⟩
                        · rw [f12 _ (by omega), eu9, g_ne (by decide), e24, g_ne (by decide), e17, g_eq]
                        · rw [FF.2.2.1 9 _ (by decide) (Or.inr (Or.inl ⟨rfl, by omega⟩)), e27, g_ne (by decide), F9.2.2.1 9 _ (by decide) (Or.inl (by decide)), y9]
                        · rw [sm.1, s27.1]
                          omega
                        · have su : smX S24 u := (s24.sy.tr s27).tr sm
                          have e8 : ((qI S 9 15) + (6 : Int32)) + (2 : Int32) = (qI S 9 15) + (8 : Int32) := by
                            apply Int32.toInt_inj.mp
                            rw [t_add (by rw [q6, li_2]; omega), q6, li_2, t_add (by rw [li_8]; omega), li_8]
                            omega
                          rw [← e8, (s27.tr sm).u2, ← z21]
                          exact AtC.mv _ C9 su (fun b j hb h1 h2 => by rw [FF.2.2.1 b j (by omega) (Or.inr (Or.inr ⟨by omega, by omega⟩)), e27, g_ne (by omega)])
                        · rw [(s27.tr sm).u2]
                          exact CC
                    · exact Or.inr K
                  · exact nomatch e9
                · rcases s_at b21 hs21 hp24 (by rw [x24]; omega) n21 (by rw [z25]; exact a0) w24 h26 g23 with ⟨-, q9, w9, -, e9, -⟩ | ⟨er26, w9, e9, hbad⟩
                  · exact nomatch e9
                  · injection e9 with e9
                    rcases h with ⟨-, er2, eu⟩ | ⟨z, -⟩
                    · exact Or.inr ⟨er2, u9, g, by rw [eu, e9]; exact hbad⟩
                    · exact absurd (by rw [er26]; decide) z
              · exact nomatch e
            · rcases ov_at (y := 4) l4 (by omega) (by rw [f18.2.1 12 (by decide) (by decide) (by decide), hb.1]) hp (by rw [n18]; omega) (by rw [n18]; omega) g20 with ⟨-, v20, -, e⟩ | ⟨c20, e⟩
              · exact nomatch e
              · rw [n18] at c20
                omega
          · exact nomatch e
        · rcases ov_at (y := 2) l2 (by omega) hb.1 hp (by rw [e13]; omega) (by rw [e13]; omega) g14 with ⟨-, v14, -, e⟩ | ⟨c14, e⟩
          · exact nomatch e
          · rw [e13] at c14
            omega
      · rw [li_6, x17, s17.1] at c1
        rcases h with ⟨-, er2, eu⟩ | ⟨z, -⟩
        · have BAD : ∀ {W : MS}, oo = .inr (rBk W 2 (qI S 9 1)) → MbE S R N (N.toInt - i.toInt).toNat v.toInt.toNat r u oo := fun e => Or.inr ⟨er2, _, e, by rw [eu, eS, s17.1]; exact badP⟩
          rcases g with ⟨r14, S15, g14, -, S18, e18, g⟩ | ⟨u9, g14, g⟩
          · rcases ov_at (y := 2) l2 (by omega) hb.1 hp (by rw [e13]; omega) (by rw [e13]; omega) g14 with ⟨c14, v14, ev14, e⟩ | ⟨-, e⟩
            · injection e with e
              injection e with er14 eS15
              rw [e13] at ev14 c14
              have e12 : qI S18 0 12 = qI S 9 1 := by rw [e18, g_ne (by decide), eS15, n_12, hb.1]
              have n18 : (qI S18 0 13).toInt = (qI S 9 15).toInt + 2 := by rw [e18, g_ne (by decide), eS15, n_13]; omega
              rcases g with ⟨r20, S21, g20, g⟩ | ⟨u9, g20, g⟩
              · rcases ov_at (y := 4) l4 (by omega) e12 hp (by rw [n18]; omega) (by rw [n18]; omega) g20 with ⟨c20, v20, -, e⟩ | ⟨-, e⟩
                · rw [n18] at c20
                  omega
                · exact nomatch e
              · rcases ov_at (y := 4) l4 (by omega) e12 hp (by rw [n18]; omega) (by rw [n18]; omega) g20 with ⟨-, v20, -, e⟩ | ⟨c20, e⟩
                · exact nomatch e
                · injection e with e
                  exact BAD (by rw [g, e])
            · exact nomatch e
          · rcases ov_at (y := 2) l2 (by omega) hb.1 hp (by rw [e13]; omega) (by rw [e13]; omega) g14 with ⟨-, v14, -, e⟩ | ⟨c14, e⟩
            · exact nomatch e
            · injection e with e
              exact BAD (by rw [g, e])
        · exact absurd (by rw [er]; decide) z
end MB
