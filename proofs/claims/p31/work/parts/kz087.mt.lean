/-! a method's type in both -/
section MT
variable {S S' R R' T u w : MS} {x y z r c v e len o N i x1 k t : Int32} {oo : MS ⊕ MS}
theorem sg_eq {a b : Int32} {K : Int} (hK : 0 ≤ K ∧ K < 128) (h : -128 ≤ a.toInt ∧ a.toInt ≤ 127 ∧ b.toInt = if a.toInt < 0 then a.toInt + 256 else a.toInt) : b.toInt = K ↔ a.toInt = K := by
  obtain ⟨h1, h2, h3⟩ := h
  split at h3 <;> omega
theorem kt_of (hE : LyE S R) (hk : (fX7_tagOf S k).toInt = 1) (h0 : 0 ≤ i.toInt) (hi : i.toInt ≤ 1000) : ((fX7_kindOfPart S k i).toInt = 0 ∧ (f_typeAt R k i).toInt = 0) ∨ ((fX7_kindOfPart S k i).toInt = 1 ∧ (f_typeAt R k i).toInt = 1 ∧ (f_letter R k i).toInt = 73 ∧ i.toInt < (fX7_nameLength S k).toInt) ∨ ((fX7_kindOfPart S k i).toInt = 2 ∧ (f_typeAt R k i).toInt = 1 ∧ (f_letter R k i).toInt = 74 ∧ i.toInt < (fX7_nameLength S k).toInt) ∨ ((fX7_kindOfPart S k i).toInt = 3 ∧ (f_typeAt R k i).toInt = 2 ∧ (f_letter R k i).toInt = 91 ∧ i.toInt + 1 < (fX7_nameLength S k).toInt) := by
  obtain ⟨-, hl, hN⟩ := nm_at hE hk
  have qi : (i + (1 : Int32)).toInt = i.toInt + 1 := by rw [t_add (by rw [li_1]; omega), li_1]
  have o0 : (0 : Int32).toInt = 0 := rfl
  have o2 : (2 : Int32).toInt = 2 := li_2
  have o3 : (3 : Int32).toInt = 3 := li_3
  unfold fX7_kindOfPart f_typeAt f_X7_kindOfPart_J84 f_typeAt_J52
  by_cases c : i.toInt < (fX7_nameLength S k).toInt
  · have a := (hN i).1 h0 c
    have s73 := sg_eq (K := 73) (by decide) a
    have s74 := sg_eq (K := 74) (by decide) a
    have s91 := sg_eq (K := 91) (by decide) a
    rw [if_pos c]
    by_cases c1 : (fX7_nameSign S k i).toInt = 73
    · rw [if_pos c1, if_pos (s73.mp c1)]
      exact Or.inr (Or.inl ⟨li_1, li_1, s73.mp c1, c⟩)
    · rw [if_neg c1, if_neg (fun q => c1 (s73.mpr q))]
      by_cases c2 : (fX7_nameSign S k i).toInt = 74
      · rw [if_pos c2, if_pos (s74.mp c2)]
        exact Or.inr (Or.inr (Or.inl ⟨li_2, li_1, s74.mp c2, c⟩))
      · rw [if_neg c2, if_neg (fun q => c2 (s74.mpr q))]
        by_cases c3 : (fX7_nameSign S k i).toInt = 91
        · rw [if_pos c3, if_pos (s91.mp c3), qi]
          by_cases c4 : (fX7_nameLength S k).toInt ≤ i.toInt + 1
          · rw [if_pos c4, (hN (i + 1)).2 (by rw [qi]; exact c4), if_neg (by decide)]
            exact Or.inl ⟨rfl, rfl⟩
          · rw [if_neg c4]
            have a1 := (hN (i + 1)).1 (by rw [qi]; omega) (by rw [qi]; omega)
            have t73 := sg_eq (K := 73) (by decide) a1
            by_cases c5 : (fX7_nameSign S k (i + (1 : Int32))).toInt = 73
            · rw [if_pos c5, if_pos (t73.mp c5)]
              exact Or.inr (Or.inr (Or.inr ⟨li_3, li_2, s91.mp c3, by omega⟩))
            · rw [if_neg c5, if_neg (fun q => c5 (t73.mpr q))]
              exact Or.inl ⟨rfl, rfl⟩
        · rw [if_neg c3, if_neg (fun q => c3 (s91.mpr q))]
          exact Or.inl ⟨rfl, rfl⟩
  · rw [if_neg c, (hN i).2 (by omega), if_neg (by decide), if_neg (by decide), if_neg (by decide)]
    exact Or.inl ⟨rfl, rfl⟩
/-- how the two end: accepted with so many places, or not -/
def MtE (S R : MS) (r : Int32) (u : MS) (n : Int32) (R' : MS) : Prop := T3 S u ∧ R' = R ∧ ((r = 1 ∧ 0 ≤ n.toInt ∧ qI u 9 13 = n) ∨ (r = 0 ∧ n = -1))
theorem s_mtL {S0 : MS} {pl : Int32} (hE : LyE S0 R) (hk : (fX7_tagOf S0 k).toInt = 1) (el : len = fX7_nameLength S0 k) : ∀ (n m : Nat) {S : MS} {i kd p : Int32}, T3 S0 S → 0 ≤ i.toInt → i.toInt ≤ 200 → (0 ≤ p.toInt ∧ p.toInt ≤ 2 * i.toInt) → qI S 9 13 = p → kd = fX7_kindOfPart S0 k i → v_X7_isMethodType_L44 r u n S k len i kd → v_parameterPlaces_L17 pl T m R k i p → MtE S0 R r u pl T := by
  obtain ⟨f7, hl, hN⟩ := nm_at hE hk
  have o1 : ∀ {a : Int32}, (a + Int32.ofInt 1) = a + (1 : Int32) := fun {a} => rfl
  intro n
  induction n with
  | zero => intro m S i kd p _ _ _ _ _ _ h _; unfold v_X7_isMethodType_L44 at h; exact h.elim
  | succ n ih =>
    intro m S i kd p ht i0 i2 hp e13 ekd h g
    cases m with
    | zero => unfold v_parameterPlaces_L17 at g; exact g.elim
    | succ m =>
      unfold v_X7_isMethodType_L44 at h
      unfold v_parameterPlaces_L17 at g
      obtain ⟨wS, h⟩ := h
      obtain ⟨-, g⟩ := g
      have qi : (i + (1 : Int32)).toInt = i.toInt + 1 := by rw [t_add (by rw [li_1]; omega), li_1]
      have K := kt_of hE hk i0 (by omega)
      rw [← ekd] at K
      -- the end
      have EX : v_X7_isMethodType_J112 r u S k len i → (f_typeAt R k i).toInt ≤ 0 → (d_letter R k i ∧ (((f_letter R k i).toInt = 41 ∧ (∃ a13 : Int32, a13 = (i + Int32.ofInt 1) ∧ (d_letter R k a13 ∧ (((f_letter R k a13).toInt = 86 ∧ (v_parameterPlaces_J94 pl T R 1 k a13 p)) ∨ (¬ (f_letter R k a13).toInt = 86 ∧ (d_typeAt R k a13 ∧ (v_parameterPlaces_J94 pl T R (f_typeAt R k a13) k a13 p))))))) ∨ (¬ (f_letter R k i).toInt = 41 ∧ (pl = (-1 : Int32) ∧ T = R)))) → MtE S0 R r u pl T := fun h hty g => by
        obtain ⟨-, g⟩ := g
        obtain ⟨-, h⟩ := h
        rw [qi] at h
        have NO : ∀ {U : MS}, T3 S0 U → (r = 0 ∧ u = U) → pl = -1 ∧ T = R → MtE S0 R r u pl T := fun tU a b => ⟨by rw [a.2]; exact tU, b.2, Or.inr ⟨a.1, b.1⟩⟩
        by_cases c : i.toInt < (fX7_nameLength S0 k).toInt
        · have s41 := sg_eq (K := 41) (by decide) ((hN i).1 i0 c)
          rcases h with ⟨c2, h⟩ | ⟨c2, -, h⟩
          · rw [el] at c2
            rcases g with ⟨c3, a13, e13', -, g⟩ | ⟨-, g⟩
            · rw [o1] at e13'
              rw [e13', (hN (i + 1)).2 (by rw [qi]; exact c2)] at g
              rcases g with ⟨z, -⟩ | ⟨-, -, g⟩
              · exact absurd z (by decide)
              · have K1 := kt_of (i := i + 1) hE hk (by rw [qi]; omega) (by rw [qi]; omega)
                have t0 : (f_typeAt R k (i + 1)).toInt = 0 := by
                  rcases K1 with ⟨-, b⟩ | ⟨-, -, -, b⟩ | ⟨-, -, -, b⟩ | ⟨-, -, -, b⟩
                  · exact b
                  · rw [qi] at b; omega
                  · rw [qi] at b; omega
                  · rw [qi] at b; omega
                rcases g with ⟨-, g⟩ | ⟨z, -⟩
                · exact NO ht h g
                · rw [t0] at z
                  exact absurd (Int.le_refl _) z
            · exact NO ht h g
          · rw [el] at c2
            rw [ht.ns] at h
            rcases g with ⟨c3, a13, e13', -, g⟩ | ⟨c3, g⟩
            · rcases h with ⟨c4, a22, e22, -, S26, e26, -, w26, h⟩ | ⟨c4, -⟩
              · have ea : a13 = i + (1 : Int32) := by rw [e13', o1]
                have eb : a22 = i + (1 : Int32) := by rw [e22, o1]
                rw [ea] at g
                rw [eb] at h e26
                have t26 : T3 S0 S26 := ht.tr (by rw [e26]; exact T3.wq (Or.inr (Or.inr rfl)) wS)
                have g14 : qI S26 9 14 = fX7_kindOfPart S0 k (i + (1 : Int32)) := by rw [e26, g_eq, ht.kp]
                have p13 : qI S26 9 13 = p := by rw [e26, g_nf (by decide), e13]
                rw [g14, t26.ns] at h
                have K1 := kt_of (i := i + 1) hE hk (by rw [qi]; omega) (by rw [qi]; omega)
                have s86 := sg_eq (K := 86) (by decide) ((hN (i + 1)).1 (by rw [qi]; omega) (by rw [qi]; omega))
                have o2 : (2 : Int32).toInt = 2 := li_2
                have o1' : (1 : Int32).toInt = 1 := li_1
                -- behind both: one compare
                have FI : ∀ (t1 t2 : Int32), t1.toInt = t2.toInt → 0 < t2.toInt → t2.toInt ≤ 2 → v_X7_isMethodType_J179 r u S26 t1 (i + (1 : Int32)) len → v_parameterPlaces_J94 pl T R t2 k (i + (1 : Int32)) p → MtE S0 R r u pl T := fun t1 t2 et h0 h2 h g => by
                  have q1 : ((i + (1 : Int32)) + t1).toInt = i.toInt + 1 + t1.toInt := by rw [t_add (by rw [qi]; omega), qi]
                  have q2 : ((i + (1 : Int32)) + t2).toInt = i.toInt + 1 + t2.toInt := by rw [t_add (by rw [qi]; omega), qi]
                  unfold v_X7_isMethodType_J179 at h
                  unfold v_parameterPlaces_J94 at g
                  rw [q1, el] at h
                  rw [q2, f7] at g
                  obtain ⟨-, h⟩ := h
                  rcases g with ⟨z, -⟩ | ⟨-, -, g⟩
                  · omega
                  rcases h with ⟨c6, er, eu⟩ | ⟨c6, er, eu⟩
                  · rcases g with ⟨-, en, eT⟩ | ⟨c7, -⟩
                    · exact ⟨by rw [eu]; exact t26, eT, Or.inl ⟨er, by rw [en]; exact hp.1, by rw [eu, p13, en]⟩⟩
                    · omega
                  · rcases g with ⟨c7, -⟩ | ⟨-, en, eT⟩
                    · omega
                    · exact ⟨by rw [eu]; exact t26, eT, Or.inr ⟨er, en⟩⟩
                have J165 : v_X7_isMethodType_J165 r u S26 len (i + (1 : Int32)) → ((fX7_kindOfPart S0 k (i + (1 : Int32))).toInt = 3 ∧ v_X7_isMethodType_J179 r u S26 2 (i + (1 : Int32)) len) ∨ (¬ (fX7_kindOfPart S0 k (i + (1 : Int32))).toInt = 3 ∧ v_X7_isMethodType_J179 r u S26 1 (i + (1 : Int32)) len) := fun h => by
                  unfold v_X7_isMethodType_J165 at h
                  rw [g14] at h
                  exact h.2
                rcases K1 with ⟨k0, y0⟩ | ⟨k0, y0, l0, -⟩ | ⟨k0, y0, l0, -⟩ | ⟨k0, y0, l0, -⟩
                · rcases h with ⟨-, -, h⟩ | ⟨z, -⟩
                  · rcases h with ⟨c5, h⟩ | ⟨c5, h⟩
                    · rcases g with ⟨-, g⟩ | ⟨c6, -⟩
                      · rcases J165 h with ⟨z, -⟩ | ⟨-, h⟩
                        · omega
                        · exact FI 1 1 rfl (by decide) (by decide) h g
                      · exact absurd (s86.mp c5) c6
                    · rcases g with ⟨c6, -⟩ | ⟨-, -, g⟩
                      · exact absurd (s86.mpr c6) c5
                      · rcases g with ⟨-, g⟩ | ⟨z, -⟩
                        · exact NO t26 h g
                        · omega
                  · exact absurd k0 z
                · rcases h with ⟨z, -⟩ | ⟨-, h⟩
                  · omega
                  rcases g with ⟨z, -⟩ | ⟨-, -, g⟩
                  · omega
                  rcases J165 h with ⟨z, -⟩ | ⟨-, h⟩
                  · omega
                  · exact FI 1 _ (by rw [o1', y0]) (by omega) (by omega) h g
                · rcases h with ⟨z, -⟩ | ⟨-, h⟩
                  · omega
                  rcases g with ⟨z, -⟩ | ⟨-, -, g⟩
                  · omega
                  rcases J165 h with ⟨z, -⟩ | ⟨-, h⟩
                  · omega
                  · exact FI 1 _ (by rw [o1', y0]) (by omega) (by omega) h g
                · rcases h with ⟨z, -⟩ | ⟨-, h⟩
                  · omega
                  rcases g with ⟨z, -⟩ | ⟨-, -, g⟩
                  · omega
                  rcases J165 h with ⟨-, h⟩ | ⟨z, -⟩
                  · exact FI 2 _ (by rw [o2, y0]) (by omega) (by omega) h g
                  · exact absurd k0 z
              · exact absurd (s41.mpr c3) c4
            · rcases h with ⟨c4, -⟩ | ⟨-, h⟩
              · exact absurd (s41.mp c4) c3
              · exact NO ht h g
        · have l0 := (hN i).2 (by omega)
          rw [l0] at g
          rcases g with ⟨z, -⟩ | ⟨-, g⟩
          · exact absurd z (by decide)
          · rcases h with ⟨-, h⟩ | ⟨c2, -⟩
            · exact NO ht h g
            · rw [el] at c2
              omega
      rcases h with ⟨c, h⟩ | ⟨c, h⟩
      · rcases g with ⟨c2, g⟩ | ⟨c2, -⟩
        · exact EX h c2 g
        · omega
      rcases h with ⟨c2, h⟩ | ⟨c2, S39, e39, -, w39, h⟩
      · rw [el] at c2
        omega
      rcases g with ⟨c3, -⟩ | ⟨-, -, g⟩
      · omega
      have t39 : T3 S0 S39 := ht.tr (by rw [e39]; exact T3.wq (Or.inl rfl) wS)
      have x39 : qI S39 9 13 = p := by rw [e39, g_nf (by decide), e13]
      have lb : i.toInt < 100 := by omega
      have GO : ∀ (t0 : Int32), 1 ≤ t0.toInt → t0.toInt ≤ 2 → v_X7_isMethodType_J83 r u (v_X7_isMethodType_L44 r u n) S39 t0 (qI S39 9 13) k len i kd → v_parameterPlaces_J43 pl T (v_parameterPlaces_L17 pl T m) R t0 p k i → MtE S0 R r u pl T := fun t0 g1 g2 h g => by
        obtain ⟨-, S41, e41, -, w41, h⟩ := h
        obtain ⟨a30, e30, -, a35, e35, g⟩ := g
        rw [x39] at e41
        have t41 : T3 S0 S41 := t39.tr (by rw [e41]; exact T3.wq (Or.inr (Or.inl rfl)) w39)
        have x41 : qI S41 9 13 = a30 := by rw [e41, g_eq, e30]
        have y30 : a30.toInt = p.toInt + t0.toInt := by rw [e30, t_add (by omega)]
        have FIN : ∀ (d : Int32), d.toInt = (f_typeAt R k i).toInt → v_X7_isMethodType_J99 r u (v_X7_isMethodType_L44 r u n) S41 d i k len → MtE S0 R r u pl T := fun d ed h => by
          obtain ⟨-, a43, e43, -, a47, e47, h⟩ := h
          have ea : a43 = a35 := Int32.toInt_inj.mp (by rw [e43, e35, t_add (by omega), t_add (by omega)]; omega)
          have y35 : a35.toInt = i.toInt + (f_typeAt R k i).toInt := by rw [e35, t_add (by omega)]
          rw [ea] at h e47
          exact ih m t41 (by omega) (by omega) ⟨by omega, by omega⟩ x41 (by rw [e47, t41.kp]) h g
        rcases h with ⟨c4, h⟩ | ⟨c4, h⟩
        · exact FIN 2 (by rw [li_2]; omega) h
        · exact FIN 1 (by rw [li_1]; omega) h
      rcases h with ⟨c4, h⟩ | ⟨c4, h⟩
      · rcases g with ⟨-, g⟩ | ⟨c5, -⟩
        · exact GO 2 (by decide) (by decide) h g
        · omega
      · rcases g with ⟨c5, -⟩ | ⟨-, g⟩
        · omega
        · exact GO 1 (by decide) (by decide) h g
theorem s_mt (hE : LyE S R) (hk : (fX7_tagOf S k).toInt = 1) (wS : wfC S) (h : vX7_isMethodType S k r u) (g : v_parameterPlaces R k c T) : MtE S R r u c T := by
  obtain ⟨-, hl, hN⟩ := nm_at hE hk
  obtain ⟨S1, e1, -, w1, S2, e2, -, w2, S3, e3, -, w3, -, a7, e7, -, h⟩ := h
  have t1 : T3 S S1 := by rw [e1]; exact T3.wq (Or.inl rfl) wS
  have t2 : T3 S S2 := t1.tr (by rw [e2]; exact T3.wq (Or.inr (Or.inl rfl)) w1)
  have t3 : T3 S S3 := t2.tr (by rw [e3]; exact T3.wq (Or.inr (Or.inr rfl)) w2)
  obtain ⟨-, g⟩ := g
  rw [t3.ns] at h
  have s40 := sg_eq (K := 40) (by decide) ((hN 0).1 (by decide) (by rw [show (0 : Int32).toInt = 0 from rfl]; omega))
  rcases h with ⟨c1, -, a15, e15, n, h⟩ | ⟨c1, er, eu⟩
  · rcases g with ⟨-, m, g⟩ | ⟨c2, -⟩
    · refine s_mtL hE hk (by rw [e7, t3.nl]) n m t3 (i := 1) (p := 0) (by decide) (by decide) (by decide) ?_ (by rw [e15, t3.kp]) h g
      rw [e3, g_nf (by decide), e2, g_eq]
    · exact absurd (s40.mp c1) c2
  · rcases g with ⟨c2, -⟩ | ⟨-, en, eT⟩
    · exact absurd (s40.mpr c2) c1
    · exact ⟨by rw [eu]; exact t3, eT, Or.inr ⟨er, en⟩⟩
theorem kt_ty (hE : LyE S R) (hk : (fX7_tagOf S k).toInt = 1) : (f_isType R k).toInt ≠ 0 ↔ (fX7_kindOfType S k).toInt ≠ 0 := by
  obtain ⟨f7, hl, hN⟩ := nm_at hE hk
  have K := kt_of (i := 0) hE hk (by decide) (by decide)
  have o1 : (1 : Int32).toInt = 1 := li_1
  have o2 : (2 : Int32).toInt = 2 := li_2
  unfold f_isType fX7_kindOfType f_isType_J28 f_X7_kindOfType_J22
  rw [f7]
  rcases K with ⟨a, b⟩ | ⟨a, b, -⟩ | ⟨a, b, -⟩ | ⟨a, b, -⟩
  · rw [if_pos (show (f_typeAt R k 0).toInt ≤ 0 by omega), if_neg (show ¬ (fX7_kindOfPart S k 0).toInt = 3 by omega), o1]
    by_cases c : (fX7_nameLength S k).toInt = 1
    · rw [if_pos c]
      exact ⟨fun q => absurd (by decide) q, fun q => absurd a q⟩
    · rw [if_neg c]
  · rw [if_neg (show ¬ (f_typeAt R k 0).toInt ≤ 0 by omega), if_neg (show ¬ (fX7_kindOfPart S k 0).toInt = 3 by omega), o1, b]
    by_cases c : (fX7_nameLength S k).toInt = 1
    · rw [if_pos c, if_pos c.symm]
      exact ⟨fun _ => by omega, fun _ => by decide⟩
    · rw [if_neg c, if_neg (fun q => c q.symm)]
  · rw [if_neg (show ¬ (f_typeAt R k 0).toInt ≤ 0 by omega), if_neg (show ¬ (fX7_kindOfPart S k 0).toInt = 3 by omega), o1, b]
    by_cases c : (fX7_nameLength S k).toInt = 1
    · rw [if_pos c, if_pos c.symm]
      exact ⟨fun _ => by omega, fun _ => by decide⟩
    · rw [if_neg c, if_neg (fun q => c q.symm)]
  · rw [if_neg (show ¬ (f_typeAt R k 0).toInt ≤ 0 by omega), if_pos a, o2, b]
    by_cases c : (fX7_nameLength S k).toInt = 2
    · rw [if_pos c, if_pos c.symm]
      exact ⟨fun _ => by omega, fun _ => by decide⟩
    · rw [if_neg c, if_neg (fun q => c q.symm)]
end MT
