/-! rules 7 and 8: flags; the file's classes -/
section FL
variable {S S' R R' T u w : MS} {x y z r c v e len o N i x1 k t : Int32} {oo : MS ⊕ MS}
theorem MbC.at {q2 : Int32} {a2 : Nat} : ∀ (n : Nat) {k : Nat} {q : Int32} {a : Nat}, MbC S R n k q a q2 a2 → ∀ j : Nat, k ≤ j → j < k + n → qI S 12 j = qI R 9 j ∧ 0 < (qI R 9 j).toInt ∧ (qI R 9 j).toInt + 8 ≤ (qI S 9 1).toInt := by
  intro n
  induction n with
  | zero => intro k q a _ j h1 h2; omega
  | succ n ih =>
    intro k q a h j h1 h2
    obtain ⟨⟨e1, e2, e3, e4⟩, o, q1, -, -, h⟩ := h
    by_cases c : j = k
    · rw [c, e1, e2]
      exact ⟨rfl, e3, e4⟩
    · exact ih h j (by omega) (by omega)
theorem LyE.mem (h : LyE S R) (j : Nat) (hj : (j : Int) < (qI S 9 7).toInt + (qI S 9 8).toInt) : qI S 12 j = qI R 9 j ∧ 0 < (qI R 9 j).toInt ∧ (qI R 9 j).toInt + 8 ≤ (qI S 9 1).toInt := by
  obtain ⟨-, -, -, -, -, -, ⟨-, m1, m2, -⟩, ⟨q0, q1, a1, a2, -, M1, M2, -⟩, -⟩ := h
  by_cases c : (j : Int) < (qI S 9 7).toInt
  · exact M1.at _ j (Nat.zero_le _) (by omega)
  · exact M2.at _ j (by omega) (by omega)
theorem LyE.cnt (h : LyE S R) : (0 ≤ (qI S 9 7).toInt ∧ (qI S 9 7).toInt ≤ 24) ∧ (0 ≤ (qI S 9 8).toInt ∧ (qI S 9 8).toInt ≤ 24) ∧ (qI R 0 21).toInt = (qI S 9 7).toInt + (qI S 9 8).toInt ∧ ((qI S 9 7) + (qI S 9 8)).toInt = (qI S 9 7).toInt + (qI S 9 8).toInt ∧ qI R 0 22 = qI S 9 7 := by
  obtain ⟨-, -, -, -, -, -, ⟨m0, m1, m2, m3⟩, -⟩ := h
  exact ⟨m1, m2, m3, t_add (by omega), m0⟩
theorem LyE.mp (h : LyE S R) (h0 : 0 ≤ k.toInt) (hk : k.toInt < (qI S 9 7).toInt + (qI S 9 8).toInt) : fX7_memberPlace S k = qI R 9 k.toInt.toNat := by
  obtain ⟨m1, m2, -⟩ := h.cnt
  unfold fX7_memberPlace
  rw [if_neg (by omega), if_pos (by omega), (h.mem k.toInt.toNat (by omega)).1]
theorem LyE.bt (h : LyE S R) : BtE S R := h.1
theorem LyE.u2 (h : LyE S R) (h0 : 0 ≤ x.toInt) (h1 : x.toInt + 2 ≤ (qI S 9 1).toInt) : f_two R x = fX7_u2 S x := (h.1.u2 h0 h1).symm
theorem LyE.hd (h : LyE S R) : qI R 0 20 = qI S 9 6 ∧ 0 < (qI S 9 6).toInt ∧ (qI S 9 6).toInt + 8 ≤ (qI S 9 1).toInt ∧ (qI S 9 1).toInt ≤ 131072 := by
  obtain ⟨b, -, -, -, -, ⟨a1, a2, a3⟩, -⟩ := h
  exact ⟨a1, a2, a3, b.2.1.2.1⟩
theorem s_flagsL (hE : LyE S R) : ∀ (n m : Nat) {k : Int32}, 0 ≤ k.toInt → k.toInt ≤ 48 → v_X7_flagsHold_L26 r u n S k → v_flags_L30 oo m R k → PsE S R r u oo := by
  intro n
  induction n with
  | zero => intro m k _ _ h _; unfold v_X7_flagsHold_L26 at h; exact h.elim
  | succ n ih =>
    intro m k k1 k5 h g
    cases m with
    | zero => unfold v_flags_L30 at g; exact g.elim
    | succ m =>
      obtain ⟨m1, m2, m3, m4, -⟩ := hE.cnt
      unfold v_X7_flagsHold_L26 at h
      unfold v_flags_L30 at g
      rw [m3] at g
      obtain ⟨-, h⟩ := h
      rw [m4] at h
      rcases h with ⟨c, er, eu⟩ | ⟨c, -, a11, e11, -, a15, e15, h⟩
      · rcases g with ⟨-, g⟩ | ⟨c2, -⟩
        · exact Or.inl ⟨er, eu, g⟩
        · exact absurd c c2
      rcases g with ⟨c2, -⟩ | ⟨-, -, -, g⟩
      · exact absurd c2 c
      obtain ⟨b1, b2, b3⟩ := hE.mem k.toInt.toNat (by omega)
      have mp := hE.mp (k := k) k1 (by omega)
      rw [mp] at e11
      rw [hE.u2 (by omega) (by omega), ← e11, ← e15] at g
      have JJ : ∀ {t : Int32}, v_flags_J59 oo (v_flags_L30 oo m) R t k → (t.toInt ≠ 0 ∧ ∃ a : Int32, a = k + Int32.ofInt 1 ∧ v_flags_L30 oo m R a) ∨ (t.toInt = 0 ∧ oo = .inr (rBk R 7 a11)) := fun hj => by
        obtain ⟨-, hj⟩ := hj
        rw [← e11] at hj
        rcases hj with ⟨S6, hm, a, ea, hj⟩ | ⟨u9, hm, hj⟩
        · rcases rv_must hm with ⟨q, z⟩ | ⟨q, z⟩
          · injection z with z
            rw [z] at hj
            exact Or.inl ⟨q, a, ea, hj⟩
          · exact nomatch z
        · rcases rv_must hm with ⟨q, z⟩ | ⟨q, z⟩
          · exact nomatch z
          · injection z with z
            exact Or.inr ⟨q, by rw [hj, z]⟩
      rcases h with ⟨c5, a17, e17, h⟩ | ⟨c5, -, a21, e21, r23, S24, h, -, -, er, eu⟩
      · rcases g with ⟨-, g⟩ | ⟨c6, -⟩
        · rcases JJ g with ⟨-, a, ea, g⟩ | ⟨q, -⟩
          · have ek : a17.toInt = k.toInt + 1 := by rw [e17, t_add (by rw [show (Int32.ofInt 1).toInt = 1 from rfl]; omega)]; rfl
            rw [ea, ← e17] at g
            exact ih m (by omega) (by omega) h g
          · exact absurd q (by decide)
        · exact absurd c5 c6
      · rcases g with ⟨c6, -⟩ | ⟨-, g⟩
        · exact absurd c6 c5
        · rcases JJ g with ⟨q, -⟩ | ⟨-, e⟩
          · exact absurd (by decide) q
          · obtain ⟨a, b⟩ := cv_breaks h
            exact Or.inr ⟨by rw [er, a], _, e, by rw [eu, b, e21, mp, ← e11]; exact badP⟩
theorem s_flags (hE : LyE S R) (h : vX7_flagsHold S r u) (g : v_flags R oo) : PsE S R r u oo := by
  obtain ⟨d1, d2, d3, d4⟩ := hE.hd
  obtain ⟨-, a4, e4, h⟩ := h
  obtain ⟨-, g⟩ := g
  rw [d1, hE.u2 (by omega) (by omega), ← e4] at g
  have JJ : ∀ {t : Int32}, v_flags_J19 oo R t → (t.toInt ≠ 0 ∧ ∃ n, v_flags_L30 oo n R 0) ∨ (t.toInt = 0 ∧ oo = .inr (rBk R 7 (qI S 9 6))) := fun hj => by
    unfold v_flags_J19 at hj
    rw [d1] at hj
    rcases hj with ⟨S6, hm, n, hj⟩ | ⟨u9, hm, hj⟩
    · rcases rv_must hm with ⟨q, z⟩ | ⟨q, z⟩
      · injection z with z
        rw [z] at hj
        exact Or.inl ⟨q, n, hj⟩
      · exact nomatch z
    · rcases rv_must hm with ⟨q, z⟩ | ⟨q, z⟩
      · exact nomatch z
      · injection z with z
        exact Or.inr ⟨q, by rw [hj, z]⟩
  rcases h with ⟨c, n, h⟩ | ⟨c, r27, S28, h, -, -, er, eu⟩
  · rcases g with ⟨-, g⟩ | ⟨c2, -⟩
    · rcases JJ g with ⟨-, m, g⟩ | ⟨q, -⟩
      · exact s_flagsL hE n m (by decide) (by decide) h g
      · exact absurd q (by decide)
    · exact absurd c c2
  · rcases g with ⟨c2, -⟩ | ⟨-, g⟩
    · exact absurd c2 c
    · rcases JJ g with ⟨q, -⟩ | ⟨-, e⟩
      · exact absurd (by decide) q
      · obtain ⟨a, b⟩ := cv_breaks h
        exact Or.inr ⟨by rw [er, a], _, e, by rw [eu, b]; exact badP⟩
theorem s_heads (hE : LyE S R) (h : vX7_headHolds S r u) (g : v_classes R oo) : PsE S R r u oo := by
  obtain ⟨d1, d2, d3, d4⟩ := hE.hd
  have q2 : ((qI S 9 6) + (2 : Int32)).toInt = (qI S 9 6).toInt + 2 := by rw [t_add (by rw [li_2]; omega), li_2]
  have q4 : ((qI S 9 6) + (4 : Int32)).toInt = (qI S 9 6).toInt + 4 := by rw [t_add (by rw [li_4]; omega), li_4]
  have q6 : ((qI S 9 6) + (6 : Int32)).toInt = (qI S 9 6).toInt + 6 := by rw [t_add (by rw [li_6]; omega), li_6]
  have i7 : ∀ {a : Int32}, (f_isEntry R a (7 : Int32)).toInt ≠ 0 ↔ (fX7_tagOf S a).toInt = 7 := ie_of (t := 7) hE (by decide)
  obtain ⟨-, -, g⟩ := g
  rw [d1, hE.u2 (by omega) (by omega)] at g
  obtain ⟨-, a5, e5, -, a9, e9, h⟩ := h
  rw [← e5] at g
  rw [e9] at h
  have BAD : ∀ {p : Int32}, vX7_breaks S (8 : Int32) p r u → oo = .inr (rBk R 8 p) → PsE S R r u oo := fun h e => by
    obtain ⟨a, b⟩ := cv_breaks h
    exact Or.inr ⟨a, _, e, by rw [b]; exact badP⟩
  rcases h with ⟨c, h⟩ | ⟨c, r40, S41, h, -, -, er, eu⟩
  · rcases g with ⟨S10, hm, g⟩ | ⟨u9, hm, -⟩
    · rcases rv_must hm with ⟨-, z⟩ | ⟨q, -⟩
      · injection z with z
        rw [z] at g
        obtain ⟨-, -, g⟩ := g
        rw [d1, hE.u2 (by omega) (by omega)] at g
        obtain ⟨-, a15, e15, -, a19, e19, h⟩ := h
        rw [← e15] at g
        rw [e19] at h
        rcases h with ⟨c2, h⟩ | ⟨c2, r35, S36, h, -, -, er, eu⟩
        · rcases g with ⟨S21, hm, g⟩ | ⟨u9, hm, -⟩
          · rcases rv_must hm with ⟨-, z⟩ | ⟨q, -⟩
            · injection z with z
              rw [z] at g
              obtain ⟨-, g⟩ := g
              rw [d1, hE.u2 (by omega) (by omega)] at g
              obtain ⟨-, a25, e25, h⟩ := h
              rw [← e25] at g
              have JJ : ∀ {t : Int32}, v_classes_J76 oo R t → (t.toInt ≠ 0 ∧ oo = .inl R) ∨ (t.toInt = 0 ∧ oo = .inr (rBk R 8 ((qI S 9 6) + (6 : Int32)))) := fun hj => by
                unfold v_classes_J76 at hj
                rw [d1] at hj
                rcases hj with ⟨S6, hm, hj⟩ | ⟨u9, hm, hj⟩
                · rcases rv_must hm with ⟨q, z⟩ | ⟨q, z⟩
                  · injection z with z
                    rw [z] at hj
                    exact Or.inl ⟨q, hj⟩
                  · exact nomatch z
                · rcases rv_must hm with ⟨q, z⟩ | ⟨q, z⟩
                  · exact nomatch z
                  · injection z with z
                    exact Or.inr ⟨q, by rw [hj, z]⟩
              rcases h with ⟨c3, -, er, eu⟩ | ⟨c3, r29, S30, h, -, -, h2⟩
              · rcases g with ⟨-, g⟩ | ⟨c4, -⟩
                · rcases JJ g with ⟨-, e⟩ | ⟨q, -⟩
                  · exact Or.inl ⟨er, eu, e⟩
                  · exact absurd q (by decide)
                · exact absurd c3 c4
              · rcases g with ⟨c4, -⟩ | ⟨-, g⟩
                · exact absurd c4 c3
                · rcases JJ g with ⟨q, -⟩ | ⟨-, e⟩
                  · exact absurd (by decide) q
                  · obtain ⟨a, b⟩ := cv_breaks h
                    rcases h2 with ⟨-, er, eu⟩ | ⟨z, -⟩
                    · exact Or.inr ⟨er, _, e, by rw [eu, b]; exact badP⟩
                    · exact absurd (by rw [a]; decide) z
            · exact absurd q (i7.mpr c2)
          · rcases rv_must hm with ⟨-, z⟩ | ⟨q, -⟩
            · exact nomatch z
            · exact absurd q (i7.mpr c2)
        · rcases g with ⟨S21, hm, -⟩ | ⟨u9, hm, g⟩
          · rcases rv_must hm with ⟨q, -⟩ | ⟨-, z⟩
            · exact absurd (i7.mp q) c2
            · exact nomatch z
          · rcases rv_must hm with ⟨-, z⟩ | ⟨-, z⟩
            · exact nomatch z
            · injection z with z
              exact BAD (p := (qI S 9 6) + (4 : Int32)) (by rw [er, eu]; exact h) (by rw [g, z])
      · exact absurd q (i7.mpr c)
    · rcases rv_must hm with ⟨-, z⟩ | ⟨q, -⟩
      · exact nomatch z
      · exact absurd q (i7.mpr c)
  · rcases g with ⟨S10, hm, -⟩ | ⟨u9, hm, g⟩
    · rcases rv_must hm with ⟨q, -⟩ | ⟨-, z⟩
      · exact absurd (i7.mp q) c
      · exact nomatch z
    · rcases rv_must hm with ⟨-, z⟩ | ⟨-, z⟩
      · exact nomatch z
      · injection z with z
        exact BAD (p := (qI S 9 6) + (2 : Int32)) (by rw [er, eu]; exact h) (by rw [g, z])
end FL
