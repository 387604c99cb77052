/-! rule 11, put together -/
section TX
variable {S S' R R' T u w : MS} {x y z r c v e len o N i x1 k t a b : Int32} {oo : MS ⊕ MS}
theorem LyE.no (hE : LyE S R) (h0 : 0 ≤ k.toInt) (hk : k.toInt < (qI S 9 7).toInt + (qI S 9 8).toInt) : f_two R ((qI R 9 k.toInt.toNat) + (2 : Int32)) = fX7_nameOf S k := by
  obtain ⟨b1, b2, b3⟩ := hE.mem k.toInt.toNat (by omega)
  have hb2 := hE.1.2.1
  have q2 : ((qI R 9 k.toInt.toNat) + (2 : Int32)).toInt = (qI R 9 k.toInt.toNat).toInt + 2 := by rw [t_add (by rw [li_2]; omega), li_2]
  rw [hE.u2 (by omega) (by omega)]
  unfold fX7_nameOf
  rw [hE.mp h0 hk]
theorem s_twL34 (hE : LyE S R) (me : ∀ j : Int32, 0 ≤ j.toInt → j.toInt < ((qI S 9 7) + (qI S 9 8)).toInt → MeN S j) {K1 K2 : MS → Int32 → Prop} (k0 : 0 ≤ k.toInt) (hk : k.toInt < (qI S 9 7).toInt + (qI S 9 8).toInt) : ∀ (n m : Nat) {j : Int32}, 0 ≤ j.toInt → j.toInt ≤ k.toInt → v_X7_noTwins_L34 r u K1 n S k j → v_twice_L29 oo K2 m R k j → (∃ a : Int32, a = k + Int32.ofInt 1 ∧ K1 S a ∧ K2 R a) ∨ (r = 0 ∧ ∃ w, oo = .inr w ∧ BadP u w) := by
  intro n
  induction n with
  | zero => intro m j _ _ h _; unfold v_X7_noTwins_L34 at h; exact h.elim
  | succ n ih =>
    intro m j j0 jk h g
    cases m with
    | zero => unfold v_twice_L29 at g; exact g.elim
    | succ m =>
      have m4 := hE.cnt.2.2.2.1
      unfold v_X7_noTwins_L34 at h
      unfold v_twice_L29 at g
      obtain ⟨-, h⟩ := h
      rcases h with ⟨c, a4, e4, h⟩ | ⟨c, -, a8, e8, -, a12, e12, r14, S15, h14, -, -, h⟩
      · rcases g with ⟨-, a3, e3, g⟩ | ⟨c2, -⟩
        · rw [e3, ← e4] at g
          exact Or.inl ⟨a4, e4, h, g⟩
        · exact absurd c c2
      rcases g with ⟨c2, -⟩ | ⟨-, -, -, -, -, r17, S18, g17, g⟩
      · exact absurd c2 c
      rw [hE.no j0 (by omega), hE.no k0 hk] at g17
      have A := (me j j0 (by omega)).1
      have B := (me k k0 (by omega)).1
      rw [e8, e12] at h14
      obtain ⟨eT, P⟩ := rv_isSame hE A B g17
      obtain ⟨eS, Q⟩ := cv_same hE A B h14
      rw [eS] at h
      rw [eT] at g
      have JR : ∀ {t : Int32}, v_twice_J71 oo (v_twice_L29 oo K2 m) R t k j → (t.toInt = 0 ∧ oo = .inr (rBk R 11 ((qI R 9 k.toInt.toNat) + (2 : Int32)))) ∨ (t.toInt ≠ 0 ∧ ∃ a : Int32, a = j + Int32.ofInt 1 ∧ v_twice_L29 oo K2 m R k a) := fun hj => by
        obtain ⟨-, hj⟩ := hj
        rcases hj with ⟨S6, hm, a, ea, hj⟩ | ⟨u9, hm, hj⟩
        · rcases rv_must hm with ⟨q, z⟩ | ⟨q, z⟩
          · injection z with z
            rw [z] at hj
            exact Or.inr ⟨q, a, ea, hj⟩
          · exact nomatch z
        · rcases rv_must hm with ⟨q, z⟩ | ⟨q, z⟩
          · exact nomatch z
          · injection z with z
            exact Or.inl ⟨q, by rw [hj, z]⟩
      rcases Q with ⟨er, q⟩ | ⟨er, q⟩
      · rcases h with ⟨z, -⟩ | ⟨-, -, a22, e22, r25, S26, h, -, -, er25, eu⟩
        · exact absurd z (by rw [er]; decide)
        rcases P with ⟨ep, -⟩ | ⟨-, p⟩
        · rcases g with ⟨z, -⟩ | ⟨-, g⟩
          · exact absurd z (by rw [ep]; decide)
          · rcases JR g with ⟨-, e⟩ | ⟨z, -⟩
            · obtain ⟨a, b⟩ := cv_breaks h
              exact Or.inr ⟨by rw [er25, a], _, e, by rw [eu, b, e22, hE.mp k0 hk]; exact badP⟩
            · exact absurd (by decide) z
        · exact absurd q p
      · rcases h with ⟨-, a18, e18, h⟩ | ⟨z, -⟩
        · rcases P with ⟨-, p⟩ | ⟨ep, -⟩
          · exact absurd p q
          · rcases g with ⟨-, g⟩ | ⟨z, -⟩
            · rcases JR g with ⟨z, -⟩ | ⟨-, a, ea, g⟩
              · exact absurd z (by decide)
              · have ej : a18.toInt = j.toInt + 1 := by rw [e18, t_add (by rw [show (Int32.ofInt 1).toInt = 1 from rfl]; omega)]; rfl
                rw [ea, ← e18] at g
                exact ih m (by omega) (by omega) h g
            · exact absurd (by rw [ep]; rfl) z
        · exact absurd (by rw [er]; rfl) z
theorem s_twL2 (hE : LyE S R) (me : ∀ j : Int32, 0 ≤ j.toInt → j.toInt < ((qI S 9 7) + (qI S 9 8)).toInt → MeN S j) : ∀ (n m : Nat) {k : Int32}, 0 ≤ k.toInt → k.toInt ≤ 48 → v_X7_noTwins_L2 r u n S k → v_twice_L2 oo m R k → PsE S R r u oo := by
  intro n
  induction n with
  | zero => intro m k _ _ h _; unfold v_X7_noTwins_L2 at h; exact h.elim
  | succ n ih =>
    intro m k k0 k4 h g
    cases m with
    | zero => unfold v_twice_L2 at g; exact g.elim
    | succ m =>
      obtain ⟨m1, m2, m3, m4, m5⟩ := hE.cnt
      unfold v_X7_noTwins_L2 at h
      unfold v_twice_L2 at g
      rw [m3, m5] at g
      obtain ⟨-, h⟩ := h
      rw [m4] at h
      rcases h with ⟨c, er, eu⟩ | ⟨c, h⟩
      · rcases g with ⟨-, g⟩ | ⟨c2, -⟩
        · exact Or.inl ⟨er, eu, g⟩
        · exact absurd c c2
      rcases g with ⟨c2, -⟩ | ⟨-, g⟩
      · exact absurd c2 c
      have GO : ∀ {t : Int32}, 0 ≤ t.toInt → t.toInt ≤ k.toInt → v_X7_noTwins_J31 r u (v_X7_noTwins_L2 r u n) S t k → v_twice_J26 oo (v_twice_L2 oo m) R t k → PsE S R r u oo := fun t0 tk h g => by
        obtain ⟨-, n1, h⟩ := h
        obtain ⟨m1', g⟩ := g
        rcases s_twL34 hE me k0 (by omega) n1 m1' t0 tk h g with ⟨a, ea, h, g⟩ | q
        · have ek : a.toInt = k.toInt + 1 := by rw [ea, t_add (by rw [show (Int32.ofInt 1).toInt = 1 from rfl]; omega)]; rfl
          exact ih m (by omega) (by omega) h g
        · exact Or.inr q
      rcases h with ⟨c3, h⟩ | ⟨c3, h⟩
      · rcases g with ⟨-, g⟩ | ⟨c4, -⟩
        · exact GO m1.1 c3 h g
        · exact absurd c3 c4
      · rcases g with ⟨c4, -⟩ | ⟨-, g⟩
        · exact absurd c4 c3
        · exact GO (by decide) (by rw [show (0 : Int32).toInt = 0 from rfl]; exact k0) h g
theorem s_twice (hE : LyE S R) (me : ∀ j : Int32, 0 ≤ j.toInt → j.toInt < ((qI S 9 7) + (qI S 9 8)).toInt → MeN S j) (h : vX7_noTwins S r u) (g : v_twice R oo) : PsE S R r u oo := by
  obtain ⟨n, h⟩ := h
  obtain ⟨m, g⟩ := g
  exact s_twL2 hE me n m (by decide) (by decide) h g
end TX
