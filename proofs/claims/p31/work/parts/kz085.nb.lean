/-! rule 9, put together -/
section NB
variable {S S' R R' T u w : MS} {x y z r c v e len o N i x1 k t : Int32} {oo : MS ⊕ MS}
/-- members n on, from number k: in both loops -/
theorem s_naL (hE : LyE S R) {a2 aF : Nat} {q2 qF : Int32} {tot : Int} (hF : AtC S R (-1) (fX7_u2 S (qI S 9 16)).toInt.toNat ((qI S 9 16) + (2 : Int32)) aF qF) (hA : (qI R 0 25).toInt = aF + (fX7_u2 S (qI S 9 16)).toInt)
    {K2 : Prop} (hnext : ∀ (n m : Nat) {a k : Int32}, a.toInt = a2 → k.toInt = tot → v_X7_namesHold_L2 r u n S k → v_names_L4 oo m R a k → PsE S R r u oo) (hown : ∀ b : Nat, a2 ≤ b → (b : Int) < (qI R 0 25).toInt → (qI R 11 b).toInt < 0 ∨ tot ≤ (qI R 11 b).toInt) (htot : 0 ≤ tot ∧ tot ≤ (qI S 9 7).toInt + (qI S 9 8).toInt) (ha2 : (a2 : Int) ≤ (qI R 0 25).toInt) : ∀ (c n m : Nat) {k a q : Int32}, MbC S R c k.toInt.toNat q a.toInt.toNat q2 a2 → 0 ≤ k.toInt → k.toInt + c = tot → 0 ≤ a.toInt → v_X7_namesHold_L2 r u n S k → v_names_L4 oo m R a k → PsE S R r u oo := by
  intro c
  induction c with
  | zero =>
    intro n m k a q hM k0 hk a0 h g
    have e := hM.2
    exact hnext n m (by omega) (by omega) h g
  | succ c ih =>
    intro n m k a q hM k0 hk a0 h g
    cases n with
    | zero => unfold v_X7_namesHold_L2 at h; exact h.elim
    | succ n =>
      cases m with
      | zero => unfold v_names_L4 at g; exact g.elim
      | succ m =>
        obtain ⟨m1, m2, m3, m4, -⟩ := hE.cnt
        unfold v_X7_namesHold_L2 at h
        unfold v_names_L4 at g
        rw [m3] at g
        obtain ⟨-, h⟩ := h
        rw [m4] at h
        obtain ⟨⟨c1, c2, c3, c4⟩, oN, q1, ho, hA', hM'⟩ := hM
        rcases h with ⟨z, -⟩ | ⟨-, -, a10, e10, h⟩
        · omega
        rcases g with ⟨z, -⟩ | ⟨-, -, g⟩
        · omega
        have mp := hE.mp (k := k) k0 (by omega)
        rw [mp, c2] at e10
        have l := MbC.le _ hM'
        have rg := rg_u2 (S := S) (x := q + (6 : Int32))
        have hno : ∀ b : Nat, a.toInt.toNat + (fX7_u2 S (q + (6 : Int32))).toInt.toNat ≤ b → (b : Int) < (qI R 0 25).toInt → (qI R 11 b).toInt ≠ k.toInt := fun b h1 h2 => by
          clear h g
          by_cases cb : b < a2
          · have := MbC.own _ hM' b h1 cb
            omega
          · rcases hown b (by omega) h2 with q | q <;> omega
        have hb : ∀ {rr : Int32} {uu : MS}, (∃ (r13 : Int32) (S14 : MS), vX7_isNameAt S (a10 + (2 : Int32)) r13 S14 ∧ ((r13.toInt = 0 ∧ rr = 0 ∧ uu = S14) ∨ (¬ r13.toInt = 0 ∧ ∃ (r19 : Int32) (S20 : MS), vX7_isNameAt S14 (a10 + (4 : Int32)) r19 S20 ∧ ((r19.toInt = 0 ∧ rr = 0 ∧ uu = S20) ∨ (¬ r19.toInt = 0 ∧ vX7_attributeNamesHold S20 (a10 + (6 : Int32)) rr uu))))) → (rr = 1 ∧ uu = S ∧ ∃ b j : Int32, b.toInt = a.toInt + (fX7_u2 S (q + (6 : Int32))).toInt ∧ j = k + Int32.ofInt 1 ∧ v_names_L4 oo m R b j) ∨ (rr = 0 ∧ ∃ w, oo = .inr w ∧ BadP uu w) := fun hh => s_naM (n2 := 0) hE ⟨c3, c4⟩ e10 c2 (by clear hh h g; rw [ho]; omega) hA' a0 (by clear hh h g; omega) (fun q => hno _ (by clear hh h g; omega) (by clear hh h g; omega)) hh g
        obtain ⟨r13, S14, h13, -, -, h⟩ := h
        rcases h with ⟨z, er, eu⟩ | ⟨z, r19, S20, h19, -, -, h⟩
        · rcases hb ⟨r13, S14, h13, Or.inl ⟨z, er, eu⟩⟩ with ⟨er1, -⟩ | ⟨er1, w, e, hbad⟩
          · rw [er] at er1
            exact absurd er1 (by decide)
          · exact Or.inr ⟨er1, w, e, hbad⟩
        rcases h with ⟨z2, er, eu⟩ | ⟨z2, r25, S26, h25, -, -, h⟩
        · rcases hb ⟨r13, S14, h13, Or.inr ⟨z, r19, S20, h19, Or.inl ⟨z2, er, eu⟩⟩⟩ with ⟨er1, -⟩ | ⟨er1, w, e, hbad⟩
          · rw [er] at er1
            exact absurd er1 (by decide)
          · exact Or.inr ⟨er1, w, e, hbad⟩
        rcases hb ⟨r13, S14, h13, Or.inr ⟨z, r19, S20, h19, Or.inr ⟨z2, h25⟩⟩⟩ with ⟨er1, eS, b, j, eb, ej, g⟩ | ⟨er1, w, e, hbad⟩
        · rcases h with ⟨z3, -⟩ | ⟨-, a29, e29, h⟩
          · exact absurd z3 (by rw [er1]; decide)
          rw [eS] at h
          have ek : a29.toInt = k.toInt + 1 := by rw [e29, t_add (by rw [show (Int32.ofInt 1).toInt = 1 from rfl]; omega)]; rfl
          rw [ej, ← e29] at g
          have nk : a29.toInt.toNat = k.toInt.toNat + 1 := by omega
          have nb : b.toInt.toNat = a.toInt.toNat + (fX7_u2 S (q + (6 : Int32))).toInt.toNat := by omega
          exact ih n m (by rw [nk, nb]; exact hM') (by omega) (by omega) (by omega) h g
        · rcases h with ⟨-, er, eu⟩ | ⟨z3, -⟩
          · exact Or.inr ⟨er, w, e, by rw [eu]; exact hbad⟩
          · exact absurd (by rw [er1]; decide) z3
theorem s_names (hE : LyE S R) (h : vX7_namesHold S r u) (g : v_names R oo) : PsE S R r u oo := by
  obtain ⟨n, h⟩ := h
  obtain ⟨m, g⟩ := g
  have hE' := hE
  obtain ⟨-, -, -, -, -, -, ⟨-, m1, m2, m3⟩, ⟨q0, q1, a1, a2, -, M1, M2, AF, hA, ⟨f0, f1⟩, -, -⟩, -⟩ := hE'
  have rgF := rg_u2 (S := S) (x := qI S 9 16)
  have m4 := hE.cnt.2.2.2.1
  have l1 := MbC.le _ M1
  have l2 := MbC.le _ M2
  have mm1 : (-1 : Int32).toInt = -1 := by decide
  -- the file's own, behind all members
  have FIN : ∀ (n m : Nat) {a k : Int32}, a.toInt = a2 → k.toInt = (qI S 9 7).toInt + (qI S 9 8).toInt → v_X7_namesHold_L2 r u n S k → v_names_L4 oo m R a k → PsE S R r u oo := fun n m a k ea ek h g => by
    cases n with
    | zero => unfold v_X7_namesHold_L2 at h; exact h.elim
    | succ n =>
      cases m with
      | zero => unfold v_names_L4 at g; exact g.elim
      | succ m =>
        unfold v_X7_namesHold_L2 at h
        unfold v_names_L4 at g
        rw [m3] at g
        obtain ⟨-, h⟩ := h
        rw [m4] at h
        rcases h with ⟨-, r4, S5, h, -, -, er, eu⟩ | ⟨c, -⟩
        · rcases g with ⟨-, m9, g⟩ | ⟨c2, -⟩
          · obtain ⟨-, a4, e4, a6, e6, n9, h⟩ := h
            have zz : a4.toInt - (0 : Int32).toInt = a4.toInt := Int.sub_zero _
            have rg : 0 ≤ a4.toInt ∧ a4.toInt < 65536 := by rw [e4]; exact rg_u2
            rw [← e4] at AF hA
            rw [e6] at h
            have na : a.toInt.toNat = a2 := by omega
            rw [er, eu]
            exact s_naF (o := -1) hE rfl n9 m9 (q2 := qI S 9 15) (N := a4) (i := 0) (a := a) (q := (qI S 9 16) + (2 : Int32)) (by rw [zz, na]; exact AF) (by omega) (by decide) (by omega) (by omega) (by rw [zz]; omega) h g
          · omega
        · omega
  have hOwn2 : ∀ b : Nat, a2 ≤ b → (b : Int) < (qI R 0 25).toInt → (qI R 11 b).toInt < 0 := fun b h1 h2 => by
    rw [AtC.own _ AF b h1 (by omega), mm1]
    decide
  have MET : ∀ (n m : Nat) {a k : Int32}, a.toInt = a1 → k.toInt = (qI S 9 7).toInt → v_X7_namesHold_L2 r u n S k → v_names_L4 oo m R a k → PsE S R r u oo := fun n m a k ea ek h g => by
    refine s_naL (K2 := True) (q2 := qI S 9 16) hE AF hA (tot := (qI S 9 7).toInt + (qI S 9 8).toInt) FIN (fun b h1 h2 => Or.inl (hOwn2 b h1 h2)) ⟨by omega, by omega⟩ (by omega) (qI S 9 8).toInt.toNat n m (q := q1 + (2 : Int32)) ?_ (by omega) (by omega) (by omega) h g
    rw [show k.toInt.toNat = (qI S 9 7).toInt.toNat by rw [ek], show a.toInt.toNat = a1 by omega]
    exact M2
  have z0 : (0 : Int32).toInt = 0 := rfl
  refine s_naL (K2 := True) (q2 := q1) hE AF hA (tot := (qI S 9 7).toInt) MET (fun b h1 h2 => ?_) ⟨by omega, by omega⟩ (by omega) (qI S 9 7).toInt.toNat n m (k := 0) (a := 0) (q := q0) ?_ (by decide) (by rw [z0]; omega) (by decide) h g
  · by_cases c : b < a2
    · have := MbC.own _ M2 b h1 c
      right
      omega
    · exact Or.inl (hOwn2 b (by omega) h2)
  · exact M1
end NB
