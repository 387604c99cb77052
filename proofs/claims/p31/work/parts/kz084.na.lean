/-! rule 9: names and types are NAMEs -/
section NA
variable {S S' R R' T u w : MS} {x y z r c v e len o N i x1 k t : Int32} {oo : MS ⊕ MS}
theorem cv_isNameAt (h : vX7_isNameAt S x r u) : ((fX7_tagOf S (fX7_u2 S x)).toInt = 1 ∧ r = 1 ∧ u = S) ∨ ((fX7_tagOf S (fX7_u2 S x)).toInt ≠ 1 ∧ r = 0 ∧ u = bRk S 9 x) := by
  obtain ⟨-, a4, e4, -, a8, e8, h⟩ := h
  rw [e8, e4] at h
  rcases h with ⟨c, -, er, eu⟩ | ⟨c, r11, S12, h, -, -, h2⟩
  · exact Or.inl ⟨c, er, eu⟩
  · obtain ⟨a, b⟩ := cv_breaks h
    rcases h2 with ⟨-, er, eu⟩ | ⟨z, -⟩
    · exact Or.inr ⟨c, er, by rw [eu, b]⟩
    · exact absurd (by rw [a]; decide) z
theorem rv_mustName (hE : LyE S R) (h0 : 0 ≤ x.toInt) (h1 : x.toInt + 2 ≤ (qI S 9 1).toInt) (g : v_mustName R x oo) : ((fX7_tagOf S (fX7_u2 S x)).toInt = 1 ∧ oo = .inl R) ∨ ((fX7_tagOf S (fX7_u2 S x)).toInt ≠ 1 ∧ oo = .inr (rBk R 9 x)) := by
  have i1 : ∀ {a : Int32}, (f_isEntry R a (1 : Int32)).toInt ≠ 0 ↔ (fX7_tagOf S a).toInt = 1 := ie_of (t := 1) hE (by decide)
  obtain ⟨-, -, g⟩ := g
  rw [hE.u2 h0 h1] at g
  rcases g with ⟨S8, hm, g⟩ | ⟨u9, hm, g⟩
  · rcases rv_must hm with ⟨q, z⟩ | ⟨q, z⟩
    · injection z with z
      exact Or.inl ⟨i1.mp q, by rw [g, z]⟩
    · exact nomatch z
  · rcases rv_must hm with ⟨q, z⟩ | ⟨q, z⟩
    · exact nomatch z
    · injection z with z
      exact Or.inr ⟨fun p => (i1.mpr p) q, by rw [g, z]⟩
/-- the owners of attributes noted from a to b -/
theorem AtC.own {q2 : Int32} : ∀ (n : Nat) {q : Int32} {a : Nat}, AtC S R o n q a q2 → ∀ b : Nat, a ≤ b → b < a + n → qI R 11 b = o := by
  intro n
  induction n with
  | zero => intro q a _ b h1 h2; omega
  | succ n ih =>
    intro q a h b h1 h2
    obtain ⟨⟨-, e, -⟩, h⟩ := h
    by_cases c : b = a
    · rw [c, e]
    · exact ih h b (by omega) (by omega)
theorem MbC.own {q2 : Int32} {a2 : Nat} : ∀ (n : Nat) {k : Nat} {q : Int32} {a : Nat}, MbC S R n k q a q2 a2 → ∀ b : Nat, a ≤ b → b < a2 → (k : Int) ≤ (qI R 11 b).toInt := by
  intro n
  induction n with
  | zero => intro k q a h b h1 h2; have := h.2; omega
  | succ n ih =>
    intro k q a h b h1 h2
    obtain ⟨-, o, q1, ho, hA, h⟩ := h
    by_cases c : b < a + (fX7_u2 S (q + (6 : Int32))).toInt.toNat
    · rw [AtC.own _ hA b h1 c, ho]
      exact Int.le_refl _
    · have := ih h b (by omega) h2
      omega
/-- the attributes of one owner: to their end, the reference's index -/
theorem s_naA (hE : LyE S R) {K : MS → Int32 → Int32 → Prop} {A : Int} (hA : A = (qI R 0 25).toInt) : ∀ (n m : Nat) {q q2 a i N : Int32}, AtC S R o (N.toInt - i.toInt).toNat q a.toInt.toNat q2 → 0 ≤ a.toInt → 0 ≤ i.toInt → i.toInt ≤ N.toInt → N.toInt ≤ 65535 → k.toInt = o.toInt → a.toInt + (N.toInt - i.toInt) ≤ A → (a.toInt + (N.toInt - i.toInt) < A → (qI R 11 (a.toInt + (N.toInt - i.toInt)).toNat).toInt ≠ k.toInt) → v_X7_attributeNamesHold_L13 r u n S N q i → v_names_L36 oo K m R a k → (r = 1 ∧ u = S ∧ ∃ b j : Int32, b.toInt = a.toInt + (N.toInt - i.toInt) ∧ j = k + Int32.ofInt 1 ∧ K R b j) ∨ (r = 0 ∧ ∃ w, oo = .inr w ∧ BadP u w) := by
  intro n
  induction n with
  | zero => intro m q q2 a i N _ _ _ _ _ _ _ _ h _; unfold v_X7_attributeNamesHold_L13 at h; exact h.elim
  | succ n ih =>
    intro m q q2 a i N hC a0 i0 iN N6 hk hs hno h g
    cases m with
    | zero => unfold v_names_L36 at g; exact g.elim
    | succ m =>
      unfold v_X7_attributeNamesHold_L13 at h
      unfold v_names_L36 at g
      rw [← hA] at g
      obtain ⟨-, h⟩ := h
      rcases h with ⟨c, er, eu⟩ | ⟨c, r9, S10, h9, -, -, h⟩
      · have e : N.toInt - i.toInt = 0 := by omega
        rw [e, Int.add_zero] at hno
        have OUT : v_names_J70 oo K R a k → (r = 1 ∧ u = S ∧ ∃ b j : Int32, b.toInt = a.toInt + (N.toInt - i.toInt) ∧ j = k + Int32.ofInt 1 ∧ K R b j) := fun g => by
          obtain ⟨j, ej, g⟩ := g
          exact ⟨er, eu, a, j, by omega, ej, g⟩
        rcases g with ⟨-, g⟩ | ⟨c2, -, g⟩
        · exact Or.inl (OUT g)
        · rcases g with ⟨c3, -⟩ | ⟨-, g⟩
          · exact absurd c3 (hno (by omega))
          · exact Or.inl (OUT g)
      · have en : (N.toInt - i.toInt).toNat = (N.toInt - (i.toInt + 1)).toNat + 1 := by omega
        rw [en] at hC
        obtain ⟨⟨c1, c2, c3, c4, c5⟩, hC⟩ := hC
        have b2 := hE.1.2.1
        rcases g with ⟨c6, -⟩ | ⟨-, gd, g⟩
        · omega
        rcases g with ⟨-, -, g⟩ | ⟨c6, -⟩
        · rw [c1] at g
          rcases g with ⟨S29, hm, a31, e31, g⟩ | ⟨u9, hm, g⟩
          · rcases rv_mustName hE (by omega) (by omega) hm with ⟨t1, z⟩ | ⟨-, z⟩
            · injection z with z
              rw [z] at g
              rcases cv_isNameAt h9 with ⟨-, er, eS⟩ | ⟨t2, -⟩
              · rcases h with ⟨z, -⟩ | ⟨-, -, a19, e19, a20, e20, h⟩
                · exact absurd z (by rw [er]; decide)
                rw [eS] at e19 h
                have ei : a20.toInt = i.toInt + 1 := by rw [e20, t_add (by rw [show (Int32.ofInt 1).toInt = 1 from rfl]; omega)]; rfl
                have ea : a31.toInt = a.toInt + 1 := by rw [e31, t_add (by rw [show (Int32.ofInt 1).toInt = 1 from rfl]; omega)]; rfl
                rw [e19] at h
                have na : a31.toInt.toNat = a.toInt.toNat + 1 := by omega
                have ee : a31.toInt + (N.toInt - a20.toInt) = a.toInt + (N.toInt - i.toInt) := by omega
                rcases ih m (by rw [ei, na]; exact hC) (by omega) (by omega) (by omega) N6 hk (by omega) (by rw [ee]; exact hno) h g with ⟨er', eu', b, j, eb, ej, K'⟩ | K'
                · exact Or.inl ⟨er', eu', b, j, by omega, ej, K'⟩
                · exact Or.inr K'
              · exact absurd t1 t2
            · exact nomatch z
          · rcases rv_mustName hE (by omega) (by omega) hm with ⟨-, z⟩ | ⟨t1, z⟩
            · exact nomatch z
            · injection z with z
              rcases cv_isNameAt h9 with ⟨t2, -⟩ | ⟨-, er, eS⟩
              · exact absurd t2 t1
              · rcases h with ⟨-, er2, eu⟩ | ⟨z2, -⟩
                · exact Or.inr ⟨er2, u9, g, by rw [eu, eS, z]; exact badP⟩
                · exact absurd (by rw [er]; decide) z2
        · rw [c2] at c6
          exact absurd hk.symm c6
/-- the file's own attributes -/
theorem s_naF (hE : LyE S R) {A : Int} (hA : A = (qI R 0 25).toInt) : ∀ (n m : Nat) {q q2 a i N : Int32}, AtC S R o (N.toInt - i.toInt).toNat q a.toInt.toNat q2 → 0 ≤ a.toInt → 0 ≤ i.toInt → i.toInt ≤ N.toInt → N.toInt ≤ 65535 → a.toInt + (N.toInt - i.toInt) = A → v_X7_attributeNamesHold_L13 r u n S N q i → v_names_L76 oo m R a → PsE S R r u oo := by
  intro n
  induction n with
  | zero => intro m q q2 a i N _ _ _ _ _ _ h _; unfold v_X7_attributeNamesHold_L13 at h; exact h.elim
  | succ n ih =>
    intro m q q2 a i N hC a0 i0 iN N6 hs h g
    cases m with
    | zero => unfold v_names_L76 at g; exact g.elim
    | succ m =>
      unfold v_X7_attributeNamesHold_L13 at h
      unfold v_names_L76 at g
      rw [← hA] at g
      obtain ⟨-, h⟩ := h
      rcases h with ⟨c, er, eu⟩ | ⟨c, r9, S10, h9, -, -, h⟩
      · rcases g with ⟨-, g⟩ | ⟨c2, -⟩
        · exact Or.inl ⟨er, eu, g⟩
        · omega
      · have en : (N.toInt - i.toInt).toNat = (N.toInt - (i.toInt + 1)).toNat + 1 := by omega
        rw [en] at hC
        obtain ⟨⟨c1, c2, c3, c4, c5⟩, hC⟩ := hC
        have b2 := hE.1.2.1
        rcases g with ⟨c6, -⟩ | ⟨-, gd, g⟩
        · omega
        rw [c1] at g
        rcases g with ⟨S29, hm, a31, e31, g⟩ | ⟨u9, hm, g⟩
        · rcases rv_mustName hE (by omega) (by omega) hm with ⟨t1, z⟩ | ⟨-, z⟩
          · injection z with z
            rw [z] at g
            rcases cv_isNameAt h9 with ⟨-, er, eS⟩ | ⟨t2, -⟩
            · rcases h with ⟨z, -⟩ | ⟨-, -, a19, e19, a20, e20, h⟩
              · exact absurd z (by rw [er]; decide)
              rw [eS] at e19 h
              have ei : a20.toInt = i.toInt + 1 := by rw [e20, t_add (by rw [show (Int32.ofInt 1).toInt = 1 from rfl]; omega)]; rfl
              have ea : a31.toInt = a.toInt + 1 := by rw [e31, t_add (by rw [show (Int32.ofInt 1).toInt = 1 from rfl]; omega)]; rfl
              rw [e19] at h
              have na : a31.toInt.toNat = a.toInt.toNat + 1 := by omega
              exact ih m (by rw [ei, na]; exact hC) (by omega) (by omega) (by omega) N6 (by omega) h g
            · exact absurd t1 t2
          · exact nomatch z
        · rcases rv_mustName hE (by omega) (by omega) hm with ⟨-, z⟩ | ⟨t1, z⟩
          · exact nomatch z
          · injection z with z
            rcases cv_isNameAt h9 with ⟨t2, -⟩ | ⟨-, er, eS⟩
            · exact absurd t2 t1
            · rcases h with ⟨-, er2, eu⟩ | ⟨z2, -⟩
              · exact Or.inr ⟨er2, u9, g, by rw [eu, eS, z]; exact badP⟩
              · exact absurd (by rw [er]; decide) z2
/-- one member more: both go through it, or break rule 9 at the same place -/
theorem s_naM (hE : LyE S R) {n2 : Nat} {K : MS → Int32 → Int32 → Prop} {q a a10 q1 : Int32} {oN : Int32} (hq : 0 < q.toInt ∧ q.toInt + 8 ≤ (qI S 9 1).toInt) (e10 : a10 = q) (e9 : qI R 9 k.toInt.toNat = q) (hk : k.toInt = oN.toInt) (hC : AtC S R oN (fX7_u2 S (q + (6 : Int32))).toInt.toNat (q + (8 : Int32)) a.toInt.toNat q1) (a0 : 0 ≤ a.toInt) (hs : a.toInt + (fX7_u2 S (q + (6 : Int32))).toInt ≤ (qI R 0 25).toInt) (hno : a.toInt + (fX7_u2 S (q + (6 : Int32))).toInt < (qI R 0 25).toInt → (qI R 11 (a.toInt + (fX7_u2 S (q + (6 : Int32))).toInt).toNat).toInt ≠ k.toInt)
    {rr : Int32} {uu : MS}
    (h : ∃ (r13 : Int32) (S14 : MS), vX7_isNameAt S (a10 + (2 : Int32)) r13 S14 ∧ ((r13.toInt = 0 ∧ rr = 0 ∧ uu = S14) ∨ (¬ r13.toInt = 0 ∧ ∃ (r19 : Int32) (S20 : MS), vX7_isNameAt S14 (a10 + (4 : Int32)) r19 S20 ∧ ((r19.toInt = 0 ∧ rr = 0 ∧ uu = S20) ∨ (¬ r19.toInt = 0 ∧ vX7_attributeNamesHold S20 (a10 + (6 : Int32)) rr uu)))))
    (g : (∃ (S13 : MS), v_mustName R ((qI R 9 k.toInt.toNat) + (2 : Int32)) (.inl S13) ∧ ((((0 : Int) ≤ k.toInt ∧ k.toInt < 48)) ∧ ((∃ (S19 : MS), v_mustName S13 ((qI S13 9 k.toInt.toNat) + (4 : Int32)) (.inl S19) ∧ (∃ n, v_names_L36 oo K n S19 a k)) ∨ (∃ u9 : MS, v_mustName S13 ((qI S13 9 k.toInt.toNat) + (4 : Int32)) (.inr u9) ∧ (oo = .inr u9))))) ∨ (∃ u9 : MS, v_mustName R ((qI R 9 k.toInt.toNat) + (2 : Int32)) (.inr u9) ∧ (oo = .inr u9))) :
    (rr = 1 ∧ uu = S ∧ ∃ b j : Int32, b.toInt = a.toInt + (fX7_u2 S (q + (6 : Int32))).toInt ∧ j = k + Int32.ofInt 1 ∧ K R b j) ∨ (rr = 0 ∧ ∃ w, oo = .inr w ∧ BadP uu w) := by
  have b2 := hE.1.2.1
  have q2 : (q + (2 : Int32)).toInt = q.toInt + 2 := by rw [t_add (by rw [li_2]; omega), li_2]
  have q4 : (q + (4 : Int32)).toInt = q.toInt + 4 := by rw [t_add (by rw [li_4]; omega), li_4]
  rw [e9] at g
  rw [e10] at h
  obtain ⟨r13, S14, h13, h⟩ := h
  rcases g with ⟨S13, hm, -, g⟩ | ⟨u9, hm, g⟩
  · rcases rv_mustName hE (by omega) (by omega) hm with ⟨t1, z⟩ | ⟨-, z⟩
    · injection z with z
      rw [z, e9] at g
      rcases cv_isNameAt h13 with ⟨-, er, eS⟩ | ⟨t2, -⟩
      · rcases h with ⟨z2, -⟩ | ⟨-, r19, S20, h19, h⟩
        · exact absurd z2 (by rw [er]; decide)
        rw [eS] at h19
        rcases g with ⟨S19, hm, m, g⟩ | ⟨u9, hm, g⟩
        · rcases rv_mustName hE (by omega) (by omega) hm with ⟨t3, z⟩ | ⟨-, z⟩
          · injection z with z
            rw [z] at g
            rcases cv_isNameAt h19 with ⟨-, er, eS⟩ | ⟨t4, -⟩
            · rcases h with ⟨z2, -⟩ | ⟨-, h⟩
              · exact absurd z2 (by rw [er]; decide)
              rw [eS] at h
              obtain ⟨-, a4, e4, a6, e6, n, h⟩ := h
              have e8 : (q + (6 : Int32)) + (2 : Int32) = q + (8 : Int32) := by
                have q6 : (q + (6 : Int32)).toInt = q.toInt + 6 := by rw [t_add (by rw [li_6]; omega), li_6]
                apply Int32.toInt_inj.mp
                rw [t_add (by rw [q6, li_2]; omega), q6, li_2, t_add (by rw [li_8]; omega), li_8]
                omega
              rw [e6, e8] at h
              have z0 : (0 : Int32).toInt = 0 := rfl
              have rg : 0 ≤ a4.toInt ∧ a4.toInt < 65536 := by rw [e4]; exact rg_u2
              rw [← e4] at hC hs hno ⊢
              have zz : a4.toInt - (0 : Int32).toInt = a4.toInt := Int.sub_zero _
              have KK := s_naA (r := rr) (u := uu) (oo := oo) (o := oN) (k := k) hE rfl n m (q2 := q1) (N := a4) (i := 0) (a := a) (q := q + (8 : Int32)) (by rw [zz]; exact hC) a0 (by decide) (by omega) (by omega) hk (by omega) (by rw [zz]; exact hno) h g
              rw [zz] at KK
              exact KK
            · exact absurd t3 t4
          · exact nomatch z
        · rcases rv_mustName hE (by omega) (by omega) hm with ⟨-, z⟩ | ⟨t3, z⟩
          · exact nomatch z
          · injection z with z
            rcases cv_isNameAt h19 with ⟨t4, -⟩ | ⟨-, er, eS⟩
            · exact absurd t4 t3
            · rcases h with ⟨-, er2, eu⟩ | ⟨z2, -⟩
              · exact Or.inr ⟨er2, u9, g, by rw [eu, eS, z]; exact badP⟩
              · exact absurd (by rw [er]; decide) z2
      · exact absurd t1 t2
    · exact nomatch z
  · rcases rv_mustName hE (by omega) (by omega) hm with ⟨-, z⟩ | ⟨t1, z⟩
    · exact nomatch z
    · injection z with z
      rcases cv_isNameAt h13 with ⟨t2, -⟩ | ⟨-, er, eS⟩
      · exact absurd t2 t1
      · rcases h with ⟨-, er2, eu⟩ | ⟨z2, -⟩
        · exact Or.inr ⟨er2, u9, g, by rw [eu, eS, z]; exact badP⟩
        · exact absurd (by rw [er]; decide) z2
end NA
