/-! what rules 6, 8 and 9 leave, where they hold -/
def AtN (S : MS) : Nat → Int32 → Prop
  | 0, _ => True
  | n + 1, q => (fX7_tagOf S (fX7_u2 S q)).toInt = 1 ∧ AtN S n (q + ((6 : Int32) + (fX7_s4 S (q + (2 : Int32)))))
/-- of member k -/
def MeN (S : MS) (k : Int32) : Prop := (fX7_tagOf S (fX7_nameOf S k)).toInt = 1 ∧ (fX7_tagOf S (fX7_typeOf S k)).toInt = 1 ∧ AtN S (fX7_u2 S ((fX7_memberPlace S k) + (6 : Int32))).toInt.toNat (((fX7_memberPlace S k) + (6 : Int32)) + (2 : Int32))
section CF
variable {S S' R R' T u w : MS} {x y z r c v e len o N i x1 k t : Int32} {oo : MS ⊕ MS}
theorem cv_ePL (hp : (qI S 9 5).toInt ≤ 500) : ∀ (n : Nat) {k : Int32}, 1 ≤ k.toInt → v_X7_entriesPoint_L2 r u n S k → r.toInt ≠ 0 → ∀ j : Int32, k.toInt ≤ j.toInt → j.toInt < (qI S 9 5).toInt → ptOK S j := by
  intro n
  induction n with
  | zero => intro k _ h; unfold v_X7_entriesPoint_L2 at h; exact h.elim
  | succ n ih =>
    intro k k1 h hr j h1 h2
    unfold v_X7_entriesPoint_L2 at h
    obtain ⟨-, h⟩ := h
    rcases h with ⟨c, -⟩ | ⟨c, r3, S4, h3, -, -, h⟩
    · omega
    · obtain ⟨eS, q⟩ := cv_entryPoints h3
      rw [eS] at h
      rcases h with ⟨z, -, r12, S13, h, -, -, er, -⟩ | ⟨z, a7, e7, h⟩
      · obtain ⟨a, -⟩ := cv_breaks h
        exact absurd (by rw [er, a]; rfl) hr
      · have ek : a7.toInt = k.toInt + 1 := by rw [e7, t_add (by rw [show (Int32.ofInt 1).toInt = 1 from rfl]; omega)]; rfl
        by_cases c2 : j.toInt = k.toInt
        · have ej : j = k := Int32.toInt_inj.mp c2
          rw [ej]
          rcases q with ⟨-, q⟩ | ⟨er, -⟩
          · exact q
          · exact absurd (by rw [er]; rfl) z
        · exact ih (by omega) h hr j (by omega) h2
theorem cv_eP (hp : (qI S 9 5).toInt ≤ 500) (h : vX7_entriesPoint S r u) (hr : r.toInt ≠ 0) : ∀ j : Int32, ptOK S j := fun j => by
  obtain ⟨n, h⟩ := h
  by_cases c : 1 ≤ j.toInt ∧ j.toInt < (qI S 9 5).toInt
  · exact cv_ePL hp n (by decide) h hr j c.1 c.2
  · have z : fX7_tagOf S j = 0 := tg_out (by omega)
    have z0 : (0 : Int32).toInt = 0 := rfl
    exact ⟨fun q => by rw [z] at q; omega, fun q => by rw [z] at q; omega, fun q => by rw [z] at q; omega⟩
theorem cv_anL : ∀ (n : Nat) {q i N : Int32}, 0 ≤ i.toInt → N.toInt ≤ 65535 → v_X7_attributeNamesHold_L13 r u n S N q i → r.toInt ≠ 0 → u = S ∧ AtN S (N.toInt - i.toInt).toNat q := by
  intro n
  induction n with
  | zero => intro q i N _ _ h; unfold v_X7_attributeNamesHold_L13 at h; exact h.elim
  | succ n ih =>
    intro q i N i0 N6 h hr
    unfold v_X7_attributeNamesHold_L13 at h
    obtain ⟨-, h⟩ := h
    rcases h with ⟨c, er, eu⟩ | ⟨c, r9, S10, h9, -, -, h⟩
    · refine ⟨eu, ?_⟩
      rw [show (N.toInt - i.toInt).toNat = 0 by omega]
      exact trivial
    · rcases h with ⟨z, er, eu⟩ | ⟨z, -, a19, e19, a20, e20, h⟩
      · exact absurd (by rw [er]; rfl) hr
      · rcases cv_isNameAt h9 with ⟨t, -, eS⟩ | ⟨-, er, -⟩
        · rw [eS] at h e19
          have ei : a20.toInt = i.toInt + 1 := by rw [e20, t_add (by rw [show (Int32.ofInt 1).toInt = 1 from rfl]; omega)]; rfl
          obtain ⟨a, b⟩ := ih (by omega) N6 h hr
          refine ⟨a, ?_⟩
          rw [show (N.toInt - i.toInt).toNat = (N.toInt - a20.toInt).toNat + 1 by omega]
          rw [e19] at b
          exact ⟨t, b⟩
        · exact absurd (by rw [er]; rfl) z
theorem cv_an (h : vX7_attributeNamesHold S x r u) (hr : r.toInt ≠ 0) : u = S ∧ AtN S (fX7_u2 S x).toInt.toNat (x + (2 : Int32)) := by
  obtain ⟨-, a4, e4, a6, e6, n, h⟩ := h
  have rg : 0 ≤ a4.toInt ∧ a4.toInt < 65536 := by rw [e4]; exact rg_u2
  obtain ⟨a, b⟩ := cv_anL n (by decide) (by omega) h hr
  rw [show a4.toInt - (0 : Int32).toInt = a4.toInt from Int.sub_zero _, e6, e4] at b
  exact ⟨a, b⟩
theorem cv_naL (hm : ((qI S 9 7) + (qI S 9 8)).toInt ≤ 48) : ∀ (n : Nat) {k : Int32}, 0 ≤ k.toInt → v_X7_namesHold_L2 r u n S k → r.toInt ≠ 0 → (∀ j : Int32, k.toInt ≤ j.toInt → j.toInt < ((qI S 9 7) + (qI S 9 8)).toInt → MeN S j) := by
  intro n
  induction n with
  | zero => intro k _ h; unfold v_X7_namesHold_L2 at h; exact h.elim
  | succ n ih =>
    intro k k0 h hr j h1 h2
    unfold v_X7_namesHold_L2 at h
    obtain ⟨-, h⟩ := h
    rcases h with ⟨c, -⟩ | ⟨c, -, a10, e10, r13, S14, h13, -, -, h⟩
    · omega
    · rcases h with ⟨z, er, eu⟩ | ⟨z, r19, S20, h19, -, -, h⟩
      · exact absurd (by rw [er]; rfl) hr
      rcases cv_isNameAt h13 with ⟨t1, -, eS⟩ | ⟨-, er, -⟩
      · rw [eS] at h19
        rcases h with ⟨z, er, eu⟩ | ⟨z2, r25, S26, h25, -, -, h⟩
        · exact absurd (by rw [er]; rfl) hr
        rcases cv_isNameAt h19 with ⟨t2, -, eS2⟩ | ⟨-, er, -⟩
        · rw [eS2] at h25
          rcases h with ⟨z, er, eu⟩ | ⟨z3, a29, e29, h⟩
          · exact absurd (by rw [er]; rfl) hr
          obtain ⟨eS3, an⟩ := cv_an h25 z3
          rw [eS3] at h
          have ek : a29.toInt = k.toInt + 1 := by rw [e29, t_add (by rw [show (Int32.ofInt 1).toInt = 1 from rfl]; omega)]; rfl
          by_cases c2 : j.toInt = k.toInt
          · have ej : j = k := Int32.toInt_inj.mp c2
            rw [ej]
            rw [e10] at t1 t2 an
            exact ⟨t1, t2, an⟩
          · exact ih (by omega) h hr j (by omega) h2
        · exact absurd (by rw [er]; rfl) z2
      · exact absurd (by rw [er]; rfl) z
theorem cv_na (hm : ((qI S 9 7) + (qI S 9 8)).toInt ≤ 48) (h : vX7_namesHold S r u) (hr : r.toInt ≠ 0) : ∀ j : Int32, 0 ≤ j.toInt → j.toInt < ((qI S 9 7) + (qI S 9 8)).toInt → MeN S j := fun j h1 h2 => by
  obtain ⟨n, h⟩ := h
  exact cv_naL hm n (by decide) h hr j h1 h2
end CF
