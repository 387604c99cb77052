/-! rule 10, what it leaves known: the members' types -/
def MtM (R : MS) (j : Nat) : Prop := ((qI R 0 22).toInt ≤ j → ∃ n : Int32, v_parameterPlaces R (f_two R ((qI R 9 j) + (4 : Int32))) n R ∧ 0 ≤ n.toInt ∧ n.toInt ≤ 8) ∧ ((j : Int) < (qI R 0 22).toInt → (f_isType R (f_two R ((qI R 9 j) + (4 : Int32)))).toInt ≠ 0)
section TM
variable {S S' R R' T u w : MS} {x y z r c v e len o N i x1 k t : Int32} {oo : MS ⊕ MS}
theorem rv_mustI {a b : Int32} (h : v_must R x a b (.inl w)) : x.toInt ≠ 0 ∧ w = R := by
  rcases rv_must h with ⟨c, z⟩ | ⟨c, z⟩
  · injection z with z
    exact ⟨c, z⟩
  · exact nomatch z
theorem rv_tyJ {K : MS → Int32 → Prop} (h : v_types_J165 (.inl w) K R t k y) : t.toInt ≠ 0 ∧ ∃ a : Int32, a = k + Int32.ofInt 1 ∧ K R a := by
  rcases h with ⟨S6, hm, a, ea, h⟩ | ⟨u9, -, h⟩
  · obtain ⟨c, e⟩ := rv_mustI hm
    rw [e] at h
    exact ⟨c, a, ea, h⟩
  · exact nomatch h
theorem rv_tyL : ∀ (n : Nat) {k : Int32}, v_types_L2 (.inl w) n R k → ∃ m, v_types_L102 (.inl w) m R 0 := by
  intro n
  induction n with
  | zero => intro k h; unfold v_types_L2 at h; exact h.elim
  | succ n ih =>
    intro k h
    unfold v_types_L2 at h
    have J94 : ∀ {k : Int32}, v_types_J94 (.inl w) (v_types_L2 (.inl w) n) R k → ∃ m, v_types_L102 (.inl w) m R 0 := fun h => by
      obtain ⟨a, -, h⟩ := h
      exact ih h
    have J83 : ∀ {t k : Int32}, v_types_J83 (.inl w) (v_types_L2 (.inl w) n) R t k → ∃ m, v_types_L102 (.inl w) m R 0 := fun h => by
      rcases h with ⟨-, ⟨S6, hm, h⟩ | ⟨u9, -, h⟩⟩
      · rw [(rv_mustI hm).2] at h
        exact J94 h
      · exact nomatch h
    have J48 : ∀ {k : Int32}, v_types_J48 (.inl w) (v_types_L2 (.inl w) n) R k → ∃ m, v_types_L102 (.inl w) m R 0 := fun h => by
      rcases h with ⟨-, ⟨-, -, -, r38, S39, hp, h⟩ | ⟨-, h⟩⟩
      · rw [pp_same hp] at h
        rcases h with ⟨-, h⟩ | ⟨-, h⟩
        · exact J83 h
        · exact J83 h
      · exact J94 h
    rcases h with ⟨-, m, h⟩ | ⟨-, -, h⟩
    · exact ⟨m, h⟩
    rcases h with ⟨-, -, -, -, -, ⟨S6, hm, h⟩ | ⟨u9, -, h⟩⟩ | ⟨-, h⟩
    · rw [(rv_mustI hm).2] at h
      exact J48 h
    · exact nomatch h
    · exact J48 h
theorem rv_tyM : ∀ (n : Nat) {k : Int32}, v_types_L102 (.inl w) n R k → ∀ j : Nat, k.toInt ≤ j → (j : Int) < (qI R 0 21).toInt → MtM R j := by
  intro n
  induction n with
  | zero => intro k h; unfold v_types_L102 at h; exact h.elim
  | succ n ih =>
    intro k h j h1 h2
    unfold v_types_L102 at h
    rcases h with ⟨c, -⟩ | ⟨c, gd, a6, e6, -, r11, S12, hp, h⟩
    · omega
    rw [pp_same hp] at h hp
    have NX : ∀ {a : Int32}, a = k + Int32.ofInt 1 → v_types_L102 (.inl w) n R a → k.toInt ≠ j → MtM R j := fun ea h hj => by
      have ek := t_add (a := k) (b := Int32.ofInt 1) (by rw [show (Int32.ofInt 1).toInt = 1 from rfl]; omega)
      rw [← ea, show (Int32.ofInt 1).toInt = 1 from rfl] at ek
      exact ih h j (by omega) h2
    rcases h with ⟨c3, h⟩ | ⟨c3, -, -, h⟩
    · rcases h with ⟨-, h⟩ | ⟨c4, ⟨-, h⟩ | ⟨c5, h⟩⟩
      · exact absurd rfl (rv_tyJ h).1
      · exact absurd rfl (rv_tyJ h).1
      · obtain ⟨-, a, ea, h⟩ := rv_tyJ h
        by_cases hj : k.toInt = j
        · have ej : k.toInt.toNat = j := by omega
          rw [e6, ej] at hp
          exact ⟨fun _ => ⟨r11, hp, by omega, by omega⟩, fun z => by omega⟩
        · exact NX ea h hj
    · obtain ⟨cz, a, ea, h⟩ := rv_tyJ h
      by_cases hj : k.toInt = j
      · have ej : k.toInt.toNat = j := by omega
        rw [e6, ej] at cz
        exact ⟨fun z => by omega, fun _ => cz⟩
      · exact NX ea h hj
theorem rv_tyA (h : v_types R (.inl w)) (j : Nat) (hj : (j : Int) < (qI R 0 21).toInt) : MtM R j := by
  obtain ⟨n, h⟩ := h
  obtain ⟨m, h⟩ := rv_tyL n h
  exact rv_tyM m h j (by rw [show (0 : Int32).toInt = 0 from rfl]; omega) hj
end TM
