/-! a NAME in both readers -/
def gdN (R : MS) (q : Nat) : Prop := 33 ≤ (qI R (qO R 0 11) q).toInt ∧ (qI R (qO R 0 11) q).toInt ≤ 126
/-- the source's row is none of those that reading writes -/
def SrN (R : MS) : Prop := ∀ a : Nat, a < 60 → a ≠ 2 → a ≠ qO R 0 11
section NM
variable {S R T u w : MS} {x y z r c v len x2 : Int32} {n : Nat} {oo : MS ⊕ MS}
theorem SrN.nz (h : SrN R) : qO R 0 11 ≠ 0 := fun e => h 0 (by decide) (by decide) e.symm
theorem gdN.mv {q : Nat} (t : smB R T) : gdN T q ↔ gdN R q := by
  unfold gdN
  rw [t.bt]
theorem sm13 (hs : SrN T) : smB T (wI T 0 13 c) := ⟨rfl, rdH hs.nz⟩
theorem SrN.sm {R w : MS} (hs : SrN R) (s : smB R w) : SrN w := fun a ha h2 => by
  have e : qO w 0 11 = qO R 0 11 := by unfold qO; rw [s.1]
  rw [e]
  exact hs a ha h2
theorem sm_wr {R : MS} {v : Int32} {bb ii : Nat} (hs : SrN R) (h1 : bb < 60) (h2 : bb ≠ 2) : smB R (wI R bb ii v) := ⟨rfl, rdH (fun q => hs bb h1 h2 q.symm)⟩
theorem BtE.sg (h : BtE S R) (h0 : 0 ≤ x.toInt) (h1 : x.toInt < (qI S 9 1).toInt) : (33 ≤ (fX7_u1 S x).toInt ∧ (fX7_u1 S x).toInt ≤ 126) ↔ gdN R x.toInt.toNat := by
  have b := (h.2.2 x.toInt.toNat (by omega)).2
  rw [bt_u1 h h0 h1, and255 b]
  unfold gdN
  split <;> omega
theorem cv_nmL (hb : BtE S R) (hp : PsI S) (hl : 1 ≤ len.toInt ∧ len.toInt ≤ 100) (h3 : (qI S 9 15).toInt + 3 ≤ (qI S 9 1).toInt) : ∀ (n : Nat) {v : Int32}, (qI S 9 15).toInt + 3 ≤ v.toInt → v.toInt ≤ (qI S 9 15).toInt + 3 + len.toInt → (∀ q : Nat, (qI S 9 15).toInt + 3 ≤ q → (q : Int) < v.toInt → (q : Int) < (qI S 9 1).toInt → gdN R q) → v_X7_nameFits_L49 r u n S len v →
    ((∃ q : Nat, (qI S 9 15).toInt + 3 ≤ q ∧ (q : Int) < (qI S 9 15).toInt + 3 + len.toInt ∧ (q : Int) < (qI S 9 1).toInt ∧ ¬ gdN R q) ∧ r = 0 ∧ u = bRk S 4 (qI S 9 15)) ∨ ((∀ q : Nat, (qI S 9 15).toInt + 3 ≤ q → (q : Int) < (qI S 9 15).toInt + 3 + len.toInt → (q : Int) < (qI S 9 1).toInt → gdN R q) ∧ (((qI S 9 15).toInt + 3 + len.toInt ≤ (qI S 9 1).toInt ∧ r = 1 ∧ u = S) ∨ ((qI S 9 1).toInt < (qI S 9 15).toInt + 3 + len.toInt ∧ r = 0 ∧ u = bRk S 2 (qI S 9 1)))) := by
  have hp' := hp
  obtain ⟨p0, p1, p2⟩ := hp'
  have e3 : ((qI S 9 15) + (3 : Int32)).toInt = (qI S 9 15).toInt + 3 := by rw [t_add (by rw [li_3]; omega), li_3]
  have e3l : (((qI S 9 15) + (3 : Int32)) + len).toInt = (qI S 9 15).toInt + 3 + len.toInt := by rw [t_add (by rw [e3]; omega), e3]
  have el : ((3 : Int32) + len).toInt = 3 + len.toInt := by rw [t_add (by rw [li_3]; omega), li_3]
  have E : ∀ {v : Int32}, (∀ q : Nat, (qI S 9 15).toInt + 3 ≤ q → (q : Int) < (qI S 9 15).toInt + 3 + len.toInt → (q : Int) < (qI S 9 1).toInt → gdN R q) → v_X7_nameFits_J105 r u S len → (∀ q : Nat, (qI S 9 15).toInt + 3 ≤ q → (q : Int) < (qI S 9 15).toInt + 3 + len.toInt → (q : Int) < (qI S 9 1).toInt → gdN R q) ∧ (((qI S 9 15).toInt + 3 + len.toInt ≤ (qI S 9 1).toInt ∧ r = 1 ∧ u = S) ∨ ((qI S 9 1).toInt < (qI S 9 15).toInt + 3 + len.toInt ∧ r = 0 ∧ u = bRk S 2 (qI S 9 1))) := fun g h => by
    obtain ⟨-, r2, S2, h, -, -, er, eu⟩ := h
    refine ⟨g, ?_⟩
    rcases cv_there hp (by rw [el]; omega) h with ⟨k, a, b⟩ | ⟨k, a, b⟩
    · rw [el] at k
      exact Or.inl ⟨by omega, by rw [er, a], by rw [eu, b]⟩
    · rw [el] at k
      exact Or.inr ⟨by omega, by rw [er, a], by rw [eu, b]⟩
  have B : v_X7_nameFits_J89 r u S → r = 0 ∧ u = bRk S 4 (qI S 9 15) := fun h => by
    obtain ⟨-, r2, S2, h, -, -, er, eu⟩ := h
    obtain ⟨a, b⟩ := cv_breaks h
    exact ⟨by rw [er, a], by rw [eu, b]⟩
  intro n
  induction n with
  | zero => intro v _ _ _ h; unfold v_X7_nameFits_L49 at h; exact h.elim
  | succ n ih =>
    intro v v0 v1 g h
    unfold v_X7_nameFits_L49 at h
    obtain ⟨-, h⟩ := h
    rw [e3l] at h
    rcases h with ⟨c, h⟩ | ⟨c, h⟩
    · exact Or.inr (E (v := v) (fun q a b d => g q a (by omega) d) h)
    · rcases h with ⟨c2, h⟩ | ⟨c2, h⟩
      · exact Or.inr (E (v := v) (fun q a b d => g q a (by omega) d) h)
      · have sg := hb.sg (x := v) (by omega) (by omega)
        have bad : ¬ gdN R v.toInt.toNat → ∃ q : Nat, (qI S 9 15).toInt + 3 ≤ q ∧ (q : Int) < (qI S 9 15).toInt + 3 + len.toInt ∧ (q : Int) < (qI S 9 1).toInt ∧ ¬ gdN R q := fun ng => ⟨v.toInt.toNat, by omega, by omega, by omega, ng⟩
        obtain ⟨-, h⟩ := h
        rcases h with ⟨c3, h⟩ | ⟨c3, h⟩
        · exact Or.inl ⟨bad (fun k => by have := sg.mpr k; omega), B h⟩
        · obtain ⟨-, h⟩ := h
          rcases h with ⟨c4, a, ea, h⟩ | ⟨c4, h⟩
          · have ea2 : a.toInt = v.toInt + 1 := by rw [ea, t_add (by rw [show (Int32.ofInt 1).toInt = 1 from rfl]; omega)]; rfl
            refine ih (by omega) (by omega) (fun q k1 k2 k3 => ?_) h
            by_cases k : (q : Int) < v.toInt
            · exact g q k1 k k3
            · have eq : q = v.toInt.toNat := by omega
              rw [eq]
              exact sg.mp ⟨by omega, c4⟩
          · exact Or.inl ⟨bad (fun k => by have := sg.mpr k; omega), B h⟩
theorem rv_nmL (hs : SrN T) (hT : (qI T 0 12).toInt ≤ 131072) {base : Int} (hl : 0 ≤ len.toInt ∧ len.toInt ≤ 100) (hb : 0 ≤ base) : ∀ (n : Nat) {c v : Int32}, c.toInt = base + v.toInt → c.toInt ≤ (qI T 0 12).toInt → 0 ≤ v.toInt → v.toInt ≤ len.toInt → (∀ q : Nat, base ≤ q → (q : Int) < c.toInt → gdN T q) → v_nameEntry_L54 oo n (wI T 0 13 c) x2 len v →
    ((∀ q : Nat, base ≤ q → (q : Int) < base + len.toInt → gdN T q) ∧ base + len.toInt ≤ (qI T 0 12).toInt ∧ ∃ d : Int32, d.toInt = base + len.toInt ∧ oo = .inl (wI T 0 13 d)) ∨ ((∃ q : Nat, base ≤ q ∧ (q : Int) < base + len.toInt ∧ (q : Int) < (qI T 0 12).toInt ∧ ¬ gdN T q) ∧ ∃ W, oo = .inr (rBk W 4 x2)) ∨ ((∀ q : Nat, base ≤ q → (q : Int) < base + len.toInt → (q : Int) < (qI T 0 12).toInt → gdN T q) ∧ (qI T 0 12).toInt < base + len.toInt ∧ ∃ W, oo = .inr (rBk W 2 (qI T 0 12))) := by
  intro n
  induction n with
  | zero => intro c v _ _ _ _ _ h; unfold v_nameEntry_L54 at h; exact h.elim
  | succ n ih =>
    intro c v ec c1 v0 v1 g h
    unfold v_nameEntry_L54 at h
    rcases h with ⟨k, h⟩ | ⟨k, h⟩
    · exact Or.inl ⟨fun q a b => g q a (by omega), by omega, c, by omega, h⟩
    · have o1 : (1 : Int64).toInt = 1 := by decide
      have x13 : qI (wI T 0 13 c) 0 13 = c := n_13
      have x12 : qI (wI T 0 13 c) 0 12 = qI T 0 12 := n_12
      have OV : ∀ {p : (Int32 × MS) ⊕ MS}, v_over (wI T 0 13 c) 1 p → (c.toInt + 1 ≤ (qI T 0 12).toInt ∧ ∃ d : Int32, d.toInt = c.toInt + 1 ∧ p = .inl (c, wI T 0 13 d)) ∨ ((qI T 0 12).toInt < c.toInt + 1 ∧ p = .inr (rBk (wI T 0 13 c) 2 (qI T 0 12))) := fun hp => by
        have q := rv_over (by rw [x13, x12]; omega) (by rw [o1]; omega) hp
        rw [x13, x12, o1] at q
        have w2 : ∀ d : Int32, wI (wI T 0 13 c) 0 13 d = wI T 0 13 d := fun d => wI_wI
        simp only [w2] at q
        exact q
      rcases h with ⟨r8, S9, hv, h⟩ | ⟨u9, hv, h⟩
      · rcases OV hv with ⟨k1, d, ed, e⟩ | ⟨k1, e⟩
        · injection e with e
          injection e with er eS
          have bt : qI S9 (qO S9 0 11) = qI T (qO T 0 11) := by
            have s := sm13 (c := d) hs
            rw [eS]
            exact s.bt
          have hq : gdN T c.toInt.toNat ↔ (33 ≤ (qI S9 (qO S9 0 11) r8.toInt.toNat).toInt ∧ (qI S9 (qO S9 0 11) r8.toInt.toNat).toInt ≤ 126) := by
            unfold gdN
            rw [bt, er]
          have bad : ¬ gdN T c.toInt.toNat → ∃ q : Nat, base ≤ q ∧ (q : Int) < base + len.toInt ∧ (q : Int) < (qI T 0 12).toInt ∧ ¬ gdN T q := fun ng => ⟨c.toInt.toNat, by omega, by omega, by omega, ng⟩
          have F : v_nameEntry_J96 oo (v_nameEntry_L54 oo n) S9 x2 len v → ∃ W, oo = .inr (rBk W 4 x2) := fun hj => by
            rcases hj with ⟨w, hm, h⟩ | ⟨w, hm, h⟩
            · rcases rv_must hm with ⟨a, b⟩ | ⟨a, b⟩
              · exact absurd (by decide) a
              · exact nomatch b
            · rcases rv_must hm with ⟨a, b⟩ | ⟨a, b⟩
              · exact nomatch b
              · injection b with b
                exact ⟨_, by rw [h, b]⟩
          obtain ⟨-, -, h⟩ := h
          rcases h with ⟨k2, h⟩ | ⟨k2, h⟩
          · exact Or.inr (Or.inl ⟨bad (fun z => by have := hq.mp z; omega), F h⟩)
          · obtain ⟨-, -, h⟩ := h
            rcases h with ⟨k3, h⟩ | ⟨k3, h⟩
            · exact Or.inr (Or.inl ⟨bad (fun z => by have := hq.mp z; omega), F h⟩)
            · rcases h with ⟨w, hm, h⟩ | ⟨w, hm, h⟩
              · rcases rv_must hm with ⟨a, b⟩ | ⟨a, b⟩
                · injection b with b
                  obtain ⟨a8, ea8, h⟩ := h
                  rw [b, eS] at h
                  have ea2 : a8.toInt = v.toInt + 1 := by rw [ea8, t_add (by rw [show (Int32.ofInt 1).toInt = 1 from rfl]; omega)]; rfl
                  refine ih (by omega) (by omega) (by omega) (by omega) (fun q k4 k5 => ?_) h
                  by_cases z : (q : Int) < c.toInt
                  · exact g q k4 z
                  · have eq : q = c.toInt.toNat := by omega
                    rw [eq]
                    exact hq.mpr ⟨by omega, by omega⟩
                · exact nomatch b
              · rcases rv_must hm with ⟨a, b⟩ | ⟨a, b⟩
                · exact nomatch b
                · exact absurd a (by decide)
        · exact nomatch e
      · rcases OV hv with ⟨k1, d, ed, e⟩ | ⟨k1, e⟩
        · exact nomatch e
        · injection e with e
          exact Or.inr (Or.inr ⟨fun q a b d => g q a (by omega), by omega, _, by rw [h, e]⟩)
end NM
