/-! rule 12, put together -/
section CP
variable {S S' R R' T u w : MS} {x y z r c v e len o N i x1 k t a b f : Int32} {oo : MS ⊕ MS} {p : Nat} {L : List Int32}
theorem MbC.ownU {q2 : Int32} {a2 : Nat} : ∀ (n : Nat) {k : Nat} {q : Int32} {a : Nat}, MbC S R n k q a q2 a2 → ∀ b : Nat, a ≤ b → b < a2 → (qI R 11 b).toInt < (k : Int) + n := by
  intro n
  induction n with
  | zero => intro k q a h b h1 h2; have := h.2; omega
  | succ n ih =>
    intro k q a h b h1 h2
    obtain ⟨-, o, q1, ho, hA, h⟩ := h
    by_cases c : b < a + (fX7_u2 S (q + (6 : Int32))).toInt.toNat
    · rw [AtC.own _ hA b h1 c, ho]
      omega
    · have := ih h b (by omega) h2
      omega
theorem MbC.one {q2 : Int32} {a2 : Nat} : ∀ (n : Nat) {k : Nat} {q : Int32} {a : Nat}, MbC S R n k q a q2 a2 → ∀ j : Nat, k ≤ j → j < k + n → ∃ (o q1 : Int32) (aj : Nat), o.toInt = j ∧ AtC S R o (fX7_u2 S ((qI R 9 j) + (6 : Int32))).toInt.toNat ((qI R 9 j) + (8 : Int32)) aj q1 ∧ a ≤ aj ∧ aj + (fX7_u2 S ((qI R 9 j) + (6 : Int32))).toInt.toNat ≤ a2 ∧ ∀ b : Nat, a ≤ b → b < a2 → (b < aj ∨ aj + (fX7_u2 S ((qI R 9 j) + (6 : Int32))).toInt.toNat ≤ b) → (qI R 11 b).toInt ≠ j := by
  intro n
  induction n with
  | zero => intro k q a h j h1 h2; omega
  | succ n ih =>
    intro k q a h j h1 h2
    obtain ⟨⟨e1, e2, e3, e4⟩, o, q1, ho, hA, h⟩ := h
    have l := MbC.le _ h
    by_cases c : j = k
    · rw [c, e2]
      refine ⟨o, q1, a, ho, hA, Nat.le_refl _, l, fun b g1 g2 g3 => ?_⟩
      have := MbC.own _ h b (by omega) g2
      omega
    · obtain ⟨o9, q9, aj, ho9, hA9, g1, g2, g3⟩ := ih h j (by omega) (by omega)
      refine ⟨o9, q9, aj, ho9, hA9, by omega, g2, fun b d1 d2 d3 => ?_⟩
      by_cases c2 : b < a + (fX7_u2 S (q + (6 : Int32))).toInt.toNat
      · rw [AtC.own _ hA b d1 c2, ho]
        omega
      · exact g3 b (by omega) d2 d3
theorem LyE.own (h : LyE S R) (j : Nat) (hj : (j : Int) < (qI S 9 7).toInt + (qI S 9 8).toInt) : ∃ (o q1 : Int32) (aj : Nat), o.toInt = j ∧ AtC S R o (fX7_u2 S ((qI R 9 j) + (6 : Int32))).toInt.toNat ((qI R 9 j) + (8 : Int32)) aj q1 ∧ ((aj + (fX7_u2 S ((qI R 9 j) + (6 : Int32))).toInt.toNat : Nat) : Int) ≤ (qI R 0 25).toInt ∧ ∀ b : Nat, (b : Int) < (qI R 0 25).toInt → (b < aj ∨ aj + (fX7_u2 S ((qI R 9 j) + (6 : Int32))).toInt.toNat ≤ b) → (qI R 11 b).toInt ≠ j := by
  obtain ⟨-, -, -, -, -, -, ⟨-, m1, m2, -⟩, ⟨q0, q1, a1, a2, -, M1, M2, AF, hA, -⟩, -⟩ := h
  have rgF := rg_u2 (S := S) (x := qI S 9 16)
  have l1 := MbC.le _ M1
  have l2 := MbC.le _ M2
  have mm1 : (-1 : Int32).toInt = -1 := by decide
  have OF : ∀ b : Nat, a2 ≤ b → (b : Int) < (qI R 0 25).toInt → (qI R 11 b).toInt = -1 := fun b h1 h2 => by
    rw [AtC.own _ AF b h1 (by omega), mm1]
  by_cases c : (j : Int) < (qI S 9 7).toInt
  · obtain ⟨o, q9, aj, ho, hC, g1, g2, g3⟩ := MbC.one _ M1 j (Nat.zero_le _) (by omega)
    refine ⟨o, q9, aj, ho, hC, by omega, fun b h1 h2 => ?_⟩
    by_cases c1 : b < a1
    · exact g3 b (Nat.zero_le _) c1 h2
    · by_cases c2 : b < a2
      · have := MbC.own _ M2 b (by omega) c2
        omega
      · have := OF b (by omega) h1
        omega
  · obtain ⟨o, q9, aj, ho, hC, g1, g2, g3⟩ := MbC.one _ M2 j (by omega) (by omega)
    refine ⟨o, q9, aj, ho, hC, by omega, fun b h1 h2 => ?_⟩
    by_cases c1 : b < a1
    · have := MbC.ownU _ M1 b (Nat.zero_le _) c1
      omega
    · by_cases c2 : b < a2
      · exact g3 b (by omega) c2 h2
      · have := OF b (by omega) h1
        omega
/-- the attributes named Code of member j: how many, the last one's place -/
def CdM (S R : MS) (j : Nat) : Nat × Int32 := CdC S (fX7_u2 S ((qI R 9 j) + (6 : Int32))).toInt.toNat ((qI R 9 j) + (8 : Int32)) 0 (-1)
theorem rv_codeOf (hE : LyE S R) (hT : TxH R 10000000 txCode) (me : ∀ j : Int32, 0 ≤ j.toInt → j.toInt < ((qI S 9 7) + (qI S 9 8)).toInt → MeN S j) (k0 : 0 ≤ k.toInt) (hk : k.toInt < (qI S 9 7).toInt + (qI S 9 8).toInt) (h : v_codeOf R k r T) : T = R ∧ (((CdM S R k.toInt.toNat).1 = 1 ∧ r = (CdM S R k.toInt.toNat).2 ∧ 0 ≤ r.toInt) ∨ ((CdM S R k.toInt.toNat).1 ≠ 1 ∧ r.toInt < 0)) := by
  obtain ⟨n, h⟩ := h
  have m4 := hE.cnt.2.2.2.1
  have hb2 := hE.1.2.1
  have m1 : (-1 : Int32).toInt = -1 := by decide
  obtain ⟨o, q1, aj, ho, hC, hle, hno⟩ := hE.own k.toInt.toNat (by omega)
  obtain ⟨b1, b2, b3⟩ := hE.mem k.toInt.toNat (by omega)
  have MN := (me k k0 (by omega)).2.2
  rw [hE.mp k0 hk] at MN
  have e8 : ((qI R 9 k.toInt.toNat) + (6 : Int32)) + (2 : Int32) = (qI R 9 k.toInt.toNat) + (8 : Int32) := by
    have q6 : ((qI R 9 k.toInt.toNat) + (6 : Int32)).toInt = (qI R 9 k.toInt.toNat).toInt + 6 := by rw [t_add (by rw [li_6]; omega), li_6]
    apply Int32.toInt_inj.mp
    rw [t_add (by rw [q6, li_2]; omega), q6, li_2, t_add (by rw [li_8]; omega), li_8]
    omega
  rw [e8] at MN
  have ek : o = k := Int32.toInt_inj.mp (by omega)
  rw [ek] at hC
  have rgA := rgI (qI R 0 25)
  obtain ⟨bj, ebj⟩ : ∃ b : Int32, b.toInt = (aj : Int) := ⟨Int32.ofInt aj, by rw [Int32.toInt_ofInt_of_le (by omega) (by omega)]⟩
  have nbj : bj.toInt.toNat = aj := by omega
  obtain ⟨n2, h⟩ := rv_skip n (b := 0) (b1 := bj) (by rw [show (0 : Int32).toInt = 0 from rfl]; omega) (by decide) (fun j h1 h2 => by have := hno j (by omega) (Or.inl (by omega)); omega) (by omega) h
  have K := rv_coL hE hT n2 (fX7_u2 S ((qI R 9 k.toInt.toNat) + (6 : Int32))).toInt.toNat (f := -1) (c := 0) (q := (qI R 9 k.toInt.toNat) + (8 : Int32)) (by rw [nbj]; exact hC) MN (by omega) (by rw [ebj]; omega) (fun _ => by rw [m1]; decide) (fun z => absurd rfl z) h
  have END : ∀ (n3 : Nat) {b' fr' : Int32}, b'.toInt = bj.toInt + ((fX7_u2 S ((qI R 9 k.toInt.toNat) + (6 : Int32))).toInt.toNat : Nat) → v_codeOf_L4 r T n3 R k fr' b' → r = fr' ∧ T = R := fun n3 b' fr' eb h => by
    obtain ⟨bA, ebA⟩ : ∃ b : Int32, b = qI R 0 25 := ⟨_, rfl⟩
    obtain ⟨n4, h⟩ := rv_skip n3 (b := b') (b1 := bA) (by rw [ebA]; omega) (by omega) (fun j h1 h2 => by rw [ebA] at h2; have := hno j (by omega) (Or.inr (by omega)); omega) (by rw [ebA]; exact Int.le_refl _) h
    cases n4 with
    | zero => unfold v_codeOf_L4 at h; exact h.elim
    | succ n4 =>
      unfold v_codeOf_L4 at h
      rcases h with ⟨-, e1, e2⟩ | ⟨z, -⟩
      · exact ⟨e1, e2⟩
      · rw [ebA] at z
        exact absurd (Int.le_refl _) z
  show T = R ∧ _
  unfold CdM
  rcases K with ⟨e1, e2, e3⟩ | ⟨n3, b', fr', eb, h, K⟩
  · exact ⟨e1, Or.inr ⟨by omega, by rw [e2]; decide⟩⟩
  · obtain ⟨e1, e2⟩ := END n3 eb h
    rcases K with ⟨z, e3, -⟩ | ⟨z, e3, e4⟩
    · exact ⟨e2, Or.inr ⟨by rw [z]; decide, by rw [e1, e3, m1]; decide⟩⟩
    · exact ⟨e2, Or.inl ⟨z, by rw [e1, e3], by rw [e1]; exact e4⟩⟩
/-- of method m: its one attribute Code -/
def CoK (S0 R S : MS) (m : Nat) : Prop := (CdM S0 R ((qI S0 9 7).toInt.toNat + m)).1 = 1 ∧ qI S 13 m = (CdM S0 R ((qI S0 9 7).toInt.toNat + m)).2 + (6 : Int32) ∧ qI S 14 m = ((CdM S0 R ((qI S0 9 7).toInt.toNat + m)).2 + (6 : Int32)) + (fX7_s4 S0 ((CdM S0 R ((qI S0 9 7).toInt.toNat + m)).2 + (2 : Int32)))
theorem s_coL {S0 : MS} (hE : LyE S0 R) (hT : TxH R 10000000 txCode) (hT0 : TxH S0 10000000 txCode) (me : ∀ j : Int32, 0 ≤ j.toInt → j.toInt < ((qI S0 9 7) + (qI S0 9 8)).toInt → MeN S0 j) : ∀ (n n2 : Nat) {S : MS} {m i : Int32}, T3 S0 S → 0 ≤ m.toInt → i.toInt = (qI S0 9 7).toInt + m.toInt → m.toInt ≤ 24 → (∀ j : Nat, (j : Int) < m.toInt → CoK S0 R S j) → v_X7_codesHold_L2 r u n S m → v_codes_L5 oo n2 R i → (r = 1 ∧ T3 S0 u ∧ (∀ j : Nat, (j : Int) < (qI S0 9 8).toInt → CoK S0 R u j) ∧ oo = .inl R) ∨ (r = 0 ∧ ∃ w, oo = .inr w ∧ BadP u w) := by
  intro n
  induction n with
  | zero => intro n2 S m i _ _ _ _ _ h _; unfold v_X7_codesHold_L2 at h; exact h.elim
  | succ n ih =>
    intro n2 S m i ht m0 hi m24 hK h g
    cases n2 with
    | zero => unfold v_codes_L5 at g; exact g.elim
    | succ n2 =>
      obtain ⟨m1, m2, m3, m4, m5⟩ := hE.cnt
      unfold v_X7_codesHold_L2 at h
      unfold v_codes_L5 at g
      rw [m3] at g
      obtain ⟨-, h⟩ := h
      rw [ht.2.1 8 (by decide) (by decide) (by decide)] at h
      rcases h with ⟨c, er, eu⟩ | ⟨c, h⟩
      · rcases g with ⟨-, g⟩ | ⟨c2, -⟩
        · exact Or.inl ⟨er, by rw [eu]; exact ht, fun j hj => by rw [eu]; exact hK j (by omega), g⟩
        · omega
      rcases g with ⟨c2, -⟩ | ⟨-, r4, S5, g4, g⟩
      · omega
      rcases h with ⟨c3, -⟩ | ⟨c3, -, a7, e7, -, a12, e12, a14, e14, n1, h⟩
      · omega
      have qa : ((qI S 9 7) + m).toInt = (qI S0 9 7).toInt + m.toInt := by rw [ht.2.1 7 (by decide) (by decide) (by decide), t_add (by omega)]
      have ei : (qI S 9 7) + m = i := Int32.toInt_inj.mp (by omega)
      rw [ei, ht.mp, hE.mp (by omega) (by omega)] at e7
      have ni : i.toInt.toNat = (qI S0 9 7).toInt.toNat + m.toInt.toNat := by omega
      have rg : 0 ≤ a12.toInt ∧ a12.toInt < 65536 := by rw [e12]; exact rg_u2
      obtain ⟨U, tU, fU, K⟩ := cv_coL hT0 n1 (f := -1) (c := 0) ht (by decide) (by rw [show (0 : Int32).toInt = 0 from rfl]; omega) (by omega) (by decide) (by decide) (fun z => absurd z (by decide)) h
      rw [show a12.toInt - (0 : Int32).toInt = a12.toInt from Int.sub_zero _, e14, e12, ht.1.u2, e7] at K
      have CM : CdC S0 (fX7_u2 S0 ((qI R 9 i.toInt.toNat) + (6 : Int32))).toInt.toNat ((qI R 9 i.toInt.toNat) + (8 : Int32)) 0 (-1) = CdM S0 R ((qI S0 9 7).toInt.toNat + m.toInt.toNat) := by rw [← ni]; rfl
      rw [CM] at K
      obtain ⟨e5, G⟩ := rv_codeOf hE hT me (by omega) (by omega) g4
      rw [ni] at G
      rw [e5] at g
      have JR : ∀ {t : Int32}, v_codes_J27 oo (v_codes_L5 oo n2) R t i → (t.toInt = 0 ∧ oo = .inr (rBk R 12 (qI R 9 i.toInt.toNat))) ∨ (t.toInt ≠ 0 ∧ ∃ a : Int32, a = i + Int32.ofInt 1 ∧ v_codes_L5 oo n2 R a) := fun hj => by
        obtain ⟨-, hj⟩ := hj
        rcases hj with ⟨S6, hm, a, ea, hj⟩ | ⟨u9, hm, hj⟩
        · rcases rv_must hm with ⟨q, z⟩ | ⟨q, z⟩
          · injection z with z
            rw [z] at hj
            exact Or.inr ⟨q, a, ea, hj⟩
          · exact nomatch z
        · rcases rv_must hm with ⟨q, z⟩ | ⟨q, z⟩
          · exact nomatch z
          · injection z with z
            exact Or.inl ⟨q, by rw [hj, z]⟩
      rcases K with ⟨k1, k2, k3, a, ea, h⟩ | ⟨k1, er, eu⟩
      · rcases G with ⟨-, er4, r0⟩ | ⟨z, -⟩
        · rcases g with ⟨z, -⟩ | ⟨-, g⟩
          · omega
          rcases JR g with ⟨z, -⟩ | ⟨-, a2, ea2, g⟩
          · exact absurd z (by decide)
          have em : a.toInt = m.toInt + 1 := by rw [ea, t_add (by rw [show (Int32.ofInt 1).toInt = 1 from rfl]; omega)]; rfl
          have em2 : a2.toInt = i.toInt + 1 := by rw [ea2, t_add (by rw [show (Int32.ofInt 1).toInt = 1 from rfl]; omega)]; rfl
          refine ih n2 tU (by omega) (by omega) (by omega) (fun j hj => ?_) h g
          by_cases z : j = m.toInt.toNat
          · rw [z]
            exact ⟨k1, k2, k3⟩
          · obtain ⟨d1, d2, d3⟩ := hK j (by omega)
            obtain ⟨f1, f2⟩ := fU j z
            exact ⟨d1, by rw [f1, d2], by rw [f2, d3]⟩
        · exact absurd k1 z
      · rcases G with ⟨z, -⟩ | ⟨-, rn⟩
        · exact absurd z k1
        · rcases g with ⟨-, g⟩ | ⟨z, -⟩
          · rcases JR g with ⟨-, e⟩ | ⟨z, -⟩
            · exact Or.inr ⟨er, _, e, by rw [eu, e7]; exact badP⟩
            · exact absurd (by decide) z
          · exact absurd rn z
theorem s_codes (hE : LyE S R) (hT : TxH R 10000000 txCode) (hT0 : TxH S 10000000 txCode) (me : ∀ j : Int32, 0 ≤ j.toInt → j.toInt < ((qI S 9 7) + (qI S 9 8)).toInt → MeN S j) (h : vX7_codesHold S r u) (g : v_codes R oo) : (r = 1 ∧ T3 S u ∧ (∀ j : Nat, (j : Int) < (qI S 9 8).toInt → CoK S R u j) ∧ oo = .inl R) ∨ (r = 0 ∧ ∃ w, oo = .inr w ∧ BadP u w) := by
  obtain ⟨n, h⟩ := h
  obtain ⟨a1, e1, m, g⟩ := g
  obtain ⟨-, -, -, -, m5⟩ := hE.cnt
  exact s_coL hE hT hT0 me n m T3.rf (by decide) (by rw [e1, m5, show (0 : Int32).toInt = 0 from rfl]; omega) (by decide) (fun j hj => absurd hj (by rw [show (0 : Int32).toInt = 0 from rfl]; omega)) h g
end CP
