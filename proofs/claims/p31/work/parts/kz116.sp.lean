/-! rule 15: how long instructions are -/
/-- both look at the same code -/
def CoE (S R : MS) : Prop := (qI R 0 36 = qI S 8 1 ∧ qI R 0 37 = qI S 8 2) ∧ (1 ≤ (qI S 8 2).toInt ∧ (qI S 8 2).toInt ≤ 1200) ∧ 0 < (qI S 8 1).toInt ∧ (qI S 8 1).toInt + (qI S 8 2).toInt + 2 ≤ (qI S 9 1).toInt
section SP
variable {S S' R R' T u w : MS} {x y z r c v e len o N i x1 x2 k t a b f q m pl st : Int32} {p lo kk : Nat}
theorem CoE.at (hc : CoE S R) (hb : BtE S R) (h0 : 0 ≤ o.toInt) (h1 : o.toInt ≤ 1300) : ((qI S 8 1) + o).toInt = (qI S 8 1).toInt + o.toInt := by
  have := hc.2.2
  have := hb.2.1
  exact t_add (by omega)
theorem CoE.u1 (hc : CoE S R) (hb : BtE S R) (h0 : 0 ≤ o.toInt) (h1 : o.toInt < (qI S 8 2).toInt) : fX2_u1 S o = f_codeOctet R o := by
  obtain ⟨⟨c1, c2⟩, ⟨c3, c4⟩, c5, c6⟩ := hc
  have hc := (⟨⟨c1, c2⟩, ⟨c3, c4⟩, c5, c6⟩ : CoE S R).at hb h0 (by omega)
  unfold fX2_u1 f_codeOctet
  rw [if_neg (by omega), if_pos h1, bt_u1 hb (by omega) (by omega), c1]
theorem CoE.u2 (hc : CoE S R) (hb : BtE S R) (h0 : 0 ≤ o.toInt) (h1 : o.toInt + 2 ≤ (qI S 8 2).toInt) : f_codeTwo R o = (fX2_u2 S o).toInt16.toInt32 := by
  have ha := hc.at hb h0 (by have := hc.2.1; omega)
  obtain ⟨⟨c1, c2⟩, ⟨c3, c4⟩, c5, c6⟩ := hc
  have e : ((qI S 8 2) - (2 : Int32)).toInt = (qI S 8 2).toInt - 2 := by rw [t_sub (by rw [li_2]; omega), li_2]
  unfold fX2_u2 f_codeTwo
  rw [if_neg (by omega), if_pos (by omega), hb.u2 (by omega) (by omega), c1]
theorem CoE.s4 (hc : CoE S R) (hb : BtE S R) (h0 : 0 ≤ o.toInt) (h1 : o.toInt + 4 ≤ (qI S 8 2).toInt) : f_codeFour R o = fX2_s4 S o := by
  have ha := hc.at hb h0 (by have := hc.2.1; omega)
  obtain ⟨⟨c1, c2⟩, ⟨c3, c4⟩, c5, c6⟩ := hc
  have e : ((qI S 8 2) - (4 : Int32)).toInt = (qI S 8 2).toInt - 4 := by rw [t_sub (by rw [li_4]; omega), li_4]
  unfold fX2_s4 f_codeFour
  rw [if_neg (by omega), if_pos (by omega), hb.s4 (by omega) (by omega), c1]
theorem CoE.oc (hc : CoE S R) (hb : BtE S R) (h0 : 0 ≤ o.toInt) (h1 : o.toInt < (qI S 8 2).toInt) : 0 ≤ (f_codeOctet R o).toInt ∧ (f_codeOctet R o).toInt < 256 := by
  have ha := hc.at hb h0 (by have := hc.2.1; omega)
  obtain ⟨⟨c1, c2⟩, ⟨c3, c4⟩, c5, c6⟩ := hc
  have q := (hb.2.2 ((qI S 8 1) + o).toInt.toNat (by omega)).2
  unfold f_codeOctet
  rw [c1, and255 q]
  split <;> omega
theorem nb_eq (h0 : 0 ≤ o.toInt) (h1 : o.toInt ≤ 1200) : f_switchFrom R o = fX2_numbersOf S o ∧ o.toInt + 1 ≤ (fX2_numbersOf S o).toInt ∧ (fX2_numbersOf S o).toInt ≤ o.toInt + 4 := by
  have z : ∀ n : Fin 1201, ((Int32.ofInt (n.val : Int) + (1 : Int32)) + ((3 : Int32) - (Int32.ofInt (n.val : Int) - Int32.ofInt (n.val : Int) / (4 : Int32) * (4 : Int32)))) = ((Int32.ofInt (n.val : Int) + (4 : Int32)) &&& (-4 : Int32)) ∧ (n.val : Int) + 1 ≤ ((Int32.ofInt (n.val : Int) + (4 : Int32)) &&& (-4 : Int32)).toInt ∧ ((Int32.ofInt (n.val : Int) + (4 : Int32)) &&& (-4 : Int32)).toInt ≤ (n.val : Int) + 4 := by decide +kernel
  obtain ⟨n, hn⟩ : ∃ n : Fin 1201, (n.val : Int) = o.toInt := ⟨⟨o.toInt.toNat, by omega⟩, by
    show ((o.toInt.toNat : Nat) : Int) = _
    omega⟩
  have q := z n
  rw [hn, Int32.ofInt_toInt] at q
  exact q
theorem sp_tab : ∀ n : Fin 256, (((n.val = 170 ∨ n.val = 171) ∧ f_spanOf S00 (Int32.ofInt (n.val : Int)) = -1) ∨ (n.val = 196 ∧ f_spanOf S00 (Int32.ofInt (n.val : Int)) = -2) ∨ (n.val = 188 ∧ f_spanOf S00 (Int32.ofInt (n.val : Int)) = 2) ∨ (¬ (n.val = 170 ∨ n.val = 171) ∧ ¬ n.val = 196 ∧ ¬ n.val = 188 ∧ f_spanOf S00 (Int32.ofInt (n.val : Int)) = (if n.val < 202 then stLN.getD n.val 0 else 0) ∧ 0 ≤ (f_spanOf S00 (Int32.ofInt (n.val : Int))).toInt)) := by decide +kernel
theorem sp_S00 : f_spanOf R a = f_spanOf S00 a := rfl
theorem sp_of (h0 : 0 ≤ a.toInt) (h1 : a.toInt < 256) : ((a.toInt = 170 ∨ a.toInt = 171) ∧ f_spanOf R a = -1) ∨ (a.toInt = 196 ∧ f_spanOf R a = -2) ∨ (a.toInt = 188 ∧ f_spanOf R a = 2) ∨ (¬ (a.toInt = 170 ∨ a.toInt = 171) ∧ ¬ a.toInt = 196 ∧ ¬ a.toInt = 188 ∧ f_spanOf R a = fX6_lengthOf S a ∧ 0 ≤ (f_spanOf R a).toInt) := by
  obtain ⟨n, hn⟩ : ∃ n : Fin 256, (n.val : Int) = a.toInt := ⟨⟨a.toInt.toNat, by omega⟩, by
    show ((a.toInt.toNat : Nat) : Int) = _
    omega⟩
  have q := sp_tab n
  rw [hn, Int32.ofInt_toInt] at q
  rw [sp_S00]
  have en : a.toInt.toNat = n.val := by omega
  have el : fX6_lengthOf S a = if n.val < 202 then stLN.getD n.val 0 else 0 := by
    unfold fX6_lengthOf f_X6_lengthOf_J12
    rw [if_neg (by omega), en]
    by_cases c : n.val < 202
    · rw [if_pos (by omega), if_pos c]
    · rw [if_neg (by omega), if_neg c]
  rcases q with ⟨z, e⟩ | ⟨z, e⟩ | ⟨z, e⟩ | ⟨z1, z2, z3, e, e2⟩
  · exact Or.inl ⟨by omega, e⟩
  · exact Or.inr (Or.inl ⟨by omega, e⟩)
  · exact Or.inr (Or.inr (Or.inl ⟨by omega, e⟩))
  · exact Or.inr (Or.inr (Or.inr ⟨by omega, by omega, by omega, by rw [el]; exact e, e2⟩))
theorem rv_J113 (h : v_span_J113 r T R o a N) (ha : a.toInt ≠ 188) (e37 : qI R 0 37 = qI S 8 2) (en : N = lrF S o) : T = R ∧ ((0 < (laF S o).toInt ∧ r = laF S o) ∨ ((laF S o).toInt ≤ 0 ∧ r.toInt ≤ 0)) := by
  unfold laF
  rw [← en, ← e37]
  rcases h with ⟨c, er, eT⟩ | ⟨c, ⟨c2, h⟩ | ⟨c2, er, eT⟩⟩
  · refine ⟨eT, Or.inr ⟨?_, by rw [er]; decide⟩⟩
    split
    · exact c
    · decide
  · rcases h with ⟨z, -⟩ | ⟨-, er, eT⟩
    · exact absurd z ha
    · refine ⟨eT, Or.inl ?_⟩
      rw [if_pos c2]
      exact ⟨by omega, er⟩
  · refine ⟨eT, Or.inr ⟨?_, by rw [er]; decide⟩⟩
    rw [if_neg c2]
    decide
theorem rv_swT (hb : BtE S R) (hc : CoE S R) (o0 : 0 ≤ o.toInt) (o1 : o.toInt < (qI S 8 2).toInt) (ha : a.toInt = 170) (h : v_switchSpan R o a r T) : T = R ∧ r = fX2_tableLength S o := by
  have c34 := hc.2.1
  obtain ⟨nb1, nb2, nb3⟩ := nb_eq (R := R) (S := S) o0 (by omega)
  obtain ⟨p, ep⟩ : ∃ p : Int32, p = fX2_numbersOf S o := ⟨_, rfl⟩
  rw [← ep] at nb1 nb2 nb3
  have p4 : (p + (4 : Int32)).toInt = p.toInt + 4 := by rw [t_add (by rw [li_4]; omega), li_4]
  have p8 : (p + (8 : Int32)).toInt = p.toInt + 8 := by rw [t_add (by rw [li_8]; omega), li_8]
  have p12 : (p + (12 : Int32)).toInt = p.toInt + 12 := by rw [t_add (by rw [li_12]; omega), li_12]
  have p16 : (p + (16 : Int32)).toInt = p.toInt + 16 := by rw [t_add (by rw [li_16]; omega), li_16]
  obtain ⟨-, a4, e4, h⟩ := h
  rw [nb1] at e4
  rcases h with ⟨-, h⟩ | ⟨z, -⟩
  swap
  · exact absurd ha z
  rw [e4] at h
  unfold fX2_tableLength
  rw [← ep]
  rcases h with ⟨c, h⟩ | ⟨c, er, eT⟩
  · rw [hc.1.2] at c
    rw [if_neg (by omega)]
    rcases h with ⟨-, -, -, a46, e46, h⟩ | ⟨z, -⟩
    swap
    · exact absurd ha z
    rw [hc.s4 hb (by omega) (by omega), hc.s4 hb (by omega) (by omega)] at e46
    rw [← e46]
    rcases h with ⟨c2, er, eT⟩ | ⟨c2, h⟩
    · rw [if_pos c2]
      exact ⟨eT, er⟩
    rw [if_neg c2]
    rcases h with ⟨c3, er, eT⟩ | ⟨c3, er, eT⟩
    · rw [if_pos c3]
      refine ⟨eT, ?_⟩
      rw [er]
      have l0 : (0 : Int64).toInt = 0 := by decide
      have l200 : (200 : Int64).toInt = 200 := by decide
      rw [c_ls, l0] at c2
      rw [c_le, l200] at c3
      have ex : a46.toInt32.toInt = a46.toInt := tl_to (by omega)
      have m1 : ((4 : Int32) * (a46.toInt32 + (1 : Int32))).toInt = 4 * a46.toInt + 4 := by
        have q1 : (a46.toInt32 + (1 : Int32)).toInt = a46.toInt + 1 := by rw [t_add (by rw [li_1]; omega), li_1, ex]
        rw [t_mul (by rw [li_4, q1]; omega), li_4, q1]
        omega
      have m2 : ((4 : Int32) * a46.toInt32).toInt = 4 * a46.toInt := by rw [t_mul (by rw [li_4, ex]; omega), li_4, ex]
      have q3 : (p + (12 : Int32)) + ((4 : Int32) * (a46.toInt32 + (1 : Int32))) = (p + (16 : Int32)) + ((4 : Int32) * a46.toInt32) := Int32.toInt_inj.mp (by rw [t_add (by omega), t_add (by omega)]; omega)
      rw [q3]
    · rw [if_neg c3]
      exact ⟨eT, er⟩
  · rw [hc.1.2] at c
    rw [if_pos (by omega)]
    exact ⟨eT, er⟩
theorem rv_lkL (hb : BtE S R) (hc : CoE S R) {p : Int32} (p0 : 0 ≤ p.toInt) (hN : N.toInt ≤ 200) (hp : p.toInt + 8 + 8 * N.toInt ≤ (qI S 8 2).toInt) : ∀ (n m : Nat) {k : Int32}, 1 ≤ k.toInt → N.toInt - k.toInt ≤ m → v_switchSpan_L136 r T n R o p N k → T = R ∧ r = if lkB S p N m k = true then (((p + (8 : Int32)) + ((8 : Int32) * N)) - o) else 0 := by
  intro n
  induction n with
  | zero => intro m k _ _ h; unfold v_switchSpan_L136 at h; exact h.elim
  | succ n ih =>
    intro m k k1 hm h
    unfold v_switchSpan_L136 at h
    rcases h with ⟨c, er, eT⟩ | ⟨c, -, -, h⟩
    · have e : lkB S p N m k = true := by
        cases m with
        | zero => rfl
        | succ m => rw [lkB_s, if_pos c]
      rw [if_pos e]
      exact ⟨eT, er⟩
    · have c34 := hc.2.1
      obtain ⟨m, rfl⟩ : ∃ m', m = m' + 1 := ⟨m - 1, by omega⟩
      have k8 : ((8 : Int32) * k).toInt = 8 * k.toInt := by rw [t_mul (by rw [li_8]; omega), li_8]
      have p8 : (p + (8 : Int32)).toInt = p.toInt + 8 := by rw [t_add (by rw [li_8]; omega), li_8]
      have q1 : (p + ((8 : Int32) * k)).toInt = p.toInt + 8 * k.toInt := by rw [t_add (by omega), k8]
      have q2 : ((p + (8 : Int32)) + ((8 : Int32) * k)).toInt = p.toInt + 8 + 8 * k.toInt := by rw [t_add (by omega), k8, p8]
      rw [hc.s4 hb (by omega) (by omega), hc.s4 hb (by omega) (by omega)] at h
      rw [lkB_s, if_neg c]
      rcases h with ⟨c1, a, ea, h⟩ | ⟨c1, er, eT⟩
      · rw [if_pos c1, ← ea]
        have ek : a.toInt = k.toInt + 1 := by rw [ea, t_add (by rw [show (Int32.ofInt 1).toInt = 1 from rfl]; omega)]; rfl
        exact ih m (by omega) (by omega) h
      · rw [if_neg c1, if_neg (by decide)]
        exact ⟨eT, er⟩
theorem rv_swL (hb : BtE S R) (hc : CoE S R) (o0 : 0 ≤ o.toInt) (o1 : o.toInt < (qI S 8 2).toInt) (ha : a.toInt = 171) (h : v_switchSpan R o a r T) : T = R ∧ r = llF S o := by
  have c34 := hc.2.1
  obtain ⟨nb1, nb2, nb3⟩ := nb_eq (R := R) (S := S) o0 (by omega)
  unfold llF
  obtain ⟨p, ep⟩ : ∃ p : Int32, p = fX2_numbersOf S o := ⟨_, rfl⟩
  rw [← ep] at nb1 nb2 nb3 ⊢
  have p4 : (p + (4 : Int32)).toInt = p.toInt + 4 := by rw [t_add (by rw [li_4]; omega), li_4]
  have p8 : (p + (8 : Int32)).toInt = p.toInt + 8 := by rw [t_add (by rw [li_8]; omega), li_8]
  obtain ⟨-, a4, e4, h⟩ := h
  rw [nb1] at e4
  rcases h with ⟨z, -⟩ | ⟨-, h⟩
  · omega
  rw [e4] at h
  rcases h with ⟨c, h⟩ | ⟨c, er, eT⟩
  · rw [hc.1.2] at c
    rw [if_neg (by omega)]
    rcases h with ⟨z, -⟩ | ⟨-, -, a12, e12, h⟩
    · omega
    rw [hc.s4 hb (by omega) (by omega)] at e12
    rw [← e12]
    rcases h with ⟨c2, er, eT⟩ | ⟨c2, h⟩
    · rw [if_pos c2]
      exact ⟨eT, er⟩
    rw [if_neg c2]
    rcases h with ⟨c3, er, eT⟩ | ⟨c3, h⟩
    · rw [if_pos c3]
      exact ⟨eT, er⟩
    rw [if_neg c3]
    have m8 : ((8 : Int32) * a12).toInt = 8 * a12.toInt := by rw [t_mul (by rw [li_8]; omega), li_8]
    have q8 : ((p + (8 : Int32)) + ((8 : Int32) * a12)).toInt = p.toInt + 8 + 8 * a12.toInt := by rw [t_add (by omega), p8, m8]
    rw [hc.1.2] at h
    rcases h with ⟨c4, n, h⟩ | ⟨c4, er, eT⟩
    · rw [if_pos c4]
      exact rv_lkL hb hc (by omega) (by omega) (by omega) n 1000 (by decide) (by rw [li_1]; omega) h
    · rw [if_neg c4]
      exact ⟨eT, er⟩
  · rw [hc.1.2] at c
    rw [if_pos (by omega)]
    exact ⟨eT, er⟩
theorem rv_span (hb : BtE S R) (hc : CoE S R) (o0 : 0 ≤ o.toInt) (o1 : o.toInt < (qI S 8 2).toInt) (h : v_span R o r T) : T = R ∧ ((0 < (laF S o).toInt ∧ r = laF S o) ∨ ((laF S o).toInt ≤ 0 ∧ r.toInt ≤ 0)) := by
  have c34 := hc.2.1
  obtain ⟨-, a4, e4, -, a8, e8, h⟩ := h
  have oc := hc.oc hb o0 o1
  rw [← e4] at oc
  have ou : fX2_u1 S o = a4 := by rw [e4]; exact hc.u1 hb o0 o1
  have q1 : (o + (1 : Int32)).toInt = o.toInt + 1 := by rw [t_add (by rw [li_1]; omega), li_1]
  have J101 : ∀ {n : Int32}, 0 ≤ n.toInt → a4.toInt ≠ 188 → n = lrF S o → v_span_J101 r T R o a4 n → T = R ∧ ((0 < (laF S o).toInt ∧ r = laF S o) ∨ ((laF S o).toInt ≤ 0 ∧ r.toInt ≤ 0)) := fun {n} n0 ha en h => by
    rcases h with ⟨z, -⟩ | ⟨-, h⟩
    · rw [show (-1 : Int32).toInt = -1 from by decide] at z
      omega
    · exact rv_J113 h ha hc.1.2 en
  rcases sp_of (R := R) (S := S) oc.1 oc.2 with ⟨z, e⟩ | ⟨z, e⟩ | ⟨z, e⟩ | ⟨z1, z2, z3, e, e2⟩
  · rw [e8, e] at h
    rcases h with ⟨c, -⟩ | ⟨-, ⟨-, r20, S21, h2, h⟩ | ⟨c, -⟩⟩
    · exact absurd c (by decide)
    swap
    · exact absurd rfl c
    rcases z with z | z
    · obtain ⟨eT, er⟩ := rv_swT hb hc o0 o1 z h2
      rw [eT] at h
      exact rv_J113 h (by omega) hc.1.2 (by unfold lrF; rw [ou, if_pos z]; exact er)
    · obtain ⟨eT, er⟩ := rv_swL hb hc o0 o1 z h2
      rw [eT] at h
      exact rv_J113 h (by omega) hc.1.2 (by unfold lrF; rw [ou, if_neg (by omega), if_pos z]; exact er)
  · rw [e8, e] at h
    have el : lrF S o = fX2_wideLength S (fX2_u1 S (o + (1 : Int32))) := by
      unfold lrF
      rw [ou, if_neg (by omega), if_neg (by omega), if_neg (by omega), if_pos z]
    have J38 : ∀ {t : Int32}, t = fX2_u1 S (o + (1 : Int32)) → v_span_J38 r T R t o a4 → T = R ∧ ((0 < (laF S o).toInt ∧ r = laF S o) ∨ ((laF S o).toInt ≤ 0 ∧ r.toInt ≤ 0)) := fun {t} et h => by
      rw [← et] at el
      unfold fX2_wideLength f_X2_wideLength_J24 fX6_isLoad fX6_isStore f_X6_isLoad_J18 f_X6_isStore_J18 at el
      have o1' : ¬ (1 : Int32).toInt = 0 := by decide
      have o0' : (0 : Int32).toInt = 0 := rfl
      rcases h with ⟨c, h⟩ | ⟨c, h⟩
      · rw [if_pos c] at el
        exact J101 (by decide) (by omega) el.symm h
      rw [if_neg c] at el
      rcases h with ⟨c1, h⟩ | ⟨c1, h⟩
      · rw [if_pos c1, if_neg o1'] at el
        exact J101 (by decide) (by omega) el.symm h
      rw [if_neg c1] at el
      rcases h with ⟨c2, h⟩ | ⟨c2, h⟩
      · rw [if_pos c2, if_neg o1'] at el
        exact J101 (by decide) (by omega) el.symm h
      rw [if_neg c2] at el
      rcases h with ⟨c3, h⟩ | ⟨c3, h⟩
      · rw [if_pos c3, if_neg o1'] at el
        exact J101 (by decide) (by omega) el.symm h
      rw [if_neg c3, if_pos o0'] at el
      rcases h with ⟨c4, h⟩ | ⟨c4, h⟩
      · rw [if_pos c4, if_neg o1'] at el
        exact J101 (by decide) (by omega) el.symm h
      rw [if_neg c4] at el
      rcases h with ⟨c5, h⟩ | ⟨c5, h⟩
      · rw [if_pos c5, if_neg o1'] at el
        exact J101 (by decide) (by omega) el.symm h
      rw [if_neg c5] at el
      rcases h with ⟨c6, h⟩ | ⟨c6, h⟩
      · rw [if_pos c6, if_neg o1'] at el
        exact J101 (by decide) (by omega) el.symm h
      rw [if_neg c6, if_pos o0'] at el
      exact J101 (by decide) (by omega) el.symm h
    rcases h with ⟨-, h⟩ | ⟨c, -⟩
    swap
    · exact absurd rfl c
    rw [hc.1.2, q1] at h
    rcases h with ⟨c, h⟩ | ⟨c, -, h⟩
    · refine J38 ?_ h
      unfold fX2_u1 f_X2_u1_J12
      rw [if_neg (by omega), if_neg (by omega)]
    · refine J38 ?_ h
      rw [hc.u1 hb (by omega) (by omega)]
  · rw [e8, e] at h
    have el : lrF S o = if (fX2_u1 S (o + (1 : Int32))).toInt = 10 then 2 else 0 := by
      unfold lrF
      rw [ou, if_neg (by omega), if_neg (by omega), if_pos z]
    rcases h with ⟨c, -⟩ | ⟨-, ⟨c, -⟩ | ⟨-, h⟩⟩
    · exact absurd c (by decide)
    · exact absurd c (by decide)
    have o2 : (o + (2 : Int32)).toInt = o.toInt + 2 := by rw [t_add (by rw [li_2]; omega), li_2]
    have oo0 : (o + (0 : Int32)).toInt = o.toInt := by rw [Int32.add_zero]
    rcases h with ⟨c, -⟩ | ⟨-, ⟨c2, h⟩ | ⟨c2, er, eT⟩⟩
    · exact absurd c (by decide)
    · rw [hc.1.2, o2] at c2
      rcases h with ⟨-, -, h⟩ | ⟨c3, -⟩
      swap
      · exact absurd z c3
      rw [← hc.u1 hb (by omega) (by omega)] at h
      rcases h with ⟨c4, er, eT⟩ | ⟨c4, er, eT⟩
      · rw [if_pos c4] at el
        refine ⟨eT, Or.inl ?_⟩
        unfold laF
        rw [el, if_pos (by omega)]
        exact ⟨by decide, er⟩
      · rw [if_neg c4] at el
        refine ⟨eT, Or.inr ⟨?_, by rw [er]; decide⟩⟩
        unfold laF
        rw [el]
        split <;> decide
    · rw [hc.1.2, o2] at c2
      have eu : fX2_u1 S (o + (1 : Int32)) = 0 := by
        unfold fX2_u1 f_X2_u1_J12
        rw [if_neg (by omega), if_neg (by omega)]
      rw [eu, if_neg (by decide)] at el
      refine ⟨eT, Or.inr ⟨?_, by rw [er]; decide⟩⟩
      unfold laF
      rw [el]
      split <;> decide
  · have el : f_spanOf R a4 = lrF S o := by
      unfold lrF
      rw [ou, if_neg (by omega), if_neg (by omega), if_neg z3, if_neg z2, e]
    rw [e8] at h
    rcases h with ⟨c, -⟩ | ⟨-, h⟩
    · rw [show (-2 : Int32).toInt = -2 from by decide] at c
      omega
    · exact J101 e2 z3 el h
end SP
