/-! rules 13 and 14: one method's code -/
/-- what codeItems of method k leaves as it was (rows lo .. 17 at k, next and codeEnd apart) -/
def CiF (lo : Nat) (R w : MS) (k : Nat) : Prop := smB R w ∧ (∀ j, j ≠ 13 → j ≠ 35 → qI w 0 j = qI R 0 j) ∧ (∀ b j, b ≠ 0 → (b < lo ∨ 17 < b ∨ j ≠ k) → qI w b j = qI R b j) ∧ qJ w = qJ R ∧ qR w = qR R ∧ qT w = qT R ∧ qN w = qN R
/-- what is noted of method k, whose code's items begin at c -/
def CiR (S w : MS) (k : Nat) (c : Int32) : Prop := (qI w 12 k = fX7_u2 S c ∧ (fX7_u2 S c).toInt ≤ 24) ∧ (qI w 13 k = fX7_u2 S (c + (2 : Int32)) ∧ (fX7_u2 S (c + (2 : Int32))).toInt ≤ 24) ∧ qI w 14 k = c + (8 : Int32) ∧ (qI w 15 k = fX7_s4 S (c + (4 : Int32)) ∧ 1 ≤ (fX7_s4 S (c + (4 : Int32))).toInt ∧ (fX7_s4 S (c + (4 : Int32))).toInt ≤ 1200) ∧ (qI w 16 k).toInt = c.toInt + 8 + (fX7_s4 S (c + (4 : Int32))).toInt + 2 ∧ (∃ q : Int32, q.toInt = c.toInt + 8 + (fX7_s4 S (c + (4 : Int32))).toInt ∧ qI w 17 k = fX7_u2 S q ∧ (fX7_u2 S q).toInt ≤ 16 ∧ 0 < c.toInt ∧ q.toInt + 2 + 8 * (fX7_u2 S q).toInt ≤ (qI S 9 1).toInt)
section CI
variable {S S' R R' T u w : MS} {x y z r c v e len o N i x1 x2 k t a b f q m pl st : Int32} {p lo kk : Nat}
theorem rv_mustE {α : Type} {oo : α ⊕ MS} {K : MS → Prop} (h : (∃ S1 : MS, v_must R x a b (.inl S1) ∧ K S1) ∨ (∃ u9 : MS, v_must R x a b (.inr u9) ∧ oo = .inr u9)) : (x.toInt ≠ 0 ∧ K R) ∨ (x.toInt = 0 ∧ oo = .inr (rBk R a b)) := by
  rcases h with ⟨S1, hm, h⟩ | ⟨u9, hm, h⟩
  · rcases rv_must hm with ⟨c, z⟩ | ⟨c, z⟩
    · injection z with z
      rw [z] at h
      exact Or.inl ⟨c, h⟩
    · exact nomatch z
  · rcases rv_must hm with ⟨c, z⟩ | ⟨c, z⟩
    · exact nomatch z
    · injection z with z
      exact Or.inr ⟨c, by rw [h, z]⟩
theorem rv_wnE {α : Type} {oo : α ⊕ MS} {K : Int32 → MS → Prop} {yy : Int64} {y : Int} (ey : yy.toInt = y) (hy : 0 ≤ y ∧ y ≤ 4294967296) (e35 : qI R 0 35 = x2) (e13 : qI R 0 13 = q) (h0 : 0 ≤ q.toInt) (h1 : q.toInt ≤ x2.toInt) (h2 : x2.toInt ≤ 131072) (h : (∃ (r1 : Int32) (S1 : MS), v_within R yy (.inl (r1, S1)) ∧ K r1 S1) ∨ (∃ u9 : MS, v_within R yy (.inr u9) ∧ oo = .inr u9)) : (q.toInt + y ≤ x2.toInt ∧ ∃ v : Int32, v.toInt = q.toInt + y ∧ K q (wI R 0 13 v)) ∨ (x2.toInt < q.toInt + y ∧ oo = .inr (rBk R 14 x2)) := by
  rcases h with ⟨r1, S1, hm, h⟩ | ⟨u9, hm, h⟩
  · rcases wn_at ey hy e35 e13 h0 h1 h2 hm with ⟨d, v, ev, z⟩ | ⟨d, z⟩
    · injection z with z
      injection z with z1 z2
      rw [z1, z2] at h
      exact Or.inl ⟨d, v, ev, h⟩
    · exact nomatch z
  · rcases wn_at ey hy e35 e13 h0 h1 h2 hm with ⟨d, v, ev, z⟩ | ⟨d, z⟩
    · exact nomatch z
    · injection z with z
      exact Or.inr ⟨d, by rw [h, z]⟩
theorem CiF.rf : CiF lo R R kk := ⟨smB.rf, fun _ _ _ => rfl, fun _ _ _ _ => rfl, rfl, rfl, rfl, rfl⟩
theorem CiF.w0 {j : Nat} (hs : SrN R) (hj : j = 13 ∨ j = 35) (h : CiF lo R w kk) : CiF lo R (wI w 0 j v) kk := ⟨h.1.tr (sm_wr (hs.sm h.1) (by decide) (by decide)), fun i h1 h2 => by rw [g_nf (by omega)]; exact h.2.1 i h1 h2, fun b j h0 hk => by rw [g_ne h0]; exact h.2.2.1 b j h0 hk, h.2.2.2⟩
theorem CiF.wr {bb : Nat} (hs : SrN R) (l : 12 ≤ lo) (hb : lo ≤ bb) (hb2 : bb ≤ 17) (h : CiF lo R w kk) : CiF lo R (wI w bb kk v) kk := ⟨h.1.tr (sm_wr (hs.sm h.1) (by omega) (by omega)), fun i h1 h2 => by rw [g_ne (by omega)]; exact h.2.1 i h1 h2, fun b j h0 hk => by rw [qI_wI, if_neg (fun q => by omega)]; exact h.2.2.1 b j h0 hk, h.2.2.2⟩
theorem CiF.tr {lo2 : Nat} (h : CiF lo R T kk) (g : CiF lo2 T w kk) (l : lo ≤ lo2) : CiF lo R w kk := ⟨h.1.tr g.1, fun j h1 h2 => (g.2.1 j h1 h2).trans (h.2.1 j h1 h2), fun b j h0 hk => (g.2.2.1 b j h0 (by omega)).trans (h.2.2.1 b j h0 hk), g.2.2.2.1.trans h.2.2.2.1, g.2.2.2.2.1.trans h.2.2.2.2.1, g.2.2.2.2.2.1.trans h.2.2.2.2.2.1, g.2.2.2.2.2.2.trans h.2.2.2.2.2.2⟩
theorem CiF.bt (h : CiF lo R w kk) (hb : BtE S R) : BtE S w := hb.mv smX.rf h.1 (h.2.1 12 (by decide) (by decide))
theorem rv_287 {oo : MS ⊕ MS} : ∀ (n : Nat) {R : MS} {q k : Int32}, BtE S R → SrN R → qI R 0 35 = x2 → x2.toInt ≤ (qI S 9 1).toInt → qI R 0 13 = q → 0 ≤ q.toInt → q.toInt ≤ x2.toInt → qI R 17 m.toInt.toNat = N → 0 ≤ k.toInt → k.toInt ≤ N.toInt → N.toInt ≤ 16 → v_codeItems_L287 oo n R m k → (q.toInt + 8 * (N.toInt - k.toInt) + 2 ≤ x2.toInt ∧ ∃ (v q2 : Int32) (n2 : Nat), v.toInt = q.toInt + 8 * (N.toInt - k.toInt) + 2 ∧ q2.toInt = q.toInt + 8 * (N.toInt - k.toInt) ∧ v_codeItems_L328 oo n2 (wI R 0 13 v) (fX7_u2 S q2) 0) ∨ (x2.toInt < q.toInt + 8 * (N.toInt - k.toInt) + 2 ∧ ∃ W, oo = .inr (rBk W 14 x2)) := by
  intro n
  induction n with
  | zero => intro R q k _ _ _ _ _ _ _ _ _ _ _ h; unfold v_codeItems_L287 at h; exact h.elim
  | succ n ih =>
    intro R q k hb hs e35 hx e13 q0 q1 e17 k0 k1 N16 h
    have x13 : x2.toInt ≤ 131072 := by have := hb.2.1.2.1; omega
    have l2 : (2 : Int64).toInt = 2 := by decide
    have l8 : (8 : Int64).toInt = 8 := by decide
    unfold v_codeItems_L287 at h
    obtain ⟨-, h⟩ := h
    rw [e17] at h
    rcases h with ⟨c, h⟩ | ⟨c, h⟩
    · rcases rv_wnE l2 (by decide) e35 e13 q0 q1 x13 h with ⟨d, v, ev, -, a99, e99, n', h⟩ | ⟨d, e⟩
      · rw [← (hb.w13 hs).u2 (by omega) (by omega)] at e99
        rw [e99] at h
        exact Or.inl ⟨by omega, v, q, n', by omega, by omega, h⟩
      · exact Or.inr ⟨by omega, _, e⟩
    · rcases rv_wnE l8 (by decide) e35 e13 q0 q1 x13 h with ⟨d, v, ev, a, ea, h⟩ | ⟨d, e⟩
      · have ek : a.toInt = k.toInt + 1 := by rw [ea, t_add (by rw [show (Int32.ofInt 1).toInt = 1 from rfl]; omega)]; rfl
        rcases ih (hb.w13 hs) hs.w13 (by rw [g_nf (by decide), e35]) hx n_13 (by omega) (by omega) (by rw [g_ne (by decide), e17]) (by omega) (by omega) N16 h with ⟨d1, v1, q2, n2, ev1, eq2, h⟩ | ⟨d1, W, e⟩
        · rw [wI_wI] at h
          exact Or.inl ⟨by omega, v1, q2, n2, by omega, by omega, h⟩
        · exact Or.inr ⟨by omega, W, e⟩
      · exact Or.inr ⟨by omega, _, e⟩
/-- the reference's part from the catches' number on -/
def CaV (oo : MS ⊕ MS) (S72 : MS) (v201_1 : Int32) : Prop := ((∃ (r74 : Int32) (S75 : MS), v_within S72 (2 : Int64) (.inl (r74, S75)) ∧ (d_two S75 r74 ∧ (((0 : Int) ≤ v201_1.toInt ∧ v201_1.toInt < 24) ∧ (∃ S81 : MS, S81 = wI S75 17 v201_1.toInt.toNat (f_two S75 r74) ∧ (((0 : Int) ≤ v201_1.toInt ∧ v201_1.toInt < 24) ∧ ((16 < (qI S81 17 v201_1.toInt.toNat).toInt ∧ (v_codeItems_J267 oo S81 0 v201_1 r74)) ∨ (¬ 16 < (qI S81 17 v201_1.toInt.toNat).toInt ∧ (v_codeItems_J267 oo S81 1 v201_1 r74)))))))) ∨ (∃ u9 : MS, v_within S72 (2 : Int64) (.inr u9) ∧ (oo = .inr u9)))
theorem s_cat {oo : MS ⊕ MS} (hb : BtE S R) (hs : SrN R) (e35 : qI R 0 35 = x2) (hx : x2.toInt ≤ (qI S 9 1).toInt) (e13 : qI R 0 13 = st) (q0 : 0 < st.toInt) (q1 : st.toInt ≤ x2.toInt) (h : vX2_catchesHold S st x2 r u) (g : CaV oo R m) : (r = 1 ∧ u = S ∧ ∃ w, oo = .inl w ∧ CiF 16 R w m.toInt.toNat ∧ (qI w 16 m.toInt.toNat).toInt = st.toInt + 2 ∧ qI w 17 m.toInt.toNat = fX7_u2 S st ∧ (fX7_u2 S st).toInt ≤ 16 ∧ st.toInt + 2 + 8 * (fX7_u2 S st).toInt + 2 ≤ x2.toInt) ∨ (r = 0 ∧ ∃ w, oo = .inr w ∧ BadP u w) := by
  have x13 : x2.toInt ≤ 131072 := by have := hb.2.1.2.1; omega
  have l2 : (2 : Int64).toInt = 2 := by decide
  have st2 : (st + (2 : Int32)).toInt = st.toInt + 2 := by rw [t_add (by rw [li_2]; omega), li_2]
  unfold CaV at g
  rcases h with ⟨c1, -, a6, e6, h⟩ | ⟨c1, r57, S58, h, -, -, er, eu⟩
  swap
  · obtain ⟨a1, b1⟩ := cv_breaks h
    rcases rv_wnE l2 (by decide) e35 e13 (by omega) q1 x13 g with ⟨d, -⟩ | ⟨d, e⟩
    · omega
    · exact Or.inr ⟨by rw [er, a1], _, e, by rw [eu, b1]; exact badP⟩
  rcases rv_wnE l2 (by decide) e35 e13 (by omega) q1 x13 g with ⟨d, v, ev, -, gm, S81, e81, -, g⟩ | ⟨d, e⟩
  swap
  · omega
  rw [← (hb.w13 hs).u2 (by omega) (by omega), ← e6] at e81
  have f0 : CiF 16 R S81 m.toInt.toNat := by rw [e81]; exact (CiF.rf.w0 hs (Or.inl rfl)).wr hs (by decide) (by decide) (by decide)
  have x17 : qI S81 17 m.toInt.toNat = a6 := by rw [e81, g_eq]
  have y13 : qI S81 0 13 = v := by rw [e81, g_ne (by decide), n_13]
  have y35 : qI S81 0 35 = x2 := by rw [e81, g_ne (by decide), g_nf (by decide), e35]
  have r6 := rg_u2 (S := S) (x := st)
  rw [← e6] at r6
  rw [x17] at g
  rcases h with ⟨c2, a11, e11, h⟩ | ⟨c2, r53, S54, h, -, -, er, eu⟩
  swap
  · obtain ⟨a1, b1⟩ := cv_breaks h
    rcases g with ⟨-, g⟩ | ⟨z, -⟩
    swap
    · omega
    rcases rv_mustE g with ⟨z, -⟩ | ⟨-, e⟩
    · exact absurd rfl z
    · exact Or.inr ⟨by rw [er, a1], _, e, by rw [eu, b1]; exact badP⟩
  rcases g with ⟨z, -⟩ | ⟨-, g⟩
  · omega
  rcases rv_mustE g with ⟨-, -, S88, e88, n2, g⟩ | ⟨z, -⟩
  swap
  · exact absurd z (by decide)
  have f8 : CiF 16 R S88 m.toInt.toNat := by rw [e88]; exact f0.wr hs (by decide) (by decide) (by decide)
  have m8 : (((8 : Int32) * a6)).toInt = 8 * a6.toInt := by rw [t_mul (by rw [li_8]; omega), li_8]
  have q11 : a11.toInt = st.toInt + 2 + 8 * a6.toInt := by rw [e11, t_add (by rw [st2, m8]; omega), st2, m8]
  have q13 : (a11 + (2 : Int32)).toInt = st.toInt + 2 + 8 * a6.toInt + 2 := by rw [t_add (by rw [li_2]; omega), li_2, q11]
  have K := rv_287 n2 (f8.bt hb) (hs.sm f8.1) (by rw [e88, g_ne (by decide), y35]) hx (by rw [e88, g_ne (by decide), y13]) (by omega) (by omega) (by rw [e88, g_ne (by decide), x17]) (by decide) (by show (0 : Int) ≤ _; omega) c2 g
  rw [show (0 : Int32).toInt = 0 from rfl] at K
  rcases h with ⟨c3, -, a17, e17, a18, e18, n3, h⟩ | ⟨c3, r49, S50, h, -, -, er, eu⟩
  swap
  · obtain ⟨a1, b1⟩ := cv_breaks h
    rcases K with ⟨d2, -⟩ | ⟨d2, W, e⟩
    · omega
    · exact Or.inr ⟨by rw [er, a1], _, e, by rw [eu, b1]; exact badP⟩
  rcases K with ⟨d2, v2, q2, n4, ev2, eq2, g⟩ | ⟨d2, -⟩
  swap
  · omega
  have eq3 : q2 = a11 := Int32.toInt_inj.mp (by omega)
  rw [eq3, ← e17] at g
  have h18 : a18.toInt = a11.toInt + 2 := by rw [e18, t_add (by rw [show (Int32.ofInt 2).toInt = 2 from rfl]; omega)]; rfl
  have r17 := rg_u2 (S := S) (x := a11)
  rw [← e17] at r17
  have f9 : CiF 16 R (wI S88 0 13 v2) m.toInt.toNat := f8.w0 hs (Or.inl rfl)
  rcases s_wiL n3 n4 (f9.bt hb) (hs.sm f9.1) (by rw [g_nf (by decide), e88, g_ne (by decide), y35]) hx (by omega) (by omega) (by rw [n_13]; exact Int32.toInt_inj.mp (by omega)) (by decide) (by omega) h g with ⟨er, eu, v9, e⟩ | K
  · refine Or.inl ⟨er, eu, _, e, f9.w0 hs (Or.inl rfl), ?_, ?_, ?_, ?_⟩
    · rw [g_ne (by decide), g_ne (by decide), e88, g_eq, y13]
      omega
    · rw [g_ne (by decide), g_ne (by decide), e88, g_ne (by decide), x17, e6]
    · rw [← e6]
      exact c2
    · rw [← e6]
      omega
  · exact Or.inr K
end CI
