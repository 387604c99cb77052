/-! kinds in a number -/
theorem c_shr4 {x : Int32} : (x >>> ((4 : Int32) &&& 31)).toInt = x.toInt / 16 := by
  rw [pk_shr x _ 4 (by decide), Int.shiftRight_eq_div_pow]
  rfl
theorem sg_plL {Q : Int32 → MS → Prop} {U : MS} : ∀ (k n : Nat) (a r : Int32), r.toInt < (16 : Int) ^ k → k < n → 0 ≤ a.toInt → a.toInt + 2 * k ≤ 1000 → (wfC U → ∀ z : Int32, a.toInt ≤ z.toInt → z.toInt ≤ a.toInt + 2 * k → Q z U) → w_X6_placesOf_L4 Q n U a r := by
  intro k
  induction k with
  | zero =>
    intro n a r h1 h2 h3 h4 hQ
    obtain ⟨m, rfl⟩ : ∃ m, n = m + 1 := ⟨n - 1, by omega⟩
    unfold w_X6_placesOf_L4
    intro w
    have e : (16 : Int) ^ 0 = 1 := rfl
    exact ⟨fun _ => hQ w a (by omega) (by omega), fun c => absurd (show r.toInt ≤ 0 by omega) c⟩
  | succ k ih =>
    intro n a r h1 h2 h3 h4 hQ
    obtain ⟨m, rfl⟩ : ∃ m, n = m + 1 := ⟨n - 1, by omega⟩
    unfold w_X6_placesOf_L4
    intro w
    have J : ∀ t : Int32, 1 ≤ t.toInt ∧ t.toInt ≤ 2 → w_X6_placesOf_J22 Q (w_X6_placesOf_L4 Q m) U t a r := by
      intro t ht
      unfold w_X6_placesOf_J22
      intro _ a1 e1 a2 e2
      have f1 : a1.toInt = a.toInt + t.toInt := by rw [e1, t_addk (by omega)]
      have f2 : a2.toInt = r.toInt / 16 := by rw [e2, c_shr4]
      have e : (16 : Int) ^ (k + 1) = 16 * 16 ^ k := by rw [Int.pow_succ, Int.mul_comm]
      rw [e] at h1
      refine ih m a1 a2 (by omega) (by omega) (by omega) (by omega) (fun w z q1 q2 => hQ w z (by omega) (by omega))
    refine ⟨fun _ => hQ w a (by omega) (by omega), fun c => ⟨fun _ => J 2 (by decide), fun _ => J 1 (by decide)⟩⟩
theorem sgX6_placesOf {B : Nat × Nat} {S : MS} {x0 : Int32} (hw : wfC S) (g : ShC B S) : wX6_placesOf S x0 (fun r u => ShC B u ∧ (0 ≤ r.toInt ∧ r.toInt ≤ 16)) := by
  unfold wX6_placesOf
  have z := li_0k
  exact ⟨9, sg_plL 8 9 0 x0 (by have := rgI x0; have e : (16 : Int) ^ 8 = 4294967296 := rfl; omega) (by decide) (by decide) (by decide) (fun _ r h1 h2 => ⟨g, by omega, by omega⟩)⟩
theorem sg_kcL {Q : Int32 → MS → Prop} {U : MS} : ∀ (k n : Nat) (a r : Int32), r.toInt < (16 : Int) ^ k → k < n → 0 ≤ a.toInt → a.toInt + k ≤ 1000 → (wfC U → ∀ z : Int32, a.toInt ≤ z.toInt → z.toInt ≤ a.toInt + k → Q z U) → w_X6_kindCount_L4 Q n U a r := by
  intro k
  induction k with
  | zero =>
    intro n a r h1 h2 h3 h4 hQ
    obtain ⟨m, rfl⟩ : ∃ m, n = m + 1 := ⟨n - 1, by omega⟩
    unfold w_X6_kindCount_L4
    intro w
    have e : (16 : Int) ^ 0 = 1 := rfl
    exact ⟨fun _ => hQ w a (by omega) (by omega), fun c => absurd (show r.toInt ≤ 0 by omega) c⟩
  | succ k ih =>
    intro n a r h1 h2 h3 h4 hQ
    obtain ⟨m, rfl⟩ : ∃ m, n = m + 1 := ⟨n - 1, by omega⟩
    unfold w_X6_kindCount_L4
    intro w
    refine ⟨fun _ => hQ w a (by omega) (by omega), fun c a1 e1 a2 e2 => ?_⟩
    have f1 : a1.toInt = a.toInt + 1 := by rw [e1, t_addk (by rw [lo_1k]; omega), lo_1k]
    have f2 : a2.toInt = r.toInt / 16 := by rw [e2, c_shr4]
    have e : (16 : Int) ^ (k + 1) = 16 * 16 ^ k := by rw [Int.pow_succ, Int.mul_comm]
    rw [e] at h1
    exact ih m a1 a2 (by omega) (by omega) (by omega) (by omega) (fun w z q1 q2 => hQ w z (by omega) (by omega))
theorem sgX6_kindCount {B : Nat × Nat} {S : MS} {x0 : Int32} (hw : wfC S) (g : ShC B S) : wX6_kindCount S x0 (fun r u => ShC B u ∧ (0 ≤ r.toInt ∧ r.toInt ≤ 8)) := by
  unfold wX6_kindCount
  have z := li_0k
  exact ⟨9, sg_kcL 8 9 0 x0 (by have := rgI x0; have e : (16 : Int) ^ 8 = 4294967296 := rfl; omega) (by decide) (by decide) (by decide) (fun _ r h1 h2 => ⟨g, by omega, by omega⟩)⟩
theorem sgX6_kindAt {B : Nat × Nat} {S : MS} {x0 x1 : Int32} (hw : wfC S) (g : ShC B S) : wX6_kindAt S x0 x1 (fun _ u => ShC B u ∧ True) := by
  unfold wX6_kindAt
  exact ⟨_, sgX6_kindCount hw g, fun _ _ q _ _ => ⟨q.1, trivial⟩⟩
theorem t_mulK {k a : Int32} {n : Int} (e : k.toInt = n) : (k * a).toInt = n * a.toInt ∨ 2147483647 < n * a.toInt ∨ n * a.toInt < -2147483648 := by
  by_cases h : -2147483648 ≤ n * a.toInt ∧ n * a.toInt ≤ 2147483647
  · left
    rw [t_mulk (by rw [e]; exact h), e]
  · omega
theorem sfJ7_fill_d0a16_L6 {p : Nat} : ∀ (n : Nat) {U5 : MS} {x1 : Int64} {x2 x3 : Int32}, 0 ≤ x2.toInt → x3.toInt ≤ (qN U5 p : Int) → 2147483648 - x2.toInt < n → w_J7_fill_d0a16_L6 (fun _ => True) n U5 p x1 x2 x3 := by
  intro n
  induction n with
  | zero => intro U5 x1 x2 x3 h0 h1 hm; exfalso; have := rgI x2; omega
  | succ n ih =>
    intro U5 x1 x2 x3 h0 h1 hm
    unfold w_J7_fill_d0a16_L6
    intro w
    refine ⟨fun c => trivial, fun c => ⟨⟨h0, by omega⟩, fun S4 e4 w4 a5 e5 => ?_⟩⟩
    have g5 := congrArg Int32.toInt e5
    have n1 := lo_1k
    have n2 := t_addD (a := x2) (b := Int32.ofInt 1)
    have n3 := rgI x3
    have n4 : qN S4 p = qN U5 p := by rw [e4]; rfl
    exact ih (by omega) (by rw [n4]; exact h1) (by omega)
theorem sfJ7_fill_d0a16 {S : MS} {p0 kd : Nat} {y1 : Int64} (hw : wfC S) (hk : qT S p0 = kd) (h0 : kd ≠ 0) : wJ7_fill_d0a16 S p0 y1 (fun _ => True) := by
  unfold wJ7_fill_d0a16
  intro a1 e1
  have g := congrArg Int32.toInt e1
  rw [toI_len (hw.len9 hk h0)] at g
  exact ⟨2147483649, sfJ7_fill_d0a16_L6 _ (by decide) (by omega) (by rw [li_0k]; decide)⟩
theorem t_mulR {k a : Int32} {n : Int} (e : k.toInt = n) : (a * k).toInt = n * a.toInt ∨ 2147483647 < n * a.toInt ∨ n * a.toInt < -2147483648 := by
  rw [Int32.mul_comm]
  exact t_mulK e
theorem acp_ok {a b c : Int32} {n m : Nat} (h : 0 ≤ a.toInt ∧ 0 ≤ b.toInt ∧ 0 ≤ c.toInt ∧ a.toInt + c.toInt ≤ (n : Int) ∧ b.toInt + c.toInt ≤ (m : Int)) : ¬ a < 0 ∧ ¬ b < 0 ∧ ¬ c < 0 ∧ a.toNatClampNeg + c.toNatClampNeg ≤ n ∧ b.toNatClampNeg + c.toNatClampNeg ≤ m := by
  have neg : ∀ x : Int32, 0 ≤ x.toInt → ¬ x < 0 := fun x hx q => by have := n_lt.mp q; rw [li_0k] at this; omega
  have cl : ∀ x : Int32, x.toNatClampNeg = x.toInt.toNat := fun _ => rfl
  refine ⟨neg _ h.1, neg _ h.2.1, neg _ h.2.2.1, ?_, ?_⟩
  · rw [cl, cl]; omega
  · rw [cl, cl]; omega
theorem ShC.up {B B' : Nat × Nat} {S : MS} (g : ShC B S) (h : B.1 ≤ B'.1 ∧ B'.1 ≤ KSC ∧ B.2 ≤ B'.2 ∧ B'.2 ≤ 64 * KCC) : ShC B' S := by
  obtain ⟨h1, h2, h3, h4, h5, h6, h7, h8, h9⟩ := g
  refine ⟨h1, h2, h3, h4, h5, h6, h7, h8, ?_⟩
  unfold RmK at h9 ⊢
  omega
theorem t_dec {a v : Int32} (e : a = v + Int32.ofInt (-1)) : a.toInt = v.toInt - 1 ∨ v.toInt = -2147483648 := by
  have r := rgI v
  by_cases h : v.toInt = -2147483648
  · exact Or.inr h
  · left
    rw [e, t_addk (by rw [lo_m1k]; omega), lo_m1k]
    omega
set_option maxRecDepth 100000 in
theorem dd_X4_isWrong_J39 {B : Nat × Nat} {S : MS} (w : wfC S) (g : ShC B S) : d_X4_isWrong_J39 S := by
  unfold d_X4_isWrong_J39
  exact trivial
set_option maxRecDepth 100000 in
theorem dd_X4_isWrong_J35 {B : Nat × Nat} {S : MS} (w : wfC S) (g : ShC B S) : d_X4_isWrong_J35 S := by
  unfold d_X4_isWrong_J35
  exact trivial
set_option maxRecDepth 100000 in
theorem dd_X4_isWrong {B : Nat × Nat} {S : MS} {p0 : Nat} {x1 : Int32} (w : wfC S) (g : ShC B S) (k_p0 : qT S p0 = 44) : d_X4_isWrong S p0 x1 := by
  unfold d_X4_isWrong
  by_cases c0_ : x1.toInt < 0
  · rw [if_pos c0_]
    exact (dd_X4_isWrong_J39 w g)
  · rw [if_neg c0_]
    refine ⟨?_, ?_⟩
    · exact (g.hts k_p0).1.2.2
    by_cases c1_ : (qN S (qO S p0 2) : Int) ≤ x1.toInt
    · rw [if_pos c1_]
      exact (dd_X4_isWrong_J39 w g)
    · rw [if_neg c1_]
      refine ⟨?_, ?_⟩
      · exact (g.hts k_p0).1.2.2
      refine ⟨?_, ?_⟩
      · have s2_ := (g.hts k_p0).2
        have n1_ := rgI x1
        omega
      by_cases c3_ : (qI S (qO S p0 2) x1.toInt.toNat).toInt = 0
      · rw [if_pos c3_]
        refine ⟨?_, ?_⟩
        · exact (g.hts k_p0).1.1
        refine ⟨?_, ?_⟩
        · have s4_ := (g.hts k_p0).2
          have n1_ := rgI x1
          have n2_ := rgI (qI S (qO S p0 2) x1.toInt.toNat)
          omega
        refine ⟨?_, ?_⟩
        · exact dd_J6_bitCount_0f7a4
        by_cases c5_ : (fJ6_bitCount_0f7a4 S (qI S (qO S p0 0) x1.toInt.toNat)).toInt ≤ 1
        · rw [if_pos c5_]
          exact (dd_X4_isWrong_J39 w g)
        · rw [if_neg c5_]
          exact (dd_X4_isWrong_J35 w g)
      · rw [if_neg c3_]
        exact (dd_X4_isWrong_J35 w g)
set_option maxRecDepth 100000 in
theorem dd_X4_heightAt_J22 {B : Nat × Nat} {S : MS} (w : wfC S) (g : ShC B S) : d_X4_heightAt_J22 S := by
  unfold d_X4_heightAt_J22
  exact trivial
set_option maxRecDepth 100000 in
theorem dd_X4_heightAt {B : Nat × Nat} {S : MS} {p0 : Nat} {x1 : Int32} (w : wfC S) (g : ShC B S) (k_p0 : qT S p0 = 44) : d_X4_heightAt S p0 x1 := by
  unfold d_X4_heightAt
  by_cases c0_ : x1.toInt < 0
  · rw [if_pos c0_]
    exact (dd_X4_heightAt_J22 w g)
  · rw [if_neg c0_]
    refine ⟨?_, ?_⟩
    · exact (g.hts k_p0).1.1
    by_cases c1_ : (qN S (qO S p0 0) : Int) ≤ x1.toInt
    · rw [if_pos c1_]
      exact (dd_X4_heightAt_J22 w g)
    · rw [if_neg c1_]
      refine ⟨?_, ?_⟩
      · exact (g.hts k_p0).1.1
      refine ⟨?_, ?_⟩
      · have s2_ := (g.hts k_p0).2
        have n1_ := rgI x1
        omega
      by_cases c3_ : (qI S (qO S p0 0) x1.toInt.toNat).toInt = 0
      · rw [if_pos c3_]
        exact (dd_X4_heightAt_J22 w g)
      · rw [if_neg c3_]
        refine ⟨?_, ?_⟩
        · exact (g.hts k_p0).1.1
        refine ⟨?_, ?_⟩
        · have s4_ := (g.hts k_p0).2
          have n1_ := rgI x1
          have n2_ := rgI (qI S (qO S p0 0) x1.toInt.toNat)
          omega
        refine ⟨?_, ?_⟩
        · exact dd_J6_numberOfTrailingZeros_0f7a4
        exact trivial
set_option maxRecDepth 100000 in
theorem dd_X5_fieldAt_J28 {B : Nat × Nat} {S : MS} (w : wfC S) (g : ShC B S) : d_X5_fieldAt_J28 S := by
  unfold d_X5_fieldAt_J28
  exact trivial
set_option maxRecDepth 100000 in
theorem dd_X5_fieldAt {B : Nat × Nat} {S : MS} {x1 : Int32} (w : wfC S) (g : ShC B S) : d_X5_fieldAt S x1 := by
  unfold d_X5_fieldAt
  by_cases c0_ : (qR S 44 0) = none
  · rw [if_pos c0_]
    exact (dd_X5_fieldAt_J28 w g)
  · rw [if_neg c0_]
    by_cases c1_ : x1.toInt < 0
    · rw [if_pos c1_]
      exact (dd_X5_fieldAt_J28 w g)
    · rw [if_neg c1_]
      refine ⟨?_, ?_⟩
      · exact some_qO (by assumption)
      by_cases c2_ : (qI S (qO S 44 0) 4).toInt ≤ x1.toInt
      · rw [if_pos c2_]
        exact (dd_X5_fieldAt_J28 w g)
      · rw [if_neg c2_]
        by_cases c3_ : x1.toInt < 24
        · rw [if_pos c3_]
          refine ⟨?_, ?_⟩
          · have n1_ := rgI x1
            have n2_ := rgI (qI S (qO S 44 0) 4)
            omega
          exact trivial
        · rw [if_neg c3_]
          exact (dd_X5_fieldAt_J28 w g)
set_option maxRecDepth 100000 in
theorem dd_X5_frameAt_J32 {B : Nat × Nat} {S : MS} (w : wfC S) (g : ShC B S) : d_X5_frameAt_J32 S := by
  unfold d_X5_frameAt_J32
  exact trivial
set_option maxRecDepth 100000 in
theorem dd_X5_frameAt {B : Nat × Nat} {S : MS} {x1 : Int32} (w : wfC S) (g : ShC B S) (a0_ : 0 ≤ x1.toInt) (a1_ : x1.toInt ≤ 2) : d_X5_frameAt S x1 := by
  unfold d_X5_frameAt
  by_cases c0_ : (qI S 44 11).toInt < 0
  · rw [if_pos c0_]
    exact (dd_X5_frameAt_J32 w g)
  · rw [if_neg c0_]
    by_cases c1_ : 60 ≤ (qI S 44 11).toInt
    · rw [if_pos c1_]
      exact (dd_X5_frameAt_J32 w g)
    · rw [if_neg c1_]
      refine ⟨?_, ?_⟩
      · have n2_ := rgI ((3 : Int32) * (qI S 44 11))
        have n3_ := rgI x1
        have n3_ := t_addD (a := ((3 : Int32) * (qI S 44 11))) (b := x1)
        have n4_ := rgI (((3 : Int32) * (qI S 44 11)) + x1)
        have n5_ := rgI (qI S 44 11)
        have n6m_ := t_mulK (a := (qI S 44 11)) li_3k
        have n6r_ := rgI ((3 : Int32) * (qI S 44 11))
        omega
      exact trivial
set_option maxRecDepth 100000 in
theorem dd_X6_ofLongs_J211 {B : Nat × Nat} {S : MS} {v211_1 : Int64} {v211_3 : Int64} (w : wfC S) (g : ShC B S) : d_X6_ofLongs_J211 S v211_1 v211_3 := by
  unfold d_X6_ofLongs_J211
  exact trivial
set_option maxRecDepth 100000 in
theorem dd_X6_ofLongs {B : Nat × Nat} {S : MS} {x0 : Int32} {y1 : Int64} {y3 : Int64} (w : wfC S) (g : ShC B S) : d_X6_ofLongs S x0 y1 y3 := by
  unfold d_X6_ofLongs
  by_cases c0_ : x0.toInt = 97
  · rw [if_pos c0_]
    exact trivial
  · rw [if_neg c0_]
    by_cases c1_ : x0.toInt = 98
    · rw [if_pos c1_]
      exact (dd_X6_ofLongs_J211 w g)
    · rw [if_neg c1_]
      by_cases c2_ : x0.toInt = 99
      · rw [if_pos c2_]
        exact (dd_X6_ofLongs_J211 w g)
      · rw [if_neg c2_]
        by_cases c3_ : x0.toInt = 100
        · rw [if_pos c3_]
          exact (dd_X6_ofLongs_J211 w g)
        · rw [if_neg c3_]
          by_cases c4_ : x0.toInt = 101
          · rw [if_pos c4_]
            exact trivial
          · rw [if_neg c4_]
            by_cases c5_ : x0.toInt = 102
            · rw [if_pos c5_]
              exact (dd_X6_ofLongs_J211 w g)
            · rw [if_neg c5_]
              by_cases c6_ : x0.toInt = 103
              · rw [if_pos c6_]
                exact (dd_X6_ofLongs_J211 w g)
              · rw [if_neg c6_]
                by_cases c7_ : x0.toInt = 104
                · rw [if_pos c7_]
                  exact (dd_X6_ofLongs_J211 w g)
                · rw [if_neg c7_]
                  by_cases c8_ : x0.toInt = 105
                  · rw [if_pos c8_]
                    exact trivial
                  · rw [if_neg c8_]
                    by_cases c9_ : x0.toInt = 106
                    · rw [if_pos c9_]
                      exact (dd_X6_ofLongs_J211 w g)
                    · rw [if_neg c9_]
                      by_cases c10_ : x0.toInt = 107
                      · rw [if_pos c10_]
                        exact (dd_X6_ofLongs_J211 w g)
                      · rw [if_neg c10_]
                        by_cases c11_ : x0.toInt = 108
                        · rw [if_pos c11_]
                          exact (dd_X6_ofLongs_J211 w g)
                        · rw [if_neg c11_]
                          by_cases c12_ : x0.toInt = 109
                          · rw [if_pos c12_]
                            by_cases c13_ : (lg_cmp y3 0).toInt = 0
                            · rw [if_pos c13_]
                              exact trivial
                            · rw [if_neg c13_]
                              refine ⟨?_, ?_⟩
                              · exact fun q => by subst q; exact absurd (show (lg_cmp (0 : Int64) 0).toInt = 0 by decide) (by assumption)
                              exact trivial
                          · rw [if_neg c12_]
                            by_cases c14_ : x0.toInt = 110
                            · rw [if_pos c14_]
                              exact (dd_X6_ofLongs_J211 w g)
                            · rw [if_neg c14_]
                              by_cases c15_ : x0.toInt = 111
                              · rw [if_pos c15_]
                                exact (dd_X6_ofLongs_J211 w g)
                              · rw [if_neg c15_]
                                by_cases c16_ : x0.toInt = 112
                                · rw [if_pos c16_]
                                  exact (dd_X6_ofLongs_J211 w g)
                                · rw [if_neg c16_]
                                  by_cases c17_ : x0.toInt = 113
                                  · rw [if_pos c17_]
                                    by_cases c18_ : (lg_cmp y3 0).toInt = 0
                                    · rw [if_pos c18_]
                                      exact trivial
                                    · rw [if_neg c18_]
                                      refine ⟨?_, ?_⟩
                                      · exact fun q => by subst q; exact absurd (show (lg_cmp (0 : Int64) 0).toInt = 0 by decide) (by assumption)
                                      exact trivial
                                  · rw [if_neg c17_]
                                    by_cases c19_ : x0.toInt = 114
                                    · rw [if_pos c19_]
                                      exact (dd_X6_ofLongs_J211 w g)
                                    · rw [if_neg c19_]
                                      by_cases c20_ : x0.toInt = 115
                                      · rw [if_pos c20_]
                                        exact (dd_X6_ofLongs_J211 w g)
                                      · rw [if_neg c20_]
                                        by_cases c21_ : x0.toInt = 116
                                        · rw [if_pos c21_]
                                          exact (dd_X6_ofLongs_J211 w g)
                                        · rw [if_neg c21_]
                                          by_cases c22_ : x0.toInt = 117
                                          · rw [if_pos c22_]
                                            exact (dd_X6_ofLongs_J211 w g)
                                          · rw [if_neg c22_]
                                            by_cases c23_ : x0.toInt = 118
                                            · rw [if_pos c23_]
                                              exact (dd_X6_ofLongs_J211 w g)
                                            · rw [if_neg c23_]
                                              by_cases c24_ : x0.toInt = 119
                                              · rw [if_pos c24_]
                                                exact (dd_X6_ofLongs_J211 w g)
                                              · rw [if_neg c24_]
                                                by_cases c25_ : x0.toInt = 120
                                                · rw [if_pos c25_]
                                                  exact (dd_X6_ofLongs_J211 w g)
                                                · rw [if_neg c25_]
                                                  by_cases c26_ : x0.toInt = 121
                                                  · rw [if_pos c26_]
                                                    exact trivial
                                                  · rw [if_neg c26_]
                                                    by_cases c27_ : x0.toInt = 122
                                                    · rw [if_pos c27_]
                                                      exact (dd_X6_ofLongs_J211 w g)
                                                    · rw [if_neg c27_]
                                                      by_cases c28_ : x0.toInt = 123
                                                      · rw [if_pos c28_]
                                                        exact trivial
                                                      · rw [if_neg c28_]
                                                        by_cases c29_ : x0.toInt = 124
                                                        · rw [if_pos c29_]
                                                          exact (dd_X6_ofLongs_J211 w g)
                                                        · rw [if_neg c29_]
                                                          by_cases c30_ : x0.toInt = 125
                                                          · rw [if_pos c30_]
                                                            exact trivial
                                                          · rw [if_neg c30_]
                                                            by_cases c31_ : x0.toInt = 126
                                                            · rw [if_pos c31_]
                                                              exact (dd_X6_ofLongs_J211 w g)
                                                            · rw [if_neg c31_]
                                                              by_cases c32_ : x0.toInt = 127
                                                              · rw [if_pos c32_]
                                                                exact trivial
                                                              · rw [if_neg c32_]
                                                                by_cases c33_ : x0.toInt = 128
                                                                · rw [if_pos c33_]
                                                                  exact (dd_X6_ofLongs_J211 w g)
                                                                · rw [if_neg c33_]
                                                                  by_cases c34_ : x0.toInt = 129
                                                                  · rw [if_pos c34_]
                                                                    exact trivial
                                                                  · rw [if_neg c34_]
                                                                    exact (dd_X6_ofLongs_J211 w g)
set_option maxRecDepth 100000 in
theorem dd_X9_isWindow_J50 {B : Nat × Nat} {S : MS} (w : wfC S) (g : ShC B S) : d_X9_isWindow_J50 S := by
  unfold d_X9_isWindow_J50
  exact trivial
set_option maxRecDepth 100000 in
theorem dd_X9_isWindow_J46 {B : Nat × Nat} {S : MS} (w : wfC S) (g : ShC B S) : d_X9_isWindow_J46 S := by
  unfold d_X9_isWindow_J46
  exact trivial
set_option maxRecDepth 100000 in
theorem dd_X9_isWindow {B : Nat × Nat} {S : MS} {x1 : Int32} {x2 : Int32} (w : wfC S) (g : ShC B S) (a0_ : 2 ≤ x2.toInt) (a1_ : x2.toInt ≤ 3) (a2_ : x1.toInt ≤ 100000) : d_X9_isWindow S x1 x2 := by
  unfold d_X9_isWindow
  by_cases c0_ : x1.toInt < 0
  · rw [if_pos c0_]
    exact trivial
  · rw [if_neg c0_]
    by_cases c1_ : (x1 + x2).toInt < (qI S (qO S 66 0) 2).toInt
    · rw [if_pos c1_]
      refine ⟨?_, ?_⟩
      · have s2_ := (g.row (w.ref (w.ptr ptrC_39) (w.2.1 _ finC_31).2.1)).2
        have s3_ := g.smk
        unfold SmK at s3_
        have n2_ := rgI x1
        have n3_ := li_1k
        have n3_ := t_addD (a := x1) (b := (1 : Int32))
        have n4_ := rgI (x1 + (1 : Int32))
        have n5_ := rgI x2
        have n6_ := t_addD (a := x1) (b := x2)
        have n7_ := rgI (x1 + x2)
        have n8_ := rgI (qI S (qO S 66 0) 2)
        omega
      by_cases c4_ : (qI S (qO S 66 2) (((x1 + (1 : Int32)).toInt).toNat)).toInt = 0
      · rw [if_pos c4_]
        by_cases c5_ : x2.toInt < 3
        · rw [if_pos c5_]
          exact (dd_X9_isWindow_J46 w g)
        · rw [if_neg c5_]
          refine ⟨?_, ?_⟩
          · have s6_ := (g.row (w.ref (w.ptr ptrC_39) (w.2.1 _ finC_31).2.1)).2
            have s7_ := g.smk
            unfold SmK at s7_
            have n2_ := rgI x1
            have n3_ := li_2k
            have n3_ := t_addD (a := x1) (b := (2 : Int32))
            have n4_ := rgI (x1 + (2 : Int32))
            have n5_ := rgI x2
            have n6_ := t_addD (a := x1) (b := x2)
            have n7_ := rgI (x1 + x2)
            have n8_ := rgI (qI S (qO S 66 0) 2)
            have n10_ := li_1k
            have n10_ := t_addD (a := x1) (b := (1 : Int32))
            have n11_ := rgI (x1 + (1 : Int32))
            have n12_ := rgI (qI S (qO S 66 2) (((x1 + (1 : Int32)).toInt).toNat))
            omega
          by_cases c8_ : (qI S (qO S 66 2) (((x1 + (2 : Int32)).toInt).toNat)).toInt = 0
          · rw [if_pos c8_]
            exact (dd_X9_isWindow_J46 w g)
          · rw [if_neg c8_]
            exact (dd_X9_isWindow_J50 w g)
      · rw [if_neg c4_]
        exact (dd_X9_isWindow_J50 w g)
    · rw [if_neg c1_]
      exact trivial
set_option maxRecDepth 100000 in
theorem dd_X9_pushKind {B : Nat × Nat} {S : MS} {x1 : Int32} (w : wfC S) (g : ShC B S) : d_X9_pushKind S x1 := by
  unfold d_X9_pushKind
  refine ⟨?_, ?_⟩
  · exact (dd_X8_opAt w g (w.ref (w.ptr ptrC_39) (w.2.1 _ finC_31).2.1))
  exact trivial
set_option maxRecDepth 100000 in
theorem dd_X9_isNeutral_J200 {B : Nat × Nat} {S : MS} {v200_1 : Int32} (w : wfC S) (g : ShC B S) : d_X9_isNeutral_J200 S v200_1 := by
  unfold d_X9_isNeutral_J200
  refine ⟨?_, ?_⟩
  · exact (dd_X8_argAt w g (w.ref (w.ptr ptrC_39) (w.2.1 _ finC_31).2.1))
  exact trivial
set_option maxRecDepth 100000 in
theorem dd_X9_isNeutral_J219 {B : Nat × Nat} {S : MS} {v219_1 : Int32} (w : wfC S) (g : ShC B S) : d_X9_isNeutral_J219 S v219_1 := by
  unfold d_X9_isNeutral_J219
  refine ⟨?_, ?_⟩
  · exact (dd_X8_argAt w g (w.ref (w.ptr ptrC_39) (w.2.1 _ finC_31).2.1))
  exact trivial
set_option maxRecDepth 100000 in
theorem dd_X9_isNeutral_J238 {B : Nat × Nat} {S : MS} {v238_1 : Int32} (w : wfC S) (g : ShC B S) : d_X9_isNeutral_J238 S v238_1 := by
  unfold d_X9_isNeutral_J238
  refine ⟨?_, ?_⟩
  · exact (dd_X8_argAt w g (w.ref (w.ptr ptrC_39) (w.2.1 _ finC_31).2.1))
  exact trivial
set_option maxRecDepth 100000 in
theorem dd_X9_isNeutral_J283 {B : Nat × Nat} {S : MS} (w : wfC S) (g : ShC B S) : d_X9_isNeutral_J283 S := by
  unfold d_X9_isNeutral_J283
  exact trivial
set_option maxRecDepth 100000 in
theorem dd_X9_isNeutral_J259 {B : Nat × Nat} {S : MS} {v259_1 : Int32} {v259_2 : Int32} (w : wfC S) (g : ShC B S) : d_X9_isNeutral_J259 S v259_1 v259_2 := by
  unfold d_X9_isNeutral_J259
  refine ⟨?_, ?_⟩
  · exact dd_X6_isShift
  by_cases c0_ : (fX6_isShift S v259_2).toInt = 0
  · rw [if_pos c0_]
    exact (dd_X9_isNeutral_J283 w g)
  · rw [if_neg c0_]
    refine ⟨?_, ?_⟩
    · exact (dd_X8_argAt w g (w.ref (w.ptr ptrC_39) (w.2.1 _ finC_31).2.1))
    by_cases c1_ : (lg_cmp (fX8_argAt S (qO S 66 0) v259_1) 0).toInt = 0
    · rw [if_pos c1_]
      exact trivial
    · rw [if_neg c1_]
      exact (dd_X9_isNeutral_J283 w g)
set_option maxRecDepth 100000 in
theorem dd_X9_isNeutral {B : Nat × Nat} {S : MS} {x1 : Int32} (w : wfC S) (g : ShC B S) : d_X9_isNeutral S x1 := by
  unfold d_X9_isNeutral
  refine ⟨?_, ?_⟩
  · exact (dd_X8_opAt w g (w.ref (w.ptr ptrC_39) (w.2.1 _ finC_31).2.1))
  refine ⟨?_, ?_⟩
  · exact (dd_X9_pushKind w g)
  by_cases c0_ : (fX9_pushKind S x1).toInt = 0
  · rw [if_pos c0_]
    exact trivial
  · rw [if_neg c0_]
    refine ⟨?_, ?_⟩
    · exact dd_X6_isBinary
    by_cases c1_ : (fX6_isBinary S (fX8_opAt S (qO S 66 0) (x1 + (1 : Int32)))).toInt = 0
    · rw [if_pos c1_]
      exact trivial
    · rw [if_neg c1_]
      refine ⟨?_, ?_⟩
      · exact dd_X6_takes
      by_cases c2_ : (fX9_pushKind S x1).toInt = ((fX6_takes S (fX8_opAt S (qO S 66 0) (x1 + (1 : Int32)))) &&& (15 : Int32)).toInt
      · rw [if_pos c2_]
        by_cases c3_ : (fX8_opAt S (qO S 66 0) (x1 + (1 : Int32))).toInt = 96
        · rw [if_pos c3_]
          exact (dd_X9_isNeutral_J200 w g)
        · rw [if_neg c3_]
          by_cases c4_ : (fX8_opAt S (qO S 66 0) (x1 + (1 : Int32))).toInt = 97
          · rw [if_pos c4_]
            exact (dd_X9_isNeutral_J200 w g)
          · rw [if_neg c4_]
            by_cases c5_ : (fX8_opAt S (qO S 66 0) (x1 + (1 : Int32))).toInt = 98
            · rw [if_pos c5_]
              exact (dd_X9_isNeutral_J259 w g)
            · rw [if_neg c5_]
              by_cases c6_ : (fX8_opAt S (qO S 66 0) (x1 + (1 : Int32))).toInt = 99
              · rw [if_pos c6_]
                exact (dd_X9_isNeutral_J259 w g)
              · rw [if_neg c6_]
                by_cases c7_ : (fX8_opAt S (qO S 66 0) (x1 + (1 : Int32))).toInt = 100
                · rw [if_pos c7_]
                  exact (dd_X9_isNeutral_J200 w g)
                · rw [if_neg c7_]
                  by_cases c8_ : (fX8_opAt S (qO S 66 0) (x1 + (1 : Int32))).toInt = 101
                  · rw [if_pos c8_]
                    exact (dd_X9_isNeutral_J200 w g)
                  · rw [if_neg c8_]
                    by_cases c9_ : (fX8_opAt S (qO S 66 0) (x1 + (1 : Int32))).toInt = 102
                    · rw [if_pos c9_]
                      exact (dd_X9_isNeutral_J259 w g)
                    · rw [if_neg c9_]
                      by_cases c10_ : (fX8_opAt S (qO S 66 0) (x1 + (1 : Int32))).toInt = 103
                      · rw [if_pos c10_]
                        exact (dd_X9_isNeutral_J259 w g)
                      · rw [if_neg c10_]
                        by_cases c11_ : (fX8_opAt S (qO S 66 0) (x1 + (1 : Int32))).toInt = 104
                        · rw [if_pos c11_]
                          exact (dd_X9_isNeutral_J219 w g)
                        · rw [if_neg c11_]
                          by_cases c12_ : (fX8_opAt S (qO S 66 0) (x1 + (1 : Int32))).toInt = 105
                          · rw [if_pos c12_]
                            exact (dd_X9_isNeutral_J219 w g)
                          · rw [if_neg c12_]
                            by_cases c13_ : (fX8_opAt S (qO S 66 0) (x1 + (1 : Int32))).toInt = 106
                            · rw [if_pos c13_]
                              exact (dd_X9_isNeutral_J259 w g)
                            · rw [if_neg c13_]
                              by_cases c14_ : (fX8_opAt S (qO S 66 0) (x1 + (1 : Int32))).toInt = 107
                              · rw [if_pos c14_]
                                exact (dd_X9_isNeutral_J259 w g)
                              · rw [if_neg c14_]
                                by_cases c15_ : (fX8_opAt S (qO S 66 0) (x1 + (1 : Int32))).toInt = 108
                                · rw [if_pos c15_]
                                  exact (dd_X9_isNeutral_J219 w g)
                                · rw [if_neg c15_]
                                  by_cases c16_ : (fX8_opAt S (qO S 66 0) (x1 + (1 : Int32))).toInt = 109
                                  · rw [if_pos c16_]
                                    exact (dd_X9_isNeutral_J219 w g)
                                  · rw [if_neg c16_]
                                    by_cases c17_ : (fX8_opAt S (qO S 66 0) (x1 + (1 : Int32))).toInt = 110
                                    · rw [if_pos c17_]
                                      exact (dd_X9_isNeutral_J259 w g)
                                    · rw [if_neg c17_]
                                      by_cases c18_ : (fX8_opAt S (qO S 66 0) (x1 + (1 : Int32))).toInt = 111
                                      · rw [if_pos c18_]
                                        exact (dd_X9_isNeutral_J259 w g)
                                      · rw [if_neg c18_]
                                        by_cases c19_ : (fX8_opAt S (qO S 66 0) (x1 + (1 : Int32))).toInt = 112
                                        · rw [if_pos c19_]
                                          exact (dd_X9_isNeutral_J259 w g)
                                        · rw [if_neg c19_]
                                          by_cases c20_ : (fX8_opAt S (qO S 66 0) (x1 + (1 : Int32))).toInt = 113
                                          · rw [if_pos c20_]
                                            exact (dd_X9_isNeutral_J259 w g)
                                          · rw [if_neg c20_]
                                            by_cases c21_ : (fX8_opAt S (qO S 66 0) (x1 + (1 : Int32))).toInt = 114
                                            · rw [if_pos c21_]
                                              exact (dd_X9_isNeutral_J259 w g)
                                            · rw [if_neg c21_]
                                              by_cases c22_ : (fX8_opAt S (qO S 66 0) (x1 + (1 : Int32))).toInt = 115
                                              · rw [if_pos c22_]
                                                exact (dd_X9_isNeutral_J259 w g)
                                              · rw [if_neg c22_]
                                                by_cases c23_ : (fX8_opAt S (qO S 66 0) (x1 + (1 : Int32))).toInt = 116
                                                · rw [if_pos c23_]
                                                  exact (dd_X9_isNeutral_J259 w g)
                                                · rw [if_neg c23_]
                                                  by_cases c24_ : (fX8_opAt S (qO S 66 0) (x1 + (1 : Int32))).toInt = 117
                                                  · rw [if_pos c24_]
                                                    exact (dd_X9_isNeutral_J259 w g)
                                                  · rw [if_neg c24_]
                                                    by_cases c25_ : (fX8_opAt S (qO S 66 0) (x1 + (1 : Int32))).toInt = 118
                                                    · rw [if_pos c25_]
                                                      exact (dd_X9_isNeutral_J259 w g)
                                                    · rw [if_neg c25_]
                                                      by_cases c26_ : (fX8_opAt S (qO S 66 0) (x1 + (1 : Int32))).toInt = 119
                                                      · rw [if_pos c26_]
                                                        exact (dd_X9_isNeutral_J259 w g)
                                                      · rw [if_neg c26_]
                                                        by_cases c27_ : (fX8_opAt S (qO S 66 0) (x1 + (1 : Int32))).toInt = 120
                                                        · rw [if_pos c27_]
                                                          exact (dd_X9_isNeutral_J259 w g)
                                                        · rw [if_neg c27_]
                                                          by_cases c28_ : (fX8_opAt S (qO S 66 0) (x1 + (1 : Int32))).toInt = 121
                                                          · rw [if_pos c28_]
                                                            exact (dd_X9_isNeutral_J259 w g)
                                                          · rw [if_neg c28_]
                                                            by_cases c29_ : (fX8_opAt S (qO S 66 0) (x1 + (1 : Int32))).toInt = 122
                                                            · rw [if_pos c29_]
                                                              exact (dd_X9_isNeutral_J259 w g)
                                                            · rw [if_neg c29_]
                                                              by_cases c30_ : (fX8_opAt S (qO S 66 0) (x1 + (1 : Int32))).toInt = 123
                                                              · rw [if_pos c30_]
                                                                exact (dd_X9_isNeutral_J259 w g)
                                                              · rw [if_neg c30_]
                                                                by_cases c31_ : (fX8_opAt S (qO S 66 0) (x1 + (1 : Int32))).toInt = 124
                                                                · rw [if_pos c31_]
                                                                  exact (dd_X9_isNeutral_J259 w g)
                                                                · rw [if_neg c31_]
                                                                  by_cases c32_ : (fX8_opAt S (qO S 66 0) (x1 + (1 : Int32))).toInt = 125
                                                                  · rw [if_pos c32_]
                                                                    exact (dd_X9_isNeutral_J259 w g)
                                                                  · rw [if_neg c32_]
                                                                    by_cases c33_ : (fX8_opAt S (qO S 66 0) (x1 + (1 : Int32))).toInt = 126
                                                                    · rw [if_pos c33_]
                                                                      exact (dd_X9_isNeutral_J238 w g)
                                                                    · rw [if_neg c33_]
                                                                      by_cases c34_ : (fX8_opAt S (qO S 66 0) (x1 + (1 : Int32))).toInt = 127
                                                                      · rw [if_pos c34_]
                                                                        exact (dd_X9_isNeutral_J238 w g)
                                                                      · rw [if_neg c34_]
                                                                        by_cases c35_ : (fX8_opAt S (qO S 66 0) (x1 + (1 : Int32))).toInt = 128
                                                                        · rw [if_pos c35_]
                                                                          exact (dd_X9_isNeutral_J200 w g)
                                                                        · rw [if_neg c35_]
                                                                          by_cases c36_ : (fX8_opAt S (qO S 66 0) (x1 + (1 : Int32))).toInt = 129
                                                                          · rw [if_pos c36_]
                                                                            exact (dd_X9_isNeutral_J200 w g)
                                                                          · rw [if_neg c36_]
                                                                            by_cases c37_ : (fX8_opAt S (qO S 66 0) (x1 + (1 : Int32))).toInt = 130
                                                                            · rw [if_pos c37_]
                                                                              exact (dd_X9_isNeutral_J200 w g)
                                                                            · rw [if_neg c37_]
                                                                              by_cases c38_ : (fX8_opAt S (qO S 66 0) (x1 + (1 : Int32))).toInt = 131
                                                                              · rw [if_pos c38_]
                                                                                exact (dd_X9_isNeutral_J200 w g)
                                                                              · rw [if_neg c38_]
                                                                                exact (dd_X9_isNeutral_J259 w g)
      · rw [if_neg c2_]
        exact trivial
set_option maxRecDepth 100000 in
theorem dd_X9_isPopped_J56 {B : Nat × Nat} {S : MS} {t56_0 : Int32} {t56_1 : Int32} (w : wfC S) (g : ShC B S) : d_X9_isPopped_J56 S t56_0 t56_1 := by
  unfold d_X9_isPopped_J56
  exact trivial
set_option maxRecDepth 100000 in
theorem dd_X9_isPopped_J31 {B : Nat × Nat} {S : MS} {v31_1 : Int32} {v31_2 : Int32} (w : wfC S) (g : ShC B S) : d_X9_isPopped_J31 S v31_1 v31_2 := by
  unfold d_X9_isPopped_J31
  refine ⟨?_, ?_⟩
  · exact (dd_X8_opAt w g (w.ref (w.ptr ptrC_39) (w.2.1 _ finC_31).2.1))
  refine ⟨?_, ?_⟩
  · exact dd_X6_gives
  by_cases c0_ : (fX6_gives S v31_2).toInt = 2
  · rw [if_pos c0_]
    exact (dd_X9_isPopped_J56 w g)
  · rw [if_neg c0_]
    exact (dd_X9_isPopped_J56 w g)
set_option maxRecDepth 100000 in
theorem dd_X9_isPopped {B : Nat × Nat} {S : MS} {x1 : Int32} (w : wfC S) (g : ShC B S) : d_X9_isPopped S x1 := by
  unfold d_X9_isPopped
  refine ⟨?_, ?_⟩
  · exact (dd_X8_opAt w g (w.ref (w.ptr ptrC_39) (w.2.1 _ finC_31).2.1))
  refine ⟨?_, ?_⟩
  · exact (dd_X9_pushKind w g)
  by_cases c0_ : (fX9_pushKind S x1).toInt = 0
  · rw [if_pos c0_]
    by_cases c1_ : (fX8_opAt S (qO S 66 0) x1).toInt = 1
    · rw [if_pos c1_]
      exact (dd_X9_isPopped_J31 w g)
    · rw [if_neg c1_]
      refine ⟨?_, ?_⟩
      · exact dd_X6_isLoad
      by_cases c2_ : (fX6_isLoad S (fX8_opAt S (qO S 66 0) x1)).toInt = 0
      · rw [if_pos c2_]
        exact trivial
      · rw [if_neg c2_]
        exact (dd_X9_isPopped_J31 w g)
  · rw [if_neg c0_]
    exact (dd_X9_isPopped_J31 w g)
set_option maxRecDepth 100000 in
theorem dd_X9_localBits_J20 {B : Nat × Nat} {S : MS} {t20_0 : Int32} {v20_1 : Int32} (w : wfC S) (g : ShC B S) : d_X9_localBits_J20 S t20_0 v20_1 := by
  unfold d_X9_localBits_J20
  refine ⟨?_, ?_⟩
  · exact (dd_X8_localOf w g (w.ref (w.ptr ptrC_39) (w.2.1 _ finC_31).2.1))
  exact trivial
set_option maxRecDepth 100000 in
theorem dd_X9_localBits {B : Nat × Nat} {S : MS} {x1 : Int32} (w : wfC S) (g : ShC B S) : d_X9_localBits S x1 := by
  unfold d_X9_localBits
  refine ⟨?_, ?_⟩
  · exact (dd_X8_opAt w g (w.ref (w.ptr ptrC_39) (w.2.1 _ finC_31).2.1))
  refine ⟨?_, ?_⟩
  · exact dd_X6_localWidth
  by_cases c0_ : (fX6_localWidth S (fX8_opAt S (qO S 66 0) x1)).toInt = 2
  · rw [if_pos c0_]
    exact (dd_X9_localBits_J20 w g)
  · rw [if_neg c0_]
    exact (dd_X9_localBits_J20 w g)
set_option maxRecDepth 100000 in
theorem dd_X9_liveAt_J15 {B : Nat × Nat} {S : MS} (w : wfC S) (g : ShC B S) : d_X9_liveAt_J15 S := by
  unfold d_X9_liveAt_J15
  exact trivial
set_option maxRecDepth 100000 in
theorem dd_X9_liveAt {B : Nat × Nat} {S : MS} {x1 : Int32} (w : wfC S) (g : ShC B S) : d_X9_liveAt S x1 := by
  unfold d_X9_liveAt
  by_cases c0_ : x1.toInt < 0
  · rw [if_pos c0_]
    exact (dd_X9_liveAt_J15 w g)
  · rw [if_neg c0_]
    by_cases c1_ : x1.toInt < (qI S (qO S 66 0) 2).toInt
    · rw [if_pos c1_]
      refine ⟨?_, ?_⟩
      · have s2_ := (g.row (w.ref (w.ptr ptrC_39) (w.2.1 _ finC_31).2.1)).2
        have s3_ := g.smk
        unfold SmK at s3_
        have n1_ := rgI x1
        have n2_ := rgI (qI S (qO S 66 0) 2)
        omega
      exact trivial
    · rw [if_neg c1_]
      exact (dd_X9_liveAt_J15 w g)
set_option maxRecDepth 100000 in
theorem dd_X11_unitByte_J16 {B : Nat × Nat} {S : MS} (w : wfC S) (g : ShC B S) (q0_ : qR S 25 7 = some (qO S 25 7)) : d_X11_unitByte_J16 S := by
  unfold d_X11_unitByte_J16
  exact trivial
set_option maxRecDepth 100000 in
theorem dd_X11_unitByte {B : Nat × Nat} {S : MS} {x1 : Int32} (w : wfC S) (g : ShC B S) (q0_ : qR S 25 7 = some (qO S 25 7)) : d_X11_unitByte S x1 := by
  unfold d_X11_unitByte
  by_cases c0_ : x1.toInt < 0
  · rw [if_pos c0_]
    exact (dd_X11_unitByte_J16 w g q0_)
  · rw [if_neg c0_]
    refine ⟨?_, ?_⟩
    · exact q0_
    refine ⟨?_, ?_⟩
    · exact (g.unit (w.ref q0_ (w.2.1 _ finC_28).2.1)).1.1
    by_cases c1_ : x1.toInt < (qN S (qO S (qO S 25 7) 0) : Int)
    · rw [if_pos c1_]
      refine ⟨?_, ?_⟩
      · exact q0_
      refine ⟨?_, ?_⟩
      · exact (g.unit (w.ref q0_ (w.2.1 _ finC_28).2.1)).1.1
      refine ⟨?_, ?_⟩
      · have s2_ := (g.unit (w.ref q0_ (w.2.1 _ finC_28).2.1)).2
        have s3_ := g.wrk
        unfold WrK at s3_
        have n1_ := rgI x1
        omega
      exact trivial
    · rw [if_neg c1_]
      exact (dd_X11_unitByte_J16 w g q0_)
set_option maxRecDepth 100000 in
theorem dd_X11_offsetOf_J15 {B : Nat × Nat} {S : MS} (w : wfC S) (g : ShC B S) (q0_ : qR S 25 15 = some (qO S 25 15)) : d_X11_offsetOf_J15 S := by
  unfold d_X11_offsetOf_J15
  exact trivial
set_option maxRecDepth 100000 in
theorem dd_X11_offsetOf {B : Nat × Nat} {S : MS} {x1 : Int32} (w : wfC S) (g : ShC B S) (q0_ : qR S 25 15 = some (qO S 25 15)) (a0_ : (qI S (qO S 25 15) 2).toInt < (qN S (qO S 25 17) : Int)) : d_X11_offsetOf S x1 := by
  unfold d_X11_offsetOf
  by_cases c0_ : x1.toInt < 0
  · rw [if_pos c0_]
    exact (dd_X11_offsetOf_J15 w g q0_)
  · rw [if_neg c0_]
    refine ⟨?_, ?_⟩
    · exact q0_
    by_cases c1_ : x1.toInt ≤ (qI S (qO S 25 15) 2).toInt
    · rw [if_pos c1_]
      refine ⟨?_, ?_⟩
      · have s2_ := (g.row (w.ref q0_ (w.2.1 _ finC_28).2.1)).2
        have s3_ := g.wrk
        unfold WrK at s3_
        have n1_ := rgI x1
        have n2_ := rgI (qI S (qO S 25 15) 2)
        omega
      exact trivial
    · rw [if_neg c1_]
      exact (dd_X11_offsetOf_J15 w g q0_)
set_option maxRecDepth 100000 in
theorem dd_X6_binary {B : Nat × Nat} {S : MS} {x0 : Int32} {y1 : Int64} {y3 : Int64} (w : wfC S) (g : ShC B S) : d_X6_binary S x0 y1 y3 := by
  unfold d_X6_binary
  by_cases c0_ : x0.toInt = 148
  · rw [if_pos c0_]
    refine ⟨?_, ?_⟩
    · exact dd_J13_compare_74951
    exact trivial
  · rw [if_neg c0_]
    refine ⟨?_, ?_⟩
    · exact dd_X6_takes
    by_cases c1_ : (fX6_takes S x0).toInt = 17
    · rw [if_pos c1_]
      refine ⟨?_, ?_⟩
      · exact dd_X6_ofInts
      exact trivial
    · rw [if_neg c1_]
      by_cases c2_ : (fX6_takes S x0).toInt = 33
      · rw [if_pos c2_]
        refine ⟨?_, ?_⟩
        · exact (dd_X6_ofLongs w g)
        exact trivial
      · rw [if_neg c2_]
        refine ⟨?_, ?_⟩
        · exact (dd_X6_ofLongs w g)
        exact trivial
set_option maxRecDepth 100000 in
theorem dd_X11_lengthOf_J33 {B : Nat × Nat} {S : MS} {v33_4 : Int64} (w : wfC S) (g : ShC B S) (q0_ : qR S 25 15 = some (qO S 25 15)) : d_X11_lengthOf_J33 S v33_4 := by
  unfold d_X11_lengthOf_J33
  exact trivial
set_option maxRecDepth 100000 in
theorem dd_X11_lengthOf_J166 {B : Nat × Nat} {S : MS} (w : wfC S) (g : ShC B S) (q0_ : qR S 25 15 = some (qO S 25 15)) : d_X11_lengthOf_J166 S := by
  unfold d_X11_lengthOf_J166
  exact trivial
set_option maxRecDepth 100000 in
theorem dd_X11_lengthOf {B : Nat × Nat} {S : MS} {x1 : Int32} {x2 : Int32} (w : wfC S) (g : ShC B S) (q0_ : qR S 25 15 = some (qO S 25 15)) (a0_ : 0 ≤ x1.toInt) (a1_ : x1.toInt < (qN S (qO S 25 16) : Int)) : d_X11_lengthOf S x1 x2 := by
  unfold d_X11_lengthOf
  refine ⟨?_, ?_⟩
  · exact q0_
  refine ⟨?_, ?_⟩
  · exact (dd_X8_opAt w g (w.ref q0_ (w.2.1 _ finC_28).2.1))
  refine ⟨?_, ?_⟩
  · exact q0_
  refine ⟨?_, ?_⟩
  · exact (dd_X8_argAt w g (w.ref q0_ (w.2.1 _ finC_28).2.1))
  refine ⟨?_, ?_⟩
  · exact dd_X6_isLoad
  by_cases c0_ : (fX6_isLoad S (fX8_opAt S (qO S 25 15) x1)).toInt = 0
  · rw [if_pos c0_]
    refine ⟨?_, ?_⟩
    · exact dd_X6_isStore
    by_cases c1_ : (fX6_isStore S (fX8_opAt S (qO S 25 15) x1)).toInt = 0
    · rw [if_pos c1_]
      refine ⟨?_, ?_⟩
      · exact dd_X6_isJump
      by_cases c2_ : (fX6_isJump S (fX8_opAt S (qO S 25 15) x1)).toInt = 0
      · rw [if_pos c2_]
        by_cases c3_ : (fX8_opAt S (qO S 25 15) x1).toInt = 17
        · rw [if_pos c3_]
          refine ⟨?_, ?_⟩
          · have s4_ := (g.row (w.ref q0_ (w.2.1 _ finC_28).2.1)).2
            have s5_ := g.wrk
            unfold WrK at s5_
            have n1_ := rgI x1
            have n2_ := rgI (fX6_isLoad S (fX8_opAt S (qO S 25 15) x1))
            have n3_ := rgI (fX6_isStore S (fX8_opAt S (qO S 25 15) x1))
            have n4_ := rgI (fX6_isJump S (fX8_opAt S (qO S 25 15) x1))
            have n5_ := rgI (fX8_opAt S (qO S 25 15) x1)
            omega
          refine ⟨?_, ?_⟩
          · exact dd_X11_lengthOfPush
          exact trivial
        · rw [if_neg c3_]
          by_cases c6_ : (fX8_opAt S (qO S 25 15) x1).toInt = 20
          · rw [if_pos c6_]
            by_cases c7_ : (lg_cmp (fX8_argAt S (qO S 25 15) x1) 0).toInt = 0
            · rw [if_pos c7_]
              exact (dd_X11_lengthOf_J166 w g q0_)
            · rw [if_neg c7_]
              by_cases c8_ : (lg_cmp (fX8_argAt S (qO S 25 15) x1) 1).toInt = 0
              · rw [if_pos c8_]
                exact (dd_X11_lengthOf_J166 w g q0_)
              · rw [if_neg c8_]
                exact trivial
          · rw [if_neg c6_]
            by_cases c9_ : (fX8_opAt S (qO S 25 15) x1).toInt = 132
            · rw [if_pos c9_]
              refine ⟨?_, ?_⟩
              · exact q0_
              refine ⟨?_, ?_⟩
              · exact (dd_X8_stepOf w g (w.ref q0_ (w.2.1 _ finC_28).2.1))
              refine ⟨?_, ?_⟩
              · exact dd_X11_isByte
              exact trivial
            · rw [if_neg c9_]
              by_cases c10_ : (fX8_opAt S (qO S 25 15) x1).toInt = 170
              · rw [if_pos c10_]
                refine ⟨?_, ?_⟩
                · exact q0_
                refine ⟨?_, ?_⟩
                · exact (dd_X8_targetCount w g (w.ref q0_ (w.2.1 _ finC_28).2.1))
                exact trivial
              · rw [if_neg c10_]
                by_cases c11_ : (fX8_opAt S (qO S 25 15) x1).toInt = 171
                · rw [if_pos c11_]
                  refine ⟨?_, ?_⟩
                  · exact q0_
                  refine ⟨?_, ?_⟩
                  · exact (dd_X8_targetCount w g (w.ref q0_ (w.2.1 _ finC_28).2.1))
                  exact trivial
                · rw [if_neg c11_]
                  exact trivial
      · rw [if_neg c2_]
        exact trivial
    · rw [if_neg c1_]
      exact (dd_X11_lengthOf_J33 w g q0_)
  · rw [if_neg c0_]
    exact (dd_X11_lengthOf_J33 w g q0_)
