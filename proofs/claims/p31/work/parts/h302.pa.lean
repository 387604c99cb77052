/-! putAll -/
theorem sp_pa58 {S : MS} {b c cap : Nat} {Q : MS → Prop} (hbc : b ≠ c) (h : ByI S b cap) (hc : qR S c 0 = some (qO S c 0) ∧ 0 ≤ (qI S c 1).toInt ∧ (qI S c 1).toInt ≤ qN S (qO S c 0)) (hs : (qI S b 1).toInt + (qI S c 1).toInt ≤ qN S (qO S b 0)) (hQ : ∀ u : MS, ByPk b (qI S c 1).toInt cap S u → Q u) : w_X0_putAll_J58 Q S b c := by
  obtain ⟨h1, h2, h3, h4⟩ := h
  have hl := p2_le _ h3
  unfold w_X0_putAll_J58
  intro w kb kc
  have z : (0 : Int32).toNatClampNeg = 0 := by decide
  have y1 : (qI S b 1).toNatClampNeg = (qI S b 1).toInt.toNat := rfl
  have y2 : (qI S c 1).toNatClampNeg = (qI S c 1).toInt.toNat := rfl
  have neg : ∀ x : Int32, 0 ≤ x.toInt → ¬ x < 0 := fun x hx q => by have := n_lt.mp q; rw [li_0k] at this; omega
  refine ⟨hc.1, h1, ⟨by decide, neg _ h2.1, neg _ hc.2.1, by rw [z, y2]; omega, by rw [y1, y2]; omega⟩, fun S12 e12 k12 w12 S14 e14 k14 w14 => hQ S14 ?_⟩
  have hne : b ≠ qO S b 0 := fun q => by rw [← q, kb] at k12; exact absurd k12 (by decide)
  have hce : c ≠ qO S b 0 := fun q => by rw [← q, kc] at k12; exact absurd k12 (by decide)
  have r14 : ∀ a j, qR S14 a j = qR S a j := fun a j => by rw [e14, e12]; rfl
  have n14 : ∀ a, qN S14 a = qN S a := fun a => by rw [e14, e12]; rfl
  have o14 : qO S14 b 0 = qO S b 0 := by unfold qO; rw [r14]
  have i12 : ∀ a, a ≠ qO S b 0 → qI S12 a = qI S a := fun a ha => by rw [e12]; exact if_neg ha
  have i14 : (qI S14 b 1).toInt = (qI S b 1).toInt + (qI S c 1).toInt := by
    rw [e14, qI_wI, if_pos ⟨rfl, rfl⟩, i12 b hne, i12 c hce, t_addk (by omega)]
  have un : qu S14 = qu S := by rw [e14, e12]; rfl
  have nn : qn S14 = qn S := by rw [e14, e12]; rfl
  refine ⟨⟨by rw [r14, o14]; exact h1, ⟨by omega, by rw [o14, n14]; omega⟩, by rw [o14, n14]; exact h3, by rw [o14, n14]; exact h4⟩, i14, ⟨⟨fun a _ => by rw [e14, e12]; exact ⟨rfl, rfl⟩, by rw [nn]; exact Nat.le_refl _⟩, fun a j a0 a1 ab => ⟨?_, by rw [e14, e12]; rfl, r14 a j⟩, nw9.eq (by rw [e14, e12]; rfl) nn⟩, by rw [o14, n14, nn]; exact Nat.le_refl _, by rw [o14, n14, un]; exact Nat.le_refl _⟩
  have a6 : a ≠ qO S b 0 := fun q => a1 (by rw [q]; exact k12)
  rw [e14, qI_wI, if_neg (fun q => ab q.1), i12 a a6]
theorem p2_lt : ∀ l ∈ p2L, ∀ c ∈ p2L, l < c → 2 * l ≤ c := fun l hl c hc h => (p2_dbl l hl c hc h).1
theorem sp_pa37 {S : MS} {b c cap : Nat} {x : Int32} {Q : MS → Prop} (hbc : b ≠ c) (h : ByI S b cap) (hc : qR S c 0 = some (qO S c 0) ∧ 0 ≤ (qI S c 1).toInt ∧ (qI S c 1).toInt ≤ qN S (qO S c 0)) (hx : x.toInt.toNat ∈ p2L ∧ qN S (qO S b 0) ≤ x.toInt.toNat ∧ x.toInt.toNat ≤ cap) (hs : (qI S b 1).toInt + (qI S c 1).toInt ≤ x.toInt) (hR : RmB b cap S) (hQ : ∀ u : MS, ByPk b (qI S c 1).toInt cap S u → Q u) : w_X0_putAll_J37 Q S b c x := by
  obtain ⟨h1, h2, h3, h4⟩ := id h
  have hl := p2_le _ h3
  have hlx := p2_le _ hx.1
  have eL := toI_nat (n := qN S (qO S b 0)) (by omega)
  unfold w_X0_putAll_J37
  intro w kb kc
  refine ⟨h1, fun q => sp_pa58 hbc h hc (by omega) hQ, fun q => ⟨h1, fun kd => ?_⟩⟩
  have hlt : qN S (qO S b 0) < x.toInt.toNat := by omega
  have hd := p2_lt _ h3 _ hx.1 hlt
  have hr : qn S + 1 ≤ KCC ∧ qu S + x.toInt.toNat ≤ KSC := ⟨by have := hR.1; omega, by have := hR.2; omega⟩
  have hT := KC_TX hr.1
  have hne := w.ne hT kd (by decide)
  have hbn := w.ne hT kb (by decide)
  have hcn := w.ne hT kc (by decide)
  refine ⟨_, sp_copyOfB (by omega) hne (by omega) hr (Q := fun r u => r = qn S ∧ ∃ f, u = wC (wN S 101 x.toInt.toNat x.toInt.toNat) (qn S) f) (fun f u e _ => ⟨rfl, f, e⟩), ?_⟩
  rintro r S17 ⟨rfl, f, e⟩ w17 s17 k17 S21 e21 k21 w21
  have r21 : ∀ a j, ¬ (a = b ∧ j = 0) → a ≠ qn S → qR S21 a j = qR S a j := fun a j q qa => by rw [e21, qR_wR, if_neg q, e, wCN_R, if_neg qa]
  have o21 : qR S21 b 0 = some (qn S) := by rw [e21, qR_wR, if_pos ⟨rfl, rfl⟩]
  have n21 : qN S21 (qn S) = x.toInt.toNat := by rw [e21]; show qN S17 (qn S) = _; rw [e]; exact wCN_n
  have q21 : qO S21 b 0 = qn S := qO_of o21
  have iz : ∀ a j, a ≠ qn S → qI S21 a j = qI S a j := fun a j ha => by rw [e21]; show qI S17 a j = _; rw [e]; exact wCN_I ha
  have nn : qn S21 = qn S + 1 := by rw [e21, e]; rfl
  have un : qu S21 = qu S + x.toInt.toNat := by rw [e21, e]; rfl
  have g : fb b S S21 := ⟨⟨fun a a0 => by
    have han : a ≠ qn S := fun q => a0 (by rw [q]; exact w.nx hT)
    rw [e21]
    show qT S17 a = _ ∧ qN S17 a = _
    rw [e]
    exact ⟨wCN_T han, wCN_N han⟩, by omega⟩, (fun a j a0 a1 ab => by
    have han : a ≠ qn S := fun q => a0 (by rw [q]; exact w.nx hT)
    refine ⟨iz a j han, ?_, r21 a j (fun q => ab q.1) han⟩
    rw [e21]; show qJ S17 a j = _; rw [e]; exact wCN_J han), by
    have h9 : nw9 S (wN S 101 x.toInt.toNat x.toInt.toNat) := nw9.new
    have eT : qT S21 = qT (wN S 101 x.toInt.toNat x.toInt.toNat) := by rw [e21, e]; rfl
    exact ⟨fun a z => by rw [eT]; exact h9.1 a z, fun a l1 l2 => by rw [eT]; exact h9.2 a l1 (by rw [nn] at l2; exact l2)⟩⟩
  have rc : qR S21 c 0 = qR S c 0 := r21 c 0 (fun q => hbc q.1.symm) hcn
  have oc : qO S21 c 0 = qO S c 0 := by unfold qO; rw [rc]
  have kcd : qT S (qO S c 0) = 101 := w.ref hc.1 kc
  have hcd := w.ne hT kcd (by decide)
  have nc : qN S21 (qO S c 0) = qN S (qO S c 0) := (g.1.1 _ (by rw [kcd]; decide)).2
  refine sp_pa58 (cap := cap) hbc ⟨by rw [q21]; exact o21, ⟨by rw [iz b 1 hbn]; exact h2.1, by rw [q21, n21, iz b 1 hbn]; omega⟩, by rw [q21, n21]; exact hx.1, by rw [q21, n21]; exact hx.2.2⟩ ⟨by rw [oc, rc]; exact hc.1, by rw [iz c 1 hcn]; exact hc.2.1, by rw [oc, nc, iz c 1 hcn]; exact hc.2.2⟩ (by rw [q21, n21, iz b 1 hbn, iz c 1 hcn]; omega) (fun u hu => hQ u ?_)
  obtain ⟨u1, u2, u3, u4, u5⟩ := hu
  rw [q21, n21] at u4 u5
  exact ⟨u1, by rw [u2, iz b 1 hbn, iz c 1 hcn], g.tr u3, by omega, by omega⟩
theorem sp_pa8 {S : MS} {b c cap : Nat} {Q : MS → Prop} (hbc : b ≠ c) (h : ByI S b cap) (hcap : cap ∈ p2L) (hc : qR S c 0 = some (qO S c 0) ∧ 0 ≤ (qI S c 1).toInt ∧ (qI S c 1).toInt ≤ qN S (qO S c 0)) (hs : (qI S b 1).toInt + (qI S c 1).toInt ≤ cap) (hR : RmB b cap S) (hQ : ∀ u : MS, ByPk b (qI S c 1).toInt cap S u → Q u) : ∀ (n : Nat) (x y : Int32), x.toInt.toNat ∈ p2L → qN S (qO S b 0) ≤ x.toInt.toNat → x.toInt.toNat ≤ cap → 0 ≤ y.toInt → (31 - y.toInt < n) → (2 : Int) ^ (y.toInt.toNat) * 64 ≤ x.toInt → w_X0_putAll_L8 Q n S b c x y := by
  have hlc := p2_le _ hcap
  have hl := p2_le _ h.2.2.1
  have es : ((qI S b 1) + (qI S c 1)).toInt = (qI S b 1).toInt + (qI S c 1).toInt := t_addk (by have := h.2.1; have := hc.2; omega)
  intro n
  induction n with
  | zero =>
    intro x y hx h1 h2 h3 h4 h5
    exfalso
    have hx2 := p2_le _ hx
    have : (2 : Int) ^ (y.toInt.toNat) * 64 ≥ 2 ^ 31 * 64 := Int.mul_le_mul_of_nonneg_right (by
      have e : (31 : Nat) ≤ y.toInt.toNat := by omega
      exact_mod_cast Nat.pow_le_pow_right (by decide) e) (by decide)
    have e2 : (2 : Int) ^ 31 * 64 = 137438953472 := by decide
    omega
  | succ n ih =>
    intro x y hx h1 h2 h3 h4 h5
    have hx2 := p2_le _ hx
    unfold w_X0_putAll_L8
    intro w kb kc
    rw [es]
    refine ⟨fun q => sp_pa37 hbc h hc ⟨hx, h1, h2⟩ q hR hQ, fun q => ⟨fun q2 => ?_, fun q2 a28 e28 a29 e29 => ?_⟩⟩
    · exfalso
      have : (2 : Int) ^ (y.toInt.toNat) * 64 ≥ 2 ^ 31 * 64 := Int.mul_le_mul_of_nonneg_right (by
        have e : (31 : Nat) ≤ y.toInt.toNat := by omega
        exact_mod_cast Nat.pow_le_pow_right (by decide) e) (by decide)
      have e2 : (2 : Int) ^ 31 * 64 = 137438953472 := by decide
      omega
    · have hd := p2_dbl _ hx _ hcap (by omega)
      have m28 : a28.toInt = 2 * x.toInt := by rw [e28, t_mulk (by rw [li_2k]; omega), li_2k]; omega
      have m29 : a29.toInt = y.toInt + 1 := by rw [e29, t_addk (by rw [lo_1k]; omega), lo_1k]
      have en : a28.toInt.toNat = 2 * x.toInt.toNat := by omega
      refine ih a28 a29 (by rw [en]; exact hd.2) (by rw [en]; omega) (by rw [en]; exact hd.1) (by omega) (by omega) ?_
      have ey : a29.toInt.toNat = y.toInt.toNat + 1 := by omega
      rw [ey, m28, Int.pow_succ]
      have := h5
      generalize (2 : Int) ^ y.toInt.toNat = P at this ⊢
      omega
theorem sp_putAll {S : MS} {b c cap : Nat} {Q : MS → Prop} (hbc : b ≠ c) (h : ByI S b cap) (hcap : cap ∈ p2L) (hc : qR S c 0 = some (qO S c 0) ∧ 0 ≤ (qI S c 1).toInt ∧ (qI S c 1).toInt ≤ qN S (qO S c 0)) (hs : (qI S b 1).toInt + (qI S c 1).toInt ≤ cap) (hR : RmB b cap S) (hQ : ∀ u : MS, ByPk b (qI S c 1).toInt cap S u → Q u) : wX0_putAll S b c Q := by
  have hl := p2_le _ h.2.2.1
  have eL := toI_nat (n := qN S (qO S b 0)) (by omega)
  unfold wX0_putAll
  refine ⟨h.1, fun a3 e3 => ⟨32, ?_⟩⟩
  have e3' : a3.toInt.toNat = qN S (qO S b 0) := by rw [e3, eL]; rfl
  refine sp_pa8 hbc h hcap hc hs hR hQ 32 a3 0 (by rw [e3']; exact h.2.2.1) (by rw [e3']; exact Nat.le_refl _) (by rw [e3']; exact h.2.2.2) (by decide) (by rw [li_0k]; decide) ?_
  have e0 : (2 : Int) ^ ((0 : Int32).toInt.toNat) * 64 = 64 := by decide
  rw [e0]
  omega
/-! domains of what the readers read -/
theorem t_addD {a b : Int32} : (a + b).toInt = a.toInt + b.toInt ∨ 2147483647 < a.toInt + b.toInt ∨ a.toInt + b.toInt < -2147483648 := by
  by_cases h : -2147483648 ≤ a.toInt + b.toInt ∧ a.toInt + b.toInt ≤ 2147483647
  · exact Or.inl (t_addk h)
  · omega
theorem t_subD {a b : Int32} : (a - b).toInt = a.toInt - b.toInt ∨ 2147483647 < a.toInt - b.toInt ∨ a.toInt - b.toInt < -2147483648 := by
  by_cases h : -2147483648 ≤ a.toInt - b.toInt ∧ a.toInt - b.toInt ≤ 2147483647
  · exact Or.inl (t_subk h)
  · omega
theorem rgI (a : Int32) : -2147483648 ≤ a.toInt ∧ a.toInt ≤ 2147483647 := ⟨Int32.le_toInt a, by have := Int32.toInt_lt a; omega⟩
set_option maxRecDepth 100000 in
theorem dd_X2_numbersOf {S : MS} {x0 : Int32} : d_X2_numbersOf S x0 := by
  unfold d_X2_numbersOf
  exact trivial
set_option maxRecDepth 100000 in
theorem dd_X6_isJump_J28 {S : MS} : d_X6_isJump_J28 S := by
  unfold d_X6_isJump_J28
  exact trivial
set_option maxRecDepth 100000 in
theorem dd_X6_isJump_J14 {S : MS} {v14_0 : Int32} : d_X6_isJump_J14 S v14_0 := by
  unfold d_X6_isJump_J14
  by_cases c0_ : v14_0.toInt = 198
  · rw [if_pos c0_]
    exact dd_X6_isJump_J28
  · rw [if_neg c0_]
    by_cases c1_ : v14_0.toInt = 199
    · rw [if_pos c1_]
      exact dd_X6_isJump_J28
    · rw [if_neg c1_]
      exact trivial
set_option maxRecDepth 100000 in
theorem dd_X6_isJump {S : MS} {x0 : Int32} : d_X6_isJump S x0 := by
  unfold d_X6_isJump
  by_cases c0_ : x0.toInt < 153
  · rw [if_pos c0_]
    exact dd_X6_isJump_J14
  · rw [if_neg c0_]
    by_cases c1_ : x0.toInt ≤ 167
    · rw [if_pos c1_]
      exact dd_X6_isJump_J28
    · rw [if_neg c1_]
      exact dd_X6_isJump_J14
set_option maxRecDepth 100000 in
theorem dd_X6_isSwitch_J14 {S : MS} : d_X6_isSwitch_J14 S := by
  unfold d_X6_isSwitch_J14
  exact trivial
set_option maxRecDepth 100000 in
theorem dd_X6_isSwitch {S : MS} {x0 : Int32} : d_X6_isSwitch S x0 := by
  unfold d_X6_isSwitch
  by_cases c0_ : x0.toInt = 170
  · rw [if_pos c0_]
    exact dd_X6_isSwitch_J14
  · rw [if_neg c0_]
    by_cases c1_ : x0.toInt = 171
    · rw [if_pos c1_]
      exact dd_X6_isSwitch_J14
    · rw [if_neg c1_]
      exact trivial
set_option maxRecDepth 100000 in
theorem dd_X6_goesOn_J32 {S : MS} : d_X6_goesOn_J32 S := by
  unfold d_X6_goesOn_J32
  exact trivial
set_option maxRecDepth 100000 in
theorem dd_X6_goesOn_J28 {S : MS} : d_X6_goesOn_J28 S := by
  unfold d_X6_goesOn_J28
  exact trivial
set_option maxRecDepth 100000 in
theorem dd_X6_goesOn {S : MS} {x0 : Int32} : d_X6_goesOn S x0 := by
  unfold d_X6_goesOn
  by_cases c0_ : x0.toInt = 167
  · rw [if_pos c0_]
    exact dd_X6_goesOn_J32
  · rw [if_neg c0_]
    by_cases c1_ : x0.toInt = 191
    · rw [if_pos c1_]
      exact dd_X6_goesOn_J32
    · rw [if_neg c1_]
      by_cases c2_ : x0.toInt < 170
      · rw [if_pos c2_]
        exact dd_X6_goesOn_J28
      · rw [if_neg c2_]
        by_cases c3_ : x0.toInt ≤ 177
        · rw [if_pos c3_]
          exact dd_X6_goesOn_J32
        · rw [if_neg c3_]
          exact dd_X6_goesOn_J28
set_option maxRecDepth 100000 in
theorem dd_X6_isLoad_J18 {S : MS} : d_X6_isLoad_J18 S := by
  unfold d_X6_isLoad_J18
  exact trivial
set_option maxRecDepth 100000 in
theorem dd_X6_isLoad {S : MS} {x0 : Int32} : d_X6_isLoad S x0 := by
  unfold d_X6_isLoad
  by_cases c0_ : x0.toInt = 21
  · rw [if_pos c0_]
    exact dd_X6_isLoad_J18
  · rw [if_neg c0_]
    by_cases c1_ : x0.toInt = 22
    · rw [if_pos c1_]
      exact dd_X6_isLoad_J18
    · rw [if_neg c1_]
      by_cases c2_ : x0.toInt = 25
      · rw [if_pos c2_]
        exact dd_X6_isLoad_J18
      · rw [if_neg c2_]
        exact trivial
set_option maxRecDepth 100000 in
theorem dd_X6_isStore_J18 {S : MS} : d_X6_isStore_J18 S := by
  unfold d_X6_isStore_J18
  exact trivial
set_option maxRecDepth 100000 in
theorem dd_X6_isStore {S : MS} {x0 : Int32} : d_X6_isStore S x0 := by
  unfold d_X6_isStore
  by_cases c0_ : x0.toInt = 54
  · rw [if_pos c0_]
    exact dd_X6_isStore_J18
  · rw [if_neg c0_]
    by_cases c1_ : x0.toInt = 55
    · rw [if_pos c1_]
      exact dd_X6_isStore_J18
    · rw [if_neg c1_]
      by_cases c2_ : x0.toInt = 58
      · rw [if_pos c2_]
        exact dd_X6_isStore_J18
      · rw [if_neg c2_]
        exact trivial
set_option maxRecDepth 100000 in
theorem dd_X6_usesLocal_J21 {S : MS} : d_X6_usesLocal_J21 S := by
  unfold d_X6_usesLocal_J21
  exact trivial
set_option maxRecDepth 100000 in
theorem dd_X6_usesLocal {S : MS} {x0 : Int32} : d_X6_usesLocal S x0 := by
  unfold d_X6_usesLocal
  refine ⟨?_, ?_⟩
  · exact dd_X6_isLoad
  by_cases c0_ : (fX6_isLoad S x0).toInt = 0
  · rw [if_pos c0_]
    refine ⟨?_, ?_⟩
    · exact dd_X6_isStore
    by_cases c1_ : (fX6_isStore S x0).toInt = 0
    · rw [if_pos c1_]
      by_cases c2_ : x0.toInt = 132
      · rw [if_pos c2_]
        exact dd_X6_usesLocal_J21
      · rw [if_neg c2_]
        exact trivial
    · rw [if_neg c1_]
      exact dd_X6_usesLocal_J21
  · rw [if_neg c0_]
    exact dd_X6_usesLocal_J21
set_option maxRecDepth 100000 in
theorem dd_X6_localWidth_J12 {S : MS} : d_X6_localWidth_J12 S := by
  unfold d_X6_localWidth_J12
  exact trivial
set_option maxRecDepth 100000 in
theorem dd_X6_localWidth {S : MS} {x0 : Int32} : d_X6_localWidth S x0 := by
  unfold d_X6_localWidth
  by_cases c0_ : x0.toInt = 22
  · rw [if_pos c0_]
    exact dd_X6_localWidth_J12
  · rw [if_neg c0_]
    by_cases c1_ : x0.toInt = 55
    · rw [if_pos c1_]
      exact dd_X6_localWidth_J12
    · rw [if_neg c1_]
      exact trivial
set_option maxRecDepth 100000 in
theorem dd_X6_isShift_J16 {S : MS} : d_X6_isShift_J16 S := by
  unfold d_X6_isShift_J16
  exact trivial
set_option maxRecDepth 100000 in
theorem dd_X6_isShift {S : MS} {x0 : Int32} : d_X6_isShift S x0 := by
  unfold d_X6_isShift
  by_cases c0_ : x0.toInt < 120
  · rw [if_pos c0_]
    exact dd_X6_isShift_J16
  · rw [if_neg c0_]
    by_cases c1_ : 125 < x0.toInt
    · rw [if_pos c1_]
      exact dd_X6_isShift_J16
    · rw [if_neg c1_]
      exact trivial
set_option maxRecDepth 100000 in
theorem dd_X6_isDivision_J24 {S : MS} : d_X6_isDivision_J24 S := by
  unfold d_X6_isDivision_J24
  exact trivial
set_option maxRecDepth 100000 in
theorem dd_X6_isDivision {S : MS} {x0 : Int32} : d_X6_isDivision S x0 := by
  unfold d_X6_isDivision
  by_cases c0_ : x0.toInt = 108
  · rw [if_pos c0_]
    exact dd_X6_isDivision_J24
  · rw [if_neg c0_]
    by_cases c1_ : x0.toInt = 109
    · rw [if_pos c1_]
      exact dd_X6_isDivision_J24
    · rw [if_neg c1_]
      by_cases c2_ : x0.toInt = 112
      · rw [if_pos c2_]
        exact dd_X6_isDivision_J24
      · rw [if_neg c2_]
        by_cases c3_ : x0.toInt = 113
        · rw [if_pos c3_]
          exact dd_X6_isDivision_J24
        · rw [if_neg c3_]
          exact trivial
set_option maxRecDepth 100000 in
theorem dd_X6_isBinary_J38 {S : MS} : d_X6_isBinary_J38 S := by
  unfold d_X6_isBinary_J38
  exact trivial
set_option maxRecDepth 100000 in
theorem dd_X6_isBinary_J31 {S : MS} {v31_0 : Int32} : d_X6_isBinary_J31 S v31_0 := by
  unfold d_X6_isBinary_J31
  by_cases c0_ : v31_0.toInt = 148
  · rw [if_pos c0_]
    exact dd_X6_isBinary_J38
  · rw [if_neg c0_]
    exact trivial
set_option maxRecDepth 100000 in
theorem dd_X6_isBinary_J18 {S : MS} {v18_0 : Int32} : d_X6_isBinary_J18 S v18_0 := by
  unfold d_X6_isBinary_J18
  by_cases c0_ : v18_0.toInt < 120
  · rw [if_pos c0_]
    exact dd_X6_isBinary_J31
  · rw [if_neg c0_]
    by_cases c1_ : v18_0.toInt ≤ 131
    · rw [if_pos c1_]
      exact dd_X6_isBinary_J38
    · rw [if_neg c1_]
      exact dd_X6_isBinary_J31
set_option maxRecDepth 100000 in
theorem dd_X6_isBinary {S : MS} {x0 : Int32} : d_X6_isBinary S x0 := by
  unfold d_X6_isBinary
  by_cases c0_ : x0.toInt < 96
  · rw [if_pos c0_]
    exact dd_X6_isBinary_J18
  · rw [if_neg c0_]
    by_cases c1_ : 113 < x0.toInt
    · rw [if_pos c1_]
      exact dd_X6_isBinary_J18
    · rw [if_neg c1_]
      by_cases c2_ : (x0 &&& (2 : Int32)).toInt = 0
      · rw [if_pos c2_]
        exact dd_X6_isBinary_J38
      · rw [if_neg c2_]
        exact dd_X6_isBinary_J18
set_option maxRecDepth 100000 in
theorem dd_X6_isUnary_J40 {S : MS} : d_X6_isUnary_J40 S := by
  unfold d_X6_isUnary_J40
  exact trivial
set_option maxRecDepth 100000 in
theorem dd_X6_isUnary_J44 {S : MS} : d_X6_isUnary_J44 S := by
  unfold d_X6_isUnary_J44
  exact trivial
set_option maxRecDepth 100000 in
theorem dd_X6_isUnary {S : MS} {x0 : Int32} : d_X6_isUnary S x0 := by
  unfold d_X6_isUnary
  by_cases c0_ : x0.toInt = 116
  · rw [if_pos c0_]
    exact dd_X6_isUnary_J40
  · rw [if_neg c0_]
    by_cases c1_ : x0.toInt = 117
    · rw [if_pos c1_]
      exact dd_X6_isUnary_J40
    · rw [if_neg c1_]
      by_cases c2_ : x0.toInt = 133
      · rw [if_pos c2_]
        exact dd_X6_isUnary_J40
      · rw [if_neg c2_]
        by_cases c3_ : x0.toInt = 136
        · rw [if_pos c3_]
          exact dd_X6_isUnary_J40
        · rw [if_neg c3_]
          by_cases c4_ : x0.toInt < 145
          · rw [if_pos c4_]
            exact dd_X6_isUnary_J44
          · rw [if_neg c4_]
            by_cases c5_ : 147 < x0.toInt
            · rw [if_pos c5_]
              exact dd_X6_isUnary_J44
            · rw [if_neg c5_]
              exact dd_X6_isUnary_J40
set_option maxRecDepth 100000 in
theorem dd_X6_lengthOf_J12 {S : MS} : d_X6_lengthOf_J12 S := by
  unfold d_X6_lengthOf_J12
  exact trivial
set_option maxRecDepth 100000 in
theorem dd_X6_lengthOf {S : MS} {x0 : Int32} : d_X6_lengthOf S x0 := by
  unfold d_X6_lengthOf
  by_cases c0_ : x0.toInt < 0
  · rw [if_pos c0_]
    exact dd_X6_lengthOf_J12
  · rw [if_neg c0_]
    by_cases c1_ : x0.toInt < 202
    · rw [if_pos c1_]
      refine ⟨?_, ?_⟩
      · have n1_ := rgI x0
        omega
      exact trivial
    · rw [if_neg c1_]
      exact dd_X6_lengthOf_J12
set_option maxRecDepth 100000 in
theorem dd_X6_takes_J12 {S : MS} : d_X6_takes_J12 S := by
  unfold d_X6_takes_J12
  exact trivial
set_option maxRecDepth 100000 in
theorem dd_X6_takes {S : MS} {x0 : Int32} : d_X6_takes S x0 := by
  unfold d_X6_takes
  by_cases c0_ : x0.toInt < 0
  · rw [if_pos c0_]
    exact dd_X6_takes_J12
  · rw [if_neg c0_]
    by_cases c1_ : x0.toInt < 202
    · rw [if_pos c1_]
      refine ⟨?_, ?_⟩
      · have n1_ := rgI x0
        omega
      exact trivial
    · rw [if_neg c1_]
      exact dd_X6_takes_J12
set_option maxRecDepth 100000 in
theorem dd_X6_gives_J12 {S : MS} : d_X6_gives_J12 S := by
  unfold d_X6_gives_J12
  exact trivial
set_option maxRecDepth 100000 in
theorem dd_X6_gives {S : MS} {x0 : Int32} : d_X6_gives S x0 := by
  unfold d_X6_gives
  by_cases c0_ : x0.toInt < 0
  · rw [if_pos c0_]
    exact dd_X6_gives_J12
  · rw [if_neg c0_]
    by_cases c1_ : x0.toInt < 202
    · rw [if_pos c1_]
      refine ⟨?_, ?_⟩
      · have n1_ := rgI x0
        omega
      exact trivial
    · rw [if_neg c1_]
      exact dd_X6_gives_J12
set_option maxRecDepth 100000 in
theorem dd_X7_u1_J21 {S : MS} : d_X7_u1_J21 S := by
  unfold d_X7_u1_J21
  exact trivial
set_option maxRecDepth 100000 in
theorem dd_X7_u1 {S : MS} {x1 : Int32} : d_X7_u1 S x1 := by
  unfold d_X7_u1
  by_cases c0_ : x1.toInt < 0
  · rw [if_pos c0_]
    exact dd_X7_u1_J21
  · rw [if_neg c0_]
    by_cases c1_ : (qI S 9 1).toInt ≤ x1.toInt
    · rw [if_pos c1_]
      exact dd_X7_u1_J21
    · rw [if_neg c1_]
      by_cases c2_ : x1.toInt < (qN S (qO S 9 0) : Int)
      · rw [if_pos c2_]
        refine ⟨?_, ?_⟩
        · have n1_ := rgI x1
          have n2_ := rgI (qI S 9 1)
          omega
        exact trivial
      · rw [if_neg c2_]
        exact dd_X7_u1_J21
set_option maxRecDepth 100000 in
theorem dd_X7_u2 {S : MS} {x1 : Int32} (h9 : 0 ≤ (qI S 9 1).toInt) : d_X7_u2 S x1 := by
  unfold d_X7_u2
  by_cases c0_ : x1.toInt < 0
  · rw [if_pos c0_]
    exact trivial
  · rw [if_neg c0_]
    by_cases c1_ : ((qI S 9 1) - (2 : Int32)).toInt < x1.toInt
    · rw [if_pos c1_]
      exact trivial
    · rw [if_neg c1_]
      by_cases c2_ : (qI S 9 1).toInt ≤ (qN S (qO S 9 0) : Int)
      · rw [if_pos c2_]
        refine ⟨?_, ?_⟩
        · have n1_ := rgI x1
          have n3_ := rgI (qI S 9 1)
          have n4_ := li_2k
          have n4_ := t_subD (a := (qI S 9 1)) (b := (2 : Int32))
          have n5_ := rgI ((qI S 9 1) - (2 : Int32))
          omega
        refine ⟨?_, ?_⟩
        · have n2_ := rgI x1
          have n3_ := li_1k
          have n3_ := t_addD (a := x1) (b := (1 : Int32))
          have n4_ := rgI (x1 + (1 : Int32))
          have n6_ := rgI (qI S 9 1)
          have n7_ := li_2k
          have n7_ := t_subD (a := (qI S 9 1)) (b := (2 : Int32))
          have n8_ := rgI ((qI S 9 1) - (2 : Int32))
          omega
        exact trivial
      · rw [if_neg c2_]
        exact trivial
set_option maxRecDepth 100000 in
theorem dd_X7_s4 {S : MS} {x1 : Int32} (h9 : 0 ≤ (qI S 9 1).toInt) : d_X7_s4 S x1 := by
  unfold d_X7_s4
  by_cases c0_ : x1.toInt < 0
  · rw [if_pos c0_]
    exact trivial
  · rw [if_neg c0_]
    by_cases c1_ : ((qI S 9 1) - (4 : Int32)).toInt < x1.toInt
    · rw [if_pos c1_]
      exact trivial
    · rw [if_neg c1_]
      by_cases c2_ : (qI S 9 1).toInt ≤ (qN S (qO S 9 0) : Int)
      · rw [if_pos c2_]
        refine ⟨?_, ?_⟩
        · have n1_ := rgI x1
          have n3_ := rgI (qI S 9 1)
          have n4_ := li_4k
          have n4_ := t_subD (a := (qI S 9 1)) (b := (4 : Int32))
          have n5_ := rgI ((qI S 9 1) - (4 : Int32))
          omega
        refine ⟨?_, ?_⟩
        · have n2_ := rgI x1
          have n3_ := li_1k
          have n3_ := t_addD (a := x1) (b := (1 : Int32))
          have n4_ := rgI (x1 + (1 : Int32))
          have n6_ := rgI (qI S 9 1)
          have n7_ := li_4k
          have n7_ := t_subD (a := (qI S 9 1)) (b := (4 : Int32))
          have n8_ := rgI ((qI S 9 1) - (4 : Int32))
          omega
        refine ⟨?_, ?_⟩
        · have n2_ := rgI x1
          have n3_ := li_2k
          have n3_ := t_addD (a := x1) (b := (2 : Int32))
          have n4_ := rgI (x1 + (2 : Int32))
          have n6_ := rgI (qI S 9 1)
          have n7_ := li_4k
          have n7_ := t_subD (a := (qI S 9 1)) (b := (4 : Int32))
          have n8_ := rgI ((qI S 9 1) - (4 : Int32))
          omega
        refine ⟨?_, ?_⟩
        · have n2_ := rgI x1
          have n3_ := li_3k
          have n3_ := t_addD (a := x1) (b := (3 : Int32))
          have n4_ := rgI (x1 + (3 : Int32))
          have n6_ := rgI (qI S 9 1)
          have n7_ := li_4k
          have n7_ := t_subD (a := (qI S 9 1)) (b := (4 : Int32))
          have n8_ := rgI ((qI S 9 1) - (4 : Int32))
          omega
        exact trivial
      · rw [if_neg c2_]
        exact trivial
set_option maxRecDepth 100000 in
theorem dd_X7_u4 {S : MS} {x1 : Int32} (h9 : 0 ≤ (qI S 9 1).toInt) : d_X7_u4 S x1 := by
  unfold d_X7_u4
  refine ⟨?_, ?_⟩
  · exact dd_X7_s4 h9
  exact trivial
set_option maxRecDepth 100000 in
theorem dd_X7_entryLength {S : MS} {x1 : Int32} (h9 : 0 ≤ (qI S 9 1).toInt) : d_X7_entryLength S x1 := by
  unfold d_X7_entryLength
  by_cases c0_ : x1.toInt = 1
  · rw [if_pos c0_]
    refine ⟨?_, ?_⟩
    · exact dd_X7_u2 h9
    exact trivial
  · rw [if_neg c0_]
    exact trivial
set_option maxRecDepth 100000 in
theorem dd_X7_entryAt_J22 {S : MS} : d_X7_entryAt_J22 S := by
  unfold d_X7_entryAt_J22
  exact trivial
set_option maxRecDepth 100000 in
theorem dd_X7_entryAt {S : MS} {x1 : Int32} : d_X7_entryAt S x1 := by
  unfold d_X7_entryAt
  by_cases c0_ : x1.toInt < 1
  · rw [if_pos c0_]
    exact dd_X7_entryAt_J22
  · rw [if_neg c0_]
    by_cases c1_ : (qI S 9 5).toInt ≤ x1.toInt
    · rw [if_pos c1_]
      exact dd_X7_entryAt_J22
    · rw [if_neg c1_]
      by_cases c2_ : x1.toInt < 500
      · rw [if_pos c2_]
        refine ⟨?_, ?_⟩
        · have n1_ := rgI x1
          have n2_ := rgI (qI S 9 5)
          omega
        exact trivial
      · rw [if_neg c2_]
        exact dd_X7_entryAt_J22
set_option maxRecDepth 100000 in
theorem dd_X7_tagOf {S : MS} {x1 : Int32} : d_X7_tagOf S x1 := by
  unfold d_X7_tagOf
  refine ⟨?_, ?_⟩
  · exact dd_X7_entryAt
  by_cases c0_ : (fX7_entryAt S x1).toInt = 0
  · rw [if_pos c0_]
    exact trivial
  · rw [if_neg c0_]
    refine ⟨?_, ?_⟩
    · exact dd_X7_entryAt
    refine ⟨?_, ?_⟩
    · exact dd_X7_u1
    exact trivial
set_option maxRecDepth 100000 in
theorem dd_X7_firstOf {S : MS} {x1 : Int32} (h9 : 0 ≤ (qI S 9 1).toInt) : d_X7_firstOf S x1 := by
  unfold d_X7_firstOf
  refine ⟨?_, ?_⟩
  · exact dd_X7_entryAt
  refine ⟨?_, ?_⟩
  · exact dd_X7_u2 h9
  exact trivial
set_option maxRecDepth 100000 in
theorem dd_X7_secondOf {S : MS} {x1 : Int32} (h9 : 0 ≤ (qI S 9 1).toInt) : d_X7_secondOf S x1 := by
  unfold d_X7_secondOf
  refine ⟨?_, ?_⟩
  · exact dd_X7_entryAt
  refine ⟨?_, ?_⟩
  · exact dd_X7_u2 h9
  exact trivial
set_option maxRecDepth 100000 in
theorem dd_X7_memberPlace_J13 {S : MS} : d_X7_memberPlace_J13 S := by
  unfold d_X7_memberPlace_J13
  exact trivial
set_option maxRecDepth 100000 in
theorem dd_X7_memberPlace {S : MS} {x1 : Int32} : d_X7_memberPlace S x1 := by
  unfold d_X7_memberPlace
  by_cases c0_ : x1.toInt < 0
  · rw [if_pos c0_]
    exact dd_X7_memberPlace_J13
  · rw [if_neg c0_]
    by_cases c1_ : x1.toInt < 48
    · rw [if_pos c1_]
      refine ⟨?_, ?_⟩
      · have n1_ := rgI x1
        omega
      exact trivial
    · rw [if_neg c1_]
      exact dd_X7_memberPlace_J13
set_option maxRecDepth 100000 in
theorem dd_X7_nameOf {S : MS} {x1 : Int32} (h9 : 0 ≤ (qI S 9 1).toInt) : d_X7_nameOf S x1 := by
  unfold d_X7_nameOf
  refine ⟨?_, ?_⟩
  · exact dd_X7_memberPlace
  refine ⟨?_, ?_⟩
  · exact dd_X7_u2 h9
  exact trivial
set_option maxRecDepth 100000 in
theorem dd_X7_typeOf {S : MS} {x1 : Int32} (h9 : 0 ≤ (qI S 9 1).toInt) : d_X7_typeOf S x1 := by
  unfold d_X7_typeOf
  refine ⟨?_, ?_⟩
  · exact dd_X7_memberPlace
  refine ⟨?_, ?_⟩
  · exact dd_X7_u2 h9
  exact trivial
set_option maxRecDepth 100000 in
theorem dd_X7_nameLength {S : MS} {x1 : Int32} (h9 : 0 ≤ (qI S 9 1).toInt) : d_X7_nameLength S x1 := by
  unfold d_X7_nameLength
  refine ⟨?_, ?_⟩
  · exact dd_X7_entryAt
  refine ⟨?_, ?_⟩
  · exact dd_X7_u2 h9
  exact trivial
set_option maxRecDepth 100000 in
theorem dd_X7_nameSign {S : MS} {x1 : Int32} {x2 : Int32} : d_X7_nameSign S x1 x2 := by
  unfold d_X7_nameSign
  refine ⟨?_, ?_⟩
  · exact dd_X7_entryAt
  refine ⟨?_, ?_⟩
  · exact dd_X7_u1
  exact trivial
set_option maxRecDepth 100000 in
theorem dd_X7_kindOfPart_J84 {S : MS} : d_X7_kindOfPart_J84 S := by
  unfold d_X7_kindOfPart_J84
  exact trivial
set_option maxRecDepth 100000 in
theorem dd_X7_kindOfPart {S : MS} {x1 : Int32} {x2 : Int32} (h9 : 0 ≤ (qI S 9 1).toInt) : d_X7_kindOfPart S x1 x2 := by
  unfold d_X7_kindOfPart
  refine ⟨?_, ?_⟩
  · exact dd_X7_nameLength h9
  by_cases c0_ : x2.toInt < (fX7_nameLength S x1).toInt
  · rw [if_pos c0_]
    refine ⟨?_, ?_⟩
    · exact dd_X7_nameSign
    by_cases c1_ : (fX7_nameSign S x1 x2).toInt = 73
    · rw [if_pos c1_]
      exact trivial
    · rw [if_neg c1_]
      by_cases c2_ : (fX7_nameSign S x1 x2).toInt = 74
      · rw [if_pos c2_]
        exact trivial
      · rw [if_neg c2_]
        by_cases c3_ : (fX7_nameSign S x1 x2).toInt = 91
        · rw [if_pos c3_]
          refine ⟨?_, ?_⟩
          · exact dd_X7_nameLength h9
          by_cases c4_ : (fX7_nameLength S x1).toInt ≤ (x2 + (1 : Int32)).toInt
          · rw [if_pos c4_]
            exact dd_X7_kindOfPart_J84
          · rw [if_neg c4_]
            refine ⟨?_, ?_⟩
            · exact dd_X7_nameSign
            by_cases c5_ : (fX7_nameSign S x1 (x2 + (1 : Int32))).toInt = 73
            · rw [if_pos c5_]
              exact trivial
            · rw [if_neg c5_]
              exact dd_X7_kindOfPart_J84
        · rw [if_neg c3_]
          exact trivial
  · rw [if_neg c0_]
    exact trivial
set_option maxRecDepth 100000 in
theorem dd_X2_u1_J12 {S : MS} : d_X2_u1_J12 S := by
  unfold d_X2_u1_J12
  exact trivial
set_option maxRecDepth 100000 in
theorem dd_X2_u1 {S : MS} {x1 : Int32} : d_X2_u1 S x1 := by
  unfold d_X2_u1
  by_cases c0_ : x1.toInt < 0
  · rw [if_pos c0_]
    exact dd_X2_u1_J12
  · rw [if_neg c0_]
    by_cases c1_ : x1.toInt < (qI S 8 2).toInt
    · rw [if_pos c1_]
      refine ⟨?_, ?_⟩
      · exact dd_X7_u1
      exact trivial
    · rw [if_neg c1_]
      exact dd_X2_u1_J12
set_option maxRecDepth 100000 in
theorem dd_X2_u2_J14 {S : MS} : d_X2_u2_J14 S := by
  unfold d_X2_u2_J14
  exact trivial
set_option maxRecDepth 100000 in
theorem dd_X2_u2 {S : MS} {x1 : Int32} (h9 : 0 ≤ (qI S 9 1).toInt) : d_X2_u2 S x1 := by
  unfold d_X2_u2
  by_cases c0_ : x1.toInt < 0
  · rw [if_pos c0_]
    exact dd_X2_u2_J14
  · rw [if_neg c0_]
    by_cases c1_ : x1.toInt ≤ ((qI S 8 2) - (2 : Int32)).toInt
    · rw [if_pos c1_]
      refine ⟨?_, ?_⟩
      · exact dd_X7_u2 h9
      exact trivial
    · rw [if_neg c1_]
      exact dd_X2_u2_J14
set_option maxRecDepth 100000 in
theorem dd_X2_s4_J14 {S : MS} : d_X2_s4_J14 S := by
  unfold d_X2_s4_J14
  exact trivial
set_option maxRecDepth 100000 in
theorem dd_X2_s4 {S : MS} {x1 : Int32} (h9 : 0 ≤ (qI S 9 1).toInt) : d_X2_s4 S x1 := by
  unfold d_X2_s4
  by_cases c0_ : x1.toInt < 0
  · rw [if_pos c0_]
    exact dd_X2_s4_J14
  · rw [if_neg c0_]
    by_cases c1_ : x1.toInt ≤ ((qI S 8 2) - (4 : Int32)).toInt
    · rw [if_pos c1_]
      refine ⟨?_, ?_⟩
      · exact dd_X7_s4 h9
      exact trivial
    · rw [if_neg c1_]
      exact dd_X2_s4_J14
set_option maxRecDepth 100000 in
theorem dd_X2_wideLength_J24 {S : MS} : d_X2_wideLength_J24 S := by
  unfold d_X2_wideLength_J24
  exact trivial
set_option maxRecDepth 100000 in
theorem dd_X2_wideLength {S : MS} {x0 : Int32} : d_X2_wideLength S x0 := by
  unfold d_X2_wideLength
  by_cases c0_ : x0.toInt = 132
  · rw [if_pos c0_]
    exact trivial
  · rw [if_neg c0_]
    refine ⟨?_, ?_⟩
    · exact dd_X6_isLoad
    by_cases c1_ : (fX6_isLoad S x0).toInt = 0
    · rw [if_pos c1_]
      refine ⟨?_, ?_⟩
      · exact dd_X6_isStore
      by_cases c2_ : (fX6_isStore S x0).toInt = 0
      · rw [if_pos c2_]
        exact trivial
      · rw [if_neg c2_]
        exact dd_X2_wideLength_J24
    · rw [if_neg c1_]
      exact dd_X2_wideLength_J24
set_option maxRecDepth 100000 in
theorem dd_X2_tableLength {S : MS} {x1 : Int32} (h9 : 0 ≤ (qI S 9 1).toInt) : d_X2_tableLength S x1 := by
  unfold d_X2_tableLength
  refine ⟨?_, ?_⟩
  · exact dd_X2_numbersOf
  refine ⟨?_, ?_⟩
  · exact dd_X2_s4 h9
  refine ⟨?_, ?_⟩
  · exact dd_X2_s4 h9
  exact trivial
set_option maxRecDepth 100000 in
theorem dd_X2_switchCount {S : MS} {x1 : Int32} (h9 : 0 ≤ (qI S 9 1).toInt) : d_X2_switchCount S x1 := by
  unfold d_X2_switchCount
  by_cases c0_ : (qI S 8 9).toInt = 170
  · rw [if_pos c0_]
    refine ⟨?_, ?_⟩
    · exact dd_X2_s4 h9
    refine ⟨?_, ?_⟩
    · exact dd_X2_s4 h9
    exact trivial
  · rw [if_neg c0_]
    refine ⟨?_, ?_⟩
    · exact dd_X2_s4 h9
    exact trivial
set_option maxRecDepth 100000 in
theorem dd_X2_switchTarget_J53 {S : MS} {t53_0 : Int32} {t53_2 : Int64} (h9 : 0 ≤ (qI S 9 1).toInt) : d_X2_switchTarget_J53 S t53_0 t53_2 := by
  unfold d_X2_switchTarget_J53
  refine ⟨?_, ?_⟩
  · exact dd_X2_s4 h9
  exact trivial
set_option maxRecDepth 100000 in
theorem dd_X2_switchTarget {S : MS} {x1 : Int32} {x2 : Int32} (h9 : 0 ≤ (qI S 9 1).toInt) : d_X2_switchTarget S x1 x2 := by
  unfold d_X2_switchTarget
  by_cases c0_ : 0 ≤ x2.toInt
  · rw [if_pos c0_]
    by_cases c1_ : (qI S 8 9).toInt = 170
    · rw [if_pos c1_]
      exact dd_X2_switchTarget_J53 h9
    · rw [if_neg c1_]
      exact dd_X2_switchTarget_J53 h9
  · rw [if_neg c0_]
    refine ⟨?_, ?_⟩
    · exact dd_X2_s4 h9
    exact trivial
set_option maxRecDepth 100000 in
theorem dd_X2_longAt {S : MS} {x1 : Int32} (h9 : 0 ≤ (qI S 9 1).toInt) : d_X2_longAt S x1 := by
  unfold d_X2_longAt
  refine ⟨?_, ?_⟩
  · exact dd_X7_u4 h9
  refine ⟨?_, ?_⟩
  · exact dd_X7_u4 h9
  exact trivial
set_option maxRecDepth 100000 in
theorem dd_X7_kindOfType_J22 {S : MS} {t22_0 : Int32} {t22_1 : Int32} {v22_2 : Int32} : d_X7_kindOfType_J22 S t22_0 t22_1 v22_2 := by
  unfold d_X7_kindOfType_J22
  exact trivial
set_option maxRecDepth 100000 in
theorem dd_X7_kindOfType {S : MS} {x1 : Int32} (h9 : 0 ≤ (qI S 9 1).toInt) : d_X7_kindOfType S x1 := by
  unfold d_X7_kindOfType
  refine ⟨?_, ?_⟩
  · exact dd_X7_kindOfPart h9
  refine ⟨?_, ?_⟩
  · exact dd_X7_nameLength h9
  by_cases c0_ : (fX7_kindOfPart S x1 (0 : Int32)).toInt = 3
  · rw [if_pos c0_]
    exact dd_X7_kindOfType_J22
  · rw [if_neg c0_]
    exact dd_X7_kindOfType_J22
