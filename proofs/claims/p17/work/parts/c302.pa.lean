/-! putAll -/
theorem sp_pa58 {S : MS} {b c cap : Nat} {Q : MS → Prop} (hbc : b ≠ c) (h : ByI S b cap) (hc : qR S c 0 = some (qO S c 0) ∧ 0 ≤ (qI S c 1).toInt ∧ (qI S c 1).toInt ≤ qN S (qO S c 0)) (hs : (qI S b 1).toInt + (qI S c 1).toInt ≤ qN S (qO S b 0)) (hQ : ∀ u : MS, ByP b (qI S c 1).toInt cap S u → Q u) : w_X0_putAll_J58 Q S b c := by
  obtain ⟨h1, h2, h3, h4⟩ := h
  have hl := p2_le _ h3
  unfold w_X0_putAll_J58
  intro w kb kc
  have z : (0 : Int32).toNatClampNeg = 0 := by decide
  have y1 : (qI S b 1).toNatClampNeg = (qI S b 1).toInt.toNat := rfl
  have y2 : (qI S c 1).toNatClampNeg = (qI S c 1).toInt.toNat := rfl
  have neg : ∀ x : Int32, 0 ≤ x.toInt → ¬ x < 0 := fun x hx q => by have := n_lt.mp q; rw [li_0] at this; omega
  refine ⟨hc.1, h1, ⟨by decide, neg _ h2.1, neg _ hc.2.1, by rw [z, y2]; omega, by rw [y1, y2]; omega⟩, fun S12 e12 k12 w12 S14 e14 k14 w14 => hQ S14 ?_⟩
  have hne : b ≠ qO S b 0 := fun q => by rw [← q, kb] at k12; exact absurd k12 (by decide)
  have hce : c ≠ qO S b 0 := fun q => by rw [← q, kc] at k12; exact absurd k12 (by decide)
  have r14 : ∀ a j, qR S14 a j = qR S a j := fun a j => by rw [e14, e12]; rfl
  have n14 : ∀ a, qN S14 a = qN S a := fun a => by rw [e14, e12]; rfl
  have o14 : qO S14 b 0 = qO S b 0 := by unfold qO; rw [r14]
  have i12 : ∀ a, a ≠ qO S b 0 → qI S12 a = qI S a := fun a ha => by rw [e12]; exact if_neg ha
  have i14 : (qI S14 b 1).toInt = (qI S b 1).toInt + (qI S c 1).toInt := by
    rw [e14, qI_wI, if_pos ⟨rfl, rfl⟩, i12 b hne, i12 c hce, t_add (by omega)]
  have un : qu S14 = qu S := by rw [e14, e12]; rfl
  have nn : qn S14 = qn S := by rw [e14, e12]; rfl
  refine ⟨⟨by rw [r14, o14]; exact h1, ⟨by omega, by rw [o14, n14]; omega⟩, by rw [o14, n14]; exact h3, by rw [o14, n14]; exact h4⟩, i14, ⟨⟨fun a _ => by rw [e14, e12]; exact ⟨rfl, rfl⟩, by rw [nn]; exact Nat.le_refl _⟩, fun a j a0 a1 ab => ⟨?_, by rw [e14, e12]; rfl, r14 a j⟩⟩, by rw [o14, n14, nn]; exact Nat.le_refl _, by rw [o14, n14, un]; exact Nat.le_refl _⟩
  have a6 : a ≠ qO S b 0 := fun q => a1 (by rw [q]; exact k12)
  rw [e14, qI_wI, if_neg (fun q => ab q.1), i12 a a6]
theorem p2_lt : ∀ l ∈ p2L, ∀ c ∈ p2L, l < c → 2 * l ≤ c := fun l hl c hc h => (p2_dbl l hl c hc h).1
theorem sp_pa37 {S : MS} {b c cap : Nat} {x : Int32} {Q : MS → Prop} (hbc : b ≠ c) (h : ByI S b cap) (hc : qR S c 0 = some (qO S c 0) ∧ 0 ≤ (qI S c 1).toInt ∧ (qI S c 1).toInt ≤ qN S (qO S c 0)) (hx : x.toInt.toNat ∈ p2L ∧ qN S (qO S b 0) ≤ x.toInt.toNat ∧ x.toInt.toNat ≤ cap) (hs : (qI S b 1).toInt + (qI S c 1).toInt ≤ x.toInt) (hR : RmB b cap S) (hQ : ∀ u : MS, ByP b (qI S c 1).toInt cap S u → Q u) : w_X0_putAll_J37 Q S b c x := by
  obtain ⟨h1, h2, h3, h4⟩ := id h
  have hl := p2_le _ h3
  have hlx := p2_le _ hx.1
  have eL := toI_nat (n := qN S (qO S b 0)) (by omega)
  unfold w_X0_putAll_J37
  intro w kb kc
  refine ⟨h1, fun q => sp_pa58 hbc h hc (by omega) hQ, fun q => ⟨h1, fun kd => ?_⟩⟩
  have hlt : qN S (qO S b 0) < x.toInt.toNat := by omega
  have hd := p2_lt _ h3 _ hx.1 hlt
  have hr : qn S + 1 ≤ KCC ∧ qu S + x.toInt.toNat ≤ KSC := ⟨by have := hR.1; omega, by have := hR.2; omega⟩
  have hT := KC_TX hr.1
  have hne := w.ne hT kd (by decide)
  have hbn := w.ne hT kb (by decide)
  have hcn := w.ne hT kc (by decide)
  refine ⟨_, sp_copyOfB (by omega) hne (by omega) hr (Q := fun r u => r = qn S ∧ ∃ f, u = wC (wN S 101 x.toInt.toNat x.toInt.toNat) (qn S) f) (fun f u e _ => ⟨rfl, f, e⟩), ?_⟩
  rintro r S17 ⟨rfl, f, e⟩ w17 s17 k17 S21 e21 k21 w21
  have r21 : ∀ a j, ¬ (a = b ∧ j = 0) → a ≠ qn S → qR S21 a j = qR S a j := fun a j q qa => by rw [e21, qR_wR, if_neg q, e, wCN_R, if_neg qa]
  have o21 : qR S21 b 0 = some (qn S) := by rw [e21, qR_wR, if_pos ⟨rfl, rfl⟩]
  have n21 : qN S21 (qn S) = x.toInt.toNat := by rw [e21]; show qN S17 (qn S) = _; rw [e]; exact wCN_n
  have q21 : qO S21 b 0 = qn S := qO_of o21
  have iz : ∀ a j, a ≠ qn S → qI S21 a j = qI S a j := fun a j ha => by rw [e21]; show qI S17 a j = _; rw [e]; exact wCN_I ha
  have nn : qn S21 = qn S + 1 := by rw [e21, e]; rfl
  have un : qu S21 = qu S + x.toInt.toNat := by rw [e21, e]; rfl
  have g : fb b S S21 := ⟨⟨fun a a0 => by
    have han : a ≠ qn S := fun q => a0 (by rw [q]; exact w.nx hT)
    rw [e21]
    show qT S17 a = _ ∧ qN S17 a = _
    rw [e]
    exact ⟨wCN_T han, wCN_N han⟩, by omega⟩, fun a j a0 a1 ab => by
    have han : a ≠ qn S := fun q => a0 (by rw [q]; exact w.nx hT)
    refine ⟨iz a j han, ?_, r21 a j (fun q => ab q.1) han⟩
    rw [e21]; show qJ S17 a j = _; rw [e]; exact wCN_J han⟩
  have rc : qR S21 c 0 = qR S c 0 := r21 c 0 (fun q => hbc q.1.symm) hcn
  have oc : qO S21 c 0 = qO S c 0 := by unfold qO; rw [rc]
  have kcd : qT S (qO S c 0) = 101 := w.ref hc.1 kc
  have hcd := w.ne hT kcd (by decide)
  have nc : qN S21 (qO S c 0) = qN S (qO S c 0) := (g.1.1 _ (by rw [kcd]; decide)).2
  refine sp_pa58 (cap := cap) hbc ⟨by rw [q21]; exact o21, ⟨by rw [iz b 1 hbn]; exact h2.1, by rw [q21, n21, iz b 1 hbn]; omega⟩, by rw [q21, n21]; exact hx.1, by rw [q21, n21]; exact hx.2.2⟩ ⟨by rw [oc, rc]; exact hc.1, by rw [iz c 1 hcn]; exact hc.2.1, by rw [oc, nc, iz c 1 hcn]; exact hc.2.2⟩ (by rw [q21, n21, iz b 1 hbn, iz c 1 hcn]; omega) (fun u hu => hQ u ?_)
  obtain ⟨u1, u2, u3, u4, u5⟩ := hu
  rw [q21, n21] at u4 u5
  exact ⟨u1, by rw [u2, iz b 1 hbn, iz c 1 hcn], g.tr u3, by omega, by omega⟩
theorem sp_pa8 {S : MS} {b c cap : Nat} {Q : MS → Prop} (hbc : b ≠ c) (h : ByI S b cap) (hcap : cap ∈ p2L) (hc : qR S c 0 = some (qO S c 0) ∧ 0 ≤ (qI S c 1).toInt ∧ (qI S c 1).toInt ≤ qN S (qO S c 0)) (hs : (qI S b 1).toInt + (qI S c 1).toInt ≤ cap) (hR : RmB b cap S) (hQ : ∀ u : MS, ByP b (qI S c 1).toInt cap S u → Q u) : ∀ (n : Nat) (x y : Int32), x.toInt.toNat ∈ p2L → qN S (qO S b 0) ≤ x.toInt.toNat → x.toInt.toNat ≤ cap → 0 ≤ y.toInt → (31 - y.toInt < n) → (2 : Int) ^ (y.toInt.toNat) * 64 ≤ x.toInt → w_X0_putAll_L8 Q n S b c x y := by
  have hlc := p2_le _ hcap
  have hl := p2_le _ h.2.2.1
  have es : ((qI S b 1) + (qI S c 1)).toInt = (qI S b 1).toInt + (qI S c 1).toInt := t_add (by have := h.2.1; have := hc.2; omega)
  intro n
  induction n with
  | zero =>
    intro x y hx h1 h2 h3 h4 h5
    exfalso
    have hx2 := p2_le _ hx
    have : (2 : Int) ^ (y.toInt.toNat) * 64 ≥ 2 ^ 31 * 64 := Int.mul_le_mul_of_nonneg_right (by
      have e : (31 : Nat) ≤ y.toInt.toNat := by omega
      exact_mod_cast Nat.pow_le_pow_right (by decide) e) (by decide)
    have e2 : (2 : Int) ^ 31 * 64 = 137438953472 := by decide
    omega
  | succ n ih =>
    intro x y hx h1 h2 h3 h4 h5
    have hx2 := p2_le _ hx
    unfold w_X0_putAll_L8
    intro w kb kc
    rw [es]
    refine ⟨fun q => sp_pa37 hbc h hc ⟨hx, h1, h2⟩ q hR hQ, fun q => ⟨fun q2 => ?_, fun q2 a28 e28 a29 e29 => ?_⟩⟩
    · exfalso
      have : (2 : Int) ^ (y.toInt.toNat) * 64 ≥ 2 ^ 31 * 64 := Int.mul_le_mul_of_nonneg_right (by
        have e : (31 : Nat) ≤ y.toInt.toNat := by omega
        exact_mod_cast Nat.pow_le_pow_right (by decide) e) (by decide)
      have e2 : (2 : Int) ^ 31 * 64 = 137438953472 := by decide
      omega
    · have hd := p2_dbl _ hx _ hcap (by omega)
      have m28 : a28.toInt = 2 * x.toInt := by rw [e28, t_mul (by rw [li_2]; omega), li_2]; omega
      have m29 : a29.toInt = y.toInt + 1 := by rw [e29, t_add (by rw [lo_1]; omega), lo_1]
      have en : a28.toInt.toNat = 2 * x.toInt.toNat := by omega
      refine ih a28 a29 (by rw [en]; exact hd.2) (by rw [en]; omega) (by rw [en]; exact hd.1) (by omega) (by omega) ?_
      have ey : a29.toInt.toNat = y.toInt.toNat + 1 := by omega
      rw [ey, m28, Int.pow_succ]
      have := h5
      generalize (2 : Int) ^ y.toInt.toNat = P at this ⊢
      omega
theorem sp_putAll {S : MS} {b c cap : Nat} {Q : MS → Prop} (hbc : b ≠ c) (h : ByI S b cap) (hcap : cap ∈ p2L) (hc : qR S c 0 = some (qO S c 0) ∧ 0 ≤ (qI S c 1).toInt ∧ (qI S c 1).toInt ≤ qN S (qO S c 0)) (hs : (qI S b 1).toInt + (qI S c 1).toInt ≤ cap) (hR : RmB b cap S) (hQ : ∀ u : MS, ByP b (qI S c 1).toInt cap S u → Q u) : wX0_putAll S b c Q := by
  have hl := p2_le _ h.2.2.1
  have eL := toI_nat (n := qN S (qO S b 0)) (by omega)
  unfold wX0_putAll
  refine ⟨h.1, fun a3 e3 => ⟨32, ?_⟩⟩
  have e3' : a3.toInt.toNat = qN S (qO S b 0) := by rw [e3, eL]; rfl
  refine sp_pa8 hbc h hcap hc hs hR hQ 32 a3 0 (by rw [e3']; exact h.2.2.1) (by rw [e3']; exact Nat.le_refl _) (by rw [e3']; exact h.2.2.2) (by decide) (by rw [li_0]; decide) ?_
  have e0 : (2 : Int) ^ ((0 : Int32).toInt.toNat) * 64 = 64 := by decide
  rw [e0]
  omega
