/-! Bytes -/
def p2L : List Nat := [64, 128, 256, 512, 1024, 2048, 4096, 8192, 16384, 32768, 65536, 131072]
theorem p2_dbl : ∀ l ∈ p2L, ∀ c ∈ p2L, l < c → 2 * l ≤ c ∧ 2 * l ∈ p2L := by decide
theorem p2_le : ∀ l ∈ p2L, 64 ≤ l ∧ l ≤ 131072 := by decide
theorem toI_nat {n : Nat} (h : n < 2147483648) : (Int32.ofNat n).toInt = n := nI_toInt h
/-- all but the rows of bytes and the object b -/
def fb (b : Nat) (S u : MS) : Prop := shx S u ∧ ∀ a j : Nat, qT S a ≠ 0 → qT S a ≠ 101 → a ≠ b → qI u a j = qI S a j ∧ qJ u a j = qJ S a j ∧ qR u a j = qR S a j
theorem fb.rf {b : Nat} {S : MS} : fb b S S := ⟨shx.rf, fun _ _ _ _ _ => ⟨rfl, rfl, rfl⟩⟩
theorem fb.tr {b : Nat} {S u v : MS} (h : fb b S u) (k : fb b u v) : fb b S v := ⟨h.1.tr k.1, fun a j a0 a1 ab => by
  have e := (h.1.1 a a0).1
  obtain ⟨p1, p2, p3⟩ := h.2 a j a0 a1 ab
  obtain ⟨q1, q2, q3⟩ := k.2 a j (by rw [e]; exact a0) (by rw [e]; exact a1) ab
  exact ⟨q1.trans p1, q2.trans p2, q3.trans p3⟩⟩
def ByI (S : MS) (b cap : Nat) : Prop := qR S b 0 = some (qO S b 0) ∧ (0 ≤ (qI S b 1).toInt ∧ (qI S b 1).toInt ≤ qN S (qO S b 0)) ∧ qN S (qO S b 0) ∈ p2L ∧ qN S (qO S b 0) ≤ cap
/-- what was made for the row of bytes: the book -/
def bkB (b : Nat) (S u : MS) : Prop := 64 * qn u + qN S (qO S b 0) ≤ 64 * qn S + qN u (qO u b 0) ∧ qu u + 2 * qN S (qO S b 0) ≤ qu S + 2 * qN u (qO u b 0)
def ByP (b : Nat) (k : Int) (cap : Nat) (S u : MS) : Prop := ByI u b cap ∧ (qI u b 1).toInt = (qI S b 1).toInt + k ∧ fb b S u ∧ bkB b S u
theorem ByP.tr {b cap : Nat} {k l : Int} {S u v : MS} (h : ByP b k cap S u) (h' : ByP b l cap u v) : ByP b (k + l) cap S v := by
  obtain ⟨h1, h2, h3, h4, h5⟩ := h
  obtain ⟨k1, k2, k3, k4, k5⟩ := h'
  exact ⟨k1, by omega, h3.tr k3, by omega, by omega⟩
theorem sp_copyOfB {S : MS} {kd p : Nat} {x : Int32} {Q : Nat → MS → Prop} (hL : qN S p < 2147483648) (hp : p ≠ qn S) (hx : 0 ≤ x.toInt) (hr : qn S + 1 ≤ KCC ∧ qu S + x.toInt.toNat ≤ KSC) (hQ : ∀ (f : Nat → Int32) (u : MS), u = wC (wN S kd x.toInt.toNat x.toInt.toNat) (qn S) f → wfC u → Q (qn S) u) : wJ7_copyOf_9075b S kd p x Q := by
  have eL := toI_nat hL
  unfold wJ7_copyOf_9075b
  refine ⟨fun c => ?_, fun c => ?_⟩
  · rw [eL] at c
    have en : qN S p = x.toInt.toNat := by omega
    refine ⟨⟨hr.1, by rw [en]; exact hr.2⟩, fun S13 e w => ?_⟩
    refine hQ (qI S p) S13 ?_ w
    rw [e]
    unfold wKC
    rw [en]
  · refine ⟨⟨hx, hr⟩, fun S5 e5 w5 => ?_⟩
    have e1 : qN S5 p = qN S p := by rw [e5]; exact if_neg hp
    have e2 : qN S5 (qn S) = x.toInt.toNat := by rw [e5]; exact if_pos rfl
    have z : (0 : Int32).toNatClampNeg = 0 := by decide
    rw [e1, e2]
    have hm : ∃ y : Int32, y = (if x < (Int32.ofNat (qN S p)) then x else (Int32.ofNat (qN S p))) ∧ 0 ≤ y.toInt ∧ y.toInt ≤ qN S p ∧ y.toInt ≤ x.toInt := by
      by_cases cc : x < (Int32.ofNat (qN S p))
      · have c' := n_lt.mp cc
        rw [eL] at c'
        exact ⟨x, by rw [if_pos cc], hx, by omega, by omega⟩
      · have c' : ¬ x.toInt < (Int32.ofNat (qN S p)).toInt := fun q => cc (n_lt.mpr q)
        rw [eL] at c'
        exact ⟨Int32.ofNat (qN S p), by rw [if_neg cc], by rw [eL]; omega, by rw [eL]; omega, by rw [eL]; omega⟩
    obtain ⟨y, ey, y0, y1, y2⟩ := hm
    rw [← ey]
    have yn : y.toNatClampNeg = y.toInt.toNat := rfl
    refine ⟨⟨by decide, by decide, fun q => ?_, by rw [z, yn]; omega, by rw [z, yn]; omega⟩, fun S9 e9 k9 w9 => ?_⟩
    · have := n_lt.mp q
      rw [li_0] at this
      omega
    · rw [e5] at e9
      exact hQ _ S9 e9 w9
theorem wCN_R {S : MS} {t n k a j : Nat} {f : Nat → Int32} : qR (wC (wN S t n k) (qn S) f) a j = if a = qn S then none else qR S a j := by
  show (if a = qn S then fun _ => none else qR S a) j = _
  split <;> rfl
theorem wCN_I {S : MS} {t n k a j : Nat} {f : Nat → Int32} (h : a ≠ qn S) : qI (wC (wN S t n k) (qn S) f) a j = qI S a j := by
  show (if a = qn S then f else (if a = qn S then fun _ => 0 else qI S a)) j = _
  rw [if_neg h, if_neg h]
theorem wCN_J {S : MS} {t n k a j : Nat} {f : Nat → Int32} (h : a ≠ qn S) : qJ (wC (wN S t n k) (qn S) f) a j = qJ S a j := by
  show (if a = qn S then fun _ => 0 else qJ S a) j = _
  rw [if_neg h]
theorem wCN_T {S : MS} {t n k a : Nat} {f : Nat → Int32} (h : a ≠ qn S) : qT (wC (wN S t n k) (qn S) f) a = qT S a := if_neg h
theorem wCN_N {S : MS} {t n k a : Nat} {f : Nat → Int32} (h : a ≠ qn S) : qN (wC (wN S t n k) (qn S) f) a = qN S a := if_neg h
theorem wCN_n {S : MS} {t n k : Nat} {f : Nat → Int32} : qN (wC (wN S t n k) (qn S) f) (qn S) = n := if_pos rfl
/-- a handle of a kind is no new one -/
theorem wfC.ne {S : MS} {a t : Nat} (w : wfC S) (hn : qn S < TXB) (e : qT S a = t) (h0 : t ≠ 0) : a ≠ qn S := fun q => h0 (by rw [← e, q]; exact w.nx hn)
theorem qO_of {S : MS} {a j b : Nat} (h : qR S a j = some b) : qO S a j = b := by unfold qO; rw [h]; rfl
theorem KC_TX {n : Nat} (h : n + 1 ≤ KCC) : n < TXB := by
  have e : KCC = 300000 := rfl
  have e7 : TXB = 10000000 := rfl
  omega
theorem sp_put30 {S : MS} {b cap : Nat} {x : Int32} {Q : MS → Prop} (h : ByI S b cap) (hc : (qI S b 1).toInt < qN S (qO S b 0)) (hQ : ∀ u : MS, ByP b 1 cap S u → Q u) : w_X0_put_J30 Q S b x := by
  obtain ⟨h1, h2, h3, h4⟩ := h
  have hl := p2_le _ h3
  unfold w_X0_put_J30
  intro w k
  refine ⟨h1, ⟨h2.1, hc⟩, fun S6 e6 k6 w6 S8 e8 k8 w8 => hQ S8 ?_⟩
  have hne : b ≠ qO S b 0 := fun q => by rw [← q, k] at k6; exact absurd k6 (by decide)
  have r8 : ∀ a j, qR S8 a j = qR S a j := fun a j => by rw [e8, e6]; rfl
  have n8 : ∀ a, qN S8 a = qN S a := fun a => by rw [e8, e6]; rfl
  have o8 : qO S8 b 0 = qO S b 0 := by unfold qO; rw [r8]
  have i6 : qI S6 b 1 = qI S b 1 := by rw [e6, qI_wI, if_neg (fun q => hne q.1)]
  have i8 : (qI S8 b 1).toInt = (qI S b 1).toInt + 1 := by
    rw [e8, qI_wI, if_pos ⟨rfl, rfl⟩, i6, t_add (by rw [li_1]; omega), li_1]
  have un : qu S8 = qu S := by rw [e8, e6]; rfl
  have nn : qn S8 = qn S := by rw [e8, e6]; rfl
  refine ⟨⟨by rw [r8, o8]; exact h1, ⟨by omega, by rw [o8, n8]; omega⟩, by rw [o8, n8]; exact h3, by rw [o8, n8]; exact h4⟩, i8, ⟨⟨fun a _ => by rw [e8, e6]; exact ⟨rfl, rfl⟩, by rw [nn]; exact Nat.le_refl _⟩, fun a j a0 a1 ab => ⟨?_, by rw [e8, e6]; rfl, r8 a j⟩⟩, by rw [o8, n8, nn]; exact Nat.le_refl _, by rw [o8, n8, un]; exact Nat.le_refl _⟩
  have a6 : a ≠ qO S b 0 := fun q => a1 (by rw [q]; exact k6)
  rw [e8, qI_wI, if_neg (fun q => ab q.1), e6, qI_wI, if_neg (fun q => a6 q.1)]
/-- the room that the row of bytes may still take -/
def RmB (b cap : Nat) (S : MS) : Prop := 64 * qn S + cap + 64 ≤ 64 * KCC + qN S (qO S b 0) ∧ qu S + 2 * cap ≤ KSC + 2 * qN S (qO S b 0)
theorem RmB.mo {b cap : Nat} {S u : MS} (h : RmB b cap S) (k : bkB b S u) : RmB b cap u := ⟨by have := h.1; have := k.1; omega, by have := h.2; have := k.2; omega⟩
theorem sp_put {S : MS} {b cap : Nat} {x : Int32} {Q : MS → Prop} (w : wfC S) (hb : qT S b = 40) (h : ByI S b cap) (hcap : cap ∈ p2L) (hc : (qI S b 1).toInt < cap) (hR : RmB b cap S) (hQ : ∀ u : MS, ByP b 1 cap S u → Q u) : wX0_put S b x Q := by
  obtain ⟨h1, h2, h3, h4⟩ := id h
  have hl := p2_le _ h3
  have eL := toI_nat (n := qN S (qO S b 0)) (by omega)
  unfold wX0_put
  refine ⟨h1, fun c => sp_put30 h (by omega) hQ, fun c => ⟨h1, h1, fun kd => ?_⟩⟩
  have hlc : qN S (qO S b 0) < cap := by omega
  obtain ⟨d1, d2⟩ := p2_dbl _ h3 _ hcap hlc
  have hr : qn S + 1 ≤ KCC ∧ qu S + 2 * qN S (qO S b 0) ≤ KSC := ⟨by have := hR.1; omega, by have := hR.2; omega⟩
  have em : ((2 : Int32) * (Int32.ofNat (qN S (qO S b 0)))).toInt = 2 * qN S (qO S b 0) := by rw [t_mul (by rw [li_2, eL]; omega), li_2, eL]
  have hT := KC_TX hr.1
  have hne := w.ne hT kd (by decide)
  have hbn := w.ne hT hb (by decide)
  refine ⟨_, sp_copyOfB (by omega) hne (by omega) ⟨hr.1, by rw [em]; omega⟩ (Q := fun r u => r = qn S ∧ ∃ f, u = wC (wN S 101 (2 * qN S (qO S b 0)) (2 * qN S (qO S b 0))) (qn S) f) (fun f u e _ => ⟨rfl, f, by rw [e, em]; congr 2⟩), ?_⟩
  rintro r S17 ⟨rfl, f, e⟩ w17 s17 k17 S21 e21 k21 w21
  have r21 : ∀ a j, ¬ (a = b ∧ j = 0) → a ≠ qn S → qR S21 a j = qR S a j := fun a j q qa => by rw [e21, qR_wR, if_neg q, e, wCN_R, if_neg qa]
  have o21 : qR S21 b 0 = some (qn S) := by rw [e21, qR_wR, if_pos ⟨rfl, rfl⟩]
  have n21 : qN S21 (qn S) = 2 * qN S (qO S b 0) := by rw [e21]; show qN S17 (qn S) = _; rw [e]; exact wCN_n
  have q21 : qO S21 b 0 = qn S := qO_of o21
  have i21 : qI S21 b 1 = qI S b 1 := by rw [e21]; show qI S17 b 1 = _; rw [e]; exact wCN_I hbn
  have nn : qn S21 = qn S + 1 := by rw [e21, e]; rfl
  have un : qu S21 = qu S + 2 * qN S (qO S b 0) := by rw [e21, e]; rfl
  have g : fb b S S21 := ⟨⟨fun a a0 => by
    have han : a ≠ qn S := fun q => a0 (by rw [q]; exact w.nx hT)
    rw [e21]
    show qT S17 a = _ ∧ qN S17 a = _
    rw [e]
    exact ⟨wCN_T han, wCN_N han⟩, by omega⟩, fun a j a0 a1 ab => by
    have han : a ≠ qn S := fun q => a0 (by rw [q]; exact w.nx hT)
    refine ⟨?_, ?_, r21 a j (fun q => ab q.1) han⟩
    · rw [e21]; show qI S17 a j = _; rw [e]; exact wCN_I han
    · rw [e21]; show qJ S17 a j = _; rw [e]; exact wCN_J han⟩
  refine sp_put30 (cap := cap) ⟨by rw [q21]; exact o21, ⟨by rw [i21]; exact h2.1, by rw [q21, n21, i21]; omega⟩, by rw [q21, n21]; exact d2, by rw [q21, n21]; exact d1⟩ (by rw [q21, n21, i21]; omega) (fun u hu => hQ u ?_)
  obtain ⟨u1, u2, u3, u4, u5⟩ := hu
  rw [q21, n21] at u4 u5
  exact ⟨u1, by rw [u2, i21], g.tr u3, by omega, by omega⟩
theorem fb.T {b a t : Nat} {S u : MS} (h : fb b S u) (e : qT S a = t) (h0 : t ≠ 0) : qT u a = t := h.1.T e h0
theorem sp_put2 {S : MS} {b cap : Nat} {x : Int32} {Q : MS → Prop} (w : wfC S) (hb : qT S b = 40) (h : ByI S b cap) (hcap : cap ∈ p2L) (hc : (qI S b 1).toInt + 1 < cap) (hR : RmB b cap S) (hQ : ∀ u : MS, ByP b 2 cap S u → Q u) : wX0_put2 S b x Q := by
  unfold wX0_put2
  intro _
  refine ⟨_, sp_put w hb h hcap (by omega) hR (Q := ByP b 1 cap S) (fun u hu => hu), ?_⟩
  intro u hu wu _ ku
  refine ⟨_, sp_put wu ku hu.1 hcap (by have := hu.2.1; omega) (hR.mo hu.2.2.2) (Q := ByP b 1 cap u) (fun v hv => hv), ?_⟩
  intro v hv _ _
  exact hQ v (hu.tr hv)
theorem sp_put4 {S : MS} {b cap : Nat} {x : Int32} {Q : MS → Prop} (w : wfC S) (hb : qT S b = 40) (h : ByI S b cap) (hcap : cap ∈ p2L) (hc : (qI S b 1).toInt + 3 < cap) (hR : RmB b cap S) (hQ : ∀ u : MS, ByP b 4 cap S u → Q u) : wX0_put4 S b x Q := by
  unfold wX0_put4
  intro _
  refine ⟨_, sp_put2 w hb h hcap (by omega) hR (Q := ByP b 2 cap S) (fun u hu => hu), ?_⟩
  intro u hu wu _ ku
  refine ⟨_, sp_put2 wu ku hu.1 hcap (by have := hu.2.1; omega) (hR.mo hu.2.2.2) (Q := ByP b 2 cap u) (fun v hv => hv), ?_⟩
  intro v hv _ _
  exact hQ v (hu.tr hv)
