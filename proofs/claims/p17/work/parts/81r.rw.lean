/-! what stands in a Row: its switches have tables of their own, one behind another -/
def swO (o : Int32) : Prop := o = 170 ∨ o = 171
def rT (fa : Nat → Int64) (i : Nat) : Int := (fa i).toInt32.toInt
def rM (fa : Nat → Int64) (ft : Nat → Int32) (i : Nat) : Int := (ft (rT fa i).toNat).toInt
def rE (fo : Nat → Int32) (fa : Nat → Int64) (ft : Nat → Int32) (i : Nat) : Int := rT fa i + (if fo i = 170 then 2 + rM fa ft i else 2 * rM fa ft i + 1)
def RW (fo : Nat → Int32) (fa : Nat → Int64) (ft : Nat → Int32) (cnt tc : Int) : Prop := (∀ i : Nat, (i : Int) < cnt → swO (fo i) → 0 ≤ rT fa i ∧ 1 ≤ rM fa ft i ∧ rM fa ft i ≤ 258 ∧ rE fo fa ft i ≤ tc) ∧ ∀ i j : Nat, i < j → (j : Int) < cnt → swO (fo i) → swO (fo j) → rE fo fa ft i ≤ rT fa j
theorem rE_gt {fo : Nat → Int32} {fa : Nat → Int64} {ft : Nat → Int32} {i : Nat} (h : 1 ≤ rM fa ft i) : rT fa i + 3 ≤ rE fo fa ft i := by
  unfold rE
  split <;> omega
/-- no switch of such a row has a monstrous count -/
theorem RW.sw {fo : Nat → Int32} {fa : Nat → Int64} {ft : Nat → Int32} {cnt tc : Int} (h : RW fo fa ft cnt tc) : SW fo fa ft cnt tc := fun i hi hs t ht h0 _ => by
  have w := (h.1 i hi hs).2.1
  unfold rM rT at w
  rw [ht]
  omega
/-- an empty row -/
theorem RW.nil {fo : Nat → Int32} {fa : Nat → Int64} {ft : Nat → Int32} {tc : Int} : RW fo fa ft 0 tc := ⟨fun i hi => by omega, fun i j _ hj => by omega⟩
/-- fewer instructions -/
theorem RW.le {fo : Nat → Int32} {fa : Nat → Int64} {ft : Nat → Int32} {cnt c2 tc : Int} (h : RW fo fa ft cnt tc) (hc : c2 ≤ cnt) : RW fo fa ft c2 tc := ⟨fun i hi => h.1 i (by omega), fun i j hij hj => h.2 i j hij (by omega)⟩
/-- a longer table, alike as far as it went -/
theorem RW.tab {fo : Nat → Int32} {fa : Nat → Int64} {ft ft2 : Nat → Int32} {cnt tc t2 : Int} (h : RW fo fa ft cnt tc) (ht : tc ≤ t2) (he : ∀ p : Nat, (p : Int) < tc → ft2 p = ft p) : RW fo fa ft2 cnt t2 := by
  have key : ∀ i : Nat, (i : Int) < cnt → swO (fo i) → rM fa ft2 i = rM fa ft i := fun i hi hs => by
    obtain ⟨w1, w2, w3, w4⟩ := h.1 i hi hs
    have w5 := rE_gt (fo := fo) w2
    unfold rM
    rw [he _ (by omega)]
  have k2 : ∀ i : Nat, (i : Int) < cnt → swO (fo i) → rE fo fa ft2 i = rE fo fa ft i := fun i hi hs => by
    unfold rE
    rw [key i hi hs]
  refine ⟨fun i hi hs => ?_, fun i j hij hj hs hs2 => ?_⟩
  · rw [key i hi hs, k2 i hi hs]
    obtain ⟨w1, w2, w3, w4⟩ := h.1 i hi hs
    exact ⟨w1, w2, w3, by omega⟩
  · rw [k2 i (by omega) hs]
    exact h.2 i j hij hj hs hs2
/-- an instruction that is no switch is set -/
theorem RW.set {fo fo2 : Nat → Int32} {fa fa2 : Nat → Int64} {ft : Nat → Int32} {cnt tc : Int} {k : Nat} (h : RW fo fa ft cnt tc) (ho : ∀ i, i ≠ k → fo2 i = fo i) (ha : ∀ i, i ≠ k → fa2 i = fa i) (hk : ¬ swO (fo2 k)) : RW fo2 fa2 ft cnt tc := by
  have e : ∀ i, swO (fo2 i) → i ≠ k := fun i hs he => hk (he ▸ hs)
  have e1 : ∀ i, swO (fo2 i) → rT fa2 i = rT fa i ∧ rM fa2 ft i = rM fa ft i ∧ rE fo2 fa2 ft i = rE fo fa ft i := fun i hs => by
    have w := e i hs
    unfold rE rM rT
    rw [ha i w, ho i w]
    exact ⟨rfl, rfl, rfl⟩
  refine ⟨fun i hi hs => ?_, fun i j hij hj hs hs2 => ?_⟩
  · obtain ⟨a1, a2, a3⟩ := e1 i hs
    rw [a1, a2, a3]
    exact h.1 i hi (by rw [← ho i (e i hs)]; exact hs)
  · obtain ⟨a1, a2, a3⟩ := e1 i hs
    obtain ⟨b1, b2, b3⟩ := e1 j hs2
    rw [a3, b1]
    exact h.2 i j hij hj (by rw [← ho i (e i hs)]; exact hs) (by rw [← ho j (e j hs2)]; exact hs2)
/-- a switch more, its table behind all others -/
theorem RW.addsw {fo fo2 : Nat → Int32} {fa fa2 : Nat → Int64} {ft ft2 : Nat → Int32} {cnt tc t2 : Int} {k : Nat} (h : RW fo fa ft cnt tc) (hk : (k : Int) = cnt) (h0 : 0 ≤ tc) (ho : ∀ i, i ≠ k → fo2 i = fo i) (ha : ∀ i, i ≠ k → fa2 i = fa i) (ht : tc ≤ t2) (he : ∀ p : Nat, (p : Int) < tc → ft2 p = ft p) (hT : rT fa2 k = tc) (hm : 1 ≤ rM fa2 ft2 k ∧ rM fa2 ft2 k ≤ 258) (hE : rE fo2 fa2 ft2 k ≤ t2) : RW fo2 fa2 ft2 (cnt + 1) t2 := by
  have e1 : ∀ i : Nat, i ≠ k → (i : Int) < cnt → swO (fo2 i) → swO (fo i) ∧ rT fa2 i = rT fa i ∧ rM fa2 ft2 i = rM fa ft i ∧ rE fo2 fa2 ft2 i = rE fo fa ft i := fun i w hi hs => by
    have hs' : swO (fo i) := by rw [← ho i w]; exact hs
    obtain ⟨w1, w2, w3, w4⟩ := h.1 i hi hs'
    have w5 := rE_gt (fo := fo) w2
    have a1 : rT fa2 i = rT fa i := by unfold rT; rw [ha i w]
    have a2 : rM fa2 ft2 i = rM fa ft i := by unfold rM; rw [a1, he _ (by omega)]
    exact ⟨hs', a1, a2, by unfold rE; rw [a1, a2, ho i w]⟩
  refine ⟨fun i hi hs => ?_, fun i j hij hj hs hs2 => ?_⟩
  · by_cases w : i = k
    · subst w
      exact ⟨by omega, hm.1, hm.2, hE⟩
    · obtain ⟨a0, a1, a2, a3⟩ := e1 i w (by omega) hs
      obtain ⟨w1, w2, w3, w4⟩ := h.1 i (by omega) a0
      rw [a1, a2, a3]
      exact ⟨w1, w2, w3, by omega⟩
  · have wi : i ≠ k := by omega
    obtain ⟨a0, a1, a2, a3⟩ := e1 i wi (by omega) hs
    rw [a3]
    by_cases w : j = k
    · rw [w, hT]
      exact (h.1 i (by omega) a0).2.2.2
    · obtain ⟨b0, b1, b2, b3⟩ := e1 j w (by omega) hs2
      rw [b1]
      exact h.2 i j hij (by omega) a0 b0
/-- a target is set: inside its own table, behind the head -/
theorem RW.tgt {fo : Nat → Int32} {fa : Nat → Int64} {ft ft2 : Nat → Int32} {cnt tc : Int} {k p : Nat} (h : RW fo fa ft cnt tc) (hk : (k : Int) < cnt) (hs : swO (fo k)) (hp : rT fa k + 2 ≤ p ∧ (p : Int) < rE fo fa ft k) (he : ∀ q : Nat, q ≠ p → ft2 q = ft q) : RW fo fa ft2 cnt tc := by
  have key : ∀ i : Nat, (i : Int) < cnt → swO (fo i) → rM fa ft2 i = rM fa ft i := fun i hi hsi => by
    obtain ⟨w1, w2, w3, w4⟩ := h.1 i hi hsi
    have w5 := rE_gt (fo := fo) w2
    unfold rM
    refine congrArg Int32.toInt (he _ ?_)
    intro e
    rcases Nat.lt_trichotomy i k with w | w | w
    · have := h.2 i k w hk hsi hs
      omega
    · subst w
      omega
    · have := h.2 k i w hi hs hsi
      omega
  have k2 : ∀ i : Nat, (i : Int) < cnt → swO (fo i) → rE fo fa ft2 i = rE fo fa ft i := fun i hi hsi => by
    unfold rE
    rw [key i hi hsi]
  refine ⟨fun i hi hsi => ?_, fun i j hij hj hsi hsj => ?_⟩
  · rw [key i hi hsi, k2 i hi hsi]
    exact h.1 i hi hsi
  · rw [k2 i (by omega) hsi]
    exact h.2 i j hij hj hsi hsj
