/-! Smith: counters are put in -/
def PX (fS : Nat → Int32) (aS : Nat → Int64) (tS : Nat → Int32) (cS mS i : Int) : RP := fun fo fa _ c _ => RW fo fa tS c mS ∧ ∀ j : Nat, (j : Int) < c → swO (fo j) → ∀ q : Nat, i ≤ (q : Int) → (q : Int) < cS → swO (fS q) → rE fo fa tS j ≤ rT aS q
def PT (fS : Nat → Int32) (aS : Nat → Int64) (tS : Nat → Int32) (cS mS i k : Int) : RP := fun fo fa ft c t => PX fS aS tS cS mS i fo fa ft c t ∧ t = k ∧ ∀ j : Nat, (j : Int) < k → ft j = tS j
section PXS
variable {fS : Nat → Int32} {aS : Nat → Int64} {tS : Nat → Int32} {cS mS i : Int} {fo : Nat → Int32} {fa : Nat → Int64} {ft : Nat → Int32} {c t : Int} {o : Int32} {a : Int64}
theorem px_0 (hc : c = 0) : PX fS aS tS cS mS i fo fa ft c t := by
  subst hc
  exact ⟨RW.nil, fun j hj => by omega⟩
theorem px_le {i2 : Int} (h : PX fS aS tS cS mS i fo fa ft c t) (hi : i ≤ i2) : PX fS aS tS cS mS i2 fo fa ft c t := ⟨h.1, fun j hj hs q h1 h2 h3 => h.2 j hj hs q (by omega) h2 h3⟩
theorem px_no (h : adO (PX fS aS tS cS mS i) o a fo fa ft c t) (hn : o.toInt ≠ 170 ∧ o.toInt ≠ 171) : PX fS aS tS cS mS i fo fa ft c t := by
  rcases h with h | ⟨fo0, fa0, c0, ⟨w, v⟩, h0, hc, rfl, rfl⟩
  · exact h
  · have hk : ((c0.toNatClampNeg : Nat) : Int) = c0.toInt := by rw [cN]; omega
    have w1 : RW (upd fo0 c0.toNatClampNeg o) (vp_updL fa0 c0.toNatClampNeg a) tS c0.toInt mS := w.set (k := c0.toNatClampNeg) (fun _ h => upd_ne h) (fun _ h => updL_ne h) (by rw [upd_eq]; exact swO_no hn)
    refine ⟨w1.add1 hk hc (by rw [upd_eq]; exact swO_no hn), fun j hj hs q h1 h2 h3 => ?_⟩
    have hj2 : j ≠ c0.toNatClampNeg := by
      intro e
      rw [e, upd_eq] at hs
      exact swO_no hn hs
    rw [upd_ne hj2] at hs
    have e1 : rE (upd fo0 c0.toNatClampNeg o) (vp_updL fa0 c0.toNatClampNeg a) tS j = rE fo0 fa0 tS j := by
      unfold rE rM rT
      rw [upd_ne hj2, updL_ne hj2]
    rw [e1]
    exact v j (by omega) hs q h1 h2 h3
theorem px_src {i2 : Int} (wS : RW fS aS tS cS mS) (h : adO (PX fS aS tS cS mS i) o a fo fa ft c t) (hi : 0 ≤ i ∧ i < cS) (h2 : i2 = i + 1) (ho : fS i.toNat = o) (ha : aS i.toNat = a) : PX fS aS tS cS mS i2 fo fa ft c t := by
  rcases h with h | ⟨fo0, fa0, c0, ⟨w, v⟩, h0, hc, rfl, rfl⟩
  · exact px_le h (by omega)
  · have hk : ((c0.toNatClampNeg : Nat) : Int) = c0.toInt := by rw [cN]; omega
    have key : ∀ j : Nat, (j : Int) < c → swO (upd fo0 c0.toNatClampNeg o j) → (j = c0.toNatClampNeg ∧ swO o ∧ rT (vp_updL fa0 c0.toNatClampNeg a) j = rT aS i.toNat ∧ rM (vp_updL fa0 c0.toNatClampNeg a) tS j = rM aS tS i.toNat ∧ rE (upd fo0 c0.toNatClampNeg o) (vp_updL fa0 c0.toNatClampNeg a) tS j = rE fS aS tS i.toNat) ∨ ((j : Int) < c0.toInt ∧ swO (fo0 j) ∧ rT (vp_updL fa0 c0.toNatClampNeg a) j = rT fa0 j ∧ rM (vp_updL fa0 c0.toNatClampNeg a) tS j = rM fa0 tS j ∧ rE (upd fo0 c0.toNatClampNeg o) (vp_updL fa0 c0.toNatClampNeg a) tS j = rE fo0 fa0 tS j) := fun j hj hs => by
      by_cases e : j = c0.toNatClampNeg
      · subst e
        rw [upd_eq] at hs
        refine Or.inl ⟨rfl, hs, ?_, ?_, ?_⟩
        · unfold rT; rw [upL_eq, ha]
        · unfold rM rT; rw [upL_eq, ha]
        · unfold rE rM rT; rw [upL_eq, upd_eq, ha, ho]
      · rw [upd_ne e] at hs
        refine Or.inr ⟨by omega, hs, ?_, ?_, ?_⟩
        · unfold rT; rw [updL_ne e]
        · unfold rM rT; rw [updL_ne e]
        · unfold rE rM rT; rw [updL_ne e, upd_ne e]
    refine ⟨⟨fun j hj hs => ?_, fun j k hjk hkc hs hs2 => ?_⟩, fun j hj hs q h1 hq h3 => ?_⟩
    · rcases key j hj hs with ⟨-, s0, a1, a2, a3⟩ | ⟨l, s0, a1, a2, a3⟩
      · rw [a1, a2, a3]
        exact wS.1 i.toNat (by omega) (by rw [ho]; exact s0)
      · rw [a1, a2, a3]
        exact w.1 j l s0
    · rcases key j (by omega) hs with ⟨e, -⟩ | ⟨l, s0, a1, a2, a3⟩
      · omega
      · rw [a3]
        rcases key k hkc hs2 with ⟨e, t0, b1, b2, b3⟩ | ⟨l2, t0, b1, b2, b3⟩
        · rw [b1]
          exact v j l s0 i.toNat (by omega) (by omega) (by rw [ho]; exact t0)
        · rw [b1]
          exact w.2 j k hjk l2 s0 t0
    · rcases key j hj hs with ⟨-, s0, a1, a2, a3⟩ | ⟨l, s0, a1, a2, a3⟩
      · rw [a3]
        exact wS.2 i.toNat q (by omega) hq (by rw [ho]; exact s0) h3
      · rw [a3]
        exact v j l s0 q (by omega) hq h3
theorem pt_at {k k2 : Int} {x : Int32} (h : atO (PT fS aS tS cS mS i k) x fo fa ft c t) (ht : t = k + 1) (h2 : k2 = k + 1) (hk : 0 ≤ k) (hv : tS k.toNat = x) : PT fS aS tS cS mS i k2 fo fa ft c t := by
  rcases h with h | ⟨ft0, t0, ⟨h3, h4, h5⟩, h6, h7, rfl⟩
  · have := h.2.1
    omega
  · refine ⟨h3, by omega, fun j hj => ?_⟩
    have e : t0.toNatClampNeg = k.toNat := by rw [cN, h4]
    rw [e]
    by_cases u : j = k.toNat
    · rw [u, upd_eq, hv]
    · rw [upd_ne u]
      exact h5 j (by omega)
theorem pt_rw {k : Int} (h : PT fS aS tS cS mS i k fo fa ft c t) (hk : k = mS) : RW fo fa ft c t := by
  obtain ⟨⟨w, -⟩, h3, h4⟩ := h
  exact w.tab (by omega) (fun p hp => h4 p (by omega))
end PXS
