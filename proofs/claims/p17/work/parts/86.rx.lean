/-! Row: what its writers leave -/
abbrev RP := (Nat → Int32) → (Nat → Int64) → (Nat → Int32) → Int → Int → Prop
def stA (P : RP) (i o : Int32) : RP := fun fo fa ft c t => ∃ fo0 : Nat → Int32, P fo0 fa ft c t ∧ fo = upd fo0 i.toNatClampNeg o
def stO (P : RP) (i o : Int32) (a : Int64) : RP := fun fo fa ft c t => ∃ (fo0 : Nat → Int32) (fa0 : Nat → Int64), P fo0 fa0 ft c t ∧ fo = upd fo0 i.toNatClampNeg o ∧ fa = vp_updL fa0 i.toNatClampNeg a
def adO (P : RP) (o : Int32) (a : Int64) : RP := fun fo fa ft c t => P fo fa ft c t ∨ ∃ (fo0 : Nat → Int32) (fa0 : Nat → Int64) (c0 : Int32), P fo0 fa0 ft c0.toInt t ∧ 0 ≤ c0.toInt ∧ c = c0.toInt + 1 ∧ fo = upd fo0 c0.toNatClampNeg o ∧ fa = vp_updL fa0 c0.toNatClampNeg a
def atO (P : RP) (v : Int32) : RP := fun fo fa ft c t => P fo fa ft c t ∨ ∃ (ft0 : Nat → Int32) (t0 : Int32), P fo fa ft0 c t0.toInt ∧ 0 ≤ t0.toInt ∧ t = t0.toInt + 1 ∧ ft = upd ft0 t0.toNatClampNeg v
/-- op or arg at a place -/
def OE (i o : Int32) : RP := fun fo _ _ _ _ => fo i.toNatClampNeg = o
def OL (i : Int32) (a : Int64) : RP := fun _ fa _ _ _ => fa i.toNatClampNeg = a
theorem upL_eq {f : Nat → Int64} {i : Nat} {x : Int64} : vp_updL f i x i = x := by unfold vp_updL; rw [if_pos rfl]
def jmO (o : Int32) : Prop := (153 ≤ o.toInt ∧ o.toInt ≤ 167) ∨ o.toInt = 198 ∨ o.toInt = 199
theorem jm_no {o : Int32} (h : jmO o) : ¬ swO o := by
  rintro (e | e)
  · rw [e] at h; revert h; unfold jmO; decide
  · rw [e] at h; revert h; unfold jmO; decide
/-- an instruction with targets: so many -/
def JS (i tn : Int) : RP := fun fo fa ft c t => RW fo fa ft c t ∧ 0 ≤ i ∧ i < c ∧ ((jmO (fo i.toNat) ∧ tn ≤ 1) ∨ (swO (fo i.toNat) ∧ rM fa ft i.toNat = tn))
def JT (i r : Int) : RP := fun fo fa ft c t => RW fo fa ft c t ∧ (r ≤ 0 ∨ JS i r fo fa ft c t)
def TCy (i r : Int) : RP := fun fo fa ft c t => r ≤ 0 ∨ (0 ≤ i ∧ i < c ∧ ((jmO (fo i.toNat) ∧ r ≤ 1) ∨ (swO (fo i.toNat) ∧ (rT fa i.toNat < 0 ∨ t ≤ rT fa i.toNat ∨ r = rM fa ft i.toNat))))
theorem JT_of {i r : Int} {fo : Nat → Int32} {fa : Nat → Int64} {ft : Nat → Int32} {c t : Int} (w : RW fo fa ft c t) (h : TCy i r fo fa ft c t) : JT i r fo fa ft c t := by
  refine ⟨w, ?_⟩
  rcases h with h | ⟨h1, h2, h3⟩
  · exact Or.inl h
  · refine Or.inr ⟨w, h1, h2, ?_⟩
    rcases h3 with h3 | ⟨h3, h4⟩
    · exact Or.inl h3
    · obtain ⟨w1, w2, w3, w4⟩ := w.1 i.toNat (by omega) h3
      have w5 := rE_gt (fo := fo) w2
      exact Or.inr ⟨h3, by omega⟩
def JSo (i : Int32) (tn : Int) (o : Int32) : RP := fun fo fa ft c t => JS i.toInt tn fo fa ft c t ∧ fo i.toNatClampNeg = o
theorem js_set {i o : Int32} {tn : Int} {a : Int64} {fo : Nat → Int32} {fa : Nat → Int64} {ft : Nat → Int32} {c t : Int} (hj : jmO o) (h : stO (JSo i tn o) i o a fo fa ft c t) : JS i.toInt tn fo fa ft c t := by
  obtain ⟨fo0, fa0, ⟨⟨w, h1, h2, h3⟩, h4⟩, rfl, rfl⟩ := h
  have e : i.toNatClampNeg = i.toInt.toNat := rfl
  have ht : tn ≤ 1 := by
    rcases h3 with h3 | ⟨h3, -⟩
    · exact h3.2
    · rw [← e, h4] at h3
      exact absurd h3 (jm_no hj)
  refine ⟨w.set (k := i.toNatClampNeg) (fun _ h => upd_ne h) (fun _ h => updL_ne h) (by rw [upd_eq]; exact jm_no hj), h1, h2, Or.inl ⟨?_, ht⟩⟩
  rw [← e, upd_eq]
  exact hj
/-- a switch: where its table is -/
def JSa (i : Int32) (tn : Int) (z : Int32) : RP := fun fo fa ft c t => RW fo fa ft c t ∧ 0 ≤ i.toInt ∧ i.toInt < c ∧ swO (fo i.toInt.toNat) ∧ rM fa ft i.toInt.toNat = tn ∧ rT fa i.toInt.toNat = z.toInt
theorem jsa_n {i z : Int32} {tn : Int} {fo : Nat → Int32} {fa : Nat → Int64} {ft : Nat → Int32} {c t : Int} (h : JSa i tn z fo fa ft c t) : 0 ≤ z.toInt ∧ z.toInt + 3 ≤ t := by
  obtain ⟨w, h1, h2, h3, h4, h5⟩ := h
  obtain ⟨w1, w2, w3, w4⟩ := w.1 i.toInt.toNat (by omega) h3
  have w5 := rE_gt (fo := fo) w2
  omega
theorem jsa_of {i o z : Int32} {l : Int64} {tn : Int} {fo : Nat → Int32} {fa : Nat → Int64} {ft : Nat → Int32} {c t : Int} (h : JS i.toInt tn fo fa ft c t) (ho : fo i.toNatClampNeg = o) (hn : ¬ jmO o) (hl : fa i.toNatClampNeg = l) (hz : l.toInt32 = z) : JSa i tn z fo fa ft c t := by
  obtain ⟨w, h1, h2, h3⟩ := h
  have e : i.toNatClampNeg = i.toInt.toNat := rfl
  rcases h3 with ⟨h3, -⟩ | ⟨h3, h4⟩
  · rw [← e, ho] at h3
    exact absurd h3 hn
  · refine ⟨w, h1, h2, h3, h4, ?_⟩
    unfold rT
    rw [← e, hl, hz]
theorem js_tgt {i z p x : Int32} {tn : Int} {fo : Nat → Int32} {fa : Nat → Int64} {ft : Nat → Int32} {c t j : Int} (h : JSa i tn z fo fa ft c t) (hj : 0 ≤ j ∧ j < tn) (hp : p.toInt = z.toInt + 2 + j) : JS i.toInt tn fo fa (upd ft p.toNatClampNeg x) c t := by
  obtain ⟨w, h1, h2, h3, h4, h5⟩ := h
  have e : p.toNatClampNeg = p.toInt.toNat := rfl
  obtain ⟨w1, w2, w3, w4⟩ := w.1 i.toInt.toNat (by omega) h3
  have hE : rT fa i.toInt.toNat + rM fa ft i.toInt.toNat + 2 ≤ rE fo fa ft i.toInt.toNat := by
    unfold rE
    split <;> omega
  have hR := w.tgt (k := i.toInt.toNat) (p := p.toNatClampNeg) (ft2 := upd ft p.toNatClampNeg x) (by omega) h3 (by rw [e]; omega) (fun _ hq => upd_ne hq)
  refine ⟨hR, h1, h2, Or.inr ⟨h3, ?_⟩⟩
  rw [← h4]
  unfold rM
  rw [upd_ne (by rw [e]; omega)]
/-- n instructions taken away, as far as place k: op as far as k1, arg as far as k2 -/
def SH (i n k1 k2 : Int) : RP := fun fo fa ft c t => ∃ (fo0 : Nat → Int32) (fa0 : Nat → Int64), RW fo0 fa0 ft c t ∧ (∀ j : Nat, fo j = if i ≤ (j : Int) ∧ (j : Int) < k1 then fo0 (j + n.toNat) else fo0 j) ∧ ∀ j : Nat, fa j = if i ≤ (j : Int) ∧ (j : Int) < k2 then fa0 (j + n.toNat) else fa0 j
section SHS
variable {i n k : Int} {fo : Nat → Int32} {fa : Nat → Int64} {ft : Nat → Int32} {c t : Int}
theorem sh_0 (w : RW fo fa ft c t) : SH i n i i fo fa ft c t := ⟨fo, fa, w, fun j => by rw [if_neg (by omega)], fun j => by rw [if_neg (by omega)]⟩
theorem sh_o {p z v : Int32} (h : SH i n k k fo fa ft c t ∧ fo z.toNatClampNeg = v) (hp : p.toInt = k) (h0 : 0 ≤ i ∧ i ≤ k) (hn : 0 ≤ n) (hz : z.toInt = k + n) : SH i n (k + 1) k (upd fo p.toNatClampNeg v) fa ft c t := by
  obtain ⟨⟨fo0, fa0, w, h1, h2⟩, hv⟩ := h
  refine ⟨fo0, fa0, w, fun j => ?_, h2⟩
  have e : p.toNatClampNeg = p.toInt.toNat := rfl
  by_cases u : j = p.toNatClampNeg
  · rw [u, upd_eq, ← hv, h1, if_neg (by rw [cN]; omega), if_pos (by rw [cN]; omega)]
    congr 1
    rw [cN, cN]
    omega
  · rw [upd_ne u, h1]
    rw [e] at u
    by_cases u2 : i ≤ (j : Int) ∧ (j : Int) < k
    · rw [if_pos u2, if_pos (by omega)]
    · rw [if_neg u2, if_neg (by omega)]
theorem sh_a {p z : Int32} {l : Int64} (h : SH i n (k + 1) k fo fa ft c t ∧ fa z.toNatClampNeg = l) (hp : p.toInt = k) (h0 : 0 ≤ i ∧ i ≤ k) (hn : 0 ≤ n) (hz : z.toInt = k + n) : SH i n (k + 1) (k + 1) fo (vp_updL fa p.toNatClampNeg l) ft c t := by
  obtain ⟨⟨fo0, fa0, w, h1, h2⟩, hv⟩ := h
  refine ⟨fo0, fa0, w, h1, fun j => ?_⟩
  have e : p.toNatClampNeg = p.toInt.toNat := rfl
  by_cases u : j = p.toNatClampNeg
  · rw [u, upL_eq, ← hv, h2, if_neg (by rw [cN]; omega), if_pos (by rw [cN]; omega)]
    congr 1
    rw [cN, cN]
    omega
  · rw [updL_ne u, h2]
    rw [e] at u
    by_cases u2 : i ≤ (j : Int) ∧ (j : Int) < k
    · rw [if_pos u2, if_pos (by omega)]
    · rw [if_neg u2, if_neg (by omega)]
theorem sh_fin {c2 : Int} (h : SH i n k k fo fa ft c t) (h0 : 0 ≤ i ∧ 0 ≤ n) (hk : c ≤ k + n) (hc : c2 = c - n) : RW fo fa ft c2 t := by
  obtain ⟨fo0, fa0, w, h1, h2⟩ := h
  have key : ∀ j : Nat, (j : Int) < c2 → ∃ j' : Nat, (j' : Int) < c ∧ j ≤ j' ∧ (j' : Int) = (if i ≤ (j : Int) then j + n else j) ∧ fo j = fo0 j' ∧ rT fa j = rT fa0 j' ∧ rM fa ft j = rM fa0 ft j' ∧ rE fo fa ft j = rE fo0 fa0 ft j' := fun j hj => by
    by_cases u : i ≤ (j : Int)
    · have e1 : fo j = fo0 (j + n.toNat) := by rw [h1, if_pos (by omega)]
      have e2 : fa j = fa0 (j + n.toNat) := by rw [h2, if_pos (by omega)]
      refine ⟨j + n.toNat, by omega, by omega, by rw [if_pos u]; omega, e1, ?_, ?_, ?_⟩
      · unfold rT; rw [e2]
      · unfold rM rT; rw [e2]
      · unfold rE rM rT; rw [e1, e2]
    · have e1 : fo j = fo0 j := by rw [h1, if_neg (by omega)]
      have e2 : fa j = fa0 j := by rw [h2, if_neg (by omega)]
      refine ⟨j, by omega, by omega, by rw [if_neg u], e1, ?_, ?_, ?_⟩
      · unfold rT; rw [e2]
      · unfold rM rT; rw [e2]
      · unfold rE rM rT; rw [e1, e2]
  refine ⟨fun j hj hs => ?_, fun j j2 hjj hj2 hs hs2 => ?_⟩
  · obtain ⟨j', a1, -, -, a3, a4, a5, a6⟩ := key j hj
    rw [a4, a5, a6]
    exact w.1 j' a1 (by rw [← a3]; exact hs)
  · obtain ⟨p, a1, -, a2, a3, a4, a5, a6⟩ := key j (by omega)
    obtain ⟨q, b1, -, b2, b3, b4, b5, b6⟩ := key j2 hj2
    rw [a6, b4]
    refine w.2 p q ?_ b1 (by rw [← a3]; exact hs) (by rw [← b3]; exact hs2)
    by_cases u : i ≤ (j : Int)
    · rw [if_pos u] at a2
      rw [if_pos (by omega)] at b2
      omega
    · rw [if_neg u] at a2
      by_cases u2 : i ≤ (j2 : Int)
      · rw [if_pos u2] at b2
        omega
      · rw [if_neg u2] at b2
        omega
end SHS
/-- a row that is filled like another: its ops as far as i -/
def CP (fS : Nat → Int32) (aS : Nat → Int64) (i : Int) : RP := fun fo fa _ c _ => c = i ∧ ∀ j : Nat, (j : Int) < i → fo j = fS j ∧ fa j = aS j
def CT (fS : Nat → Int32) (aS : Nat → Int64) (tS : Nat → Int32) (i k : Int) : RP := fun fo fa ft c t => CP fS aS i fo fa ft c t ∧ t = k ∧ ∀ j : Nat, (j : Int) < k → ft j = tS j
def RQ (fS : Nat → Int32) (aS : Nat → Int64) (tS : Nat → Int32) (cS mS : Int) : RP := fun fo fa ft c t => fo = fS ∧ fa = aS ∧ ft = tS ∧ c = cS ∧ t = mS
theorem cp_ad {fS : Nat → Int32} {aS : Nat → Int64} {i i2 : Int} {o : Int32} {a : Int64} {fo : Nat → Int32} {fa : Nat → Int64} {ft : Nat → Int32} {c t : Int} (h : adO (CP fS aS i) o a fo fa ft c t) (hc : c = i + 1) (h2 : i2 = i + 1) (hi : 0 ≤ i) (ho : fS i.toNat = o) (ha : aS i.toNat = a) : CP fS aS i2 fo fa ft c t := by
  rcases h with h | ⟨fo0, fa0, c0, ⟨h3, h4⟩, h5, h6, rfl, rfl⟩
  · have := h.1
    omega
  · refine ⟨by omega, fun j hj => ?_⟩
    have e : c0.toNatClampNeg = i.toNat := by rw [cN, h3]
    rw [e]
    by_cases u : j = i.toNat
    · rw [u, upd_eq, upL_eq]
      exact ⟨ho.symm, ha.symm⟩
    · rw [upd_ne u, updL_ne u]
      exact h4 j (by omega)
theorem ct_at {fS : Nat → Int32} {aS : Nat → Int64} {tS : Nat → Int32} {i k k2 : Int} {v : Int32} {fo : Nat → Int32} {fa : Nat → Int64} {ft : Nat → Int32} {c t : Int} (h : atO (CT fS aS tS i k) v fo fa ft c t) (ht : t = k + 1) (h2 : k2 = k + 1) (hk : 0 ≤ k) (hv : tS k.toNat = v) : CT fS aS tS i k2 fo fa ft c t := by
  rcases h with h | ⟨ft0, t0, ⟨h3, h4, h5⟩, h6, h7, rfl⟩
  · have := h.2.1
    omega
  · refine ⟨h3, by omega, fun j hj => ?_⟩
    have e : t0.toNatClampNeg = k.toNat := by rw [cN, h4]
    rw [e]
    by_cases u : j = k.toNat
    · rw [u, upd_eq, hv]
    · rw [upd_ne u]
      exact h5 j (by omega)
theorem ct_rw {fS : Nat → Int32} {aS : Nat → Int64} {tS : Nat → Int32} {i k cS mS : Int} {fo : Nat → Int32} {fa : Nat → Int64} {ft : Nat → Int32} {c t : Int} (h : CT fS aS tS i k fo fa ft c t) (w : RW fS aS tS cS mS) (hi : i ≤ cS) (hk : k = mS) : RW fo fa ft c t := by
  obtain ⟨⟨h1, h2⟩, h3, h4⟩ := h
  have w' := w.le hi
  have key : ∀ j : Nat, (j : Int) < c → swO (fo j) → swO (fS j) ∧ rT fa j = rT aS j ∧ rM fa ft j = rM aS tS j ∧ rE fo fa ft j = rE fS aS tS j := fun j hj hs => by
    obtain ⟨e1, e2⟩ := h2 j (by omega)
    have hs' : swO (fS j) := by rw [← e1]; exact hs
    obtain ⟨w1, w2, w3, w4⟩ := w'.1 j (by omega) hs'
    have w5 := rE_gt (fo := fS) w2
    have a1 : rT fa j = rT aS j := by unfold rT; rw [e2]
    have a2 : rM fa ft j = rM aS tS j := by unfold rM; rw [a1, h4 _ (by omega)]
    exact ⟨hs', a1, a2, by unfold rE; rw [a1, a2, e1]⟩
  refine ⟨fun j hj hs => ?_, fun j j2 hjj hj2 hs hs2 => ?_⟩
  · obtain ⟨a0, a1, a2, a3⟩ := key j hj hs
    obtain ⟨w1, w2, w3, w4⟩ := w'.1 j (by omega) a0
    rw [a1, a2, a3]
    exact ⟨w1, w2, w3, by omega⟩
  · obtain ⟨a0, a1, a2, a3⟩ := key j (by omega) hs
    obtain ⟨b0, b1, b2, b3⟩ := key j2 hj2 hs2
    rw [a3, b1]
    exact w'.2 j j2 hjj (by omega) a0 b0
/-- a Row stays when another is written -/
theorem rowC_ms {P : RP} {F C : List (Nat × Nat)} {ws ws' : va_W} {b h : Nat} (hF : gF F C (some h) ws ws') (hn : b ≠ h) (q : rowC ws b P) : rowC ws' b P := by
  obtain ⟨k, ro, ra, rt, ko, ka, kt, no, na, nt, fs, co, ca, ct, fo, fa, ft, cnt, tc, p0, p1, p2, p3, p4, p5, p6, p7, p8, p9⟩ := q
  obtain ⟨fs', q1, -, q3⟩ := hF.1 _ _ _ _ p0
  have e := q3 h rfl hn
  subst e
  exact ⟨k, ro, ra, rt, ko, ka, kt, no, na, nt, _, co, ca, ct, fo, fa, ft, cnt, tc, q1, p1, p2, p3, p4, p5, hF.2.2 _ _ _ _ 0 _ _ _ p0 (Or.inr ⟨by decide, h, rfl, hn⟩) p1 p6, hF.2.2 _ _ _ _ 1 _ _ _ p0 (Or.inr ⟨by decide, h, rfl, hn⟩) p2 p7, hF.2.2 _ _ _ _ 3 _ _ _ p0 (Or.inr ⟨by decide, h, rfl, hn⟩) p4 p8, p9⟩
section TY
variable {A : Nat → Prop} {ws : va_W} {k b ro ra rt ko ka kt no na nt : Nat} {fs : List Value} {co ca ct : ClassId} {fo : Nat → Int32} {fa : Nat → Int64} {ft : Nat → Int32} {cnt tc : Int32}
theorem tcy_j {i o r : Int32} (hk : ows ws k b 7 fs) (h0 : fs[0]? = some (.ref ro)) (h1 : fs[1]? = some (.ref ra)) (h2 : fs[2]? = some (.int cnt)) (h3 : fs[3]? = some (.ref rt)) (h4 : fs[4]? = some (.int tc)) (ho : iws ws ko ro co no fo) (ha : jws ws ka ra ca na fa) (ht : iws ws kt rt ct nt ft) (qo : opX ws b i o) (hj : jmO o) (hr : r.toInt ≤ 1) : rowC ws b (TCy i.toInt r.toInt) := by
  refine rowC_of hk h0 h1 h2 h3 h4 ho ha ht (Or.inr ?_)
  rcases qo _ _ _ _ _ _ _ _ hk h0 h2 ho with ⟨w1, w2, w3⟩ | ⟨-, w3⟩
  · exact ⟨w1, w2, Or.inl ⟨by rw [← cN, ← w3]; exact hj, hr⟩⟩
  · rw [w3] at hj
    exact absurd hj (by unfold jmO; decide)
theorem tcy_s {i r : Int32} (hk : ows ws k b 7 fs) (h0 : fs[0]? = some (.ref ro)) (h1 : fs[1]? = some (.ref ra)) (h2 : fs[2]? = some (.int cnt)) (h3 : fs[3]? = some (.ref rt)) (h4 : fs[4]? = some (.int tc)) (ho : iws ws ko ro co no fo) (ha : jws ws ka ra ca na fa) (ht : iws ws kt rt ct nt ft) {o z : Int32} {a : Int64} (hD : va_D A ws) (qo : opX ws b i o) (hs : o.toInt = 170 ∨ o.toInt = 171) (qa : agX ws b i a) (hz : a.toInt32 = z) (qt : tbX ws b z r) : rowC ws b (TCy i.toInt r.toInt) := by
  refine rowC_of hk h0 h1 h2 h3 h4 ho ha ht ?_
  rcases qo _ _ _ _ _ _ _ _ hk h0 h2 ho with ⟨w1, w2, w3⟩ | ⟨-, w3⟩
  · refine Or.inr ⟨w1, w2, Or.inr ⟨?_, ?_⟩⟩
    · rw [← cN, ← w3]
      rcases hs with hs | hs
      · exact Or.inl (Int32.toInt_inj.mp hs)
      · exact Or.inr (Int32.toInt_inj.mp hs)
    · have e1 : rT fa i.toInt.toNat = z.toInt := by
        rcases qa _ _ _ _ _ _ _ _ hk h1 h2 ha with ⟨-, -, w4⟩ | ⟨w4, -⟩
        · unfold rT
          rw [← cN, ← w4, hz]
        · omega
      rw [e1]
      rcases qt _ _ _ _ _ _ _ _ hk h3 h4 ht with ⟨-, -, w7⟩ | ⟨w7 | w7, -⟩
      · refine Or.inr (Or.inr ?_)
        unfold rM
        rw [e1, w7, cN]
      · exact Or.inl w7
      · exact Or.inr (Or.inl w7)
  · rw [w3] at hs
    exact absurd hs (by decide)
theorem oe_of {i o : Int32} (hk : ows ws k b 7 fs) (h0 : fs[0]? = some (.ref ro)) (h1 : fs[1]? = some (.ref ra)) (h2 : fs[2]? = some (.int cnt)) (h3 : fs[3]? = some (.ref rt)) (h4 : fs[4]? = some (.int tc)) (ho : iws ws ko ro co no fo) (ha : jws ws ka ra ca na fa) (ht : iws ws kt rt ct nt ft) (qo : opX ws b i o) (hi : 0 ≤ i.toInt ∧ i.toInt < cnt.toInt) : rowC ws b (OE i o) := by
  refine rowC_of hk h0 h1 h2 h3 h4 ho ha ht ?_
  rcases qo _ _ _ _ _ _ _ _ hk h0 h2 ho with ⟨-, -, w3⟩ | ⟨w3, -⟩
  · exact w3.symm
  · omega
theorem ol_of {i : Int32} {a : Int64} (hk : ows ws k b 7 fs) (h0 : fs[0]? = some (.ref ro)) (h1 : fs[1]? = some (.ref ra)) (h2 : fs[2]? = some (.int cnt)) (h3 : fs[3]? = some (.ref rt)) (h4 : fs[4]? = some (.int tc)) (ho : iws ws ko ro co no fo) (ha : jws ws ka ra ca na fa) (ht : iws ws kt rt ct nt ft) (qa : agX ws b i a) (hi : 0 ≤ i.toInt ∧ i.toInt < cnt.toInt) : rowC ws b (OL i a) := by
  refine rowC_of hk h0 h1 h2 h3 h4 ho ha ht ?_
  rcases qa _ _ _ _ _ _ _ _ hk h1 h2 ha with ⟨-, -, w3⟩ | ⟨w3, -⟩
  · exact w3.symm
  · omega
end TY
theorem js_n {i tn : Int} {fo : Nat → Int32} {fa : Nat → Int64} {ft : Nat → Int32} {c t : Int} (h : JS i tn fo fa ft c t) : 0 ≤ i ∧ i < c := ⟨h.2.1, h.2.2.1⟩
def atS (P : RP) (z v : Int32) : RP := fun fo fa ft c t => ∃ ft0 : Nat → Int32, P fo fa ft0 c t ∧ ft = upd ft0 z.toNatClampNeg v
theorem opX_eq {ws : va_W} {k b ro ko n : Nat} {fs : List Value} {c : ClassId} {fo : Nat → Int32} {cnt i r r' : Int32} (hk : ows ws k b 7 fs) (h0 : fs[0]? = some (.ref ro)) (h2 : fs[2]? = some (.int cnt)) (ho : iws ws ko ro c n fo) (q : opX ws b i r) (q' : opX ws b i r') : r = r' := by
  rcases q _ _ _ _ _ _ _ _ hk h0 h2 ho with ⟨a1, a2, a3⟩ | ⟨a1, a2⟩
  · rcases q' _ _ _ _ _ _ _ _ hk h0 h2 ho with ⟨b1, b2, b3⟩ | ⟨b1, b2⟩
    · rw [a3, b3]
    · omega
  · rcases q' _ _ _ _ _ _ _ _ hk h0 h2 ho with ⟨b1, b2, b3⟩ | ⟨b1, b2⟩
    · omega
    · rw [a2, b2]
theorem js_tn {i tn : Int} {fo : Nat → Int32} {fa : Nat → Int64} {ft : Nat → Int32} {c t : Int} (h : JS i tn fo fa ft c t) : tn ≤ 258 := by
  rcases h.2.2.2 with w | ⟨w1, w2⟩
  · omega
  · have := h.1.1 i.toNat (by have := h.2.1; have := h.2.2.1; omega) w1
    omega
