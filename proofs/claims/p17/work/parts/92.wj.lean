/-! Writer: the switches of its row -/
def wjS (ws : va_W) (h : Nat) (i tn : Int) : Prop := ∃ (k b : Nat) (fs : List Value), ows ws k h 10 fs ∧ fs[15]? = some (.ref b) ∧ rowC ws b (JS i tn)
def IT (i tn : Int) : RP := fun fo fa ft c t => RW fo fa ft c t ∧ (0 ≤ i → i < c → swO (fo i.toNat) → rM fa ft i.toNat = tn)
def wiT (ws : va_W) (h : Nat) (i tn : Int) : Prop := ∃ (k b : Nat) (fs : List Value), ows ws k h 10 fs ∧ fs[15]? = some (.ref b) ∧ rowC ws b (IT i tn)
def IR (i : Int) : RP := fun _ _ _ c _ => 0 ≤ i ∧ i < c
section WJ
variable {F C : List (Nat × Nat)} {S : Option Nat} {ws ws' : va_W} {h : Nat} {i tn : Int}
theorem wjS_mo (hF : gF F C S ws ws') (g15 : (10, 15) ∉ F) (h0 : (7, 0) ∉ F) (h1 : (7, 1) ∉ F) (h2 : (7, 2) ∉ F) (h3 : (7, 3) ∉ F) (h4 : (7, 4) ∉ F) (c0 : (7, 0) ∉ C) (c1 : (7, 1) ∉ C) (c3 : (7, 3) ∉ C) (q : wjS ws h i tn) : wjS ws' h i tn := by
  obtain ⟨k, b, fs, p1, p2, p3⟩ := q
  obtain ⟨fs', q1, q2, -⟩ := hF.1 _ _ _ _ p1
  exact ⟨k, b, fs', q1, (q2 15 g15).trans p2, rowC_mo hF h0 h1 h2 h3 h4 c0 c1 c3 p3⟩
theorem wiT_mo (hF : gF F C S ws ws') (g15 : (10, 15) ∉ F) (h0 : (7, 0) ∉ F) (h1 : (7, 1) ∉ F) (h2 : (7, 2) ∉ F) (h3 : (7, 3) ∉ F) (h4 : (7, 4) ∉ F) (c0 : (7, 0) ∉ C) (c1 : (7, 1) ∉ C) (c3 : (7, 3) ∉ C) (q : wiT ws h i tn) : wiT ws' h i tn := by
  obtain ⟨k, b, fs, p1, p2, p3⟩ := q
  obtain ⟨fs', q1, q2, -⟩ := hF.1 _ _ _ _ p1
  exact ⟨k, b, fs', q1, (q2 15 g15).trans p2, rowC_mo hF h0 h1 h2 h3 h4 c0 c1 c3 p3⟩
end WJ
theorem wjS_at {A : Nat → Prop} {ws : va_W} {k h b : Nat} {fs : List Value} {i tn : Int} (hD : va_D A ws) (hk : ows ws k h 10 fs) (h0 : fs[15]? = some (.ref b)) (q : wjS ws h i tn) : rowC ws b (JS i tn) := by
  obtain ⟨k', b', fs', p1, p2, p3⟩ := q
  obtain rfl := gO_un hD hk p1
  rw [h0] at p2
  cases p2
  exact p3
theorem wiT_at {A : Nat → Prop} {ws : va_W} {k h b : Nat} {fs : List Value} {i tn : Int} (hD : va_D A ws) (hk : ows ws k h 10 fs) (h0 : fs[15]? = some (.ref b)) (q : wiT ws h i tn) : rowC ws b (IT i tn) := by
  obtain ⟨k', b', fs', p1, p2, p3⟩ := q
  obtain rfl := gO_un hD hk p1
  rw [h0] at p2
  cases p2
  exact p3
theorem js_r {i tn r : Int} {fo : Nat → Int32} {fa : Nat → Int64} {ft : Nat → Int32} {c t : Int} (h : JS i tn fo fa ft c t) (q : TCy i r fo fa ft c t) : r ≤ tn ∨ r ≤ 1 := by
  rcases q with q | ⟨q1, q2, q3⟩
  · exact Or.inr (by omega)
  · rcases q3 with ⟨-, q3⟩ | ⟨q3, q4⟩
    · exact Or.inr q3
    · obtain ⟨w, h1, h2, h3⟩ := h
      obtain ⟨w1, w2, w3, w4⟩ := w.1 i.toNat (by omega) q3
      have w5 := rE_gt (fo := fo) w2
      rcases h3 with ⟨h3, -⟩ | ⟨-, h4⟩
      · exact absurd q3 (jm_no h3)
      · exact Or.inl (by omega)
theorem it_js {i o : Int32} {tn : Int} {fo : Nat → Int32} {fa : Nat → Int64} {ft : Nat → Int32} {c t : Int} (h : IT i.toInt tn fo fa ft c t) (ho : fo i.toNatClampNeg = o) (hs : o.toInt = 170 ∨ o.toInt = 171) (hi : 0 ≤ i.toInt ∧ i.toInt < c) : JS i.toInt tn fo fa ft c t := by
  have e : i.toNatClampNeg = i.toInt.toNat := rfl
  have hsw : swO (fo i.toInt.toNat) := by
    rw [← e, ho]
    rcases hs with hs | hs
    · exact Or.inl (Int32.toInt_inj.mp hs)
    · exact Or.inr (Int32.toInt_inj.mp hs)
  exact ⟨h.1, hi.1, hi.2, Or.inr ⟨hsw, h.2 hi.1 hi.2 hsw⟩⟩
theorem opX_in_r {ws : va_W} {k b ro ko n : Nat} {fs : List Value} {c : ClassId} {fo : Nat → Int32} {cnt i o : Int32} (hk : ows ws k b 7 fs) (h0 : fs[0]? = some (.ref ro)) (h2 : fs[2]? = some (.int cnt)) (ho : iws ws ko ro c n fo) (q : opX ws b i o) (hs : o.toInt = 170 ∨ o.toInt = 171) : 0 ≤ i.toInt ∧ i.toInt < cnt.toInt := by
  rcases q _ _ _ _ _ _ _ _ hk h0 h2 ho with ⟨a1, a2, -⟩ | ⟨-, a2⟩
  · exact ⟨a1, a2⟩
  · rw [a2] at hs
    exact absurd hs (by decide)
