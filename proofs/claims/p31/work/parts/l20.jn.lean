/-! BOTH SIDES AT ONCE: two worlds in one heap, apart from each other -/
def apw (w1 w2 : va_W) : Prop := ∀ (i j : Nat) (p q : Nat × va_E), w1[i]? = some p → w2[j]? = some q → p.1 ≠ q.1
theorem apw.sy {w1 w2 : va_W} (h : apw w1 w2) : apw w2 w1 := fun i j p q hi hj e => h j i q p hj hi e.symm
theorem jn_lt {D : va_G} {cl : List vw_C} {ws : va_W} {H : Heap} (h : va_P D cl ws H) {k : Nat} {q : Nat × va_E} (e : ws[k]? = some q) : q.1 < H.size := by
  obtain ⟨a, x⟩ := q
  rcases x with x | x
  · have h1 : H[a]? = some (vp_cell x.1 x.2) := h k _ e
    exact (Array.getElem?_eq_some_iff.mp h1).1
  · obtain ⟨q', h1, cell, g1, -⟩ := h k _ e
    exact (Array.getElem?_eq_some_iff.mp g1).1
theorem jn_P {D : va_G} {cl : List vw_C} {w1 w2 : va_W} {H H1 : Heap} (hP : va_P D cl w2 H) (ha : apw w1 w2) (hk : ∀ q : Nat, q < H.size → ¬ va_A w1 H.size q → H1[q]? = H[q]?) : va_P D cl w2 H1 :=
  hP.kept (fun k q e => hk q.1 (jn_lt hP e) (fun h => by
    rcases h with ⟨i, x, hi⟩ | h
    · exact ha i k _ _ hi e rfl
    · exact absurd (jn_lt hP e) (Nat.not_lt.mpr h)))
theorem jn_ap {D : va_G} {cl : List vw_C} {w1 w1' w2 : va_W} {H : Heap} (ha : apw w1 w2) (hP : va_P D cl w2 H) (hD : va_D (va_A w1 H.size) w1') : apw w1' w2 := fun i j p q hi hj e => by
  rcases hD.2 i p hi with ⟨k, x, h⟩ | h
  · exact ha k j _ _ h hj e
  · exact absurd (jn_lt hP hj) (Nat.not_lt.mpr (e ▸ h))
/-- the law's two objects: their worlds, apart; their room; the texts -/
def LB (g g' : Gr) (ad ad' : Nat → Nat) (A : Nat → Prop) (s : State) (S S' : MS) (H : Heap) (locs : List Loc) : Prop := RepC g ad A s S H locs ∧ Rep g' ad' A s S' H locs ∧ apw (WdC g ad S) (Wd g' ad' S') ∧ (qn S ≤ KCC ∧ qu S ≤ KSC ∧ qn S' ≤ KC ∧ qu S' ≤ KS) ∧ ogC ad A s s.heap ∧ ogR ad' A s s.heap
section LBS
variable {g g' : Gr} {ad ad' ad1 : Nat → Nat} {A : Nat → Prop} {s t : State} {S S' u : MS} {H H1 : Heap} {locs locs1 : List Loc} {dc ds : Nat}
theorem LB.cN (h : LB g g' ad ad' A s S S' H locs) (ht : t.heap = H1) (hB : qEC g ad (va_A (WdC g ad S) H.size) u t) (hw : wfC u) (hs : shy S u) (hS : va_S A s.heap H1 locs1) (hF : ∀ q, va_A (WdC g ad S) H.size q → A q) (hk : ∀ q : Nat, q < H.size → ¬ va_A (WdC g ad S) H.size q → H1[q]? = H[q]?) : LB g g' ad ad' A s u S' H1 locs1 :=
  ⟨h.1.call ht hB hw hS hF, ⟨h.2.1.1, jn_P h.2.1.2.1 h.2.2.1 hk, h.2.1.2.2.1, hS, h.2.1.2.2.2.2⟩, jn_ap h.2.2.1 h.2.1.2.1 hB.2, by rw [hs.2.1, hs.2.2]; exact h.2.2.2.1, h.2.2.2.2⟩
theorem LB.cH (h : LB g g' ad ad' A s S S' H locs) (ht : t.heap = H1) (hB : qEC g ad1 (va_A (WdC g ad S) H.size) u t) (hw : wfC u) (hl : lgC S u dc ds) (ha : adk ad ad1 S) (hS : va_S A s.heap H1 locs1) (hF : ∀ q, va_A (WdC g ad S) H.size q → A q) (hk : ∀ q : Nat, q < H.size → ¬ va_A (WdC g ad S) H.size q → H1[q]? = H[q]?) : LB g g' ad1 ad' A s u S' H1 locs1 :=
  ⟨h.1.callH ht hB hw hS hF, ⟨h.2.1.1, jn_P h.2.1.2.1 h.2.2.1 hk, h.2.1.2.2.1, hS, h.2.1.2.2.2.2⟩, jn_ap h.2.2.1 h.2.1.2.1 hB.2, by
    obtain ⟨h1, h2, h3, h4, h5, h6⟩ := hl
    obtain ⟨k1, k2, k3, k4⟩ := h.2.2.2.1
    exact ⟨by omega, by omega, k3, k4⟩, h.2.2.2.2.1.ad ha, h.2.2.2.2.2⟩
theorem LB.rN (h : LB g g' ad ad' A s S S' H locs) (ht : t.heap = H1) (hB : qE g' ad' (va_A (Wd g' ad' S') H.size) u t) (hw : wfM u) (hs : shy S' u) (hS : va_S A s.heap H1 locs1) (hF : ∀ q, va_A (Wd g' ad' S') H.size q → A q) (hk : ∀ q : Nat, q < H.size → ¬ va_A (Wd g' ad' S') H.size q → H1[q]? = H[q]?) : LB g g' ad ad' A s S u H1 locs1 :=
  ⟨⟨h.1.1, jn_P h.1.2.1 h.2.2.1.sy hk, h.1.2.2.1, hS, h.1.2.2.2.2⟩, h.2.1.call ht hB hw hS hF, (jn_ap h.2.2.1.sy h.1.2.1 hB.2).sy, by rw [hs.2.1, hs.2.2]; exact h.2.2.2.1, h.2.2.2.2⟩
theorem LB.rH (h : LB g g' ad ad' A s S S' H locs) (ht : t.heap = H1) (hB : qE g' ad1 (va_A (Wd g' ad' S') H.size) u t) (hw : wfM u) (hl : lg S' u dc ds) (ha : adk ad' ad1 S') (hS : va_S A s.heap H1 locs1) (hF : ∀ q, va_A (Wd g' ad' S') H.size q → A q) (hk : ∀ q : Nat, q < H.size → ¬ va_A (Wd g' ad' S') H.size q → H1[q]? = H[q]?) : LB g g' ad ad1 A s S u H1 locs1 :=
  ⟨⟨h.1.1, jn_P h.1.2.1 h.2.2.1.sy hk, h.1.2.2.1, hS, h.1.2.2.2.2⟩, h.2.1.callH ht hB hw hS hF, (jn_ap h.2.2.1.sy h.1.2.1 hB.2).sy, by
    obtain ⟨h1, h2, h3, h4, h5, h6⟩ := hl
    obtain ⟨k1, k2, k3, k4⟩ := h.2.2.2.1
    exact ⟨k1, k2, by omega, by omega⟩, h.2.2.2.2.1, h.2.2.2.2.2.ad ha⟩
theorem LB.c0 (h : LB g g' ad ad' A s S S' H locs) : qn S + qn S' + 0 ≤ 601024 ∧ qu S + qu S' + 0 ≤ 7293033 := by
  obtain ⟨k1, k2, k3, k4⟩ := h.2.2.2.1
  have e1 : KCC = 300000 := rfl
  have e2 : KSC = 3553400 := rfl
  have e3 : KC = 300000 := rfl
  have e4 : KS = 3720000 := rfl
  omega
theorem LB.cc (h : LB g g' ad ad' A s S S' H locs) : qn S + qn S' + (KCC - qn S) ≤ 601024 ∧ qu S + qu S' + (KSC - qu S) ≤ 7293033 := by
  obtain ⟨k1, k2, k3, k4⟩ := h.2.2.2.1
  have e1 : KCC = 300000 := rfl
  have e2 : KSC = 3553400 := rfl
  have e3 : KC = 300000 := rfl
  have e4 : KS = 3720000 := rfl
  omega
theorem LB.rc (h : LB g g' ad ad' A s S S' H locs) : qn S + qn S' + (KC - qn S') ≤ 601024 ∧ qu S + qu S' + (KS - qu S') ≤ 7293033 := by
  obtain ⟨k1, k2, k3, k4⟩ := h.2.2.2.1
  have e1 : KCC = 300000 := rfl
  have e2 : KSC = 3553400 := rfl
  have e3 : KC = 300000 := rfl
  have e4 : KS = 3720000 := rfl
  omega
theorem jn_cc1 {a b : Nat} (hl : lgC S u dc ds) (h : a ≤ b + (qn S + qn S' + dc)) : a ≤ b + (qn u + qn S') := by
  obtain ⟨h1, h2, h3, h4, h5, h6⟩ := hl
  omega
theorem jn_cc2 {a : Nat} (hl : lgC S u dc ds) (h : a ≤ qu S + qu S' + ds) : a ≤ qu u + qu S' := by
  obtain ⟨h1, h2, h3, h4, h5, h6⟩ := hl
  omega
theorem jn_rc1 {a b : Nat} (hl : lg S' u dc ds) (h : a ≤ b + (qn S + qn S' + dc)) : a ≤ b + (qn S + qn u) := by
  obtain ⟨h1, h2, h3, h4, h5, h6⟩ := hl
  omega
theorem jn_rc2 {a : Nat} (hl : lg S' u dc ds) (h : a ≤ qu S + qu S' + ds) : a ≤ qu S + qu u := by
  obtain ⟨h1, h2, h3, h4, h5, h6⟩ := hl
  omega
end LBS
theorem W_eq {p : Program} {l : Launch} {e : Env} {R : Room} {s : State} {m : MethodId} {args : Array Value} {below : List Frame} {meth : Method} {c : Code} {H : Heap} {locs : List Loc} {cells slots cells' slots' : Nat} {Q : State → Prop} {g : JFrame} (h1 : cells = cells') (h2 : slots = slots') (k : W p l e R s m args below meth c H locs cells' slots' Q g) : W p l e R s m args below meth c H locs cells slots Q g := by
  subst h1; subst h2; exact k
theorem shy.n {S u : MS} {a : Nat} (h : shy S u) : qn S + a + 0 = qn u + a ∧ qu S + a + 0 = qu u + a := by rw [h.2.1, h.2.2]; exact ⟨rfl, rfl⟩
theorem shy.n2 {S u : MS} {a : Nat} (h : shy S u) : a + qn S + 0 = a + qn u ∧ a + qu S + 0 = a + qu u := by rw [h.2.1, h.2.2]; exact ⟨rfl, rfl⟩
/-- the place in the script -/
def LX (i : Int32) (k L : Nat) : Prop := i.toInt = 6 * (k : Int) ∧ 6 * k + 6 ≤ L ∧ L ≤ 3072
theorem LX.at {i c : Int32} {k L : Nat} (h : LX i k L) (hc : 0 ≤ c.toInt ∧ c.toInt ≤ 6) : (i + c).toInt = i.toInt + c.toInt := by
  obtain ⟨h1, h2, h3⟩ := h
  rw [Int32.toInt_add, Int.bmod_eq_of_le (by omega) (by omega)]
theorem jx_in {i : Int32} {L : Nat} (h0 : 0 ≤ i.toInt) (h1 : i.toInt < L) : vp_in i L := by
  unfold vp_in
  intro h
  rcases h with h | h
  · have := Int32.lt_iff_toInt_lt.mp h
    have z : (0 : Int32).toInt = 0 := rfl
    omega
  · have e : i.toNatClampNeg = i.toInt.toNat := rfl
    omega
theorem LX.in0 {i : Int32} {k L : Nat} (h : LX i k L) : vp_in i L := jx_in (by have := h.1; omega) (by have := h.1; have := h.2.1; omega)
theorem LX.in {i : Int32} {k L : Nat} (h : LX i k L) (c : Int32) (hc : 0 ≤ c.toInt ∧ c.toInt ≤ 5) : vp_in (i + c) L := by
  have e := h.at (c := c) ⟨hc.1, by omega⟩
  obtain ⟨h1, h2, h3⟩ := h
  exact jx_in (by omega) (by omega)
theorem ag_both {S S' u u' : MS} {r r' : Int32} (ha : qI S 44 7 = qI S' 0 88) (e : qI u 44 7 = agN (qI S 44 7)) (er : r = if (qI S 44 7).toInt < 8 then qI S 44 7 + 1 else -1) (h : ((qI S' 0 88).toInt = 8 ∧ r' = -1 ∧ qI u' 0 88 = qI S' 0 88) ∨ ((qI S' 0 88).toInt < 8 ∧ r' = qI u' 0 88 ∧ (qI u' 0 88).toInt = (qI S' 0 88).toInt + 1)) : r = r' ∧ qI u 44 7 = qI u' 0 88 := by
  rw [e, er, ha]
  unfold agN
  rcases h with ⟨h1, h2, h3⟩ | ⟨h1, h2, h3⟩
  · rw [if_neg (by omega), if_neg (by omega), h2, h3]; exact ⟨rfl, rfl⟩
  · have k : qI S' 0 88 + 1 = qI u' 0 88 := Int32.toInt_inj.mp (by
      have z : (1 : Int32).toInt = 1 := rfl
      have lo := Int32.le_toInt (qI S' 0 88)
      rw [Int32.toInt_add, z, h3, Int.bmod_eq_of_le (by omega) (by omega)])
    rw [if_pos h1, if_pos h1, h2, k]; exact ⟨rfl, rfl⟩
theorem st_both {S S' : MS} {r r' : Int32} {k : Nat} (e : r = fX12_strays S) (e' : r' = f_strays S') (hC : CJ S) (hG : GI k S') : r = r' := by
  rw [e, e', CJ.st hC, GI.st hG]
theorem rn_both {u u' : MS} (e : qI u 44 7 = 0) (h : (qI u' 0 88).toInt = 0) : qI u 44 7 = qI u' 0 88 := by
  rw [e]; exact Int32.toInt_inj.mp (by rw [h]; rfl)
