/-! a file that is being built: its rows -/
def rwN (ws : va_W) (h b : Nat) : Prop := ∃ (k d kd kb rr n : Nat) (fs ds us : List Value) (mc : Int32) (c : ClassId), ows ws k h 2 fs ∧ fs[0]? = some (.ref d) ∧ ows ws kd d 6 ds ∧ ds[8]? = some (.int mc) ∧ ows ws kb b 9 us ∧ us[13]? = some (.ref rr) ∧ gR ws rr c n ∧ (n : Int) = mc.toInt
theorem rwN_mo {F C : List (Nat × Nat)} {S : Option Nat} {ws ws' : va_W} {h b : Nat} (hF : gF F C S ws ws') (hE : gE ws ws') (g0 : (2, 0) ∉ F) (f8 : (6, 8) ∉ F) (f13 : (9, 13) ∉ F) (q : rwN ws h b) : rwN ws' h b := by
  obtain ⟨k, d, kd, kb, rr, n, fs, ds, us, mc, c, p1, p2, p3, p4, p5, p6, p7, p8⟩ := q
  obtain ⟨fs', q1, q2, -⟩ := hF.1 _ _ _ _ p1
  obtain ⟨ds', q3, q4, -⟩ := hF.1 _ _ _ _ p3
  obtain ⟨us', q5, q6, -⟩ := hF.1 _ _ _ _ p5
  exact ⟨k, d, kd, kb, rr, n, fs', ds', us', mc, c, q1, (q2 0 g0).trans p2, q3, (q4 8 f8).trans p4, q5, (q6 13 f13).trans p6, hE.1 _ _ p7, p8⟩
theorem rwN_of {A : Nat → Prop} {ws : va_W} {k h d kd kb b rr n : Nat} {fs ds us : List Value} {mc : Int32} {c : ClassId} (hD : va_D A ws) (hk : ows ws k h 2 fs) (h0 : fs[0]? = some (.ref d)) (hd : ows ws kd d 6 ds) (h8 : ds[8]? = some (.int mc)) (hb : ows ws kb b 9 us) (h13 : us[13]? = some (.ref rr)) (hr : gR ws rr c n) (q : rwN ws h b) : (n : Int) = mc.toInt := by
  obtain ⟨k', d', kd', kb', rr', n', fs', ds', us', mc', c', p1, p2, p3, p4, p5, p6, p7, p8⟩ := q
  obtain rfl := gO_un hD hk p1
  rw [h0] at p2
  cases p2
  obtain rfl := gO_un hD hd p3
  rw [h8] at p4
  cases p4
  obtain rfl := gO_un hD hb p5
  rw [h13] at p6
  cases p6
  have e := gI_n hD p7 hr
  omega
/-- the rows below m are there -/
def nnR (ws : va_W) (b : Nat) (m : Int32) : Prop := ∃ rr : Nat, fnS ws b rr ∧ ∀ i : Nat, (i : Int) < m.toInt → nnS ws rr i
theorem nnR_mo {F C : List (Nat × Nat)} {S : Option Nat} {ws ws' : va_W} {b : Nat} {m : Int32} (_hF : gF F C S ws ws') (hE : gE ws ws') (q : nnR ws b m) : nnR ws' b m := by
  obtain ⟨rr, p1, p2⟩ := q
  exact ⟨rr, hE.2.2 _ _ p1, fun i hi => hE.2.1 _ _ (p2 i hi)⟩
theorem nnR_0 {ws : va_W} {k b rr : Nat} {us : List Value} {m : Int32} (hb : ows ws k b 9 us) (h13 : us[13]? = some (.ref rr)) (hm : m.toInt ≤ 0) : nnR ws b m := ⟨rr, ⟨k, us, hb, h13⟩, fun i hi => absurd hi (by omega)⟩
theorem nnR_s {A : Nat → Prop} {ws ws' : va_W} {k kb b rr n v : Nat} {us : List Value} {c : ClassId} {m m' : Int32} {f : Nat → Option Nat} (hE : gE ws ws') (e : ws' = ws.set k (rr, .inl (c, n, .inr (.inr (.inr (.inr (va_up f m.toNatClampNeg (some v)))))))) (hk : rws ws k rr c n f) (hD : va_D A ws) (hb : ows ws kb b 9 us) (h13 : us[13]? = some (.ref rr)) (h0 : 0 ≤ m.toInt) (hm : m'.toInt = m.toInt + 1) (q : nnR ws b m) : nnR ws' b m' := by
  obtain ⟨r', ⟨k', us', p1, p2⟩, p3⟩ := q
  obtain rfl := gO_un hD hb p1
  rw [h13] at p2
  cases p2
  refine ⟨rr, hE.2.2 _ _ ⟨kb, us, hb, h13⟩, fun i hi => ?_⟩
  by_cases hz : (i : Int) < m.toInt
  · exact hE.2.1 _ _ (p3 i hz)
  · have ei : i = m.toNatClampNeg := by
      have : m.toNatClampNeg = m.toInt.toNat := rfl
      omega
    exact ⟨k, c, n, _, v, gset_self e hk, by rw [ei, va_up_self]⟩
theorem nn_at {A : Nat → Prop} {ws : va_W} {k r n i : Nat} {c : ClassId} {f : Nat → Option Nat} (hD : va_D A ws) (hk : rws ws k r c n f) (q : nnS ws r i) : ∃ b, f i = some b := by
  obtain ⟨k', c', n', f', b, p1, p2⟩ := q
  have e := hD.1 _ _ _ _ hk p1 rfl
  subst e
  rw [rws, hk] at p1
  cases p1
  exact ⟨b, p2⟩
theorem nnR_at {A : Nat → Prop} {ws : va_W} {kb b rr i : Nat} {us : List Value} {m : Int32} (hD : va_D A ws) (hb : ows ws kb b 9 us) (h13 : us[13]? = some (.ref rr)) (hi : (i : Int) < m.toInt) (q : nnR ws b m) : nnS ws rr i := by
  obtain ⟨r', ⟨k', us', p1, p2⟩, p3⟩ := q
  obtain rfl := gO_un hD hb p1
  rw [h13] at p2
  cases p2
  exact p3 i hi
theorem nnR_full {A : Nat → Prop} {ws : va_W} {kb b rr n : Nat} {us : List Value} {c : ClassId} {m : Int32} (hD : va_D A ws) (hb : ows ws kb b 9 us) (h13 : us[13]? = some (.ref rr)) (hr : gR ws rr c n) (hm : (n : Int) ≤ m.toInt) (q : nnR ws b m) : full ws b := ⟨rr, n, c, ⟨kb, us, hb, h13⟩, hr, fun i hi => nnR_at hD hb h13 (by omega) q⟩
