/-! types, part by part -/
/-- as it was, but what the method's type that was looked at last takes and gives -/
def T3 (S u : MS) : Prop := smX S u ∧ (∀ j, j ≠ 12 → j ≠ 13 → j ≠ 14 → qI u 9 j = qI S 9 j) ∧ (∀ a, a ≠ 9 → a ≠ 13 → a ≠ 14 → qI u a = qI S a) ∧ qJ u = qJ S ∧ qR u = qR S ∧ qT u = qT S ∧ qN u = qN S
section TY
variable {S S' R R' T u w : MS} {x y z r c v e len o N i x1 k t : Int32} {oo : MS ⊕ MS}
theorem T3.rf : T3 S S := ⟨smX.rf, fun _ _ _ _ => rfl, fun _ _ _ _ => rfl, rfl, rfl, rfl, rfl⟩
theorem T3.tr (h : T3 S T) (g : T3 T u) : T3 S u := ⟨h.1.tr g.1, fun j a b c => (g.2.1 j a b c).trans (h.2.1 j a b c), fun a h1 h2 h3 => (g.2.2.1 a h1 h2 h3).trans (h.2.2.1 a h1 h2 h3), g.2.2.2.1.trans h.2.2.2.1, g.2.2.2.2.1.trans h.2.2.2.2.1, g.2.2.2.2.2.1.trans h.2.2.2.2.2.1, g.2.2.2.2.2.2.trans h.2.2.2.2.2.2⟩
theorem T3.wq {j : Nat} (hj : j = 12 ∨ j = 13 ∨ j = 14) (w : wfC S) : T3 S (wI S 9 j v) := ⟨smX.wk w w.q9 (by decide) (fun _ => by omega), fun i a b c => by rw [g_nf (by omega)], fun a ha _ _ => rdH ha, rfl, rfl, rfl, rfl⟩
theorem T3.wr {b j t : Nat} (hb : b = 13 ∨ b = 14) (w : wfC S) (k : qT S b = t) (ht : t ≠ 101) : T3 S (wI S b j v) := ⟨smX.wk w k ht (fun _ => by omega), fun i _ _ _ => by rw [g_ne (by omega)], fun a h1 h2 h3 => rdH (by omega), rfl, rfl, rfl, rfl⟩
theorem LyE.mvS (h : LyE S R) (t : T3 S u) : LyE u R := by
  obtain ⟨s, f, g, -, -, -, -⟩ := t
  obtain ⟨h1, h2, h3, h4, h5, h6, h7, ⟨q0, q1, a1, a2, m0, M1, M2, AF, m3, m4, m5, m6⟩, h9⟩ := h
  have f5 : qI u 9 5 = qI S 9 5 := f 5 (by decide) (by decide) (by decide)
  have f6 : qI u 9 6 = qI S 9 6 := f 6 (by decide) (by decide) (by decide)
  have f7 : qI u 9 7 = qI S 9 7 := f 7 (by decide) (by decide) (by decide)
  have f8 : qI u 9 8 = qI S 9 8 := f 8 (by decide) (by decide) (by decide)
  have f15 : qI u 9 15 = qI S 9 15 := f 15 (by decide) (by decide) (by decide)
  have f16 : qI u 9 16 = qI S 9 16 := f 16 (by decide) (by decide) (by decide)
  have f1 : qI u 9 1 = qI S 9 1 := s.1
  refine ⟨h1.mv s smB.rf rfl, h2, ⟨by rw [f15]; exact h3.1, by rw [f15, f1]; exact h3.2.1, by rw [f1]; exact h3.2.2⟩, by rw [f5]; exact h4, en_mv h5 s f5 (fun j => by rw [g 11 (by decide) (by decide) (by decide)]) (fun _ _ _ _ => rfl) rfl, by rw [f6, f1]; exact h6, by rw [f7, f8]; exact h7, ?_, by rw [f15]; exact h9⟩
  rw [f6, f7, f8, f16, f15, f1, s.u2]
  exact ⟨q0, q1, a1, a2, m0, MbC.mv _ M1 (Nat.zero_le _) s (fun j _ _ => ⟨by rw [g 12 (by decide) (by decide) (by decide)], rfl⟩) (fun _ _ _ _ _ => rfl), MbC.mv _ M2 (MbC.le _ M2) s (fun j _ _ => ⟨by rw [g 12 (by decide) (by decide) (by decide)], rfl⟩) (fun _ _ _ _ _ => rfl), AtC.mv _ AF s (fun _ _ _ _ _ => rfl), m3, m4, m5, m6⟩
theorem T3.ea (t : T3 S u) : fX7_entryAt u k = fX7_entryAt S k := by
  unfold fX7_entryAt
  rw [t.2.1 5 (by decide) (by decide) (by decide), t.2.2.1 11 (by decide) (by decide) (by decide)]
  rfl
theorem T3.tg (t : T3 S u) : fX7_tagOf u k = fX7_tagOf S k := by
  unfold fX7_tagOf
  rw [t.ea, t.1.u1]
theorem T3.fo (t : T3 S u) : fX7_firstOf u k = fX7_firstOf S k := by
  unfold fX7_firstOf
  rw [t.ea, t.1.u2]
theorem T3.so (t : T3 S u) : fX7_secondOf u k = fX7_secondOf S k := by
  unfold fX7_secondOf
  rw [t.ea, t.1.u2]
theorem T3.nl (t : T3 S u) : fX7_nameLength u k = fX7_nameLength S k := by
  unfold fX7_nameLength
  rw [t.ea, t.1.u2]
theorem T3.ns (t : T3 S u) : fX7_nameSign u k x = fX7_nameSign S k x := by
  unfold fX7_nameSign
  rw [t.ea, t.1.u1]
theorem T3.kp (t : T3 S u) : fX7_kindOfPart u k x = fX7_kindOfPart S k x := by
  unfold fX7_kindOfPart f_X7_kindOfPart_J84
  rw [t.nl, t.ns, t.ns]
theorem T3.kt (t : T3 S u) : fX7_kindOfType u k = fX7_kindOfType S k := by
  unfold fX7_kindOfType f_X7_kindOfType_J22
  rw [t.nl, t.kp]
theorem T3.mp (t : T3 S u) : fX7_memberPlace u k = fX7_memberPlace S k := by
  unfold fX7_memberPlace
  rw [t.2.2.1 12 (by decide) (by decide) (by decide)]
  rfl
theorem T3.no (t : T3 S u) : fX7_nameOf u k = fX7_nameOf S k := by
  unfold fX7_nameOf
  rw [t.mp, t.1.u2]
theorem T3.to (t : T3 S u) : fX7_typeOf u k = fX7_typeOf S k := by
  unfold fX7_typeOf
  rw [t.mp, t.1.u2]
/-- a NAME: length and signs -/
theorem nm_at (hE : LyE S R) (hk : (fX7_tagOf S k).toInt = 1) : qI R 7 k.toInt.toNat = fX7_nameLength S k ∧ (1 ≤ (fX7_nameLength S k).toInt ∧ (fX7_nameLength S k).toInt ≤ 100) ∧ ∀ i : Int32, (0 ≤ i.toInt → i.toInt < (fX7_nameLength S k).toInt → -128 ≤ (f_letter R k i).toInt ∧ (f_letter R k i).toInt ≤ 127 ∧ (fX7_nameSign S k i).toInt = if (f_letter R k i).toInt < 0 then (f_letter R k i).toInt + 256 else (f_letter R k i).toInt) ∧ ((fX7_nameLength S k).toInt ≤ i.toInt → f_letter R k i = 0) := by
  obtain ⟨⟨⟨e0, e3⟩, -, -, en⟩, -, e4⟩ := tg_en hE (k := k) (by omega)
  rw [e4] at en
  have b := hE.1
  have b2 := b.2.1
  rcases en with ⟨-, hl, hf, f6, f7⟩ | ⟨a, -⟩ | ⟨a, -⟩ | ⟨a, -⟩ | ⟨a, -⟩
  · refine ⟨f7, hl, fun i => ⟨fun h0 h1 => ?_, fun h1 => ?_⟩⟩
    · have h1' : i.toInt < (fX7_u2 S ((fX7_entryAt S k) + (1 : Int32))).toInt := h1
      have q3 : ((fX7_entryAt S k) + (3 : Int32)).toInt = (fX7_entryAt S k).toInt + 3 := by rw [t_add (by rw [li_3]; omega), li_3]
      have qi : (((fX7_entryAt S k) + (3 : Int32)) + i).toInt = (fX7_entryAt S k).toInt + 3 + i.toInt := by rw [t_add (by omega), q3]
      have el : f_letter R k i = qI R (qO R 0 11) (((fX7_entryAt S k) + (3 : Int32)) + i).toInt.toNat := by
        unfold f_letter
        rw [f7, if_neg (by omega), f6]
      have rg := (b.2.2 (((fX7_entryAt S k) + (3 : Int32)) + i).toInt.toNat (by omega)).2
      rw [el]
      refine ⟨rg.1, rg.2, ?_⟩
      unfold fX7_nameSign
      rw [bt_u1 b (by omega) (by omega), and255 rg]
    · have h1' : (fX7_u2 S ((fX7_entryAt S k) + (1 : Int32))).toInt ≤ i.toInt := h1
      unfold f_letter
      rw [f7, if_pos h1']
      try rfl
  · omega
  · omega
  · omega
  · omega
end TY
