/-! watch (behind sp_enter, sp_got) -/
theorem d_ag {S : MS} {a b : Int32} : d_agrees S a b ∧ d_isTaken S a b := by
  unfold d_agrees d_agrees_J10 d_agrees_J21 d_agrees_J36 d_isTaken d_isTaken_J34 d_isTaken_J45 d_isTaken_J49
  simp only [ite_self]
  exact ⟨trivial, trivial⟩
theorem d_tg {S : MS} {k : Int32} (h : FrB S) (hk : 1 ≤ k.toInt ∧ k.toInt ≤ fT S) (hT : fT S ≤ 24) : d_tagAt S k := by
  obtain ⟨e1, e2, e3, e4⟩ := h.e
  have eT : (qI S 44 (fN S).toNat).toInt = fT S := rfl
  have i1 : ((24 : Int32) * (qI S 0 97 - (1 : Int32)) + qI S 44 (fN S).toNat).toInt = 24 * fN S + fT S := by rw [t_add (by rw [e4, eT]; omega), e4, eT]
  have i2 : ((24 : Int32) * (qI S 0 97 - (1 : Int32)) + qI S 44 (fN S).toNat - k).toInt = 24 * fN S + fT S - k.toInt := by rw [t_sub (by rw [i1]; omega), i1]
  unfold d_tagAt
  rw [e1, i2]
  exact ⟨⟨e2, e3⟩, ⟨by omega, by omega⟩, trivial⟩
theorem d_mvb {S : MS} {op : Int32} (h : FrB S) (hk : 1 ≤ (f_moved S op).toInt ∧ (f_moved S op).toInt ≤ fT S) (hT : fT S ≤ 24) : d_isMovable S op := by
  have d1 : d_tagAt S 1 := d_tg h ⟨by decide, by rw [li_1]; omega⟩ hT
  have l2 : (2 : Int32).toInt = 2 := by decide
  have m := mvn (S := S) (op := op)
  have bm := b_mv (S := S) (op := op)
  have d2 : ¬ (f_moved S op).toInt = 1 → d_tagAt S 2 := fun q => d_tg h ⟨by decide, by rw [l2]; omega⟩ hT
  have j35 : ∀ t : Int32, d_isMovable_J35 S t op := fun t => by
    unfold d_isMovable_J35 d_isMovable_J74 d_isMovable_J70
    by_cases c : t.toInt = 0
    · rw [if_pos c]
      refine ⟨d1, f_on.2, ?_⟩
      by_cases c2 : (f_isOne S (f_tagAt S (1 : Int32))).toInt = 0
      · rw [if_pos c2]; trivial
      · rw [if_neg c2]
        refine ⟨bm.2.2.2.2.1, ?_⟩
        by_cases c3 : (f_moved S op).toInt = 1
        · rw [if_pos c3]; trivial
        · rw [if_neg c3, ite_self]
          exact ⟨d2 c3, f_on.2, trivial⟩
    · rw [if_neg c]; trivial
  have j12 : (op.toInt = 88 ∨ op.toInt = 92) → d_isMovable_J12 S op := fun q => by
    have m2 := m.2 (by omega)
    unfold d_isMovable_J12
    refine ⟨d1, ?_⟩
    by_cases c : (f_tagAt S (1 : Int32)).toInt = 3
    · rw [if_pos c]
      refine ⟨d2 (by omega), ?_⟩
      by_cases c2 : (f_tagAt S (2 : Int32)).toInt = 2
      · rw [if_pos c2]; exact j35 1
      · rw [if_neg c2]; exact j35 0
    · rw [if_neg c]; exact j35 0
  unfold d_isMovable
  by_cases c : op.toInt = 88
  · rw [if_pos c]; exact j12 (Or.inl c)
  · rw [if_neg c]
    by_cases c2 : op.toInt = 92
    · rw [if_pos c2]; exact j12 (Or.inr c2)
    · rw [if_neg c2]; exact j35 0
/-- a tag, read off the top frame's pile -/
theorem f_tg {S : MS} {k : Int32} (h : FrB S) (hk : 1 ≤ k.toInt ∧ k.toInt ≤ fT S) (hT : fT S ≤ 24) : f_tagAt S k = qI S 48 (24 * fN S + fT S - k.toInt).toNat := by
  obtain ⟨e1, e2, e3, e4⟩ := h.e
  have eT : (qI S 44 (fN S).toNat).toInt = fT S := rfl
  have i1 : ((24 : Int32) * (qI S 0 97 - (1 : Int32)) + qI S 44 (fN S).toNat).toInt = 24 * fN S + fT S := by rw [t_add (by rw [e4, eT]; omega), e4, eT]
  have i2 : ((24 : Int32) * (qI S 0 97 - (1 : Int32)) + qI S 44 (fN S).toNat - k).toInt = 24 * fN S + fT S - k.toInt := by rw [t_sub (by rw [i1]; omega), i1]
  unfold f_tagAt
  rw [e1, i2]
theorem ag_sb {S : MS} {t g : Int32} (h : sbT g t) : ¬ (f_agrees S t g).toInt = 0 := by
  have one : ¬ (1 : Int32).toInt = 0 := by decide
  unfold sbT at h
  unfold f_agrees f_agrees_J10 f_agrees_J21 f_agrees_J36
  by_cases c4 : t.toInt = 4
  · rw [if_pos c4]
    by_cases d : g.toInt = t.toInt
    · rw [if_pos d]; exact one
    · rw [if_neg d, if_pos (by omega)]; exact one
  · rw [if_neg c4]
    by_cases c5 : t.toInt = 5
    · rw [if_pos c5]
      by_cases d : g.toInt = t.toInt
      · rw [if_pos d]; exact one
      · rw [if_neg d, if_pos (by omega)]; exact one
    · rw [if_neg c5]
      by_cases c0 : t.toInt = 0
      · rw [if_pos c0]; exact one
      · rw [if_neg c0, if_pos (by omega)]; exact one
/-- what a taken letter wants of the tags at its places -/
def tgP (c g h : Int32) : Prop := (c.toInt = 73 → g.toInt = 1) ∧ (c.toInt = 74 → g.toInt = 2 ∧ h.toInt = 3) ∧ (c.toInt = 65 → g.toInt = 4 ∨ g.toInt = 6) ∧ (c.toInt = 69 → g.toInt = 5 ∨ g.toInt = 6) ∧ (c.toInt = 82 → g.toInt = 4 ∨ g.toInt = 5 ∨ g.toInt = 6)
theorem tgP.tk {S : MS} {c g h : Int32} (p : tgP c g h) (hc : c.toInt = 73 ∨ c.toInt = 65 ∨ c.toInt = 69 ∨ c.toInt = 82) : ¬ (f_isTaken S c g).toInt = 0 := by
  have one : ¬ (1 : Int32).toInt = 0 := by decide
  obtain ⟨p1, p2, p3, p4, p5⟩ := p
  unfold f_isTaken f_isTaken_J34 f_isTaken_J45
  by_cases c1 : c.toInt = 73
  · rw [if_pos c1, if_pos (p1 c1)]; exact one
  · rw [if_neg c1]
    by_cases d6 : g.toInt = 6
    · rw [if_pos d6]; exact one
    · rw [if_neg d6]
      by_cases d4 : g.toInt = 4
      · rw [if_pos d4, if_neg (by omega)]; exact one
      · rw [if_neg d4, if_pos (by omega), if_neg (by omega)]; exact one
/-- the top places are right for a move -/
def mvT (op : Int32) (y x : Int32) : Prop := ((op.toInt = 88 ∨ op.toInt = 92) ∧ y.toInt = 3 ∧ x.toInt = 2) ∨ (¬ (isOn y).toInt = 0 ∧ (op.toInt = 87 ∨ op.toInt = 89 ∨ ¬ (isOn x).toInt = 0))
theorem mvb {S : MS} {op : Int32} (h : FrB S) (hk : 1 ≤ (f_moved S op).toInt ∧ (f_moved S op).toInt ≤ fT S) (hT : fT S ≤ 24) (m : mvT op (qI S 48 (24 * fN S + fT S - 1).toNat) (qI S 48 (24 * fN S + fT S - 2).toNat)) : ¬ (f_isMovable S op).toInt = 0 := by
  have one : ¬ (1 : Int32).toInt = 0 := by decide
  have l2 : (2 : Int32).toInt = 2 := by decide
  have mm := mvn (S := S) (op := op)
  have o : op.toInt = 87 ∨ op.toInt = 88 ∨ op.toInt = 89 ∨ op.toInt = 90 ∨ op.toInt = 92 ∨ op.toInt = 95 := (mv_iff (S := S)).mp (by omega)
  have t1 : f_tagAt S 1 = qI S 48 (24 * fN S + fT S - 1).toNat := by
    have := f_tg (k := 1) h ⟨by decide, by rw [li_1]; omega⟩ hT
    rw [li_1] at this
    exact this
  have t2 : 2 ≤ fT S → f_tagAt S 2 = qI S 48 (24 * fN S + fT S - 2).toNat := fun q => by
    have := f_tg (k := 2) h ⟨by decide, by rw [l2]; omega⟩ hT
    rw [l2] at this
    exact this
  have j35 : ∀ t : Int32, (t.toInt = 0 → ¬ (isOn (qI S 48 (24 * fN S + fT S - 1).toNat)).toInt = 0 ∧ (op.toInt = 87 ∨ op.toInt = 89 ∨ ¬ (isOn (qI S 48 (24 * fN S + fT S - 2).toNat)).toInt = 0)) → ¬ (f_isMovable_J35 S t op).toInt = 0 := fun t ht => by
    unfold f_isMovable_J35 f_isMovable_J70
    by_cases c : t.toInt = 0
    · obtain ⟨q1, q2⟩ := ht c
      rw [if_pos c, f_on.1, t1, if_neg q1]
      by_cases c3 : (f_moved S op).toInt = 1
      · rw [if_pos c3]; exact one
      · have o2 : op.toInt = 88 ∨ op.toInt = 90 ∨ op.toInt = 92 ∨ op.toInt = 95 := by
          by_cases y : op.toInt = 87 ∨ op.toInt = 89
          · exact absurd (mm.1 y) c3
          · omega
        have m2 := mm.2 o2
        rw [if_neg c3, f_on.1, t2 (by omega), if_neg (q2.resolve_left (by omega) |>.resolve_left (by omega))]
        exact one
    · rw [if_neg c]; exact one
  have off : ¬ ((op.toInt = 88 ∨ op.toInt = 92) ∧ (qI S 48 (24 * fN S + fT S - 1).toNat).toInt = 3 ∧ (qI S 48 (24 * fN S + fT S - 2).toNat).toInt = 2) → ¬ (f_isMovable_J35 S 0 op).toInt = 0 := fun q => j35 0 (fun _ => m.resolve_left q)
  have on : ¬ (f_isMovable_J35 S 1 op).toInt = 0 := j35 1 (fun q => absurd q (by decide))
  have j12 : (op.toInt = 88 ∨ op.toInt = 92) → ¬ (f_isMovable_J12 S op).toInt = 0 := fun q => by
    have m2 := mm.2 (by omega)
    unfold f_isMovable_J12 f_isMovable_J34
    rw [t1, t2 (by omega)]
    by_cases c : (qI S 48 (24 * fN S + fT S - 1).toNat).toInt = 3
    · rw [if_pos c]
      by_cases c2 : (qI S 48 (24 * fN S + fT S - 2).toNat).toInt = 2
      · rw [if_pos c2]; exact on
      · rw [if_neg c2]; exact off (fun z => c2 z.2.2)
    · rw [if_neg c]; exact off (fun z => c z.2.1)
  unfold f_isMovable f_isMovable_J34
  by_cases c : op.toInt = 88
  · rw [if_pos c]; exact j12 (Or.inl c)
  · rw [if_neg c]
    by_cases c2 : op.toInt = 92
    · rw [if_pos c2]; exact j12 (Or.inr c2)
    · rw [if_neg c2]; exact off (fun z => by omega)
theorem sp_watch {S : MS} {x : Int32} {f St : Nat} (h : LkI S) (ht : TxI S) (hF : FrB S) (hx : 0 ≤ x.toInt ∧ x.toInt < (qI S 0 52).toInt) (hT : tkV S x ≤ fT S ∧ fT S ≤ 24) (h80 : qR S 0 80 = some f) (h22 : qR S f 22 = some St) (h51 : 0 ≤ (qI S 0 51).toInt ∧ (qI S 0 51).toInt ≤ 28800 ∧ 4 * ((qI S 0 51).toInt + x.toInt) + 4 ≤ (qN S St : Int)) (w0 : (qI S St (4 * ((qI S 0 51).toInt + x.toInt)).toNat).toInt = fT S) {g : Nat → Int32} (gr : ∀ k : Nat, k < 24 → 0 ≤ (g k).toInt ∧ (g k).toInt ≤ 15) (w1 : ∀ k : Nat, k < 3 → qI S St ((4 * ((qI S 0 51).toInt + x.toInt)).toNat + 1 + k) = pkW (fun j => g (8 * k + j)) 8) (w2 : ∀ k : Nat, k < 24 → sbT (qI S 47 (24 * (fN S).toNat + k)) (g k)) (w3 : 0 < (f_moved S (f_op S x)).toInt → mvT (f_op S x) (qI S 48 (24 * fN S + fT S - 1).toNat) (qI S 48 (24 * fN S + fT S - 2).toNat)) (w4 : ¬ 0 < (f_moved S (f_op S x)).toInt → ∀ i : Nat, i < qN S (f_takesOf S x + 1) → tgP (qI S (f_takesOf S x + 1) i) (qI S 48 (24 * fN S + fT S - tkV S x + plc (qI S (f_takesOf S x + 1)) i).toNat) (qI S 48 (24 * fN S + fT S - tkV S x + plc (qI S (f_takesOf S x + 1)) i + 1).toNat)) : w_watch S x (fun u => u = S) := by
  have cn := h.cnt
  obtain ⟨e1, e2, e3, e4⟩ := hF.e
  have o80 : qO S 0 80 = f := by unfold qO; rw [h80]; rfl
  have o22 : qO S f 22 = St := by unfold qO; rw [h22]; rfl
  have l4 : (4 : Int32).toInt = 4 := li_4
  have j244 : ∀ v : Int32, ¬ v.toInt = 0 → w_watch_J244 (fun u => u = S) S v := fun v nz => by
    unfold w_watch_J244
    exact ⟨fun z => absurd z nz, fun _ => rfl⟩
  have j129 : ∀ v : Int32, ¬ v.toInt = 0 → ¬ 0 < (f_moved S (f_op S x)).toInt → w_watch_J129 (fun u => u = S) S x v := fun v v0 hm => by
    have w4 := w4 hm
    have tk := h.tk hx ht
    obtain ⟨k1, k2, k3, k4, k5⟩ := tk
    have L : ∀ (c : Nat) (v t k : Int32), ¬ v.toInt = 0 → (-1 ≤ k.toInt ∧ k.toInt < qN S (f_takesOf S x + 1)) → t.toInt = 1 + plS S (f_takesOf S x) - plc (qI S (f_takesOf S x + 1)) (k.toInt + 1).toNat → (k.toInt + 1).toNat < c → w_watch_L148 (fun u => u = S) c S v (f_takesOf S x) t k := by
      intro c
      induction c with
      | zero => intro v t k _ _ _ h9; exact absurd h9 (Nat.not_lt_zero _)
      | succ c ih =>
        intro v t k hv hk et hc
        unfold w_watch_L148
        refine ⟨fun _ => j244 v hv, fun q => ⟨fun _ => j244 v hv, fun nz => ?_⟩⟩
        have eT : tkV S x = plS S (f_takesOf S x) := by unfold tkV; rw [if_neg hm]
        have en : (k.toInt + 1).toNat = k.toInt.toNat + 1 := by omega
        have pk : plc (qI S (f_takesOf S x + 1)) (k.toInt.toNat + 1) = plc (qI S (f_takesOf S x + 1)) k.toInt.toNat + if (qI S (f_takesOf S x + 1) k.toInt.toNat).toInt = 74 then 2 else 1 := rfl
        have p0 := plc_ge (g := qI S (f_takesOf S x + 1)) k.toInt.toNat
        have up : plc (qI S (f_takesOf S x + 1)) (k.toInt.toNat + 1) ≤ plS S (f_takesOf S x) := by
          have u : ∀ (d m : Nat), plc (qI S (f_takesOf S x + 1)) m ≤ plc (qI S (f_takesOf S x + 1)) (m + d) := by
            intro d
            induction d with
            | zero => intro m; exact Int.le_refl _
            | succ d ih2 =>
              intro m
              have := ih2 m
              have e9 : plc (qI S (f_takesOf S x + 1)) (m + (d + 1)) = plc (qI S (f_takesOf S x + 1)) (m + d) + if (qI S (f_takesOf S x + 1) (m + d)).toInt = 74 then 2 else 1 := rfl
              rw [e9]
              split <;> omega
          have := u (qN S (f_takesOf S x + 1) - (k.toInt.toNat + 1)) (k.toInt.toNat + 1)
          rw [show k.toInt.toNat + 1 + (qN S (f_takesOf S x + 1) - (k.toInt.toNat + 1)) = qN S (f_takesOf S x + 1) by omega] at this
          exact this
        rw [en] at et
        have hl := k3 k.toInt.toNat (by omega)
        have ec : cAt S (f_takesOf S x) k = qI S (f_takesOf S x + 1) k.toInt.toNat := by
          unfold cAt
          exact (asc (by omega) (by omega)).2.2
        have lm : (Int32.ofInt (-1)).toInt = -1 := by decide
        have t1 : (t + (1 : Int32)).toInt = t.toInt + 1 := by rw [t_add (by rw [li_1]; omega), li_1]
        have nx : ∀ (v2 d : Int32), ¬ v2.toInt = 0 → (d.toInt = if (qI S (f_takesOf S x + 1) k.toInt.toNat).toInt = 74 then 2 else 1) → w_watch_J235 (fun u => u = S) (w_watch_L148 (fun u => u = S) c) S d t v2 (f_takesOf S x) k := fun v2 d v20 ed => by
          unfold w_watch_J235
          intro a29 e29 a30 e30
          have q30 : a30.toInt = k.toInt - 1 := by rw [e30, t_add (by rw [lm]; omega), lm]; omega
          have d2 : 1 ≤ d.toInt ∧ d.toInt ≤ 2 := by rw [ed]; split <;> omega
          refine ih v2 a29 a30 v20 ⟨by omega, by omega⟩ ?_ (by omega)
          rw [q30, show (k.toInt - 1 + 1).toNat = k.toInt.toNat by omega, e29, t_add (by omega), et, ed, pk]
          omega
        have j215 : ∀ v2 : Int32, ¬ v2.toInt = 0 → w_watch_J215 (fun u => u = S) (w_watch_L148 (fun u => u = S) c) S v2 (f_takesOf S x) t k := fun v2 v20 => by
          unfold w_watch_J215
          rw [ec]
          exact ⟨⟨by omega, by omega⟩, fun w => nx v2 2 v20 (by rw [if_pos w]; decide), fun w => nx v2 1 v20 (by rw [if_neg w]; decide)⟩
        rw [ec]
        have tp := w4 k.toInt.toNat (by omega)
        rw [eT] at tp
        refine ⟨⟨by omega, by omega⟩, fun w => ?_, fun w => ?_⟩
        · rw [if_pos w] at pk
          have tt := tp.2.1 w
          have g1 := f_tg (k := t) hF ⟨by omega, by omega⟩ hT.2
          have g2 := f_tg (k := t + 1) hF ⟨by omega, by omega⟩ hT.2
          rw [show 24 * fN S + fT S - t.toInt = 24 * fN S + fT S - plS S (f_takesOf S x) + plc (qI S (f_takesOf S x + 1)) k.toInt.toNat + 1 by omega] at g1
          rw [show 24 * fN S + fT S - (t + (1 : Int32)).toInt = 24 * fN S + fT S - plS S (f_takesOf S x) + plc (qI S (f_takesOf S x + 1)) k.toInt.toNat by omega] at g2
          refine ⟨d_tg hF ⟨by omega, by omega⟩ hT.2, fun _ => ⟨d_tg hF ⟨by omega, by omega⟩ hT.2, fun _ => j215 1 (by decide), fun z => ?_⟩, fun z => ?_⟩
          · rw [g2] at z; exact absurd tt.1 z
          · rw [g1] at z; exact absurd tt.2 z
        · rw [if_neg w] at pk
          have g1 := f_tg (k := t) hF ⟨by omega, by omega⟩ hT.2
          rw [show 24 * fN S + fT S - t.toInt = 24 * fN S + fT S - plS S (f_takesOf S x) + plc (qI S (f_takesOf S x + 1)) k.toInt.toNat by omega] at g1
          refine ⟨⟨by omega, by omega⟩, d_tg hF ⟨by omega, by omega⟩ hT.2, d_ag.2, j215 _ ?_⟩
          rw [g1]
          exact tp.tk (by omega)
    unfold w_watch_J129
    refine ⟨h.dtk hx, fun a21 e21 => ?_⟩
    have q : a21.toInt = qN S (f_takesOf S x + 1) - 1 := by rw [e21, t_sub (by rw [oN (by omega), li_1]; omega), oN (by omega), li_1]
    refine ⟨_, L _ v 1 a21 v0 ⟨by omega, by omega⟩ ?_ (Nat.lt_succ_self _)⟩
    rw [q, show ((qN S (f_takesOf S x + 1) : Int) - 1 + 1).toNat = qN S (f_takesOf S x + 1) by omega, li_1]
    unfold plS
    omega
  have j101 : ∀ v : Int32, ¬ v.toInt = 0 → w_watch_J101 (fun u => u = S) S x v := fun v v0 => by
    have bm := b_mv (S := S) (op := f_op S x)
    unfold w_watch_J101
    have eT : 0 < (f_moved S (f_op S x)).toInt → tkV S x = (f_moved S (f_op S x)).toInt := fun y => by unfold tkV; rw [if_pos y]
    refine ⟨fun c => absurd c v0, fun c => ⟨(h.dop hx).1, bm.2.2.2.2.1, fun q => j129 v v0 (by omega), fun q => ⟨(h.dop hx).1, d_mvb hF ?_ hT.2, fun a64 e64 => j244 a64 ?_⟩⟩⟩
    · have := eT (by omega)
      omega
    · have := eT (by omega)
      rw [e64]
      exact mvb hF ⟨by omega, by omega⟩ hT.2 (w3 (by omega))
  unfold w_watch
  intro a3 ea
  have s1 : (qI S 0 51 + x).toInt = (qI S 0 51).toInt + x.toInt := t_add (by omega)
  have s3 : a3.toInt = 4 * ((qI S 0 51).toInt + x.toInt) := by rw [ea, t_mul (by rw [l4, s1]; omega), l4, s1]
  have L41 : ∀ (c : Nat) (v k : Int32), ¬ v.toInt = 0 → (0 ≤ k.toInt ∧ k.toInt ≤ 24) → (24 - k.toInt).toNat < c → w_watch_L41 (fun u => u = S) c S x a3 v k := by
    intro c
    induction c with
    | zero => intro v k _ _ h9; exact absurd h9 (Nat.not_lt_zero _)
    | succ c ih =>
      intro v k v0 hk hc
      unfold w_watch_L41
      refine ⟨fun _ => j101 v v0, fun q => ⟨fun _ => j101 v v0, fun nz => ?_⟩⟩
      have e8 : (k / (8 : Int32)).toInt = k.toInt / 8 := by
        rw [Int32.toInt_div, li_8, Int.tdiv_eq_ediv_of_nonneg (by omega)]
        simp only [Int.bmod_def]
        omega
      have i1 : (a3 + (1 : Int32)).toInt = a3.toInt + 1 := by rw [t_add (by rw [li_1]; omega), li_1]
      have i2 : (a3 + (1 : Int32) + k / (8 : Int32)).toInt = a3.toInt + 1 + k.toInt / 8 := by rw [t_add (by rw [i1, e8]; omega), i1, e8]
      have sl : (f_slot S k).toInt = 24 * fN S + k.toInt := by
        unfold f_slot
        rw [t_add (by rw [e4]; omega), e4]
      have ek : (k + Int32.ofInt 1).toInt = k.toInt + 1 := by rw [t_add (by rw [lo_1]; omega), lo_1]
      rw [o80, o22, i2, sl]
      refine ⟨h80, h22, ⟨by omega, by omega⟩, trivial, ⟨by omega, by omega⟩, d_ag.1, fun a88 e88 a89 e89 => ?_⟩
      subst e89
      refine ih _ _ ?_ ⟨by omega, by omega⟩ (by omega)
      have m8 : (k - k / (8 : Int32) * (8 : Int32)).toInt = k.toInt % 8 := by
        have y : (k / (8 : Int32) * (8 : Int32)).toInt = k.toInt / 8 * 8 := by rw [t_mul (by rw [e8, li_8]; omega), e8, li_8]
        rw [t_sub (by rw [y]; omega), y]
        omega
      have em : k - k / (8 : Int32) * (8 : Int32) = Int32.ofNat (k.toInt.toNat % 8) := Int32.toInt_inj.mp (by rw [m8, oN (by omega)]; omega)
      have p1 := w1 (k.toInt.toNat / 8) (by omega)
      have ia : (a3.toInt + 1 + k.toInt / 8).toNat = (4 * ((qI S 0 51).toInt + x.toInt)).toNat + 1 + k.toInt.toNat / 8 := by omega
      have gt := pk_get (g := fun j => g (8 * (k.toInt.toNat / 8) + j)) (fun j hj => gr _ (by omega)) (j := k.toInt.toNat % 8) (by omega)
      have w2k := w2 k.toInt.toNat (by omega)
      rw [e88, ia, p1, em, gt, show (24 * fN S + k.toInt).toNat = 24 * (fN S).toNat + k.toInt.toNat by omega]
      have eg : g (8 * (k.toInt.toNat / 8) + k.toInt.toNat % 8) = g k.toInt.toNat := by rw [show 8 * (k.toInt.toNat / 8) + k.toInt.toNat % 8 = k.toInt.toNat by omega]
      show ¬ (f_agrees S (g (8 * (k.toInt.toNat / 8) + k.toInt.toNat % 8)) _).toInt = 0
      rw [eg]
      exact ag_sb w2k
  have j37 : ∀ v : Int32, ¬ v.toInt = 0 → w_watch_J37 (fun u => u = S) S v x a3 := fun v v0 => ⟨_, L41 _ v 0 v0 (by decide) (Nat.lt_succ_self _)⟩
  rw [o80, o22, e1]
  exact ⟨h80, h22, ⟨by omega, by omega⟩, ⟨e2, e3⟩, fun _ => j37 1 (by decide), fun z => absurd (by rw [s3, w0]; rfl) z⟩
/-! shuffle (behind sp_watch, mvP) -/
def plF (S : MS) (i : Nat) : Nat → TV := fun k => qW S 46 (24 * i + k)
def ShP (S : MS) (op : Int32) (d : Int) (u : MS) : Prop := frm [44, 46, 48] [] S u ∧ fT u = fT S + d ∧ (∀ j : Nat, j ≠ (fN S).toNat → qI u 44 j = qI S 44 j) ∧ mvP op (fT S) (plF S (fN S).toNat) (plF u (fN S).toNat) ∧ ∀ j : Nat, (j : Int) < 24 * fN S → qW u 46 j = qW S 46 j
theorem FrB.mv {S u : MS} (h : FrB S) {W : List Nat} (f : frm W [] S u) : FrB u ∧ fN u = fN S := by
  have e : qI u 0 97 = qI S 0 97 := (f.2.2.2.2.2 97 (by decide)).1
  unfold FrB fN
  rw [e]
  exact ⟨h, rfl⟩
theorem sp_shuffle {S : MS} {op : Int32} (h : FrB S) (ho : op.toInt = 89 ∨ op.toInt = 90 ∨ op.toInt = 92 ∨ op.toInt = 95) (hT : 1 ≤ fT S ∧ (op.toInt = 89 ∨ 2 ≤ fT S) ∧ fT S ≤ 24 ∧ (op.toInt = 92 → fT S ≤ 22) ∧ (op.toInt = 89 ∨ op.toInt = 90 → fT S ≤ 23)) : w_shuffle S op (ShP S op (if op.toInt = 89 ∨ op.toInt = 90 then 1 else if op.toInt = 92 then 2 else 0)) := by
  obtain ⟨e1, e2, e3, e4⟩ := h.e
  have l2 : (2 : Int32).toInt = 2 := by decide
  have eT : (qI S 44 (fN S).toNat).toInt = fT S := rfl
  unfold w_shuffle
  intro a2 ea
  have q2 : a2.toInt = fN S := by rw [ea]; exact e1
  rw [q2]
  refine ⟨⟨e2, e3⟩, fun a7 e7 => ?_⟩
  have q7 : a7.toInt = 24 * fN S + fT S := by
    rw [e7, ea, t_add (by rw [e4, eT]; omega), e4, eT]
  have i1 : (a7 - (1 : Int32)).toInt = 24 * fN S + fT S - 1 := by rw [t_sub (by rw [q7, li_1]; omega), q7, li_1]
  rw [i1]
  refine ⟨⟨by omega, by omega⟩, fun y ey => ⟨⟨by omega, by omega⟩, fun a15 e15 => ?_⟩⟩
  have ey' : (y, nb a15) = nW (plF S (fN S).toNat (fT S - 1).toNat) := by
    rw [ey, e15]
    unfold plF nW qW
    rw [show (24 * fN S + fT S - 1).toNat = 24 * (fN S).toNat + (fT S - 1).toNat by omega]
  have pos : ∀ (k : Nat) (t : Int), 0 ≤ t → (24 * (fN S).toNat + k = (24 * fN S + t).toNat ↔ (k : Int) = t) := fun k t h0 => by omega
  -- one value put onto V at height t
  have one : ∀ (V u : MS) (v : TV), frm [44, 46, 48] [] S V → PtP V v 1 u → 0 ≤ fT V → frm [44, 46, 48] [] S u ∧ fT u = fT V + 1 ∧ (∀ j : Nat, j ≠ (fN S).toNat → qI u 44 j = qI V 44 j) ∧ (∀ k : Nat, plF u (fN S).toNat k = if (k : Int) = fT V then v else plF V (fN S).toNat k) ∧ ∀ j : Nat, (j : Int) < 24 * fN S → qW u 46 j = qW V 46 j := fun V u v fV hp h0 => by
    have eN := (h.mv fV).2
    obtain ⟨p1, p2, p3, p4⟩ := hp
    rw [eN] at p2 p3
    refine ⟨fV.tr p1, by rw [p4, li_1], fun j hj => ?_, fun k => ?_, fun j hj => ?_⟩
    · rw [p3]
      unfold upd
      rw [if_neg hj]
    · unfold plF
      rw [p2]
      by_cases c : (k : Int) = fT V
      · rw [if_pos c, if_pos ((pos k _ h0).mpr c)]
      · rw [if_neg c, if_neg (fun q => c ((pos k _ h0).mp q)), if_neg (fun q => absurd q.1 (by decide))]
    · rw [p2, if_neg (by omega), if_neg (fun q => absurd q.1 (by decide))]
  refine ⟨fun c => ?_, fun c => ?_⟩
  · refine ⟨_, sp_putT h (Or.inl li_1) ⟨by omega, by rw [li_1]; have := hT.2.2.2.2 (Or.inl c); omega⟩, fun u hu => ?_⟩
    obtain ⟨o1, o2, o3, o4, o5⟩ := one S u _ frm.rf hu (by omega)
    refine ⟨o1, by rw [o2, if_pos (Or.inl c)], o3, ⟨fun q => by omega, fun q => by omega, fun _ => ⟨fun k hk => by rw [o4, if_neg (by omega)], ?_⟩, fun q => by omega, fun q => by omega, fun q => by omega⟩, o5⟩
    rw [o4, if_pos (by omega), ey']
  · have i2 : (a7 - (2 : Int32)).toInt = 24 * fN S + fT S - 2 := by rw [t_sub (by rw [q7, l2]; omega), q7, l2]
    have t2 : 2 ≤ fT S := by have := hT.2.1; omega
    rw [i2]
    refine ⟨⟨by omega, by omega⟩, fun x ex => ⟨⟨by omega, by omega⟩, fun a24 e24 => ?_⟩⟩
    have ex' : (x, nb a24) = nW (plF S (fN S).toNat (fT S - 2).toNat) := by
      rw [ex, e24]
      unfold plF nW qW
      rw [show (24 * fN S + fT S - 2).toNat = 24 * (fN S).toNat + (fT S - 2).toNat by omega]
    refine ⟨fun c2 => ?_, fun c2 => ?_⟩
    · have t22 := hT.2.2.2.1 c2
      refine ⟨_, sp_putT h (Or.inl li_1) ⟨by omega, by rw [li_1]; omega⟩, fun u hu => ?_⟩
      obtain ⟨o1, o2, o3, o4, o5⟩ := one S u _ frm.rf hu (by omega)
      refine ⟨_, sp_putT (h.mv o1).1 (Or.inl li_1) ⟨by omega, by rw [li_1]; omega⟩, fun w hw => ?_⟩
      obtain ⟨r1, r2, r3, r4, r5⟩ := one u w _ o1 hw (by omega)
      refine ⟨r1, by rw [r2, o2, if_neg (by omega), if_pos c2]; omega, fun j hj => by rw [r3 j hj, o3 j hj], ⟨fun q => by omega, fun q => by omega, fun q => by omega, fun q => by omega, fun _ => ⟨fun k hk => by rw [r4, if_neg (by omega), o4, if_neg (by omega)], ?_, ?_⟩, fun q => by omega⟩, fun j hj => by rw [r5 j hj, o5 j hj]⟩
      · rw [r4, if_neg (by omega), o4, if_pos (by omega), ex']
      · rw [r4, if_pos (by omega), ey']
    · refine ⟨⟨by omega, by omega⟩, fun A eA => ⟨⟨by omega, by omega⟩, fun B eB => ⟨⟨by omega, by omega⟩, fun C eC => ⟨⟨by omega, by omega⟩, fun D eD => ?_⟩⟩⟩⟩
      have fD : frm [44, 46, 48] [] S D := (show frm [44, 46, 48] [] S A by rw [eA]; exact frm.pJ (by decide)).tr ((show frm [44, 46, 48] [] A B by rw [eB]; exact frm.pI (by decide)).tr ((show frm [44, 46, 48] [] B C by rw [eC]; exact frm.pJ (by decide)).tr (by rw [eD]; exact frm.pI (by decide))))
      have d44 : qI D 44 = qI S 44 := by rw [eD, rdH (by decide), eC, qI_wJ, eB, rdH (by decide), eA, qI_wJ]
      have dj : ∀ j : Nat, qW D 46 j = if j = (24 * fN S + fT S - 1).toNat then (x, nb a24) else if j = (24 * fN S + fT S - 2).toNat then (y, nb a15) else qW S 46 j := fun j => by
        have dJ : qJ D 46 j = if j = (24 * fN S + fT S - 1).toNat then x else if j = (24 * fN S + fT S - 2).toNat then y else qJ S 46 j := by
          rw [eD, qJ_wI, eC, qJ_wJ, eB, qJ_wI, eA, qJ_wJ]
          by_cases z : j = (24 * fN S + fT S - 1).toNat
          · rw [if_pos ⟨rfl, z⟩, if_pos z]
          · rw [if_neg (fun q => z q.2), if_neg z]
            by_cases z2 : j = (24 * fN S + fT S - 2).toNat
            · rw [if_pos ⟨rfl, z2⟩, if_pos z2]
            · rw [if_neg (fun q => z2 q.2), if_neg z2]
        have dI : qI D 48 j = if j = (24 * fN S + fT S - 1).toNat then nb a24 else if j = (24 * fN S + fT S - 2).toNat then nb a15 else qI S 48 j := by
          rw [eD, qI_wI, eC, qI_wJ, eB, qI_wI, eA, qI_wJ]
          by_cases z : j = (24 * fN S + fT S - 1).toNat
          · rw [if_pos ⟨rfl, z⟩, if_pos z]; rfl
          · rw [if_neg (fun q => z q.2), if_neg z]
            by_cases z2 : j = (24 * fN S + fT S - 2).toNat
            · rw [if_pos ⟨rfl, z2⟩, if_pos z2]; rfl
            · rw [if_neg (fun q => z2 q.2), if_neg z2]
        unfold qW
        rw [dJ, show 46 + 2 = 48 from rfl, dI]
        by_cases z : j = (24 * fN S + fT S - 1).toNat
        · rw [if_pos z, if_pos z, if_pos z]
        · rw [if_neg z, if_neg z, if_neg z]
          by_cases z2 : j = (24 * fN S + fT S - 2).toNat
          · rw [if_pos z2, if_pos z2, if_pos z2]
          · rw [if_neg z2, if_neg z2, if_neg z2]
      have dT : fT D = fT S := by
        unfold fT
        rw [(h.mv fD).2, d44]
      have dp : ∀ k : Nat, plF D (fN S).toNat k = if (k : Int) = fT S - 1 then (x, nb a24) else if (k : Int) = fT S - 2 then (y, nb a15) else plF S (fN S).toNat k := fun k => by
        unfold plF
        rw [dj]
        by_cases z : (k : Int) = fT S - 1
        · rw [if_pos z, if_pos (by omega)]
        · rw [if_neg z, if_neg (by omega)]
          by_cases z2 : (k : Int) = fT S - 2
          · rw [if_pos z2, if_pos (by omega)]
          · rw [if_neg z2, if_neg (by omega)]
      have dl : ∀ j : Nat, (j : Int) < 24 * fN S → qW D 46 j = qW S 46 j := fun j hj => by rw [dj, if_neg (by omega), if_neg (by omega)]
      refine ⟨fun c0 => ?_, fun c0 => ?_⟩
      · have t23 := hT.2.2.2.2 (Or.inr c0)
        refine ⟨_, sp_putT (h.mv fD).1 (Or.inl li_1) ⟨by omega, by rw [li_1]; omega⟩, fun w hw => ?_⟩
        obtain ⟨r1, r2, r3, r4, r5⟩ := one D w _ fD hw (by omega)
        refine ⟨r1, by rw [r2, dT, if_pos (Or.inr c0)], fun j hj => by rw [r3 j hj, d44], ⟨fun q => by omega, fun q => by omega, fun q => by omega, fun _ => ⟨fun k hk => by rw [r4, if_neg (by omega), dp, if_neg (by omega), if_neg (by omega)], ?_, ?_, ?_⟩, fun q => by omega, fun q => by omega⟩, fun j hj => by rw [r5 j hj, dl j hj]⟩
        · rw [r4, if_neg (by omega), dp, if_neg (by omega), if_pos (by omega), ey']
        · rw [r4, if_neg (by omega), dp, if_pos (by omega), ex']
        · rw [r4, if_pos (by omega), ey']
      · refine ⟨fD, by rw [dT, if_neg (by omega), if_neg (by omega)]; omega, fun j hj => by rw [d44], ⟨fun q => by omega, fun q => by omega, fun q => by omega, fun q => by omega, fun q => by omega, fun _ => ⟨fun k hk => by rw [dp, if_neg (by omega), if_neg (by omega)], ?_, ?_⟩⟩, dl⟩
        · rw [dp, if_neg (by omega), if_pos (by omega), ey']
        · rw [dp, if_pos (by omega), ex']
/-! chosen, jump (behind sp_shuffle, LkI.ways) -/
theorem sp_chosen {S : MS} {x v : Int32} (h : LkI S) (hx : 0 ≤ x.toInt ∧ x.toInt < (qI S 0 52).toInt) (ho : (f_op S x).toInt = 170 ∨ (f_op S x).toInt = 171) : w_chosen S x v (fun r u => u = S ∧ ∃ k : Int32, 0 ≤ k.toInt ∧ k.toInt < (f_ways S x).toInt ∧ r = f_way S x k) := by
  obtain ⟨d1, d2, d3⟩ := h.dop hx
  obtain ⟨L, F, M, ts, la, lb, rv, -, -⟩ := h.rv hx
  have r49 := h.1.2.2.2.1
  obtain ⟨v1, v2, v3, -⟩ := rv
  obtain ⟨s1, s2, s3, s4, s5⟩ := v3 ho
  have l2 : (2 : Int32).toInt = 2 := by decide
  have ej : (f_isJump S (f_op S x)).toInt = 0 := by
    unfold f_isJump f_isJump_J14 f_isJump_J28
    rw [if_neg (by omega), if_neg (by omega), if_neg (by omega), if_neg (by omega)]; rfl
  have ew : (f_ways S x).toInt = (f_second S x).toInt + 1 := by
    unfold f_ways f_isSwitch f_isSwitch_J14
    rw [if_pos ej]
    by_cases c : (f_op S x).toInt = 170
    · rw [if_pos c, if_neg (by decide), t_add (by rw [li_1]; omega), li_1]
    · rw [if_neg c, if_pos (show (f_op S x).toInt = 171 by omega), if_neg (by decide), t_add (by rw [li_1]; omega), li_1]
  have fw : ∀ k : Int32, f_way S x k = qI S (qO S 0 49) (f_first S x + (2 : Int32) * k).toInt.toNat := fun k => by
    unfold f_way
    rw [if_pos ej]
  have Lp : ∀ (c : Nat) (k : Int32), (0 ≤ k.toInt ∧ k.toInt ≤ (f_second S x).toInt) → ((f_second S x).toInt - k.toInt).toNat < c → w_chosen_L2 (fun r u => u = S ∧ ∃ k : Int32, 0 ≤ k.toInt ∧ k.toInt < (f_ways S x).toInt ∧ r = f_way S x k) c S x v k := by
    intro c
    induction c with
    | zero => intro k _ h9; exact absurd h9 (Nat.not_lt_zero _)
    | succ c ih =>
      intro k hk hc
      have ek : (k + Int32.ofInt 1).toInt = k.toInt + 1 := by rw [t_add (by rw [lo_1]; omega), lo_1]
      have e2 : ((2 : Int32) * k).toInt = 2 * k.toInt := by rw [t_mul (by rw [l2]; omega), l2]
      have i1 : (f_first S x + (1 : Int32)).toInt = (f_first S x).toInt + 1 := by rw [t_add (by rw [li_1]; omega), li_1]
      have i2 : (f_first S x + (1 : Int32) + (2 : Int32) * k).toInt = (f_first S x).toInt + 1 + 2 * k.toInt := by rw [t_add (by rw [i1, e2]; omega), i1, e2]
      have j1 : (f_first S x + (2 : Int32)).toInt = (f_first S x).toInt + 2 := by rw [t_add (by rw [l2]; omega), l2]
      have j2 : (f_first S x + (2 : Int32) + (2 : Int32) * k).toInt = (f_first S x).toInt + 2 + 2 * k.toInt := by rw [t_add (by rw [j1, e2]; omega), j1, e2]
      unfold w_chosen_L2
      rw [i2, j2]
      refine ⟨d3, fun q => ⟨r49, d2, ⟨by omega, by omega⟩, rfl, 0, by decide, by rw [ew, li_0]; omega, ?_⟩, fun q => ⟨r49, d2, ⟨by omega, by omega⟩, fun _ => ⟨r49, d2, ⟨by omega, by omega⟩, rfl, k + Int32.ofInt 1, by omega, by omega, ?_⟩, fun _ a23 e23 => ?_⟩⟩
      · rw [fw]
        have z : (f_first S x + (2 : Int32) * (0 : Int32)).toInt = (f_first S x).toInt := by
          have z0 : ((2 : Int32) * (0 : Int32)).toInt = 0 := by decide
          rw [t_add (by rw [z0]; omega), z0]
          omega
        rw [z]
      · rw [fw]
        have z0 : ((2 : Int32) * (k + Int32.ofInt 1)).toInt = 2 * (k.toInt + 1) := by rw [t_mul (by rw [l2, ek]; omega), l2, ek]
        have z : (f_first S x + (2 : Int32) * (k + Int32.ofInt 1)).toInt = (f_first S x).toInt + 2 + 2 * k.toInt := by
          rw [t_add (by rw [z0]; omega), z0]
          omega
        rw [z]
      · subst e23
        exact ih _ ⟨by omega, by omega⟩ (by omega)
  exact ⟨_, Lp _ 0 ⟨by decide, by rw [li_0]; exact s2⟩ (Nat.lt_succ_self _)⟩
theorem d_so {S : MS} {a b c : Int32} : d_isSo S a b c := by
  unfold d_isSo d_isSo_J77 d_isSo_J48 d_isSo_J15 d_isSo_J87 d_isSo_J58 d_isSo_J24
  simp only [ite_self]
def JmP (S : MS) (x op to : Int32) (d : Int) (u : MS) : Prop := frm [43, 44] [] S u ∧ fT u = fT S - d ∧ (∀ j : Nat, j ≠ (fN S).toNat → qI u 44 j = qI S 44 j) ∧ (qI u 43 = upd (qI S 43) (fN S).toNat to ∨ (op.toInt ≠ 167 ∧ qI u 43 = upd (qI S 43) (fN S).toNat (x + 1)))
theorem sp_jump {S : MS} {x op to : Int32} (h : FrB S) (hT : (if op.toInt = 167 then 0 else if 159 ≤ op.toInt ∧ op.toInt ≤ 166 then 2 else 1) ≤ fT S ∧ fT S ≤ 24) : w_jump S x op to (JmP S x op to (if op.toInt = 167 then 0 else if 159 ≤ op.toInt ∧ op.toInt ≤ 166 then 2 else 1)) := by
  have fin : ∀ (U : MS) (g : Int32) (d : Int), frm [43, 44] [] S U → fT U = fT S - d → (∀ j : Nat, j ≠ (fN S).toNat → qI U 44 j = qI S 44 j) → qI U 43 = qI S 43 → (op.toInt = 167 → g.toInt ≠ 0) → w_jump_J180 (JmP S x op to d) U x to g := fun U g d fU uT u44 u43 hg => by
    have m := h.mv fU
    have go : ∀ t : Int32, (t = to ∨ (op.toInt ≠ 167 ∧ t = x + 1)) → ∃ Q3, w_goTo U t Q3 ∧ ∀ S4, Q3 S4 → JmP S x op to d S4 := fun t ht => by
      refine ⟨_, sp_goTo m.1, ?_⟩
      rintro u ⟨fu, e43⟩
      have i44 : qI u 44 = qI U 44 := (fu.2.2.2.2.1 44 (by decide) (by decide)).1
      refine ⟨fU.tr (fu.mo (by decide) (by decide)), ?_, fun j hj => by rw [i44]; exact u44 j hj, ?_⟩
      · rw [← uT]
        unfold fT
        rw [(m.1.mv fu).2, i44]
      · rw [e43, m.2, u43]
        rcases ht with q | ⟨q1, q⟩
        · exact Or.inl (by rw [q])
        · exact Or.inr ⟨q1, by rw [q]⟩
    unfold w_jump_J180
    exact ⟨fun c => go _ (Or.inr ⟨fun q => hg q c, rfl⟩), fun _ => go _ (Or.inl rfl)⟩
  have pull : ∀ (U : MS) (d : Int) (Q : Int64 → MS → Prop), frm [43, 44] [] S U → fT U = fT S - d → (∀ j : Nat, j ≠ (fN S).toNat → qI U 44 j = qI S 44 j) → qI U 43 = qI S 43 → 1 ≤ fT U → (∀ (r : Int64) (u : MS), frm [43, 44] [] S u → fT u = fT S - (d + 1) → (∀ j : Nat, j ≠ (fN S).toNat → qI u 44 j = qI S 44 j) → qI u 43 = qI S 43 → 1 = 1 → Q r u) → (0 ≤ d) → ∃ Q1, w_got U 1 Q1 ∧ ∀ r u, Q1 r u → Q r u := fun U d Q fU uT u44 u43 h1 hq d0 => by
    have m := h.mv fU
    refine ⟨_, sp_got m.1 ⟨by decide, by rw [li_1]; exact h1⟩ (by omega), ?_⟩
    rintro r u ⟨-, fu, e44, eT⟩
    rw [li_1] at eT
    refine hq r u (fU.tr (fu.mo (by decide) (by decide))) (by omega) (fun j hj => ?_) ?_ rfl
    · rw [e44, m.2]
      unfold upd
      rw [if_neg hj]
      exact u44 j hj
    · rw [(fu.2.2.2.2.1 43 (by decide) (by decide)).1, u43]
  have j74 : ¬ (159 ≤ op.toInt ∧ op.toInt ≤ 164) → w_jump_J74 (JmP S x op to (if op.toInt = 167 then 0 else if 159 ≤ op.toInt ∧ op.toInt ≤ 166 then 2 else 1)) S x op to 1 := fun hn => by
    have j88 : (op.toInt = 165 ∨ op.toInt = 166) → w_jump_J88 (JmP S x op to (if op.toInt = 167 then 0 else if 159 ≤ op.toInt ∧ op.toInt ≤ 166 then 2 else 1)) S x op to := fun q => by
      rw [if_neg (show ¬ op.toInt = 167 by omega), if_pos (show 159 ≤ op.toInt ∧ op.toInt ≤ 166 by omega)] at hT ⊢
      unfold w_jump_J88
      refine pull S 0 _ frm.rf (by omega) (fun _ _ => rfl) rfl (by omega) (fun r10 A fA tA a44 a43 _ => ?_) (by decide)
      refine pull A 1 _ fA (by omega) a44 a43 (by omega) (fun r14 B fB tB b44 b43 _ => ?_) (by decide)
      have f2 := fun g => fin B g 2 fB (by omega) b44 b43 (fun z => by omega)
      have k123 : ∀ a b : Int32, w_jump_J123 (JmP S x op to 2) B a b x to := fun a b => by
        unfold w_jump_J123 w_jump_J131
        exact ⟨fun _ => f2 1, fun _ => f2 0⟩
      unfold w_jump_J111
      exact ⟨fun _ => ⟨fun _ => k123 _ _, fun _ => k123 _ _⟩, fun _ => ⟨fun _ => k123 _ _, fun _ => k123 _ _⟩⟩
    unfold w_jump_J74
    refine ⟨fun c => j88 (Or.inl c), fun c1 => ⟨fun c => j88 (Or.inr c), fun c2 => ⟨fun c => ?_, fun c3 => ?_⟩⟩⟩
    · rw [if_pos c]
      exact fin S 1 0 frm.rf (by omega) (fun _ _ => rfl) rfl (fun _ => by decide)
    · rw [if_neg c3, if_neg (show ¬ (159 ≤ op.toInt ∧ op.toInt ≤ 166) by omega)] at hT ⊢
      refine pull S 0 _ frm.rf (by omega) (fun _ _ => rfl) rfl (by omega) (fun r25 B fB tB b44 b43 _ => ?_) (by decide)
      have f2 := fun g => fin B g 1 fB (by omega) b44 b43 (fun z => absurd z c3)
      have k170 : ∀ a b : Int32, w_jump_J170 (JmP S x op to 1) B a b x to := fun a b => by
        unfold w_jump_J170 w_jump_J178
        exact ⟨fun _ => f2 1, fun _ => f2 0⟩
      unfold w_jump_J158
      exact ⟨fun _ => ⟨fun _ => k170 _ _, fun _ => k170 _ _⟩, fun _ => ⟨fun _ => k170 _ _, fun _ => k170 _ _⟩⟩
  have j42 : ¬ (159 ≤ op.toInt ∧ op.toInt ≤ 164) → w_jump_J42 (JmP S x op to (if op.toInt = 167 then 0 else if 159 ≤ op.toInt ∧ op.toInt ≤ 166 then 2 else 1)) S x op to 1 := fun hn => by
    unfold w_jump_J42 w_gotInt
    refine ⟨fun _ => j74 hn, fun c1 => ⟨fun _ => j74 hn, fun c2 => ?_⟩⟩
    rw [if_neg (show ¬ op.toInt = 167 by omega), if_neg (show ¬ (159 ≤ op.toInt ∧ op.toInt ≤ 166) by omega)] at hT ⊢
    refine ⟨fun _ u => frm [43, 44] [] S u ∧ fT u = fT S - 1 ∧ (∀ j : Nat, j ≠ (fN S).toNat → qI u 44 j = qI S 44 j) ∧ qI u 43 = qI S 43, pull S 0 (fun _ u => frm [43, 44] [] S u ∧ fT u = fT S - 1 ∧ (∀ j : Nat, j ≠ (fN S).toNat → qI u 44 j = qI S 44 j) ∧ qI u 43 = qI S 43) frm.rf (by omega) (fun _ _ => rfl) rfl (by omega) (fun r u a b c d _ => ⟨a, by omega, c, d⟩) (by decide), ?_⟩
    rintro r B ⟨fB, tB, b44, b43⟩
    exact ⟨d_so, fun a42 _ => fin B a42 1 fB tB b44 b43 (fun z => by omega)⟩
  unfold w_jump w_gotInt
  refine ⟨fun c => j42 (by omega), fun c1 => ⟨fun c => j42 (by omega), fun c2 => ?_⟩⟩
  rw [if_neg (show ¬ op.toInt = 167 by omega), if_pos (show 159 ≤ op.toInt ∧ op.toInt ≤ 166 by omega)] at hT ⊢
  refine ⟨fun _ u => frm [43, 44] [] S u ∧ fT u = fT S - 1 ∧ (∀ j : Nat, j ≠ (fN S).toNat → qI u 44 j = qI S 44 j) ∧ qI u 43 = qI S 43, pull S 0 (fun _ u => frm [43, 44] [] S u ∧ fT u = fT S - 1 ∧ (∀ j : Nat, j ≠ (fN S).toNat → qI u 44 j = qI S 44 j) ∧ qI u 43 = qI S 43) frm.rf (by omega) (fun _ _ => rfl) rfl (by omega) (fun r u a b c d _ => ⟨a, by omega, c, d⟩) (by decide), ?_⟩
  rintro r A ⟨fA, tA, a44, a43⟩
  refine ⟨fun _ u => frm [43, 44] [] S u ∧ fT u = fT S - 2 ∧ (∀ j : Nat, j ≠ (fN S).toNat → qI u 44 j = qI S 44 j) ∧ qI u 43 = qI S 43, pull A 1 (fun _ u => frm [43, 44] [] S u ∧ fT u = fT S - 2 ∧ (∀ j : Nat, j ≠ (fN S).toNat → qI u 44 j = qI S 44 j) ∧ qI u 43 = qI S 43) fA (by omega) a44 a43 (by omega) (fun r u a b c d _ => ⟨a, by omega, c, d⟩) (by decide), ?_⟩
  rintro r2 B ⟨fB, tB, b44, b43⟩
  exact ⟨d_so, fun a57 _ => fin B a57 2 fB tB b44 b43 (fun z => by omega)⟩
/-! what is looked at, by what it hangs on (behind sp_jump, smL.tv, VmI.st) -/
def smM (S u : MS) : Prop := ((∀ a : Nat, okH S a → sm5 S u a) ∧ ∀ a : Nat, 92 < a → qT S a = 11 → sm7 S u a) ∧ (∀ j : Nat, 47 ≤ j → j ≤ 50 → qR u 0 j = qR S 0 j) ∧ ∀ j : Nat, 51 ≤ j → j ≤ 54 → qI u 0 j = qI S 0 j
theorem smM.qo {S u : MS} (h : smM S u) {j : Nat} (h0 : 47 ≤ j) (h1 : j ≤ 50) : qO u 0 j = qO S 0 j := by unfold qO; rw [h.2.1 j h0 h1]
theorem smM.pl {S u : MS} (h : smM S u) {s : Nat} (hs : okH S (s + 1)) : plS u s = plS S s := by
  unfold plS
  rw [(h.1.1 (s + 1) hs).1, (h.1.1 (s + 1) hs).2.2.2.2]
theorem smM.op {S u : MS} (h : smM S u) (k : LkI S) (x : Int32) : f_op u x = f_op S x ∧ f_first u x = f_first S x ∧ f_second u x = f_second S x := by
  unfold f_op f_first f_second
  rw [h.qo (j := 48) (by decide) (by decide), h.2.2 51 (by decide) (by decide), (h.1.1 _ k.1.1.2.1).1]
  exact ⟨rfl, rfl, rfl⟩
theorem smM.cw {S u : MS} (h : smM S u) (k : LkI S) (c w : Int32) : f_catchWord u c w = f_catchWord S c w := by
  unfold f_catchWord
  rw [h.qo (j := 50) (by decide) (by decide), h.2.2 53 (by decide) (by decide), (h.1.1 _ k.1.1.2.2.2).1]
theorem smM.ic {S u : MS} (h : smM S u) (k : LkI S) (x c : Int32) : f_isCaught u x c = f_isCaught S x c := by
  unfold f_isCaught f_isCaught_J24
  rw [h.cw k, h.cw k]
theorem smM.wy {S u : MS} (h : smM S u) (k : LkI S) (x c : Int32) : f_ways u x = f_ways S x ∧ f_way u x c = f_way S x c := by
  unfold f_ways f_way
  rw [(h.op k x).1, (h.op k x).2.1, (h.op k x).2.2, h.qo (j := 49) (by decide) (by decide), (h.1.1 _ k.1.1.2.2.1).1]
  exact ⟨rfl, rfl⟩
theorem smM.own {S u : MS} (h : smM S u) (k : LkI S) : (∀ j : Nat, qO u (qO u (qO u 0 47) 7) j = qO S (qO S (qO S 0 47) 7) j) ∧ (∀ j : Nat, qO u (qO u (qO u 0 47) 10) j = qO S (qO S (qO S 0 47) 10) j) ∧ ∀ j : Nat, qO u (qO u (qO u 0 47) 11) j = qO S (qO S (qO S 0 47) 11) j := by
  obtain ⟨⟨⟨n1, -⟩, -⟩, L, F, M, nc, ts, cn, -, -, -, -, g, -⟩ := k
  have e : qO u 0 47 = qO S 0 47 := h.qo (by decide) (by decide)
  have z : ∀ i : Nat, i ≠ 22 → qO u (qO S 0 47) i = qO S (qO S 0 47) i := fun i hi => by
    show (qR u (qO S 0 47) i).getD 0 = (qR S (qO S 0 47) i).getD 0
    rw [(h.1.2 _ n1.1.1 n1.1.2).2.1 i hi]
  have q7 : qO S (qO S 0 47) 7 = qO S 0 47 + 3 := by show (qR S (qO S 0 47) 7).getD 0 = _; rw [g.1]; rfl
  have q10 : qO S (qO S 0 47) 10 = qO S 0 47 + 6 := by show (qR S (qO S 0 47) 10).getD 0 = _; rw [g.2.1]; rfl
  have q11 : qO S (qO S 0 47) 11 = qO S 0 47 + 7 := by show (qR S (qO S 0 47) 11).getD 0 = _; rw [g.2.2]; rfl
  rw [e, z 7 (by decide), z 10 (by decide), z 11 (by decide), q7, q10, q11]
  refine ⟨fun j => ?_, fun j => ?_, fun j => ?_⟩
  · show (qR u (qO S 0 47 + 3) j).getD 0 = (qR S (qO S 0 47 + 3) j).getD 0
    rw [(h.1.1 (qO S 0 47 + 3) n1.2.1).2.2.1]
  · show (qR u (qO S 0 47 + 6) j).getD 0 = (qR S (qO S 0 47 + 6) j).getD 0
    rw [(h.1.1 (qO S 0 47 + 6) n1.2.2.1).2.2.1]
  · show (qR u (qO S 0 47 + 7) j).getD 0 = (qR S (qO S 0 47 + 7) j).getD 0
    rw [(h.1.1 (qO S 0 47 + 7) n1.2.2.2).2.2.1]
theorem smM.tg {S u : MS} (h : smM S u) (k : LkI S) (x : Int32) : f_takesOf u x = f_takesOf S x ∧ f_givesOf u x = f_givesOf S x := by
  obtain ⟨o1, o2, o3⟩ := h.own k
  have e1 := (h.op k x).1
  have e2 := (h.op k x).2.1
  constructor
  · unfold f_takesOf
    rw [e1]
    generalize f_op S x = op
    have j : f_takesOf_J111 u x op = f_takesOf_J111 S x op := by unfold f_takesOf_J111; rw [e2, o1, o2]
    unfold f_takesOf_J18 f_takesOf_J31 f_takesOf_J47 f_takesOf_J75 f_takesOf_J93
    rw [j]
  · unfold f_givesOf
    rw [e1]
    generalize f_op S x = op
    have j : f_givesOf_J47 u x op = f_givesOf_J47 S x op := by unfold f_givesOf_J47; rw [e2, o1, o3]
    unfold f_givesOf_J18 f_givesOf_J31
    rw [j]
theorem smM.tv {S u : MS} (h : smM S u) (k : LkI S) (t : TxI S) {x : Int32} (hx : 0 ≤ x.toInt ∧ x.toInt < (qI S 0 52).toInt) : tkV u x = tkV S x ∧ gvV u x = gvV S x ∧ ∀ y : Int, hbV u x y = hbV S x y := by
  have e1 := (h.op k x).1
  have a := (h.tg k x).1
  have b := (h.tg k x).2
  have m1 : tkV u x = tkV S x := by
    unfold tkV
    rw [e1, a, h.pl (k.tk hx t).1]
    rfl
  have m2 : gvV u x = gvV S x := by
    unfold gvV
    rw [e1, b, h.pl (k.gv hx t).1]
    rfl
  refine ⟨m1, m2, fun y => ?_⟩
  unfold hbV
  rw [m1, m2]
/-- a checked method that is looked at: U has its types -/
theorem VmA.mm {S u : MS} {f m : Nat} (h : VmA S f m) (hf : frm [] [47, 48, 49, 50, 51, 52, 53, 54] S u) (hl : LoP S f m u) : ∃ (U : MS) (s p : Nat), qR S (f + 6) m = some s ∧ qR S (f + 7) m = some p ∧ LkI U ∧ TxI U ∧ VmI U s p ∧ (0 ≤ (qI U 0 56).toInt ∧ (qI U 0 56).toInt ≤ 24) ∧ smM U u := by
  obtain ⟨U, s, p, h1, h2, h3, h4, h5, h6, h7, h8, h9, -⟩ := h
  refine ⟨U, s, p, h1, h2, h4, h6, h5, h7, ⟨fun a ha => ?_, fun a ha hb => ?_⟩, fun j a b => ?_, fun j a b => ?_⟩
  · have q := hf.2.2.2.2.1 a (by have := ha.1; omega) (by simp)
    have z := h8 a ha
    exact ⟨q.1.trans z.1, q.2.1.trans z.2.1, q.2.2.trans z.2.2.1, by rw [hf.1]; exact z.2.2.2.1, by rw [hf.2.1]; exact z.2.2.2.2⟩
  · have q := hf.2.2.2.2.1 a (by omega) (by simp)
    have z := h9 a ha hb
    exact ⟨fun j hj => by rw [q.1]; exact z.1 j hj, fun j hj => by rw [q.2.2]; exact z.2.1 j hj, by rw [hf.1]; exact z.2.2.1, by rw [hf.2.1]; exact z.2.2.2⟩
  · obtain ⟨⟨a1, a2, a3, a4⟩, -⟩ := h3
    obtain ⟨⟨b1, b2, b3, b4⟩, -⟩ := hl
    have : j = 47 ∨ j = 48 ∨ j = 49 ∨ j = 50 := by omega
    rcases this with e | e | e | e <;> subst e
    · rw [a1, b1]
    · rw [a2, b2]
    · rw [a3, b3]
    · rw [a4, b4]
  · obtain ⟨-, a1, a2, a3, a4⟩ := h3
    obtain ⟨-, b1, b2, b3, b4⟩ := hl
    have : j = 51 ∨ j = 52 ∨ j = 53 ∨ j = 54 := by omega
    rcases this with e | e | e | e <;> subst e
    · rw [a1, b1]
    · rw [a2, b2]
    · rw [a3, b3]
    · rw [a4, b4]
