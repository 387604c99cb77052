/-! the machine's small methods (behind wk_mval, fr_got) -/
def fN (S : MS) : Int := (qI S 0 97).toInt - 1
def fT (S : MS) : Int := (qI S 44 (fN S).toNat).toInt
def FrB (S : MS) : Prop := 1 ≤ (qI S 0 97).toInt ∧ (qI S 0 97).toInt ≤ 60
theorem FrB.e {S : MS} (h : FrB S) : (qI S 0 97 - (1 : Int32)).toInt = fN S ∧ 0 ≤ fN S ∧ fN S < 60 ∧ ((24 : Int32) * (qI S 0 97 - (1 : Int32))).toInt = 24 * fN S := by
  have q : (qI S 0 97 - (1 : Int32)).toInt = fN S := by
    obtain ⟨a, b⟩ := h
    rw [t_sub (by rw [li_1]; omega), li_1]
    rfl
  have n : 0 ≤ fN S ∧ fN S < 60 := by
    unfold fN
    obtain ⟨a, b⟩ := h
    omega
  refine ⟨q, n.1, n.2, ?_⟩
  rw [t_mul (by rw [li_24, q]; omega), li_24, q]
theorem sp_goTo {S : MS} {x : Int32} (h : FrB S) : w_goTo S x (fun u => frm [43] [] S u ∧ qI u 43 = upd (qI S 43) (fN S).toNat x) := by
  obtain ⟨e1, e2, e3, e4⟩ := h.e
  unfold w_goTo
  rw [e1]
  refine ⟨⟨e2, e3⟩, fun A eA => ?_⟩
  rw [eA]
  exact ⟨frm.pI (by decide), qI_self⟩
theorem sp_got {S : MS} {n : Int32} (h : FrB S) (hn : 1 ≤ n.toInt ∧ n.toInt ≤ fT S) (hT : fT S ≤ 24) : w_got S n (fun r u => r = qJ S 46 (24 * fN S + fT S - n.toInt).toNat ∧ frm [44] [] S u ∧ qI u 44 = upd (qI S 44) (fN S).toNat (qI S 44 (fN S).toNat - n) ∧ fT u = fT S - n.toInt) := by
  obtain ⟨e1, e2, e3, e4⟩ := h.e
  have eT : (qI S 44 (fN S).toNat - n).toInt = fT S - n.toInt := by
    unfold fT at hn hT ⊢
    exact t_sub (by omega)
  unfold w_got
  intro a2 ea
  have q : a2.toInt = fN S := by rw [ea]; exact e1
  have q4 : ((24 : Int32) * a2).toInt = 24 * fN S := by rw [ea]; exact e4
  rw [q]
  refine ⟨⟨e2, e3⟩, ⟨e2, e3⟩, fun A eA => ?_⟩
  have a44 : qI A 44 = upd (qI S 44) (fN S).toNat (qI S 44 (fN S).toNat - n) := by rw [eA]; exact qI_self
  have aT' : qI A 44 (fN S).toNat = qI S 44 (fN S).toNat - n := by rw [a44]; unfold upd; rw [if_pos rfl]
  have j46 : qJ A 46 = qJ S 46 := by rw [eA]; rfl
  have i97 : qI A 0 97 = qI S 0 97 := by rw [eA, rdH (by decide)]
  have fA : fN A = fN S := by unfold fN; rw [i97]
  have ix : ((24 : Int32) * a2 + qI A 44 (fN S).toNat).toInt = 24 * fN S + fT S - n.toInt := by
    rw [aT', t_add (by rw [q4, eT]; omega), q4, eT]
    omega
  rw [ix, j46]
  refine ⟨⟨e2, e3⟩, ⟨by omega, by omega⟩, rfl, by rw [eA]; exact frm.pI (by decide), a44, ?_⟩
  unfold fT
  rw [fA, aT', eT]
  rfl
/-- a value is put -/
def PtP (S : MS) (v : Int64) (n : Int32) (u : MS) : Prop := frm [44, 46, 48] [] S u ∧ (∀ j : Nat, qJ u 46 j = if j = (24 * fN S + fT S).toNat then v else qJ S 46 j) ∧ qI u 44 = upd (qI S 44) (fN S).toNat (qI S 44 (fN S).toNat + n) ∧ fT u = fT S + n.toInt
theorem sp_putT {S : MS} {v : Int64} {t n : Int32} (h : FrB S) (hn : n.toInt = 1 ∨ n.toInt = 2) (hT : 0 ≤ fT S ∧ fT S + n.toInt ≤ 24) : w_putTagged S v t n (PtP S v n) := by
  obtain ⟨e1, e2, e3, e4⟩ := h.e
  have eT : (qI S 44 (fN S).toNat + n).toInt = fT S + n.toInt := by
    unfold fT at hT ⊢
    exact t_add (by omega)
  have ix : ((24 : Int32) * (qI S 0 97 - 1) + qI S 44 (fN S).toNat).toInt = 24 * fN S + fT S := by
    have : (qI S 44 (fN S).toNat).toInt = fT S := rfl
    rw [t_add (by rw [e4, this]; omega), e4, this]
  unfold w_putTagged
  rw [e1]
  refine ⟨⟨e2, e3⟩, fun a7 e7 => ?_⟩
  have q7 : a7.toInt = 24 * fN S + fT S := by rw [e7]; exact ix
  have q8 : (a7 + (1 : Int32)).toInt = 24 * fN S + fT S + 1 := by rw [t_add (by rw [q7, li_1]; omega), q7, li_1]
  have fin : ∀ U : MS, frm [44, 46, 48] [] S U → qI U 44 = qI S 44 → qJ U 46 = qJ (wJ S 46 a7.toInt.toNat v) 46 → w_putTagged_J55 (PtP S v n) U n := fun U fU u44 u46 => by
    have i97 : qI U 0 97 = qI S 0 97 := (fU.2.2.2.2.2 97 (by decide)).1
    unfold w_putTagged_J55
    rw [i97, e1]
    refine ⟨⟨e2, e3⟩, ⟨e2, e3⟩, fun A eA => ?_⟩
    have a44 : qI A 44 = upd (qI S 44) (fN S).toNat (qI S 44 (fN S).toNat + n) := by rw [eA, qI_self, u44]
    have fA : fN A = fN S := by
      unfold fN
      rw [eA, rdH (by decide), i97]
    refine ⟨fU.tr (by rw [eA]; exact frm.pI (by decide)), fun j => ?_, a44, ?_⟩
    · have : qJ A 46 = qJ U 46 := by rw [eA]; rfl
      rw [this, u46, qJ_wJ, q7]
      by_cases c : j = (24 * fN S + fT S).toNat
      · rw [if_pos c, if_pos ⟨rfl, c⟩]
      · rw [if_neg c, if_neg (fun q => c q.2)]
    · unfold fT
      rw [fA, a44]
      unfold upd
      rw [if_pos rfl, eT]
      rfl
  refine ⟨⟨by omega, by omega⟩, fun A eA => ⟨⟨by omega, by omega⟩, fun B eB => ?_⟩⟩
  have fA : frm [44, 46, 48] [] S A := by rw [eA]; exact frm.pJ (by decide)
  have fB : frm [44, 46, 48] [] S B := fA.tr (by rw [eB]; exact frm.pI (by decide))
  have b44 : qI B 44 = qI S 44 := by rw [eB, rdH (by decide), eA]; rfl
  have b46 : qJ B 46 = qJ (wJ S 46 a7.toInt.toNat v) 46 := by rw [eB, eA]; rfl
  refine ⟨fun c => ⟨⟨by omega, by omega⟩, fun C eC => ?_⟩, fun c => fin B fB b44 b46⟩
  exact fin C (fB.tr (by rw [eC]; exact frm.pI (by decide))) (by rw [eC, rdH (by decide), b44]) (by rw [eC]; exact b46)
theorem sp_putI {S : MS} {v : Int32} (h : FrB S) (hT : 0 ≤ fT S ∧ fT S + 1 ≤ 24) : w_putInt S v (PtP S v.toInt64 1) := by
  unfold w_putInt
  exact ⟨_, sp_putT h (Or.inl li_1) ⟨hT.1, by rw [li_1]; exact hT.2⟩, fun u hu => hu⟩
theorem sp_putV {S : MS} {v : Int64} {n : Int32} (h : FrB S) (hn : n.toInt = 1 ∨ n.toInt = 2) (hT : 0 ≤ fT S ∧ fT S + n.toInt ≤ 24) : w_put S v n (PtP S v n) := by
  have d : d_thingTag S v := by
    unfold d_thingTag
    simp
  unfold w_put
  exact ⟨fun _ => ⟨_, sp_putT h hn hT, fun u hu => hu⟩, fun _ => ⟨d, _, sp_putT h hn hT, fun u hu => hu⟩⟩
/-! enter (behind sp_putT, fr_enter) -/
def EnP (S : MS) (m : Int32) (u : MS) : Prop := frm [42, 43, 44, 45, 47] [97] S u ∧ (qI u 0 97).toInt = (qI S 0 97).toInt + 1 ∧ qI u 42 = upd (qI S 42) (qI S 0 97).toInt.toNat m ∧ qI u 43 = upd (qI S 43) (qI S 0 97).toInt.toNat 0 ∧ qI u 44 = upd (qI S 44) (qI S 0 97).toInt.toNat 0 ∧ ∀ j : Nat, qJ u 45 j = if 24 * (qI S 0 97).toInt ≤ (j : Int) ∧ (j : Int) < 24 * (qI S 0 97).toInt + 24 then 0 else qJ S 45 j
theorem sp_enter {S : MS} {m : Int32} (h : 0 ≤ (qI S 0 97).toInt ∧ (qI S 0 97).toInt < 60) : w_enter S m (EnP S m) := by
  have L : ∀ (c : Nat) (U : MS) (k : Int32), (0 ≤ k.toInt ∧ k.toInt ≤ 24) → frm [42, 43, 44, 45, 47] [97] S U → qI U 0 97 = qI S 0 97 → (qI U 42 = upd (qI S 42) (qI S 0 97).toInt.toNat m ∧ qI U 43 = upd (qI S 43) (qI S 0 97).toInt.toNat 0 ∧ qI U 44 = upd (qI S 44) (qI S 0 97).toInt.toNat 0) → (∀ j : Nat, qJ U 45 j = if 24 * (qI S 0 97).toInt ≤ (j : Int) ∧ (j : Int) < 24 * (qI S 0 97).toInt + k.toInt then 0 else qJ S 45 j) → (24 - k.toInt).toNat < c → w_enter_L32 (EnP S m) c U k := by
    intro c
    induction c with
    | zero => intro U k _ _ _ _ _ h9; exact absurd h9 (Nat.not_lt_zero _)
    | succ c ih =>
      intro U k hk fU u97 ur u45 hc
      have ek : (k + Int32.ofInt 1).toInt = k.toInt + 1 := by rw [t_add (by rw [lo_1]; omega), lo_1]
      have em : ((24 : Int32) * qI S 0 97).toInt = 24 * (qI S 0 97).toInt := by rw [t_mul (by rw [li_24]; omega), li_24]
      have ix : ((24 : Int32) * qI S 0 97 + k).toInt = 24 * (qI S 0 97).toInt + k.toInt := by rw [t_add (by rw [em]; omega), em]
      unfold w_enter_L32
      rw [u97]
      refine ⟨fun q A eA => ?_, fun q => ?_⟩
      · have e24 : k.toInt = 24 := by omega
        refine ⟨fU.tr (by rw [eA]; exact frm.pI0 (by decide)), ?_, by rw [eA, rdH (by decide)]; exact ur.1, by rw [eA, rdH (by decide)]; exact ur.2.1, by rw [eA, rdH (by decide)]; exact ur.2.2, fun j => ?_⟩
        · rw [eA, qI_wI, if_pos ⟨rfl, rfl⟩, t_add (by rw [li_1]; omega), li_1]
        · have : qJ A 45 = qJ U 45 := by rw [eA]; rfl
          rw [this, u45, e24]
      · rw [ix]
        refine ⟨⟨by omega, by omega⟩, fun A eA => ?_⟩
        have a97 : qI A 0 97 = qI S 0 97 := by rw [eA]; exact u97
        rw [a97, ix]
        refine ⟨⟨by omega, by omega⟩, fun B eB a18 e18 => ?_⟩
        subst e18
        refine ih B _ ⟨by omega, by omega⟩ (fU.tr ((show frm [42, 43, 44, 45, 47] [97] U A by rw [eA]; exact frm.pJ (by decide)).tr (by rw [eB]; exact frm.pI (by decide)))) (by rw [eB, rdH (by decide), a97]) ?_ (fun j => ?_) (by omega)
        · rw [eB, rdH (by decide), rdH (by decide), rdH (by decide), eA]
          exact ur
        · have : qJ B 45 = qJ A 45 := by rw [eB]; rfl
          rw [this, eA, qJ_wJ, u45, ek]
          by_cases c1 : j = (24 * (qI S 0 97).toInt + k.toInt).toNat
          · rw [if_pos ⟨rfl, c1⟩, if_pos ⟨by omega, by omega⟩]
          · rw [if_neg (fun w => c1 w.2)]
            by_cases c2 : 24 * (qI S 0 97).toInt ≤ (j : Int) ∧ (j : Int) < 24 * (qI S 0 97).toInt + k.toInt
            · rw [if_pos c2, if_pos ⟨c2.1, by omega⟩]
            · rw [if_neg c2, if_neg (fun w => c2 ⟨w.1, by omega⟩)]
  unfold w_enter
  refine ⟨h, fun A eA => ?_⟩
  have a97 : qI A 0 97 = qI S 0 97 := by rw [eA, rdH (by decide)]
  rw [a97]
  refine ⟨h, fun B eB => ?_⟩
  have b97 : qI B 0 97 = qI S 0 97 := by rw [eB, rdH (by decide), a97]
  rw [b97]
  refine ⟨h, fun C eC => ?_⟩
  have c97 : qI C 0 97 = qI S 0 97 := by rw [eC, rdH (by decide), b97]
  refine ⟨_, L _ C 0 (by decide) ?_ c97 ⟨?_, ?_, ?_⟩ (fun j => ?_) (Nat.lt_succ_self _)⟩
  · exact (show frm [42, 43, 44, 45, 47] [97] S A by rw [eA]; exact frm.pI (by decide)).tr ((show frm [42, 43, 44, 45, 47] [97] A B by rw [eB]; exact frm.pI (by decide)).tr (by rw [eC]; exact frm.pI (by decide)))
  · rw [eC, rdH (by decide), eB, rdH (by decide), eA, qI_self]
  · rw [eC, rdH (by decide), eB, qI_self, eA, rdH (by decide)]
  · rw [eC, qI_self, eB, rdH (by decide), eA, rdH (by decide)]
  · rw [li_0, if_neg (by omega)]
    rw [eC, eB, eA]
    rfl
/-! watch (behind sp_enter, sp_got) -/
theorem d_ag {S : MS} {a b : Int32} : d_agrees S a b ∧ d_isTaken S a b := by
  unfold d_agrees d_agrees_J10 d_agrees_J21 d_agrees_J36 d_isTaken d_isTaken_J34 d_isTaken_J45 d_isTaken_J49
  simp only [ite_self]
  exact ⟨trivial, trivial⟩
theorem d_tg {S : MS} {k : Int32} (h : FrB S) (hk : 1 ≤ k.toInt ∧ k.toInt ≤ fT S) (hT : fT S ≤ 24) : d_tagAt S k := by
  obtain ⟨e1, e2, e3, e4⟩ := h.e
  have eT : (qI S 44 (fN S).toNat).toInt = fT S := rfl
  have i1 : ((24 : Int32) * (qI S 0 97 - (1 : Int32)) + qI S 44 (fN S).toNat).toInt = 24 * fN S + fT S := by rw [t_add (by rw [e4, eT]; omega), e4, eT]
  have i2 : ((24 : Int32) * (qI S 0 97 - (1 : Int32)) + qI S 44 (fN S).toNat - k).toInt = 24 * fN S + fT S - k.toInt := by rw [t_sub (by rw [i1]; omega), i1]
  unfold d_tagAt
  rw [e1, i2]
  exact ⟨⟨e2, e3⟩, ⟨by omega, by omega⟩, trivial⟩
theorem d_mvb {S : MS} {op : Int32} (h : FrB S) (hk : 1 ≤ (f_moved S op).toInt ∧ (f_moved S op).toInt ≤ fT S) (hT : fT S ≤ 24) : d_isMovable S op := by
  have d1 : d_tagAt S 1 := d_tg h ⟨by decide, by rw [li_1]; omega⟩ hT
  have l2 : (2 : Int32).toInt = 2 := by decide
  have m := mvn (S := S) (op := op)
  have bm := b_mv (S := S) (op := op)
  have d2 : ¬ (f_moved S op).toInt = 1 → d_tagAt S 2 := fun q => d_tg h ⟨by decide, by rw [l2]; omega⟩ hT
  have j35 : ∀ t : Int32, d_isMovable_J35 S t op := fun t => by
    unfold d_isMovable_J35 d_isMovable_J74 d_isMovable_J70
    by_cases c : t.toInt = 0
    · rw [if_pos c]
      refine ⟨d1, f_on.2, ?_⟩
      by_cases c2 : (f_isOne S (f_tagAt S (1 : Int32))).toInt = 0
      · rw [if_pos c2]; trivial
      · rw [if_neg c2]
        refine ⟨bm.2.2.2.2.1, ?_⟩
        by_cases c3 : (f_moved S op).toInt = 1
        · rw [if_pos c3]; trivial
        · rw [if_neg c3, ite_self]
          exact ⟨d2 c3, f_on.2, trivial⟩
    · rw [if_neg c]; trivial
  have j12 : (op.toInt = 88 ∨ op.toInt = 92) → d_isMovable_J12 S op := fun q => by
    have m2 := m.2 (by omega)
    unfold d_isMovable_J12
    refine ⟨d1, ?_⟩
    by_cases c : (f_tagAt S (1 : Int32)).toInt = 3
    · rw [if_pos c]
      refine ⟨d2 (by omega), ?_⟩
      by_cases c2 : (f_tagAt S (2 : Int32)).toInt = 2
      · rw [if_pos c2]; exact j35 1
      · rw [if_neg c2]; exact j35 0
    · rw [if_neg c]; exact j35 0
  unfold d_isMovable
  by_cases c : op.toInt = 88
  · rw [if_pos c]; exact j12 (Or.inl c)
  · rw [if_neg c]
    by_cases c2 : op.toInt = 92
    · rw [if_pos c2]; exact j12 (Or.inr c2)
    · rw [if_neg c2]; exact j35 0
theorem sp_watch {S : MS} {x : Int32} {f St : Nat} (h : LkI S) (ht : TxI S) (hF : FrB S) (hx : 0 ≤ x.toInt ∧ x.toInt < (qI S 0 52).toInt) (hT : tkV S x ≤ fT S ∧ fT S ≤ 24) (h80 : qR S 0 80 = some f) (h22 : qR S f 22 = some St) (h51 : 0 ≤ (qI S 0 51).toInt ∧ (qI S 0 51).toInt ≤ 28800 ∧ 4 * ((qI S 0 51).toInt + x.toInt) + 4 ≤ (qN S St : Int)) : w_watch S x (fun u => frm [] [96] S u) := by
  have cn := h.cnt
  obtain ⟨e1, e2, e3, e4⟩ := hF.e
  have o80 : qO S 0 80 = f := by unfold qO; rw [h80]; rfl
  have o22 : qO S f 22 = St := by unfold qO; rw [h22]; rfl
  have l4 : (4 : Int32).toInt = 4 := li_4
  have j244 : ∀ v : Int32, w_watch_J244 (fun u => frm [] [96] S u) S v := fun v => by
    unfold w_watch_J244
    exact ⟨fun _ A eA => by rw [eA]; exact frm.pI0 (by decide), fun _ => frm.rf⟩
  have j129 : ∀ v : Int32, (v.toInt = 0 ∨ ¬ 0 < (f_moved S (f_op S x)).toInt) → w_watch_J129 (fun u => frm [] [96] S u) S x v := fun v hv => by
    have tk := h.tk hx ht
    obtain ⟨k1, k2, k3, k4, k5⟩ := tk
    have L : ∀ (c : Nat) (v t k : Int32), (v.toInt = 0 ∨ ¬ 0 < (f_moved S (f_op S x)).toInt) → (-1 ≤ k.toInt ∧ k.toInt < qN S (f_takesOf S x + 1)) → t.toInt = 1 + plS S (f_takesOf S x) - plc (qI S (f_takesOf S x + 1)) (k.toInt + 1).toNat → (k.toInt + 1).toNat < c → w_watch_L148 (fun u => frm [] [96] S u) c S v (f_takesOf S x) t k := by
      intro c
      induction c with
      | zero => intro v t k _ _ _ h9; exact absurd h9 (Nat.not_lt_zero _)
      | succ c ih =>
        intro v t k hv hk et hc
        unfold w_watch_L148
        refine ⟨fun _ => j244 v, fun q => ⟨fun _ => j244 v, fun nz => ?_⟩⟩
        have hm : ¬ 0 < (f_moved S (f_op S x)).toInt := by rcases hv with w | w; exact absurd w nz; exact w
        have eT : tkV S x = plS S (f_takesOf S x) := by unfold tkV; rw [if_neg hm]
        have en : (k.toInt + 1).toNat = k.toInt.toNat + 1 := by omega
        have pk : plc (qI S (f_takesOf S x + 1)) (k.toInt.toNat + 1) = plc (qI S (f_takesOf S x + 1)) k.toInt.toNat + if (qI S (f_takesOf S x + 1) k.toInt.toNat).toInt = 74 then 2 else 1 := rfl
        have p0 := plc_ge (g := qI S (f_takesOf S x + 1)) k.toInt.toNat
        have up : plc (qI S (f_takesOf S x + 1)) (k.toInt.toNat + 1) ≤ plS S (f_takesOf S x) := by
          have u : ∀ (d m : Nat), plc (qI S (f_takesOf S x + 1)) m ≤ plc (qI S (f_takesOf S x + 1)) (m + d) := by
            intro d
            induction d with
            | zero => intro m; exact Int.le_refl _
            | succ d ih2 =>
              intro m
              have := ih2 m
              have e9 : plc (qI S (f_takesOf S x + 1)) (m + (d + 1)) = plc (qI S (f_takesOf S x + 1)) (m + d) + if (qI S (f_takesOf S x + 1) (m + d)).toInt = 74 then 2 else 1 := rfl
              rw [e9]
              split <;> omega
          have := u (qN S (f_takesOf S x + 1) - (k.toInt.toNat + 1)) (k.toInt.toNat + 1)
          rw [show k.toInt.toNat + 1 + (qN S (f_takesOf S x + 1) - (k.toInt.toNat + 1)) = qN S (f_takesOf S x + 1) by omega] at this
          exact this
        rw [en] at et
        have hl := k3 k.toInt.toNat (by omega)
        have ec : cAt S (f_takesOf S x) k = qI S (f_takesOf S x + 1) k.toInt.toNat := by
          unfold cAt
          exact (asc (by omega) (by omega)).2.2
        have lm : (Int32.ofInt (-1)).toInt = -1 := by decide
        have t1 : (t + (1 : Int32)).toInt = t.toInt + 1 := by rw [t_add (by rw [li_1]; omega), li_1]
        have nx : ∀ (v2 d : Int32), (d.toInt = if (qI S (f_takesOf S x + 1) k.toInt.toNat).toInt = 74 then 2 else 1) → w_watch_J235 (fun u => frm [] [96] S u) (w_watch_L148 (fun u => frm [] [96] S u) c) S d t v2 (f_takesOf S x) k := fun v2 d ed => by
          unfold w_watch_J235
          intro a29 e29 a30 e30
          have q30 : a30.toInt = k.toInt - 1 := by rw [e30, t_add (by rw [lm]; omega), lm]; omega
          have d2 : 1 ≤ d.toInt ∧ d.toInt ≤ 2 := by rw [ed]; split <;> omega
          refine ih v2 a29 a30 (Or.inr hm) ⟨by omega, by omega⟩ ?_ (by omega)
          rw [q30, show (k.toInt - 1 + 1).toNat = k.toInt.toNat by omega, e29, t_add (by omega), et, ed, pk]
          omega
        have j215 : ∀ v2 : Int32, w_watch_J215 (fun u => frm [] [96] S u) (w_watch_L148 (fun u => frm [] [96] S u) c) S v2 (f_takesOf S x) t k := fun v2 => by
          unfold w_watch_J215
          rw [ec]
          exact ⟨⟨by omega, by omega⟩, fun w => nx v2 2 (by rw [if_pos w]; decide), fun w => nx v2 1 (by rw [if_neg w]; decide)⟩
        rw [ec]
        refine ⟨⟨by omega, by omega⟩, fun w => ?_, fun w => ?_⟩
        · rw [if_pos w] at pk
          refine ⟨d_tg hF ⟨by omega, by omega⟩ hT.2, fun _ => ⟨d_tg hF ⟨by omega, by omega⟩ hT.2, fun _ => j215 1, fun _ => ?_⟩, fun _ => ?_⟩
          · unfold w_watch_J195; exact j215 0
          · unfold w_watch_J195; exact j215 0
        · rw [if_neg w] at pk
          exact ⟨⟨by omega, by omega⟩, d_tg hF ⟨by omega, by omega⟩ hT.2, d_ag.2, j215 _⟩
    unfold w_watch_J129
    refine ⟨h.dtk hx, fun a21 e21 => ?_⟩
    have q : a21.toInt = qN S (f_takesOf S x + 1) - 1 := by rw [e21, t_sub (by rw [oN (by omega), li_1]; omega), oN (by omega), li_1]
    refine ⟨_, L _ v 1 a21 hv ⟨by omega, by omega⟩ ?_ (Nat.lt_succ_self _)⟩
    rw [q, show ((qN S (f_takesOf S x + 1) : Int) - 1 + 1).toNat = qN S (f_takesOf S x + 1) by omega, li_1]
    unfold plS
    omega
  have j101 : ∀ v : Int32, w_watch_J101 (fun u => frm [] [96] S u) S x v := fun v => by
    have bm := b_mv (S := S) (op := f_op S x)
    unfold w_watch_J101
    refine ⟨fun c => j129 v (Or.inl c), fun c => ⟨(h.dop hx).1, bm.2.2.2.2.1, fun q => j129 v (Or.inr (by omega)), fun q => ⟨(h.dop hx).1, d_mvb hF ?_ hT.2, fun a64 _ => j244 a64⟩⟩⟩
    have eT : tkV S x = (f_moved S (f_op S x)).toInt := by unfold tkV; rw [if_pos (by omega)]
    omega
  unfold w_watch
  intro a3 ea
  have s1 : (qI S 0 51 + x).toInt = (qI S 0 51).toInt + x.toInt := t_add (by omega)
  have s3 : a3.toInt = 4 * ((qI S 0 51).toInt + x.toInt) := by rw [ea, t_mul (by rw [l4, s1]; omega), l4, s1]
  have L41 : ∀ (c : Nat) (v k : Int32), (0 ≤ k.toInt ∧ k.toInt ≤ 24) → (24 - k.toInt).toNat < c → w_watch_L41 (fun u => frm [] [96] S u) c S x a3 v k := by
    intro c
    induction c with
    | zero => intro v k _ h9; exact absurd h9 (Nat.not_lt_zero _)
    | succ c ih =>
      intro v k hk hc
      unfold w_watch_L41
      refine ⟨fun _ => j101 v, fun q => ⟨fun _ => j101 v, fun nz => ?_⟩⟩
      have e8 : (k / (8 : Int32)).toInt = k.toInt / 8 := by
        rw [Int32.toInt_div, li_8, Int.tdiv_eq_ediv_of_nonneg (by omega)]
        simp only [Int.bmod_def]
        omega
      have i1 : (a3 + (1 : Int32)).toInt = a3.toInt + 1 := by rw [t_add (by rw [li_1]; omega), li_1]
      have i2 : (a3 + (1 : Int32) + k / (8 : Int32)).toInt = a3.toInt + 1 + k.toInt / 8 := by rw [t_add (by rw [i1, e8]; omega), i1, e8]
      have sl : (f_slot S k).toInt = 24 * fN S + k.toInt := by
        unfold f_slot
        rw [t_add (by rw [e4]; omega), e4]
      have ek : (k + Int32.ofInt 1).toInt = k.toInt + 1 := by rw [t_add (by rw [lo_1]; omega), lo_1]
      rw [o80, o22, i2, sl]
      refine ⟨h80, h22, ⟨by omega, by omega⟩, trivial, ⟨by omega, by omega⟩, d_ag.1, fun a88 _ a89 e89 => ?_⟩
      subst e89
      exact ih _ _ ⟨by omega, by omega⟩ (by omega)
  have j37 : ∀ v : Int32, w_watch_J37 (fun u => frm [] [96] S u) S v x a3 := fun v => ⟨_, L41 _ v 0 (by decide) (Nat.lt_succ_self _)⟩
  rw [o80, o22, e1]
  exact ⟨h80, h22, ⟨by omega, by omega⟩, ⟨e2, e3⟩, fun _ => j37 1, fun _ => j37 0⟩
/-! shuffle (behind sp_watch, mvP) -/
def plF (S : MS) (i : Nat) : Nat → Int64 := fun k => qJ S 46 (24 * i + k)
def ShP (S : MS) (op : Int32) (d : Int) (u : MS) : Prop := frm [44, 46, 48] [] S u ∧ fT u = fT S + d ∧ (∀ j : Nat, j ≠ (fN S).toNat → qI u 44 j = qI S 44 j) ∧ mvP op (fT S) (plF S (fN S).toNat) (plF u (fN S).toNat) ∧ ∀ j : Nat, (j : Int) < 24 * fN S → qJ u 46 j = qJ S 46 j
theorem FrB.mv {S u : MS} (h : FrB S) {W : List Nat} (f : frm W [] S u) : FrB u ∧ fN u = fN S := by
  have e : qI u 0 97 = qI S 0 97 := (f.2.2.2.2.2 97 (by decide)).1
  unfold FrB fN
  rw [e]
  exact ⟨h, rfl⟩
theorem sp_shuffle {S : MS} {op : Int32} (h : FrB S) (ho : op.toInt = 89 ∨ op.toInt = 90 ∨ op.toInt = 92 ∨ op.toInt = 95) (hT : 1 ≤ fT S ∧ (op.toInt = 89 ∨ 2 ≤ fT S) ∧ fT S ≤ 24 ∧ (op.toInt = 92 → fT S ≤ 22) ∧ (op.toInt = 89 ∨ op.toInt = 90 → fT S ≤ 23)) : w_shuffle S op (ShP S op (if op.toInt = 89 ∨ op.toInt = 90 then 1 else if op.toInt = 92 then 2 else 0)) := by
  obtain ⟨e1, e2, e3, e4⟩ := h.e
  have l2 : (2 : Int32).toInt = 2 := by decide
  have eT : (qI S 44 (fN S).toNat).toInt = fT S := rfl
  unfold w_shuffle
  intro a2 ea
  have q2 : a2.toInt = fN S := by rw [ea]; exact e1
  rw [q2]
  refine ⟨⟨e2, e3⟩, fun a7 e7 => ?_⟩
  have q7 : a7.toInt = 24 * fN S + fT S := by
    rw [e7, ea, t_add (by rw [e4, eT]; omega), e4, eT]
  have i1 : (a7 - (1 : Int32)).toInt = 24 * fN S + fT S - 1 := by rw [t_sub (by rw [q7, li_1]; omega), q7, li_1]
  rw [i1]
  refine ⟨⟨by omega, by omega⟩, fun y ey => ⟨⟨by omega, by omega⟩, fun a15 _ => ?_⟩⟩
  have ey' : y = plF S (fN S).toNat (fT S - 1).toNat := by
    rw [ey]
    unfold plF
    rw [show (24 * fN S + fT S - 1).toNat = 24 * (fN S).toNat + (fT S - 1).toNat by omega]
  have pos : ∀ (k : Nat) (t : Int), 0 ≤ t → (24 * (fN S).toNat + k = (24 * fN S + t).toNat ↔ (k : Int) = t) := fun k t h0 => by omega
  -- one value put onto V at height t
  have one : ∀ (V u : MS) (v : Int64), frm [44, 46, 48] [] S V → PtP V v 1 u → 0 ≤ fT V → frm [44, 46, 48] [] S u ∧ fT u = fT V + 1 ∧ (∀ j : Nat, j ≠ (fN S).toNat → qI u 44 j = qI V 44 j) ∧ (∀ k : Nat, plF u (fN S).toNat k = if (k : Int) = fT V then v else plF V (fN S).toNat k) ∧ ∀ j : Nat, (j : Int) < 24 * fN S → qJ u 46 j = qJ V 46 j := fun V u v fV hp h0 => by
    have eN := (h.mv fV).2
    obtain ⟨p1, p2, p3, p4⟩ := hp
    rw [eN] at p2 p3
    refine ⟨fV.tr p1, by rw [p4, li_1], fun j hj => ?_, fun k => ?_, fun j hj => ?_⟩
    · rw [p3]
      unfold upd
      rw [if_neg hj]
    · unfold plF
      rw [p2]
      by_cases c : (k : Int) = fT V
      · rw [if_pos c, if_pos ((pos k _ h0).mpr c)]
      · rw [if_neg c, if_neg (fun q => c ((pos k _ h0).mp q))]
    · rw [p2, if_neg (by omega)]
  refine ⟨fun c => ?_, fun c => ?_⟩
  · refine ⟨_, sp_putT h (Or.inl li_1) ⟨by omega, by rw [li_1]; have := hT.2.2.2.2 (Or.inl c); omega⟩, fun u hu => ?_⟩
    obtain ⟨o1, o2, o3, o4, o5⟩ := one S u y frm.rf hu (by omega)
    refine ⟨o1, by rw [o2, if_pos (Or.inl c)], o3, ⟨fun q => by omega, fun q => by omega, fun _ => ⟨fun k hk => by rw [o4, if_neg (by omega)], ?_⟩, fun q => by omega, fun q => by omega, fun q => by omega⟩, o5⟩
    rw [o4, if_pos (by omega), ey']
  · have i2 : (a7 - (2 : Int32)).toInt = 24 * fN S + fT S - 2 := by rw [t_sub (by rw [q7, l2]; omega), q7, l2]
    have t2 : 2 ≤ fT S := by have := hT.2.1; omega
    rw [i2]
    refine ⟨⟨by omega, by omega⟩, fun x ex => ⟨⟨by omega, by omega⟩, fun a24 _ => ?_⟩⟩
    have ex' : x = plF S (fN S).toNat (fT S - 2).toNat := by
      rw [ex]
      unfold plF
      rw [show (24 * fN S + fT S - 2).toNat = 24 * (fN S).toNat + (fT S - 2).toNat by omega]
    refine ⟨fun c2 => ?_, fun c2 => ?_⟩
    · have t22 := hT.2.2.2.1 c2
      refine ⟨_, sp_putT h (Or.inl li_1) ⟨by omega, by rw [li_1]; omega⟩, fun u hu => ?_⟩
      obtain ⟨o1, o2, o3, o4, o5⟩ := one S u x frm.rf hu (by omega)
      refine ⟨_, sp_putT (h.mv o1).1 (Or.inl li_1) ⟨by omega, by rw [li_1]; omega⟩, fun w hw => ?_⟩
      obtain ⟨r1, r2, r3, r4, r5⟩ := one u w y o1 hw (by omega)
      refine ⟨r1, by rw [r2, o2, if_neg (by omega), if_pos c2]; omega, fun j hj => by rw [r3 j hj, o3 j hj], ⟨fun q => by omega, fun q => by omega, fun q => by omega, fun q => by omega, fun _ => ⟨fun k hk => by rw [r4, if_neg (by omega), o4, if_neg (by omega)], ?_, ?_⟩, fun q => by omega⟩, fun j hj => by rw [r5 j hj, o5 j hj]⟩
      · rw [r4, if_neg (by omega), o4, if_pos (by omega), ex']
      · rw [r4, if_pos (by omega), ey']
    · refine ⟨⟨by omega, by omega⟩, fun A eA => ⟨⟨by omega, by omega⟩, fun B eB => ⟨⟨by omega, by omega⟩, fun C eC => ⟨⟨by omega, by omega⟩, fun D eD => ?_⟩⟩⟩⟩
      have fD : frm [44, 46, 48] [] S D := (show frm [44, 46, 48] [] S A by rw [eA]; exact frm.pJ (by decide)).tr ((show frm [44, 46, 48] [] A B by rw [eB]; exact frm.pI (by decide)).tr ((show frm [44, 46, 48] [] B C by rw [eC]; exact frm.pJ (by decide)).tr (by rw [eD]; exact frm.pI (by decide))))
      have d44 : qI D 44 = qI S 44 := by rw [eD, rdH (by decide), eC, qI_wJ, eB, rdH (by decide), eA, qI_wJ]
      have dj : ∀ j : Nat, qJ D 46 j = if j = (24 * fN S + fT S - 1).toNat then x else if j = (24 * fN S + fT S - 2).toNat then y else qJ S 46 j := fun j => by
        rw [eD, qJ_wI, eC, qJ_wJ, eB, qJ_wI, eA, qJ_wJ]
        by_cases z : j = (24 * fN S + fT S - 1).toNat
        · rw [if_pos ⟨rfl, z⟩, if_pos z]
        · rw [if_neg (fun q => z q.2), if_neg z]
          by_cases z2 : j = (24 * fN S + fT S - 2).toNat
          · rw [if_pos ⟨rfl, z2⟩, if_pos z2]
          · rw [if_neg (fun q => z2 q.2), if_neg z2]
      have dT : fT D = fT S := by
        unfold fT
        rw [(h.mv fD).2, d44]
      have dp : ∀ k : Nat, plF D (fN S).toNat k = if (k : Int) = fT S - 1 then x else if (k : Int) = fT S - 2 then y else plF S (fN S).toNat k := fun k => by
        unfold plF
        rw [dj]
        by_cases z : (k : Int) = fT S - 1
        · rw [if_pos z, if_pos (by omega)]
        · rw [if_neg z, if_neg (by omega)]
          by_cases z2 : (k : Int) = fT S - 2
          · rw [if_pos z2, if_pos (by omega)]
          · rw [if_neg z2, if_neg (by omega)]
      have dl : ∀ j : Nat, (j : Int) < 24 * fN S → qJ D 46 j = qJ S 46 j := fun j hj => by rw [dj, if_neg (by omega), if_neg (by omega)]
      refine ⟨fun c0 => ?_, fun c0 => ?_⟩
      · have t23 := hT.2.2.2.2 (Or.inr c0)
        refine ⟨_, sp_putT (h.mv fD).1 (Or.inl li_1) ⟨by omega, by rw [li_1]; omega⟩, fun w hw => ?_⟩
        obtain ⟨r1, r2, r3, r4, r5⟩ := one D w y fD hw (by omega)
        refine ⟨r1, by rw [r2, dT, if_pos (Or.inr c0)], fun j hj => by rw [r3 j hj, d44], ⟨fun q => by omega, fun q => by omega, fun q => by omega, fun _ => ⟨fun k hk => by rw [r4, if_neg (by omega), dp, if_neg (by omega), if_neg (by omega)], ?_, ?_, ?_⟩, fun q => by omega, fun q => by omega⟩, fun j hj => by rw [r5 j hj, dl j hj]⟩
        · rw [r4, if_neg (by omega), dp, if_neg (by omega), if_pos (by omega), ey']
        · rw [r4, if_neg (by omega), dp, if_pos (by omega), ex']
        · rw [r4, if_pos (by omega), ey']
      · refine ⟨fD, by rw [dT, if_neg (by omega), if_neg (by omega)]; omega, fun j hj => by rw [d44], ⟨fun q => by omega, fun q => by omega, fun q => by omega, fun q => by omega, fun q => by omega, fun _ => ⟨fun k hk => by rw [dp, if_neg (by omega), if_neg (by omega)], ?_, ?_⟩⟩, dl⟩
        · rw [dp, if_neg (by omega), if_pos (by omega), ey']
        · rw [dp, if_pos (by omega), ex']
/-! chosen, jump (behind sp_shuffle, LkI.ways) -/
theorem sp_chosen {S : MS} {x v : Int32} (h : LkI S) (hx : 0 ≤ x.toInt ∧ x.toInt < (qI S 0 52).toInt) (ho : (f_op S x).toInt = 170 ∨ (f_op S x).toInt = 171) : w_chosen S x v (fun r u => u = S ∧ ∃ k : Int32, 0 ≤ k.toInt ∧ k.toInt < (f_ways S x).toInt ∧ r = f_way S x k) := by
  obtain ⟨d1, d2, d3⟩ := h.dop hx
  obtain ⟨L, F, M, ts, la, lb, rv, -, -⟩ := h.rv hx
  have r49 := h.1.2.2.2.1
  obtain ⟨v1, v2, v3, -⟩ := rv
  obtain ⟨s1, s2, s3, s4, s5⟩ := v3 ho
  have l2 : (2 : Int32).toInt = 2 := by decide
  have ej : (f_isJump S (f_op S x)).toInt = 0 := by
    unfold f_isJump f_isJump_J14 f_isJump_J28
    rw [if_neg (by omega), if_neg (by omega), if_neg (by omega), if_neg (by omega)]; rfl
  have ew : (f_ways S x).toInt = (f_second S x).toInt + 1 := by
    unfold f_ways f_isSwitch f_isSwitch_J14
    rw [if_pos ej]
    by_cases c : (f_op S x).toInt = 170
    · rw [if_pos c, if_neg (by decide), t_add (by rw [li_1]; omega), li_1]
    · rw [if_neg c, if_pos (show (f_op S x).toInt = 171 by omega), if_neg (by decide), t_add (by rw [li_1]; omega), li_1]
  have fw : ∀ k : Int32, f_way S x k = qI S (qO S 0 49) (f_first S x + (2 : Int32) * k).toInt.toNat := fun k => by
    unfold f_way
    rw [if_pos ej]
  have Lp : ∀ (c : Nat) (k : Int32), (0 ≤ k.toInt ∧ k.toInt ≤ (f_second S x).toInt) → ((f_second S x).toInt - k.toInt).toNat < c → w_chosen_L2 (fun r u => u = S ∧ ∃ k : Int32, 0 ≤ k.toInt ∧ k.toInt < (f_ways S x).toInt ∧ r = f_way S x k) c S x v k := by
    intro c
    induction c with
    | zero => intro k _ h9; exact absurd h9 (Nat.not_lt_zero _)
    | succ c ih =>
      intro k hk hc
      have ek : (k + Int32.ofInt 1).toInt = k.toInt + 1 := by rw [t_add (by rw [lo_1]; omega), lo_1]
      have e2 : ((2 : Int32) * k).toInt = 2 * k.toInt := by rw [t_mul (by rw [l2]; omega), l2]
      have i1 : (f_first S x + (1 : Int32)).toInt = (f_first S x).toInt + 1 := by rw [t_add (by rw [li_1]; omega), li_1]
      have i2 : (f_first S x + (1 : Int32) + (2 : Int32) * k).toInt = (f_first S x).toInt + 1 + 2 * k.toInt := by rw [t_add (by rw [i1, e2]; omega), i1, e2]
      have j1 : (f_first S x + (2 : Int32)).toInt = (f_first S x).toInt + 2 := by rw [t_add (by rw [l2]; omega), l2]
      have j2 : (f_first S x + (2 : Int32) + (2 : Int32) * k).toInt = (f_first S x).toInt + 2 + 2 * k.toInt := by rw [t_add (by rw [j1, e2]; omega), j1, e2]
      unfold w_chosen_L2
      rw [i2, j2]
      refine ⟨d3, fun q => ⟨r49, d2, ⟨by omega, by omega⟩, rfl, 0, by decide, by rw [ew, li_0]; omega, ?_⟩, fun q => ⟨r49, d2, ⟨by omega, by omega⟩, fun _ => ⟨r49, d2, ⟨by omega, by omega⟩, rfl, k + Int32.ofInt 1, by omega, by omega, ?_⟩, fun _ a23 e23 => ?_⟩⟩
      · rw [fw]
        have z : (f_first S x + (2 : Int32) * (0 : Int32)).toInt = (f_first S x).toInt := by
          have z0 : ((2 : Int32) * (0 : Int32)).toInt = 0 := by decide
          rw [t_add (by rw [z0]; omega), z0]
          omega
        rw [z]
      · rw [fw]
        have z0 : ((2 : Int32) * (k + Int32.ofInt 1)).toInt = 2 * (k.toInt + 1) := by rw [t_mul (by rw [l2, ek]; omega), l2, ek]
        have z : (f_first S x + (2 : Int32) * (k + Int32.ofInt 1)).toInt = (f_first S x).toInt + 2 + 2 * k.toInt := by
          rw [t_add (by rw [z0]; omega), z0]
          omega
        rw [z]
      · subst e23
        exact ih _ ⟨by omega, by omega⟩ (by omega)
  exact ⟨_, Lp _ 0 ⟨by decide, by rw [li_0]; exact s2⟩ (Nat.lt_succ_self _)⟩
theorem d_so {S : MS} {a b c : Int32} : d_isSo S a b c := by
  unfold d_isSo d_isSo_J77 d_isSo_J48 d_isSo_J15 d_isSo_J87 d_isSo_J58 d_isSo_J24
  simp only [ite_self]
def JmP (S : MS) (x op to : Int32) (d : Int) (u : MS) : Prop := frm [43, 44] [] S u ∧ fT u = fT S - d ∧ (∀ j : Nat, j ≠ (fN S).toNat → qI u 44 j = qI S 44 j) ∧ (qI u 43 = upd (qI S 43) (fN S).toNat to ∨ (op.toInt ≠ 167 ∧ qI u 43 = upd (qI S 43) (fN S).toNat (x + 1)))
theorem sp_jump {S : MS} {x op to : Int32} (h : FrB S) (hT : (if op.toInt = 167 then 0 else if 159 ≤ op.toInt ∧ op.toInt ≤ 166 then 2 else 1) ≤ fT S ∧ fT S ≤ 24) : w_jump S x op to (JmP S x op to (if op.toInt = 167 then 0 else if 159 ≤ op.toInt ∧ op.toInt ≤ 166 then 2 else 1)) := by
  have fin : ∀ (U : MS) (g : Int32) (d : Int), frm [43, 44] [] S U → fT U = fT S - d → (∀ j : Nat, j ≠ (fN S).toNat → qI U 44 j = qI S 44 j) → qI U 43 = qI S 43 → (op.toInt = 167 → g.toInt ≠ 0) → w_jump_J180 (JmP S x op to d) U x to g := fun U g d fU uT u44 u43 hg => by
    have m := h.mv fU
    have go : ∀ t : Int32, (t = to ∨ (op.toInt ≠ 167 ∧ t = x + 1)) → ∃ Q3, w_goTo U t Q3 ∧ ∀ S4, Q3 S4 → JmP S x op to d S4 := fun t ht => by
      refine ⟨_, sp_goTo m.1, ?_⟩
      rintro u ⟨fu, e43⟩
      have i44 : qI u 44 = qI U 44 := (fu.2.2.2.2.1 44 (by decide) (by decide)).1
      refine ⟨fU.tr (fu.mo (by decide) (by decide)), ?_, fun j hj => by rw [i44]; exact u44 j hj, ?_⟩
      · rw [← uT]
        unfold fT
        rw [(m.1.mv fu).2, i44]
      · rw [e43, m.2, u43]
        rcases ht with q | ⟨q1, q⟩
        · exact Or.inl (by rw [q])
        · exact Or.inr ⟨q1, by rw [q]⟩
    unfold w_jump_J180
    exact ⟨fun c => go _ (Or.inr ⟨fun q => hg q c, rfl⟩), fun _ => go _ (Or.inl rfl)⟩
  have pull : ∀ (U : MS) (d : Int) (Q : Int64 → MS → Prop), frm [43, 44] [] S U → fT U = fT S - d → (∀ j : Nat, j ≠ (fN S).toNat → qI U 44 j = qI S 44 j) → qI U 43 = qI S 43 → 1 ≤ fT U → (∀ (r : Int64) (u : MS), frm [43, 44] [] S u → fT u = fT S - (d + 1) → (∀ j : Nat, j ≠ (fN S).toNat → qI u 44 j = qI S 44 j) → qI u 43 = qI S 43 → 1 = 1 → Q r u) → (0 ≤ d) → ∃ Q1, w_got U 1 Q1 ∧ ∀ r u, Q1 r u → Q r u := fun U d Q fU uT u44 u43 h1 hq d0 => by
    have m := h.mv fU
    refine ⟨_, sp_got m.1 ⟨by decide, by rw [li_1]; exact h1⟩ (by omega), ?_⟩
    rintro r u ⟨-, fu, e44, eT⟩
    rw [li_1] at eT
    refine hq r u (fU.tr (fu.mo (by decide) (by decide))) (by omega) (fun j hj => ?_) ?_ rfl
    · rw [e44, m.2]
      unfold upd
      rw [if_neg hj]
      exact u44 j hj
    · rw [(fu.2.2.2.2.1 43 (by decide) (by decide)).1, u43]
  have j74 : ¬ (159 ≤ op.toInt ∧ op.toInt ≤ 164) → w_jump_J74 (JmP S x op to (if op.toInt = 167 then 0 else if 159 ≤ op.toInt ∧ op.toInt ≤ 166 then 2 else 1)) S x op to 1 := fun hn => by
    have j88 : (op.toInt = 165 ∨ op.toInt = 166) → w_jump_J88 (JmP S x op to (if op.toInt = 167 then 0 else if 159 ≤ op.toInt ∧ op.toInt ≤ 166 then 2 else 1)) S x op to := fun q => by
      rw [if_neg (show ¬ op.toInt = 167 by omega), if_pos (show 159 ≤ op.toInt ∧ op.toInt ≤ 166 by omega)] at hT ⊢
      unfold w_jump_J88
      refine pull S 0 _ frm.rf (by omega) (fun _ _ => rfl) rfl (by omega) (fun r10 A fA tA a44 a43 _ => ?_) (by decide)
      refine pull A 1 _ fA (by omega) a44 a43 (by omega) (fun r14 B fB tB b44 b43 _ => ?_) (by decide)
      have f2 := fun g => fin B g 2 fB (by omega) b44 b43 (fun z => by omega)
      have k123 : ∀ a b : Int32, w_jump_J123 (JmP S x op to 2) B a b x to := fun a b => by
        unfold w_jump_J123 w_jump_J131
        exact ⟨fun _ => f2 1, fun _ => f2 0⟩
      unfold w_jump_J111
      exact ⟨fun _ => ⟨fun _ => k123 _ _, fun _ => k123 _ _⟩, fun _ => ⟨fun _ => k123 _ _, fun _ => k123 _ _⟩⟩
    unfold w_jump_J74
    refine ⟨fun c => j88 (Or.inl c), fun c1 => ⟨fun c => j88 (Or.inr c), fun c2 => ⟨fun c => ?_, fun c3 => ?_⟩⟩⟩
    · rw [if_pos c]
      exact fin S 1 0 frm.rf (by omega) (fun _ _ => rfl) rfl (fun _ => by decide)
    · rw [if_neg c3, if_neg (show ¬ (159 ≤ op.toInt ∧ op.toInt ≤ 166) by omega)] at hT ⊢
      refine pull S 0 _ frm.rf (by omega) (fun _ _ => rfl) rfl (by omega) (fun r25 B fB tB b44 b43 _ => ?_) (by decide)
      have f2 := fun g => fin B g 1 fB (by omega) b44 b43 (fun z => absurd z c3)
      have k170 : ∀ a b : Int32, w_jump_J170 (JmP S x op to 1) B a b x to := fun a b => by
        unfold w_jump_J170 w_jump_J178
        exact ⟨fun _ => f2 1, fun _ => f2 0⟩
      unfold w_jump_J158
      exact ⟨fun _ => ⟨fun _ => k170 _ _, fun _ => k170 _ _⟩, fun _ => ⟨fun _ => k170 _ _, fun _ => k170 _ _⟩⟩
  have j42 : ¬ (159 ≤ op.toInt ∧ op.toInt ≤ 164) → w_jump_J42 (JmP S x op to (if op.toInt = 167 then 0 else if 159 ≤ op.toInt ∧ op.toInt ≤ 166 then 2 else 1)) S x op to 1 := fun hn => by
    unfold w_jump_J42 w_gotInt
    refine ⟨fun _ => j74 hn, fun c1 => ⟨fun _ => j74 hn, fun c2 => ?_⟩⟩
    rw [if_neg (show ¬ op.toInt = 167 by omega), if_neg (show ¬ (159 ≤ op.toInt ∧ op.toInt ≤ 166) by omega)] at hT ⊢
    refine ⟨fun _ u => frm [43, 44] [] S u ∧ fT u = fT S - 1 ∧ (∀ j : Nat, j ≠ (fN S).toNat → qI u 44 j = qI S 44 j) ∧ qI u 43 = qI S 43, pull S 0 (fun _ u => frm [43, 44] [] S u ∧ fT u = fT S - 1 ∧ (∀ j : Nat, j ≠ (fN S).toNat → qI u 44 j = qI S 44 j) ∧ qI u 43 = qI S 43) frm.rf (by omega) (fun _ _ => rfl) rfl (by omega) (fun r u a b c d _ => ⟨a, by omega, c, d⟩) (by decide), ?_⟩
    rintro r B ⟨fB, tB, b44, b43⟩
    exact ⟨d_so, fun a42 _ => fin B a42 1 fB tB b44 b43 (fun z => by omega)⟩
  unfold w_jump w_gotInt
  refine ⟨fun c => j42 (by omega), fun c1 => ⟨fun c => j42 (by omega), fun c2 => ?_⟩⟩
  rw [if_neg (show ¬ op.toInt = 167 by omega), if_pos (show 159 ≤ op.toInt ∧ op.toInt ≤ 166 by omega)] at hT ⊢
  refine ⟨fun _ u => frm [43, 44] [] S u ∧ fT u = fT S - 1 ∧ (∀ j : Nat, j ≠ (fN S).toNat → qI u 44 j = qI S 44 j) ∧ qI u 43 = qI S 43, pull S 0 (fun _ u => frm [43, 44] [] S u ∧ fT u = fT S - 1 ∧ (∀ j : Nat, j ≠ (fN S).toNat → qI u 44 j = qI S 44 j) ∧ qI u 43 = qI S 43) frm.rf (by omega) (fun _ _ => rfl) rfl (by omega) (fun r u a b c d _ => ⟨a, by omega, c, d⟩) (by decide), ?_⟩
  rintro r A ⟨fA, tA, a44, a43⟩
  refine ⟨fun _ u => frm [43, 44] [] S u ∧ fT u = fT S - 2 ∧ (∀ j : Nat, j ≠ (fN S).toNat → qI u 44 j = qI S 44 j) ∧ qI u 43 = qI S 43, pull A 1 (fun _ u => frm [43, 44] [] S u ∧ fT u = fT S - 2 ∧ (∀ j : Nat, j ≠ (fN S).toNat → qI u 44 j = qI S 44 j) ∧ qI u 43 = qI S 43) fA (by omega) a44 a43 (by omega) (fun r u a b c d _ => ⟨a, by omega, c, d⟩) (by decide), ?_⟩
  rintro r2 B ⟨fB, tB, b44, b43⟩
  exact ⟨d_so, fun a57 _ => fin B a57 2 fB tB b44 b43 (fun z => by omega)⟩
/-! what is looked at, by what it hangs on (behind sp_jump, smL.tv, VmI.st) -/
def smM (S u : MS) : Prop := ((∀ a : Nat, okH S a → sm5 S u a) ∧ ∀ a : Nat, 92 < a → qT S a = 11 → sm7 S u a) ∧ (∀ j : Nat, 47 ≤ j → j ≤ 50 → qR u 0 j = qR S 0 j) ∧ ∀ j : Nat, 51 ≤ j → j ≤ 54 → qI u 0 j = qI S 0 j
theorem smM.qo {S u : MS} (h : smM S u) {j : Nat} (h0 : 47 ≤ j) (h1 : j ≤ 50) : qO u 0 j = qO S 0 j := by unfold qO; rw [h.2.1 j h0 h1]
theorem smM.pl {S u : MS} (h : smM S u) {s : Nat} (hs : okH S (s + 1)) : plS u s = plS S s := by
  unfold plS
  rw [(h.1.1 (s + 1) hs).1, (h.1.1 (s + 1) hs).2.2.2.2]
theorem smM.op {S u : MS} (h : smM S u) (k : LkI S) (x : Int32) : f_op u x = f_op S x ∧ f_first u x = f_first S x ∧ f_second u x = f_second S x := by
  unfold f_op f_first f_second
  rw [h.qo (j := 48) (by decide) (by decide), h.2.2 51 (by decide) (by decide), (h.1.1 _ k.1.1.2.1).1]
  exact ⟨rfl, rfl, rfl⟩
theorem smM.cw {S u : MS} (h : smM S u) (k : LkI S) (c w : Int32) : f_catchWord u c w = f_catchWord S c w := by
  unfold f_catchWord
  rw [h.qo (j := 50) (by decide) (by decide), h.2.2 53 (by decide) (by decide), (h.1.1 _ k.1.1.2.2.2).1]
theorem smM.ic {S u : MS} (h : smM S u) (k : LkI S) (x c : Int32) : f_isCaught u x c = f_isCaught S x c := by
  unfold f_isCaught f_isCaught_J24
  rw [h.cw k, h.cw k]
theorem smM.wy {S u : MS} (h : smM S u) (k : LkI S) (x c : Int32) : f_ways u x = f_ways S x ∧ f_way u x c = f_way S x c := by
  unfold f_ways f_way
  rw [(h.op k x).1, (h.op k x).2.1, (h.op k x).2.2, h.qo (j := 49) (by decide) (by decide), (h.1.1 _ k.1.1.2.2.1).1]
  exact ⟨rfl, rfl⟩
theorem smM.own {S u : MS} (h : smM S u) (k : LkI S) : (∀ j : Nat, qO u (qO u (qO u 0 47) 7) j = qO S (qO S (qO S 0 47) 7) j) ∧ (∀ j : Nat, qO u (qO u (qO u 0 47) 10) j = qO S (qO S (qO S 0 47) 10) j) ∧ ∀ j : Nat, qO u (qO u (qO u 0 47) 11) j = qO S (qO S (qO S 0 47) 11) j := by
  obtain ⟨⟨⟨n1, -⟩, -⟩, L, F, M, nc, ts, cn, -, -, -, -, g, -⟩ := k
  have e : qO u 0 47 = qO S 0 47 := h.qo (by decide) (by decide)
  have z : ∀ i : Nat, i ≠ 22 → qO u (qO S 0 47) i = qO S (qO S 0 47) i := fun i hi => by
    show (qR u (qO S 0 47) i).getD 0 = (qR S (qO S 0 47) i).getD 0
    rw [(h.1.2 _ n1.1.1 n1.1.2).2.1 i hi]
  have q7 : qO S (qO S 0 47) 7 = qO S 0 47 + 3 := by show (qR S (qO S 0 47) 7).getD 0 = _; rw [g.1]; rfl
  have q10 : qO S (qO S 0 47) 10 = qO S 0 47 + 6 := by show (qR S (qO S 0 47) 10).getD 0 = _; rw [g.2.1]; rfl
  have q11 : qO S (qO S 0 47) 11 = qO S 0 47 + 7 := by show (qR S (qO S 0 47) 11).getD 0 = _; rw [g.2.2]; rfl
  rw [e, z 7 (by decide), z 10 (by decide), z 11 (by decide), q7, q10, q11]
  refine ⟨fun j => ?_, fun j => ?_, fun j => ?_⟩
  · show (qR u (qO S 0 47 + 3) j).getD 0 = (qR S (qO S 0 47 + 3) j).getD 0
    rw [(h.1.1 (qO S 0 47 + 3) n1.2.1).2.2.1]
  · show (qR u (qO S 0 47 + 6) j).getD 0 = (qR S (qO S 0 47 + 6) j).getD 0
    rw [(h.1.1 (qO S 0 47 + 6) n1.2.2.1).2.2.1]
  · show (qR u (qO S 0 47 + 7) j).getD 0 = (qR S (qO S 0 47 + 7) j).getD 0
    rw [(h.1.1 (qO S 0 47 + 7) n1.2.2.2).2.2.1]
theorem smM.tg {S u : MS} (h : smM S u) (k : LkI S) (x : Int32) : f_takesOf u x = f_takesOf S x ∧ f_givesOf u x = f_givesOf S x := by
  obtain ⟨o1, o2, o3⟩ := h.own k
  have e1 := (h.op k x).1
  have e2 := (h.op k x).2.1
  constructor
  · unfold f_takesOf
    rw [e1]
    generalize f_op S x = op
    have j : f_takesOf_J111 u x op = f_takesOf_J111 S x op := by unfold f_takesOf_J111; rw [e2, o1, o2]
    unfold f_takesOf_J18 f_takesOf_J31 f_takesOf_J47 f_takesOf_J75 f_takesOf_J93
    rw [j]
  · unfold f_givesOf
    rw [e1]
    generalize f_op S x = op
    have j : f_givesOf_J47 u x op = f_givesOf_J47 S x op := by unfold f_givesOf_J47; rw [e2, o1, o3]
    unfold f_givesOf_J18 f_givesOf_J31
    rw [j]
theorem smM.tv {S u : MS} (h : smM S u) (k : LkI S) (t : TxI S) {x : Int32} (hx : 0 ≤ x.toInt ∧ x.toInt < (qI S 0 52).toInt) : tkV u x = tkV S x ∧ gvV u x = gvV S x ∧ ∀ y : Int, hbV u x y = hbV S x y := by
  have e1 := (h.op k x).1
  have a := (h.tg k x).1
  have b := (h.tg k x).2
  have m1 : tkV u x = tkV S x := by
    unfold tkV
    rw [e1, a, h.pl (k.tk hx t).1]
    rfl
  have m2 : gvV u x = gvV S x := by
    unfold gvV
    rw [e1, b, h.pl (k.gv hx t).1]
    rfl
  refine ⟨m1, m2, fun y => ?_⟩
  unfold hbV
  rw [m1, m2]
/-- a checked method that is looked at: U has its types -/
theorem VmA.mm {S u : MS} {f m : Nat} (h : VmA S f m) (hf : frm [] [47, 48, 49, 50, 51, 52, 53, 54] S u) (hl : LoP S f m u) : ∃ (U : MS) (s p : Nat), qR S (f + 6) m = some s ∧ qR S (f + 7) m = some p ∧ LkI U ∧ TxI U ∧ VmI U s p ∧ (0 ≤ (qI U 0 56).toInt ∧ (qI U 0 56).toInt ≤ 24) ∧ smM U u := by
  obtain ⟨U, s, p, h1, h2, h3, h4, h5, h6, h7, h8, h9⟩ := h
  refine ⟨U, s, p, h1, h2, h4, h6, h5, h7, ⟨fun a ha => ?_, fun a ha hb => ?_⟩, fun j a b => ?_, fun j a b => ?_⟩
  · have q := hf.2.2.2.2.1 a (by have := ha.1; omega) (by simp)
    have z := h8 a ha
    exact ⟨q.1.trans z.1, q.2.1.trans z.2.1, q.2.2.trans z.2.2.1, by rw [hf.1]; exact z.2.2.2.1, by rw [hf.2.1]; exact z.2.2.2.2⟩
  · have q := hf.2.2.2.2.1 a (by omega) (by simp)
    have z := h9 a ha hb
    exact ⟨fun j hj => by rw [q.1]; exact z.1 j hj, fun j hj => by rw [q.2.2]; exact z.2.1 j hj, by rw [hf.1]; exact z.2.2.1, by rw [hf.2.1]; exact z.2.2.2⟩
  · obtain ⟨⟨a1, a2, a3, a4⟩, -⟩ := h3
    obtain ⟨⟨b1, b2, b3, b4⟩, -⟩ := hl
    have : j = 47 ∨ j = 48 ∨ j = 49 ∨ j = 50 := by omega
    rcases this with e | e | e | e <;> subst e
    · rw [a1, b1]
    · rw [a2, b2]
    · rw [a3, b3]
    · rw [a4, b4]
  · obtain ⟨-, a1, a2, a3, a4⟩ := h3
    obtain ⟨-, b1, b2, b3, b4⟩ := hl
    have : j = 51 ∨ j = 52 ∨ j = 53 ∨ j = 54 := by omega
    rcases this with e | e | e | e <;> subst e
    · rw [a1, b1]
    · rw [a2, b2]
    · rw [a3, b3]
    · rw [a4, b4]
/-! frames (behind VmA.mm, okA.nx, VmI.st) -/
def slF (S : MS) (i : Nat) : Nat → Int64 := fun k => qJ S 45 (24 * i + k)
/-- the frame i stands at a place of the checked method m of f; U has its types, a those of the place -/
def FrU (S : MS) (f i : Nat) (U : MS) (s p : Nat) (a : AS) : Prop := 92 < f ∧ (0 ≤ (qI S 42 i).toInt ∧ (qI S 42 i).toInt < (qI S f 4).toInt) ∧ (qR S (f + 6) (qI S 42 i).toInt.toNat = some s ∧ qR S (f + 7) (qI S 42 i).toInt.toNat = some p) ∧ LoP S f (qI S 42 i).toInt.toNat U ∧ (LkI U ∧ TxI U ∧ VmI U s p) ∧ (0 ≤ (qI U 0 56).toInt ∧ (qI U 0 56).toInt ≤ 24) ∧ ((∀ h : Nat, okH U h → sm5 U S h) ∧ ∀ h : Nat, 92 < h → qT U h = 11 → sm7 U S h) ∧ (0 ≤ (qI S 43 i).toInt ∧ (qI S 43 i).toInt < (qI U 0 52).toInt) ∧ StT U (qI S 43 i) p a
def FrTop (S : MS) (f i : Nat) (n : Int) : Prop := ∃ (U : MS) (s p : Nat) (a : AS), FrU S f i U s p a ∧ (qI S 44 i).toInt = (aT a).toInt ∧ okA n a (slF S i) (plF S i)
def FrMid (S : MS) (f i : Nat) (n : Int) : Prop := ∃ (U : MS) (s p : Nat) (a : AS), FrU S f i U s p a ∧ (f_op U (qI S 43 i)).toInt = 184 ∧ f_first U (qI S 43 i) = qI S 42 (i + 1) ∧ (qI S 44 i).toInt = (aT a).toInt - tkV U (qI S 43 i) ∧ (∀ k : Nat, k < 24 → okV n (aL a k) (slF S i k)) ∧ ∀ k : Nat, (k : Int) < (aT a).toInt - tkV U (qI S 43 i) → okV n (aP a k) (plF S i k)
theorem sm5.s {S u v : MS} {a : Nat} (h : sm5 S u a) (k : sm5 u v a) : sm5 S v a := ⟨k.1.trans h.1, k.2.1.trans h.2.1, k.2.2.1.trans h.2.2.1, k.2.2.2.1.trans h.2.2.2.1, k.2.2.2.2.trans h.2.2.2.2⟩
theorem LoP.mk2 {S u U : MS} {f m : Nat} (h : LoP S f m U) (f92 : 92 < f) (hk : ∀ h : Nat, 92 < h → sm5 S u h) : LoP u f m U := by
  unfold LoP
  rw [(hk f f92).2.2.1, (hk (f + 10) (by omega)).1, (hk (f + 11) (by omega)).1, (hk (f + 12) (by omega)).1, (hk (f + 13) (by omega)).1]
  exact h
/-- the frame goes on to the place j' of its own method -/
theorem FrU.go {S u : MS} {f i : Nat} {U : MS} {s p : Nat} {a : AS} (h : FrU S f i U s p a) (hk : ∀ h : Nat, 92 < h → sm5 S u h) (e42 : qI u 42 i = qI S 42 i) {y : Int} {t : Nat → Int32} (hj : 0 ≤ (qI u 43 i).toInt ∧ (qI u 43 i).toInt < (qI U 0 52).toInt) (hn : nxT U (qI u 43 i).toInt.toNat y t) : ∃ b : AS, FrU u f i U s p b ∧ (aT b).toInt = y := by
  obtain ⟨f92, h1, h2, h3, h4, h5, h6, h7, h8⟩ := h
  obtain ⟨b, hb⟩ := h4.2.2.st h4.1 h4.2.1 h5 hj hn.1
  refine ⟨b, ⟨f92, ?_, ?_, ?_, h4, h5, ⟨fun a ha => (h6.1 a ha).s (hk a ha.1), fun a ha hq => ?_⟩, hj, hb⟩, by rw [hb.1.2.2]; exact hn.2.1⟩
  · rw [e42, (hk f f92).1]; exact h1
  · rw [e42, (hk (f + 6) (by omega)).2.2.1, (hk (f + 7) (by omega)).2.2.1]; exact h2
  · rw [e42]; exact h3.mk2 f92 hk
  · have z := h6.2 a ha hq
    have q := hk a ha
    exact ⟨fun j hj => by rw [q.1]; exact z.1 j hj, fun j hj => by rw [q.2.2.1]; exact z.2.1 j hj, by rw [q.2.2.2.1]; exact z.2.2.1, by rw [q.2.2.2.2]; exact z.2.2.2⟩
theorem FrTop.go {S u : MS} {f i : Nat} {U : MS} {s p : Nat} {a : AS} {n' : Int} (h : FrU S f i U s p a) (hk : ∀ h : Nat, 92 < h → sm5 S u h) (e42 : qI u 42 i = qI S 42 i) {y : Int} {t : Nat → Int32} (hj : 0 ≤ (qI u 43 i).toInt ∧ (qI u 43 i).toInt < (qI U 0 52).toInt) (hn : nxT U (qI u 43 i).toInt.toNat y t) (hy : 0 ≤ y) (eT : (qI u 44 i).toInt = y) (n0 : 0 ≤ n') (v1 : ∀ k : Nat, k < 24 → okV n' (nb (t k)) (slF u i k)) (v2 : ∀ k : Nat, (k : Int) < y → okV n' (nb (t (24 + k))) (plF u i k)) : FrTop u f i n' := by
  obtain ⟨b, hb, eb⟩ := h.go hk e42 hj hn
  exact ⟨U, s, p, b, hb, by rw [eT, eb], okA.nx n0 hn hb.2.2.2.2.2.2.2.2.1 v1 v2 hy⟩
/-- a frame below is left alone -/
theorem FrMid.mv {S u : MS} {f i : Nat} {n n' : Int} (h : FrMid S f i n) (hn : n ≤ n') (hk : ∀ h : Nat, 92 < h → sm5 S u h) (e42 : qI u 42 i = qI S 42 i ∧ qI u 42 (i + 1) = qI S 42 (i + 1)) (e43 : qI u 43 i = qI S 43 i) (e44 : qI u 44 i = qI S 44 i) (e45 : ∀ k : Nat, k < 24 → slF u i k = slF S i k) (e46 : ∀ k : Nat, k < 24 → plF u i k = plF S i k) : FrMid u f i n' := by
  obtain ⟨U, s, p, a, hF, h1, h2, h3, h4, h5⟩ := h
  obtain ⟨f92, g1, g2, g3, g4, g5, g6, g7, g8⟩ := hF
  have t24 : (aT a).toInt ≤ 24 := by have := g8.2.2.1; omega
  have tk0 : 0 ≤ tkV U (qI S 43 i) := by
    unfold tkV
    by_cases c : 0 < (f_moved U (f_op U (qI S 43 i))).toInt
    · rw [if_pos c]; omega
    · rw [if_neg c]; exact (g4.1.tk g7 g4.2.1).2.2.2.1
  refine ⟨U, s, p, a, ⟨f92, ?_, ?_, ?_, g4, g5, ⟨fun a ha => (g6.1 a ha).s (hk a ha.1), fun a ha hq => ?_⟩, by rw [e43]; exact g7, by rw [e43]; exact g8⟩, by rw [e43]; exact h1, by rw [e43, e42.2]; exact h2, by rw [e43, e44]; exact h3, fun k hk' => by rw [e45 k hk']; exact (h4 k hk').mono hn, fun k hk' => ?_⟩
  · rw [e42.1, (hk f f92).1]; exact g1
  · rw [e42.1, (hk (f + 6) (by omega)).2.2.1, (hk (f + 7) (by omega)).2.2.1]; exact g2
  · rw [e42.1]; exact g3.mk2 f92 hk
  · have z := g6.2 a ha hq
    have q := hk a ha
    exact ⟨fun j hj => by rw [q.1]; exact z.1 j hj, fun j hj => by rw [q.2.2.1]; exact z.2.1 j hj, by rw [q.2.2.2.1]; exact z.2.2.1, by rw [q.2.2.2.2]; exact z.2.2.2⟩
  · rw [e43] at hk'
    rw [e46 k (by omega)]
    exact (h5 k hk').mono hn
/-! throwError (behind FrTop.go, sp_putV, sp_look) -/
theorem big_frm {S u : MS} {W J : List Nat} (f : frm W J S u) (hW : ∀ w ∈ W, w ≤ 92) : ∀ h : Nat, 92 < h → sm5 S u h := fun h hh => by
  have q := f.2.2.2.2.1 h (by omega) (fun z => by have := hW h z; omega)
  exact ⟨q.1, q.2.1, q.2.2, by rw [f.1], by rw [f.2.1]⟩
theorem FlI.fm {S u : MS} {f : Nat} {W J : List Nat} (h : FlI S f) (f92 : 92 < f) (k : frm W J S u) (hW : ∀ w ∈ W, w ≤ 92) : FlI u f := h.mv (fun a ha _ => ⟨fun _ => big_frm k hW a (by omega), fun _ => (big_frm k hW a (by omega)).s7⟩) (by rw [k.2.2.1]; exact Nat.le_refl _)
def FrH (S : MS) (f i : Nat) (n : Int) : Prop := ∃ (U : MS) (s p : Nat) (a : AS), FrU S f i U s p a ∧ ∀ k : Nat, k < 24 → okV n (aL a k) (slF S i k)
theorem FrMid.h {S : MS} {f i : Nat} {n : Int} (h : FrMid S f i n) : FrH S f i n := by
  obtain ⟨U, s, p, a, hF, h1, h2, h3, h4, h5⟩ := h
  exact ⟨U, s, p, a, hF, h4⟩
theorem FrU.mm {S u : MS} {f i : Nat} {U : MS} {s p : Nat} {a : AS} (h : FrU S f i U s p a) (hk : ∀ h : Nat, 92 < h → sm5 S u h) (hl : LoP S f (qI S 42 i).toInt.toNat u) : smM U u := by
  obtain ⟨f92, g1, g2, h3, g4, g5, g6, g7, g8⟩ := h
  refine ⟨⟨fun a ha => (g6.1 a ha).s (hk a ha.1), fun a ha hq => ?_⟩, fun j a b => ?_, fun j a b => ?_⟩
  · have z := g6.2 a ha hq
    have q := hk a ha
    exact ⟨fun j hj => by rw [q.1]; exact z.1 j hj, fun j hj => by rw [q.2.2.1]; exact z.2.1 j hj, by rw [q.2.2.2.1]; exact z.2.2.1, by rw [q.2.2.2.2]; exact z.2.2.2⟩
  · obtain ⟨⟨a1, a2, a3, a4⟩, -⟩ := h3
    obtain ⟨⟨b1, b2, b3, b4⟩, -⟩ := hl
    have : j = 47 ∨ j = 48 ∨ j = 49 ∨ j = 50 := by omega
    rcases this with e | e | e | e <;> subst e
    · rw [a1, b1]
    · rw [a2, b2]
    · rw [a3, b3]
    · rw [a4, b4]
  · obtain ⟨-, a1, a2, a3, a4⟩ := h3
    obtain ⟨-, b1, b2, b3, b4⟩ := hl
    have : j = 51 ∨ j = 52 ∨ j = 53 ∨ j = 54 := by omega
    rcases this with e | e | e | e <;> subst e
    · rw [a1, b1]
    · rw [a2, b2]
    · rw [a3, b3]
    · rw [a4, b4]
def JT : List Nat := [47, 48, 49, 50, 51, 52, 53, 54, 97, 98, 102]
def ThP (S : MS) (f : Nat) (n : Int) (u : MS) : Prop := frm [43, 44, 46, 48] JT S u ∧ ((qI u 0 98).toInt = 1 ∨ (qI u 0 98 = qI S 0 98 ∧ FrB u ∧ fN u ≤ fN S ∧ FrTop u f (fN u).toNat n ∧ ∀ i : Nat, (i : Int) < fN u → FrMid u f i n))
theorem sp_throw {S : MS} {f : Nat} {n : Int} {e : Int32} (hF : FrB S) (hl : FlI S f) (h80 : qR S 0 80 = some f) (n0 : 0 ≤ n) (top : FrH S f (fN S).toNat n) (mid : ∀ i : Nat, (i : Int) < fN S → FrMid S f i n) : w_throwError S e (ThP S f n) := by
  have f92 : 92 < f := by obtain ⟨_, _, _, _, q, _⟩ := top; exact q.1
  have L0 : ∀ (c : Nat) (V : MS), frm [] [47, 48, 49, 50, 51, 52, 53, 54, 97] S V → (0 ≤ (qI V 0 97).toInt ∧ (qI V 0 97).toInt ≤ (qI S 0 97).toInt) → (qI V 0 97).toInt.toNat < c → w_throwError_L0 (ThP S f n) c V e := by
    intro c
    induction c with
    | zero => intro V _ _ h9; exact absurd h9 (Nat.not_lt_zero _)
    | succ c ih =>
      intro V fV hV hc
      unfold w_throwError_L0
      refine ⟨fun q A eA B eB => ⟨?_, Or.inl ?_⟩, fun q => ?_⟩
      · exact (fV.mo (by decide) (by decide)).tr ((show frm [43, 44, 46, 48] JT V A by rw [eA]; exact frm.pI0 (by decide)).tr (by rw [eB]; exact frm.pI0 (by decide)))
      · rw [eB, qI_wI, if_neg (by decide), eA, qI_wI, if_pos ⟨rfl, rfl⟩]; rfl
      · have bV : FrB V := ⟨by omega, by have := hF.2; omega⟩
        obtain ⟨e1, e2, e3, e4⟩ := bV.e
        have v80 : qR V 0 80 = some f := by rw [(fV.2.2.2.2.2 80 (by decide)).2.2]; exact h80
        have o80 : qO V 0 80 = f := by unfold qO; rw [v80]; rfl
        have le : fN V ≤ fN S := by unfold fN; omega
        have top' : FrH S f (fN V).toNat n := by
          by_cases z : fN V = fN S
          · rw [z]; exact top
          · exact (mid (fN V).toNat (by omega)).h
        obtain ⟨U, s, p, a, hU, hval⟩ := top'
        have i42 : qI V 42 = qI S 42 := (fV.2.2.2.2.1 42 (by decide) (by decide)).1
        have kV := big_frm fV (by decide)
        rw [o80, e1]
        refine ⟨v80, ⟨e2, e3⟩, _, sp_look (hl.fm f92 fV (by decide)) (by rw [i42, (kV f f92).1]; exact hU.2.1), ?_⟩
        rintro u ⟨⟨fu, ku⟩, lo⟩
        have fSu : frm [] [47, 48, 49, 50, 51, 52, 53, 54, 97] S u := fV.tr (fu.mo (by decide) (by decide))
        have kS := big_frm fSu (by decide)
        rw [i42] at lo
        have loS : LoP S f (qI S 42 (fN V).toNat).toInt.toNat u := lo.mk2 f92 (fun h hh => by have q := kV h hh; exact ⟨q.1.symm, q.2.1.symm, q.2.2.1.symm, q.2.2.2.1.symm, q.2.2.2.2.symm⟩)
        have mm := hU.mm kS loS
        have u97 : qI u 0 97 = qI V 0 97 := (fu.2.2.2.2.2 97 (by decide)).1
        have u43 : qI u 43 = qI S 43 := (fSu.2.2.2.2.1 43 (by decide) (by decide)).1
        have bu : FrB u := by unfold FrB; rw [u97]; exact bV
        have nu : fN u = fN V := by unfold fN; rw [u97]
        obtain ⟨w1, w2, w3, w4⟩ := bu.e
        rw [nu] at w1 w2 w3 w4
        rw [w1]
        refine ⟨⟨e2, e3⟩, fun x ex => ?_⟩
        rw [u43] at ex
        have cn := ku.cnt
        have e54 : qI u 0 54 = qI U 0 54 := mm.2.2 54 (by decide) (by decide)
        have gL := hU.2.2.2.2.1
        have gS := hU.2.2.2.2.2.2.2.2
        have hi := hU.2.2.2.2.2.2.2.1
        have j79 : ∀ k : Int32, (0 ≤ k.toInt ∧ k.toInt < (qI u 0 54).toInt) → (f_isCaught u x k).toInt ≠ 0 → w_throwError_J79 (ThP S f n) u e k := fun k hk hcg => by
          rw [mm.ic gL.1, ex] at hcg
          have nx := gS.2.2.2.2.2 k hk.1 (by rw [← e54]; exact hk.2) hcg
          have cw := gL.1.cw (c := k) ⟨hk.1, by rw [← e54]; exact hk.2⟩
          unfold w_throwError_J79
          rw [w1]
          refine ⟨⟨e2, e3⟩, fun A eA => ?_⟩
          have fA : frm [43, 44, 46, 48] [] u A := by rw [eA]; exact frm.pI (by decide)
          have a97 : qI A 0 97 = qI u 0 97 := by rw [eA, rdH (by decide)]
          have bA : FrB A := by unfold FrB; rw [a97]; exact bu
          have nA : fN A = fN V := by unfold fN; rw [a97, u97]
          have tA : fT A = 0 := by
            unfold fT
            rw [nA, eA, qI_wI, if_pos ⟨rfl, rfl⟩]
            rfl
          refine ⟨_, sp_putV bA (Or.inl li_1) ⟨by omega, by rw [li_1]; omega⟩, ?_⟩
          rintro B ⟨fB, b46, b44, bT⟩
          rw [nA, tA] at b46
          have kB := (bA.mv fB)
          have LB : LkI B := ku.mv ((smL.fm fA (by decide) (by decide)).tr (smL.fm fB (by decide) (by decide)))
          have cwB : f_catchWord B k 2 = f_catchWord U k 2 := by rw [((smL.fm fA (by decide) (by decide)).tr (smL.fm fB (by decide) (by decide))).cw ku, mm.cw gL.1]
          have b54 : qI B 0 54 = qI u 0 54 := by rw [(fB.2.2.2.2.2 54 (by decide)).1, (fA.2.2.2.2.2 54 (by decide)).1]
          refine ⟨LB.dcw ⟨hk.1, by rw [b54]; exact hk.2⟩ ⟨by decide, by decide⟩, _, sp_goTo kB.1, ?_⟩
          rintro D ⟨fD, d43⟩
          rw [kB.2, nA, cwB] at d43
          have fSD : frm [43, 44, 46, 48] [47, 48, 49, 50, 51, 52, 53, 54, 97] S D := (fSu.mo (by decide) (by decide)).tr ((fA.mo (by decide) (by decide)).tr ((fB.mo (by decide) (by decide)).tr (fD.mo (by decide) (by decide))))
          have d97 : qI D 0 97 = qI V 0 97 := by rw [(fD.2.2.2.2.2 97 (by decide)).1, (fB.2.2.2.2.2 97 (by decide)).1, a97, u97]
          have nD : fN D = fN V := by unfold fN; rw [d97]
          have B43 : qI B 43 = qI S 43 := by rw [(fB.2.2.2.2.1 43 (by decide) (by decide)).1, eA, rdH (by decide), u43]
          have kD := big_frm fSD (by decide)
          have D42 : qI D 42 = qI S 42 := (fSD.2.2.2.2.1 42 (by decide) (by decide)).1
          have D45 : qJ D 45 = qJ S 45 := (fSD.2.2.2.2.1 45 (by decide) (by decide)).2.1
          have D44 : qI D 44 = qI B 44 := (fD.2.2.2.2.1 44 (by decide) (by decide)).1
          have D46 : qJ D 46 = qJ B 46 := (fD.2.2.2.2.1 46 (by decide) (by decide)).2.1
          have A46 : qJ A 46 = qJ S 46 := by rw [eA, qJ_wI]; exact (fSu.2.2.2.2.1 46 (by decide) (by decide)).2.1
          have A44 : ∀ i : Nat, i ≠ (fN V).toNat → qI A 44 i = qI S 44 i := fun i hi => by rw [eA, qI_wI, if_neg (fun z => hi z.2), (fSu.2.2.2.2.1 44 (by decide) (by decide)).1]
          have at43 : qI D 43 (fN V).toNat = f_catchWord U k 2 := by rw [d43]; unfold upd; rw [if_pos rfl]
          have at44 : (qI D 44 (fN V).toNat).toInt = 1 := by
            have z : fT B = 1 := by rw [bT, tA, li_1]; rfl
            unfold fT at z
            rw [kB.2, nA] at z
            rw [D44]
            exact z
          refine ⟨fSD.mo (by decide) (by decide), Or.inr ⟨(fSD.2.2.2.2.2 98 (by decide)).1, ⟨by rw [d97]; exact bV.1, by rw [d97]; exact bV.2⟩, by rw [nD]; exact le, ?_, fun i hi' => ?_⟩⟩
          · rw [nD]
            refine FrTop.go hU kD (by rw [D42]) (y := 1) (t := fun k => if k < 24 then aL a k else 5) (by rw [at43]; exact cw.2.2.1) (by rw [at43]; exact nx) (by decide) at44 n0 (fun k hk => ?_) (fun k hk => ?_)
            · show okV n (nb (if k < 24 then aL a k else 5)) (qJ D 45 (24 * (fN V).toNat + k))
              rw [if_pos hk, gS.1.nb.1 k hk, D45]
              exact hval k hk
            · show okV n (nb (if 24 + k < 24 then aL a (24 + k) else 5)) _
              rw [if_neg (by omega)]
              exact okV.no (by decide) (by decide) (by decide)
          · rw [nD] at hi'
            refine (mid i (by omega)).mv (Int.le_refl _) kD ⟨by rw [D42], by rw [D42]⟩ ?_ ?_ (fun k _ => ?_) (fun k hk => ?_)
            · rw [d43, B43]; unfold upd; rw [if_neg (by omega)]
            · rw [D44, b44, nA]; unfold upd; rw [if_neg (by omega), A44 i (by omega)]
            · show qJ D 45 _ = qJ S 45 _
              rw [D45]
            · show qJ D 46 _ = qJ S 46 _
              rw [D46, b46, if_neg (by omega), A46]
        have L40 : ∀ (c2 : Nat) (k : Int32), (0 ≤ k.toInt ∧ k.toInt ≤ (qI u 0 54).toInt) → ((qI u 0 54).toInt - k.toInt).toNat < c2 → w_throwError_L40 (ThP S f n) (w_throwError_L0 (ThP S f n) c) c2 u e x k := by
          intro c2
          induction c2 with
          | zero => intro k _ h9; exact absurd h9 (Nat.not_lt_zero _)
          | succ c2 ih2 =>
            intro k hk hc2
            have ek : (k + Int32.ofInt 1).toInt = k.toInt + 1 := by rw [t_add (by rw [lo_1]; omega), lo_1]
            have nxt : k.toInt < (qI u 0 54).toInt → w_throwError_J111 (ThP S f n) (w_throwError_L40 (ThP S f n) (w_throwError_L0 (ThP S f n) c) c2) u e x k := fun q a22 e22 => by
              subst e22
              exact ih2 _ ⟨by omega, by omega⟩ (by omega)
            unfold w_throwError_L40
            refine ⟨fun q A eA => ?_, fun q => ?_⟩
            · have a97 : (qI A 0 97).toInt = (qI V 0 97).toInt - 1 := by rw [eA, qI_wI, if_pos ⟨rfl, rfl⟩, u97]; exact e1
              exact ih A (fSu.tr (by rw [eA]; exact frm.pI0 (by decide))) ⟨by omega, by omega⟩ (by omega)
            · have hk' : 0 ≤ k.toInt ∧ k.toInt < (qI u 0 54).toInt := ⟨hk.1, by omega⟩
              have dw : d_catchWord u k 3 := ku.dcw hk' ⟨by decide, by decide⟩
              refine ⟨ku.dic hk', fun _ => nxt hk'.2, fun g => ⟨dw, fun _ => j79 k hk' g, fun _ => ⟨dw, fun _ => j79 k hk' g, fun _ => nxt hk'.2⟩⟩⟩
        exact ⟨_, L40 _ 0 ⟨by decide, by rw [li_0]; exact cn.2.1.1⟩ (Nat.lt_succ_self _)⟩
  exact ⟨_, L0 _ S frm.rf ⟨by have := hF.1; omega, Int.le_refl _⟩ (Nat.lt_succ_self _)⟩
